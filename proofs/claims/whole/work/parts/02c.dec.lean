theorem dX7_init_0 : decode cX7_init 0 = .ok (.aload_n 0, 1) := by decide +kernel
theorem dX7_init_1 : decode cX7_init 1 = .ok (.invokespecial 1, 3) := by decide +kernel
theorem dX7_init_4 : decode cX7_init 4 = .ok (.aload_n 0, 1) := by decide +kernel
theorem dX7_init_5 : decode cX7_init 5 = .ok (.sipush 511, 3) := by decide +kernel
theorem dX7_init_8 : decode cX7_init 8 = .ok (.newarray .int, 2) := by decide +kernel
theorem dX7_init_10 : decode cX7_init 10 = .ok (.putfield 7, 3) := by decide +kernel
theorem dX7_init_13 : decode cX7_init 13 = .ok (.aload_n 0, 1) := by decide +kernel
theorem dX7_init_14 : decode cX7_init 14 = .ok (.sipush 5110, 3) := by decide +kernel
theorem dX7_init_17 : decode cX7_init 17 = .ok (.newarray .int, 2) := by decide +kernel
theorem dX7_init_19 : decode cX7_init 19 = .ok (.putfield 13, 3) := by decide +kernel
theorem dX7_init_22 : decode cX7_init 22 = .ok (.aload_n 0, 1) := by decide +kernel
theorem dX7_init_23 : decode cX7_init 23 = .ok (.sipush 1022, 3) := by decide +kernel
theorem dX7_init_26 : decode cX7_init 26 = .ok (.newarray .int, 2) := by decide +kernel
theorem dX7_init_28 : decode cX7_init 28 = .ok (.putfield 16, 3) := by decide +kernel
theorem dX7_init_31 : decode cX7_init 31 = .ok (.aload_n 0, 1) := by decide +kernel
theorem dX7_init_32 : decode cX7_init 32 = .ok (.iconst 2, 1) := by decide +kernel
theorem dX7_init_33 : decode cX7_init 33 = .ok (.newarray .boolean, 2) := by decide +kernel
theorem dX7_init_35 : decode cX7_init 35 = .ok (.putfield 19, 3) := by decide +kernel
theorem dX7_init_38 : decode cX7_init 38 = .ok (.aload_n 0, 1) := by decide +kernel
theorem dX7_init_39 : decode cX7_init 39 = .ok (.bipush 64, 2) := by decide +kernel
theorem dX7_init_41 : decode cX7_init 41 = .ok (.newarray .int, 2) := by decide +kernel
theorem dX7_init_43 : decode cX7_init 43 = .ok (.putfield 23, 3) := by decide +kernel
theorem dX7_init_46 : decode cX7_init 46 = .ok (.aload_n 0, 1) := by decide +kernel
theorem dX7_init_47 : decode cX7_init 47 = .ok (.bipush 64, 2) := by decide +kernel
theorem dX7_init_49 : decode cX7_init 49 = .ok (.newarray .int, 2) := by decide +kernel
theorem dX7_init_51 : decode cX7_init 51 = .ok (.putfield 26, 3) := by decide +kernel
theorem dX7_init_54 : decode cX7_init 54 = .ok (.aload_n 0, 1) := by decide +kernel
theorem dX7_init_55 : decode cX7_init 55 = .ok (.bipush 100, 2) := by decide +kernel
theorem dX7_init_57 : decode cX7_init 57 = .ok (.newarray .int, 2) := by decide +kernel
theorem dX7_init_59 : decode cX7_init 59 = .ok (.putfield 29, 3) := by decide +kernel
theorem dX7_init_62 : decode cX7_init 62 = .ok (.aload_n 0, 1) := by decide +kernel
theorem dX7_init_63 : decode cX7_init 63 = .ok (.bipush 100, 2) := by decide +kernel
theorem dX7_init_65 : decode cX7_init 65 = .ok (.newarray .int, 2) := by decide +kernel
theorem dX7_init_67 : decode cX7_init 67 = .ok (.putfield 32, 3) := by decide +kernel
theorem dX7_init_70 : decode cX7_init 70 = .ok (.aload_n 0, 1) := by decide +kernel
theorem dX7_init_71 : decode cX7_init 71 = .ok (.bipush 12, 2) := by decide +kernel
theorem dX7_init_73 : decode cX7_init 73 = .ok (.newarray .int, 2) := by decide +kernel
theorem dX7_init_75 : decode cX7_init 75 = .ok (.putfield 35, 3) := by decide +kernel
theorem dX7_init_78 : decode cX7_init 78 = .ok (.aload_n 0, 1) := by decide +kernel
theorem dX7_init_79 : decode cX7_init 79 = .ok (.bipush 26, 2) := by decide +kernel
theorem dX7_init_81 : decode cX7_init 81 = .ok (.newarray .int, 2) := by decide +kernel
theorem dX7_init_83 : decode cX7_init 83 = .ok (.putfield 38, 3) := by decide +kernel
theorem dX7_init_86 : decode cX7_init 86 = .ok (.aload_n 0, 1) := by decide +kernel
theorem dX7_init_87 : decode cX7_init 87 = .ok (.sipush 511, 3) := by decide +kernel
theorem dX7_init_90 : decode cX7_init 90 = .ok (.newarray .int, 2) := by decide +kernel
theorem dX7_init_92 : decode cX7_init 92 = .ok (.putfield 41, 3) := by decide +kernel
theorem dX7_init_95 : decode cX7_init 95 = .ok (.aload_n 0, 1) := by decide +kernel
theorem dX7_init_96 : decode cX7_init 96 = .ok (.sipush 400, 3) := by decide +kernel
theorem dX7_init_99 : decode cX7_init 99 = .ok (.newarray .byte, 2) := by decide +kernel
theorem dX7_init_101 : decode cX7_init 101 = .ok (.putfield 44, 3) := by decide +kernel
theorem dX7_init_104 : decode cX7_init 104 = .ok (.aload_n 0, 1) := by decide +kernel
theorem dX7_init_105 : decode cX7_init 105 = .ok (.getfield 7, 3) := by decide +kernel
theorem dX7_init_108 : decode cX7_init 108 = .ok (.invokestatic 48, 3) := by decide +kernel
theorem dX7_init_111 : decode cX7_init 111 = .ok (.return_, 1) := by decide +kernel
theorem dX7_in_0 : decode cX7_in 0 = .ok (.lload_n 0, 1) := by decide +kernel
theorem dX7_in_1 : decode cX7_in 1 = .ok (.lload_n 2, 1) := by decide +kernel
theorem dX7_in_2 : decode cX7_in 2 = .ok (.lcmp, 1) := by decide +kernel
theorem dX7_in_3 : decode cX7_in 3 = .ok (.ifCond .lt 14, 3) := by decide +kernel
theorem dX7_in_6 : decode cX7_in 6 = .ok (.lload_n 0, 1) := by decide +kernel
theorem dX7_in_7 : decode cX7_in 7 = .ok (.lload 4, 2) := by decide +kernel
theorem dX7_in_9 : decode cX7_in 9 = .ok (.lcmp, 1) := by decide +kernel
theorem dX7_in_10 : decode cX7_in 10 = .ok (.ifCond .gt 7, 3) := by decide +kernel
theorem dX7_in_13 : decode cX7_in 13 = .ok (.iconst 1, 1) := by decide +kernel
theorem dX7_in_14 : decode cX7_in 14 = .ok (.goto 4, 3) := by decide +kernel
theorem dX7_in_17 : decode cX7_in 17 = .ok (.iconst 0, 1) := by decide +kernel
theorem dX7_in_18 : decode cX7_in 18 = .ok (.ireturn, 1) := by decide +kernel
theorem dX7_begins_0 : decode cX7_begins 0 = .ok (.iconst 0, 1) := by decide +kernel
theorem dX7_begins_1 : decode cX7_begins 1 = .ok (.istore_n 1, 1) := by decide +kernel
theorem dX7_begins_2 : decode cX7_begins 2 = .ok (.iload_n 1, 1) := by decide +kernel
theorem dX7_begins_3 : decode cX7_begins 3 = .ok (.sipush 511, 3) := by decide +kernel
theorem dX7_begins_6 : decode cX7_begins 6 = .ok (.if_icmp .ge 13, 3) := by decide +kernel
theorem dX7_begins_9 : decode cX7_begins 9 = .ok (.aload_n 0, 1) := by decide +kernel
theorem dX7_begins_10 : decode cX7_begins 10 = .ok (.iload_n 1, 1) := by decide +kernel
theorem dX7_begins_11 : decode cX7_begins 11 = .ok (.iconst 0, 1) := by decide +kernel
theorem dX7_begins_12 : decode cX7_begins 12 = .ok (.iastore, 1) := by decide +kernel
theorem dX7_begins_13 : decode cX7_begins 13 = .ok (.iinc 1 1, 3) := by decide +kernel
theorem dX7_begins_16 : decode cX7_begins 16 = .ok (.goto (-14), 3) := by decide +kernel
theorem dX7_begins_19 : decode cX7_begins 19 = .ok (.aload_n 0, 1) := by decide +kernel
theorem dX7_begins_20 : decode cX7_begins 20 = .ok (.iconst 1, 1) := by decide +kernel
theorem dX7_begins_21 : decode cX7_begins 21 = .ok (.iconst 1, 1) := by decide +kernel
theorem dX7_begins_22 : decode cX7_begins 22 = .ok (.iastore, 1) := by decide +kernel
theorem dX7_begins_23 : decode cX7_begins 23 = .ok (.iconst 0, 1) := by decide +kernel
theorem dX7_begins_24 : decode cX7_begins 24 = .ok (.istore_n 1, 1) := by decide +kernel
theorem dX7_begins_25 : decode cX7_begins 25 = .ok (.iload_n 1, 1) := by decide +kernel
theorem dX7_begins_26 : decode cX7_begins 26 = .ok (.iconst 4, 1) := by decide +kernel
theorem dX7_begins_27 : decode cX7_begins 27 = .ok (.if_icmp .ge 15, 3) := by decide +kernel
theorem dX7_begins_30 : decode cX7_begins 30 = .ok (.aload_n 0, 1) := by decide +kernel
theorem dX7_begins_31 : decode cX7_begins 31 = .ok (.iconst 3, 1) := by decide +kernel
theorem dX7_begins_32 : decode cX7_begins 32 = .ok (.iload_n 1, 1) := by decide +kernel
theorem dX7_begins_33 : decode cX7_begins 33 = .ok (.iadd, 1) := by decide +kernel
theorem dX7_begins_34 : decode cX7_begins 34 = .ok (.iconst 4, 1) := by decide +kernel
theorem dX7_begins_35 : decode cX7_begins 35 = .ok (.iastore, 1) := by decide +kernel
theorem dX7_begins_36 : decode cX7_begins 36 = .ok (.iinc 1 1, 3) := by decide +kernel
theorem dX7_begins_39 : decode cX7_begins 39 = .ok (.goto (-14), 3) := by decide +kernel
theorem dX7_begins_42 : decode cX7_begins 42 = .ok (.return_, 1) := by decide +kernel
theorem dX7_isShard_0 : decode cX7_isShard 0 = .ok (.iload_n 0, 1) := by decide +kernel
theorem dX7_isShard_1 : decode cX7_isShard 1 = .ok (.i2l, 1) := by decide +kernel
theorem dX7_isShard_2 : decode cX7_isShard 2 = .ok (.lconst 0, 1) := by decide +kernel
theorem dX7_isShard_3 : decode cX7_isShard 3 = .ok (.ldc2_w 52, 3) := by decide +kernel
theorem dX7_isShard_6 : decode cX7_isShard 6 = .ok (.invokestatic 54, 3) := by decide +kernel
theorem dX7_isShard_9 : decode cX7_isShard 9 = .ok (.ireturn, 1) := by decide +kernel
theorem dX7_isItem_0 : decode cX7_isItem 0 = .ok (.iload_n 1, 1) := by decide +kernel
theorem dX7_isItem_1 : decode cX7_isItem 1 = .ok (.i2l, 1) := by decide +kernel
theorem dX7_isItem_2 : decode cX7_isItem 2 = .ok (.lconst 0, 1) := by decide +kernel
theorem dX7_isItem_3 : decode cX7_isItem 3 = .ok (.aload_n 0, 1) := by decide +kernel
theorem dX7_isItem_4 : decode cX7_isItem 4 = .ok (.getfield 7, 3) := by decide +kernel
theorem dX7_isItem_7 : decode cX7_isItem 7 = .ok (.iconst 2, 1) := by decide +kernel
theorem dX7_isItem_8 : decode cX7_isItem 8 = .ok (.iaload, 1) := by decide +kernel
theorem dX7_isItem_9 : decode cX7_isItem 9 = .ok (.iconst 1, 1) := by decide +kernel
theorem dX7_isItem_10 : decode cX7_isItem 10 = .ok (.isub, 1) := by decide +kernel
theorem dX7_isItem_11 : decode cX7_isItem 11 = .ok (.i2l, 1) := by decide +kernel
theorem dX7_isItem_12 : decode cX7_isItem 12 = .ok (.invokestatic 54, 3) := by decide +kernel
theorem dX7_isItem_15 : decode cX7_isItem 15 = .ok (.ireturn, 1) := by decide +kernel
theorem dX7_item_0 : decode cX7_item 0 = .ok (.aload_n 0, 1) := by decide +kernel
theorem dX7_item_1 : decode cX7_item 1 = .ok (.getfield 7, 3) := by decide +kernel
theorem dX7_item_4 : decode cX7_item 4 = .ok (.bipush 11, 2) := by decide +kernel
theorem dX7_item_6 : decode cX7_item 6 = .ok (.iconst 5, 1) := by decide +kernel
theorem dX7_item_7 : decode cX7_item 7 = .ok (.iload_n 1, 1) := by decide +kernel
theorem dX7_item_8 : decode cX7_item 8 = .ok (.imul, 1) := by decide +kernel
theorem dX7_item_9 : decode cX7_item 9 = .ok (.iadd, 1) := by decide +kernel
theorem dX7_item_10 : decode cX7_item 10 = .ok (.iload_n 2, 1) := by decide +kernel
theorem dX7_item_11 : decode cX7_item 11 = .ok (.iadd, 1) := by decide +kernel
theorem dX7_item_12 : decode cX7_item 12 = .ok (.iaload, 1) := by decide +kernel
theorem dX7_item_13 : decode cX7_item 13 = .ok (.ireturn, 1) := by decide +kernel
theorem dX7_shardOf_0 : decode cX7_shardOf 0 = .ok (.aload_n 0, 1) := by decide +kernel
theorem dX7_shardOf_1 : decode cX7_shardOf 1 = .ok (.iload_n 1, 1) := by decide +kernel
theorem dX7_shardOf_2 : decode cX7_shardOf 2 = .ok (.iconst 0, 1) := by decide +kernel
theorem dX7_shardOf_3 : decode cX7_shardOf 3 = .ok (.invokevirtual 58, 3) := by decide +kernel
theorem dX7_shardOf_6 : decode cX7_shardOf 6 = .ok (.ireturn, 1) := by decide +kernel
theorem dX7_isDropped_0 : decode cX7_isDropped 0 = .ok (.aload_n 0, 1) := by decide +kernel
theorem dX7_isDropped_1 : decode cX7_isDropped 1 = .ok (.iload_n 1, 1) := by decide +kernel
theorem dX7_isDropped_2 : decode cX7_isDropped 2 = .ok (.invokevirtual 62, 3) := by decide +kernel
theorem dX7_isDropped_5 : decode cX7_isDropped 5 = .ok (.iconst 4, 1) := by decide +kernel
theorem dX7_isDropped_6 : decode cX7_isDropped 6 = .ok (.if_icmp .lt 7, 3) := by decide +kernel
theorem dX7_isDropped_9 : decode cX7_isDropped 9 = .ok (.iconst 1, 1) := by decide +kernel
theorem dX7_isDropped_10 : decode cX7_isDropped 10 = .ok (.goto 4, 3) := by decide +kernel
theorem dX7_isDropped_13 : decode cX7_isDropped 13 = .ok (.iconst 0, 1) := by decide +kernel
theorem dX7_isDropped_14 : decode cX7_isDropped 14 = .ok (.ireturn, 1) := by decide +kernel
theorem dX7_isThere_0 : decode cX7_isThere 0 = .ok (.aload_n 0, 1) := by decide +kernel
theorem dX7_isThere_1 : decode cX7_isThere 1 = .ok (.iload_n 1, 1) := by decide +kernel
theorem dX7_isThere_2 : decode cX7_isThere 2 = .ok (.invokevirtual 66, 3) := by decide +kernel
theorem dX7_isThere_5 : decode cX7_isThere 5 = .ok (.ifCond .eq 15, 3) := by decide +kernel
theorem dX7_isThere_8 : decode cX7_isThere 8 = .ok (.aload_n 0, 1) := by decide +kernel
theorem dX7_isThere_9 : decode cX7_isThere 9 = .ok (.iload_n 1, 1) := by decide +kernel
theorem dX7_isThere_10 : decode cX7_isThere 10 = .ok (.invokevirtual 70, 3) := by decide +kernel
theorem dX7_isThere_13 : decode cX7_isThere 13 = .ok (.ifCond .ne 7, 3) := by decide +kernel
theorem dX7_isThere_16 : decode cX7_isThere 16 = .ok (.iconst 1, 1) := by decide +kernel
theorem dX7_isThere_17 : decode cX7_isThere 17 = .ok (.goto 4, 3) := by decide +kernel
theorem dX7_isThere_20 : decode cX7_isThere 20 = .ok (.iconst 0, 1) := by decide +kernel
theorem dX7_isThere_21 : decode cX7_isThere 21 = .ok (.ireturn, 1) := by decide +kernel
theorem dX7_powers_0 : decode cX7_powers 0 = .ok (.iconst 0, 1) := by decide +kernel
theorem dX7_powers_1 : decode cX7_powers 1 = .ok (.istore 5, 2) := by decide +kernel
theorem dX7_powers_3 : decode cX7_powers 3 = .ok (.iload 5, 2) := by decide +kernel
theorem dX7_powers_5 : decode cX7_powers 5 = .ok (.bipush 64, 2) := by decide +kernel
theorem dX7_powers_7 : decode cX7_powers 7 = .ok (.if_icmp .ge 14, 3) := by decide +kernel
theorem dX7_powers_10 : decode cX7_powers 10 = .ok (.aload_n 0, 1) := by decide +kernel
theorem dX7_powers_11 : decode cX7_powers 11 = .ok (.iload 5, 2) := by decide +kernel
theorem dX7_powers_13 : decode cX7_powers 13 = .ok (.iconst 0, 1) := by decide +kernel
theorem dX7_powers_14 : decode cX7_powers 14 = .ok (.iastore, 1) := by decide +kernel
theorem dX7_powers_15 : decode cX7_powers 15 = .ok (.iinc 5 1, 3) := by decide +kernel
theorem dX7_powers_18 : decode cX7_powers 18 = .ok (.goto (-15), 3) := by decide +kernel
theorem dX7_powers_21 : decode cX7_powers 21 = .ok (.aload_n 0, 1) := by decide +kernel
theorem dX7_powers_22 : decode cX7_powers 22 = .ok (.iconst 0, 1) := by decide +kernel
theorem dX7_powers_23 : decode cX7_powers 23 = .ok (.iconst 1, 1) := by decide +kernel
theorem dX7_powers_24 : decode cX7_powers 24 = .ok (.iastore, 1) := by decide +kernel
theorem dX7_powers_25 : decode cX7_powers 25 = .ok (.iconst 1, 1) := by decide +kernel
theorem dX7_powers_26 : decode cX7_powers 26 = .ok (.istore 5, 2) := by decide +kernel
theorem dX7_powers_28 : decode cX7_powers 28 = .ok (.iconst 0, 1) := by decide +kernel
theorem dX7_powers_29 : decode cX7_powers 29 = .ok (.istore 6, 2) := by decide +kernel
theorem dX7_powers_31 : decode cX7_powers 31 = .ok (.iload 6, 2) := by decide +kernel
theorem dX7_powers_33 : decode cX7_powers 33 = .ok (.iload_n 2, 1) := by decide +kernel
theorem dX7_powers_34 : decode cX7_powers 34 = .ok (.if_icmp .ge 18, 3) := by decide +kernel
theorem dX7_powers_37 : decode cX7_powers 37 = .ok (.aload_n 0, 1) := by decide +kernel
theorem dX7_powers_38 : decode cX7_powers 38 = .ok (.iload 5, 2) := by decide +kernel
theorem dX7_powers_40 : decode cX7_powers 40 = .ok (.iload_n 1, 1) := by decide +kernel
theorem dX7_powers_41 : decode cX7_powers 41 = .ok (.invokestatic 73, 3) := by decide +kernel
theorem dX7_powers_44 : decode cX7_powers 44 = .ok (.istore 5, 2) := by decide +kernel
theorem dX7_powers_46 : decode cX7_powers 46 = .ok (.iinc 6 1, 3) := by decide +kernel
theorem dX7_powers_49 : decode cX7_powers 49 = .ok (.goto (-18), 3) := by decide +kernel
theorem dX7_powers_52 : decode cX7_powers 52 = .ok (.iconst 0, 1) := by decide +kernel
theorem dX7_powers_53 : decode cX7_powers 53 = .ok (.istore 6, 2) := by decide +kernel
theorem dX7_powers_55 : decode cX7_powers 55 = .ok (.iload 6, 2) := by decide +kernel
theorem dX7_powers_57 : decode cX7_powers 57 = .ok (.iload 4, 2) := by decide +kernel
theorem dX7_powers_59 : decode cX7_powers 59 = .ok (.if_icmp .ge 18, 3) := by decide +kernel
theorem dX7_powers_62 : decode cX7_powers 62 = .ok (.aload_n 0, 1) := by decide +kernel
theorem dX7_powers_63 : decode cX7_powers 63 = .ok (.iload 5, 2) := by decide +kernel
theorem dX7_powers_65 : decode cX7_powers 65 = .ok (.iload_n 3, 1) := by decide +kernel
theorem dX7_powers_66 : decode cX7_powers 66 = .ok (.invokestatic 73, 3) := by decide +kernel
theorem dX7_powers_69 : decode cX7_powers 69 = .ok (.istore 5, 2) := by decide +kernel
theorem dX7_powers_71 : decode cX7_powers 71 = .ok (.iinc 6 1, 3) := by decide +kernel
theorem dX7_powers_74 : decode cX7_powers 74 = .ok (.goto (-19), 3) := by decide +kernel
theorem dX7_powers_77 : decode cX7_powers 77 = .ok (.return_, 1) := by decide +kernel
theorem dX7_times_0 : decode cX7_times 0 = .ok (.iconst 0, 1) := by decide +kernel
theorem dX7_times_1 : decode cX7_times 1 = .ok (.istore_n 3, 1) := by decide +kernel
theorem dX7_times_2 : decode cX7_times 2 = .ok (.iconst 0, 1) := by decide +kernel
theorem dX7_times_3 : decode cX7_times 3 = .ok (.istore 4, 2) := by decide +kernel
theorem dX7_times_5 : decode cX7_times 5 = .ok (.iload 4, 2) := by decide +kernel
theorem dX7_times_7 : decode cX7_times 7 = .ok (.iload_n 1, 1) := by decide +kernel
theorem dX7_times_8 : decode cX7_times 8 = .ok (.if_icmp .ge 34, 3) := by decide +kernel
theorem dX7_times_11 : decode cX7_times 11 = .ok (.aload_n 0, 1) := by decide +kernel
theorem dX7_times_12 : decode cX7_times 12 = .ok (.iload 4, 2) := by decide +kernel
theorem dX7_times_14 : decode cX7_times 14 = .ok (.iaload, 1) := by decide +kernel
theorem dX7_times_15 : decode cX7_times 15 = .ok (.iload_n 2, 1) := by decide +kernel
theorem dX7_times_16 : decode cX7_times 16 = .ok (.imul, 1) := by decide +kernel
theorem dX7_times_17 : decode cX7_times 17 = .ok (.iload_n 3, 1) := by decide +kernel
theorem dX7_times_18 : decode cX7_times 18 = .ok (.iadd, 1) := by decide +kernel
theorem dX7_times_19 : decode cX7_times 19 = .ok (.istore 5, 2) := by decide +kernel
theorem dX7_times_21 : decode cX7_times 21 = .ok (.aload_n 0, 1) := by decide +kernel
theorem dX7_times_22 : decode cX7_times 22 = .ok (.iload 4, 2) := by decide +kernel
theorem dX7_times_24 : decode cX7_times 24 = .ok (.iload 5, 2) := by decide +kernel
theorem dX7_times_26 : decode cX7_times 26 = .ok (.ldc 77, 2) := by decide +kernel
theorem dX7_times_28 : decode cX7_times 28 = .ok (.irem, 1) := by decide +kernel
theorem dX7_times_29 : decode cX7_times 29 = .ok (.iastore, 1) := by decide +kernel
theorem dX7_times_30 : decode cX7_times 30 = .ok (.iload 5, 2) := by decide +kernel
theorem dX7_times_32 : decode cX7_times 32 = .ok (.ldc 77, 2) := by decide +kernel
theorem dX7_times_34 : decode cX7_times 34 = .ok (.idiv, 1) := by decide +kernel
theorem dX7_times_35 : decode cX7_times 35 = .ok (.istore_n 3, 1) := by decide +kernel
theorem dX7_times_36 : decode cX7_times 36 = .ok (.iinc 4 1, 3) := by decide +kernel
theorem dX7_times_39 : decode cX7_times 39 = .ok (.goto (-34), 3) := by decide +kernel
theorem dX7_times_42 : decode cX7_times 42 = .ok (.aload_n 0, 1) := by decide +kernel
theorem dX7_times_43 : decode cX7_times 43 = .ok (.iload_n 1, 1) := by decide +kernel
theorem dX7_times_44 : decode cX7_times 44 = .ok (.iload_n 3, 1) := by decide +kernel
theorem dX7_times_45 : decode cX7_times 45 = .ok (.iastore, 1) := by decide +kernel
theorem dX7_times_46 : decode cX7_times 46 = .ok (.iload_n 3, 1) := by decide +kernel
theorem dX7_times_47 : decode cX7_times 47 = .ok (.ifCond .le 9, 3) := by decide +kernel
theorem dX7_times_50 : decode cX7_times 50 = .ok (.iload_n 1, 1) := by decide +kernel
theorem dX7_times_51 : decode cX7_times 51 = .ok (.iconst 1, 1) := by decide +kernel
theorem dX7_times_52 : decode cX7_times 52 = .ok (.iadd, 1) := by decide +kernel
theorem dX7_times_53 : decode cX7_times 53 = .ok (.goto 4, 3) := by decide +kernel
theorem dX7_times_56 : decode cX7_times 56 = .ok (.iload_n 1, 1) := by decide +kernel
theorem dX7_times_57 : decode cX7_times 57 = .ok (.ireturn, 1) := by decide +kernel
theorem dX7_compared_0 : decode cX7_compared 0 = .ok (.bipush 63, 2) := by decide +kernel
theorem dX7_compared_2 : decode cX7_compared 2 = .ok (.istore_n 1, 1) := by decide +kernel
theorem dX7_compared_3 : decode cX7_compared 3 = .ok (.iload_n 1, 1) := by decide +kernel
theorem dX7_compared_4 : decode cX7_compared 4 = .ok (.ifCond .lt 45, 3) := by decide +kernel
theorem dX7_compared_7 : decode cX7_compared 7 = .ok (.aload_n 0, 1) := by decide +kernel
theorem dX7_compared_8 : decode cX7_compared 8 = .ok (.getfield 23, 3) := by decide +kernel
theorem dX7_compared_11 : decode cX7_compared 11 = .ok (.iload_n 1, 1) := by decide +kernel
theorem dX7_compared_12 : decode cX7_compared 12 = .ok (.iaload, 1) := by decide +kernel
theorem dX7_compared_13 : decode cX7_compared 13 = .ok (.aload_n 0, 1) := by decide +kernel
theorem dX7_compared_14 : decode cX7_compared 14 = .ok (.getfield 26, 3) := by decide +kernel
theorem dX7_compared_17 : decode cX7_compared 17 = .ok (.iload_n 1, 1) := by decide +kernel
theorem dX7_compared_18 : decode cX7_compared 18 = .ok (.iaload, 1) := by decide +kernel
theorem dX7_compared_19 : decode cX7_compared 19 = .ok (.if_icmp .eq 24, 3) := by decide +kernel
theorem dX7_compared_22 : decode cX7_compared 22 = .ok (.aload_n 0, 1) := by decide +kernel
theorem dX7_compared_23 : decode cX7_compared 23 = .ok (.getfield 23, 3) := by decide +kernel
theorem dX7_compared_26 : decode cX7_compared 26 = .ok (.iload_n 1, 1) := by decide +kernel
theorem dX7_compared_27 : decode cX7_compared 27 = .ok (.iaload, 1) := by decide +kernel
theorem dX7_compared_28 : decode cX7_compared 28 = .ok (.aload_n 0, 1) := by decide +kernel
theorem dX7_compared_29 : decode cX7_compared 29 = .ok (.getfield 26, 3) := by decide +kernel
theorem dX7_compared_32 : decode cX7_compared 32 = .ok (.iload_n 1, 1) := by decide +kernel
theorem dX7_compared_33 : decode cX7_compared 33 = .ok (.iaload, 1) := by decide +kernel
theorem dX7_compared_34 : decode cX7_compared 34 = .ok (.if_icmp .ge 7, 3) := by decide +kernel
theorem dX7_compared_37 : decode cX7_compared 37 = .ok (.iconst (-1), 1) := by decide +kernel
theorem dX7_compared_38 : decode cX7_compared 38 = .ok (.goto 4, 3) := by decide +kernel
theorem dX7_compared_41 : decode cX7_compared 41 = .ok (.iconst 1, 1) := by decide +kernel
theorem dX7_compared_42 : decode cX7_compared 42 = .ok (.ireturn, 1) := by decide +kernel
theorem dX7_compared_43 : decode cX7_compared 43 = .ok (.iinc 1 (-1), 3) := by decide +kernel
theorem dX7_compared_46 : decode cX7_compared 46 = .ok (.goto (-43), 3) := by decide +kernel
theorem dX7_compared_49 : decode cX7_compared 49 = .ok (.iconst 0, 1) := by decide +kernel
theorem dX7_compared_50 : decode cX7_compared 50 = .ok (.ireturn, 1) := by decide +kernel
theorem dX7_comparedKeys_0 : decode cX7_comparedKeys 0 = .ok (.aload_n 0, 1) := by decide +kernel
theorem dX7_comparedKeys_1 : decode cX7_comparedKeys 1 = .ok (.getfield 23, 3) := by decide +kernel
theorem dX7_comparedKeys_4 : decode cX7_comparedKeys 4 = .ok (.iload_n 1, 1) := by decide +kernel
theorem dX7_comparedKeys_5 : decode cX7_comparedKeys 5 = .ok (.iload 4, 2) := by decide +kernel
theorem dX7_comparedKeys_7 : decode cX7_comparedKeys 7 = .ok (.sipush 1024, 3) := by decide +kernel
theorem dX7_comparedKeys_10 : decode cX7_comparedKeys 10 = .ok (.iload_n 2, 1) := by decide +kernel
theorem dX7_comparedKeys_11 : decode cX7_comparedKeys 11 = .ok (.invokestatic 78, 3) := by decide +kernel
theorem dX7_comparedKeys_14 : decode cX7_comparedKeys 14 = .ok (.aload_n 0, 1) := by decide +kernel
theorem dX7_comparedKeys_15 : decode cX7_comparedKeys 15 = .ok (.getfield 26, 3) := by decide +kernel
theorem dX7_comparedKeys_18 : decode cX7_comparedKeys 18 = .ok (.iload_n 3, 1) := by decide +kernel
theorem dX7_comparedKeys_19 : decode cX7_comparedKeys 19 = .ok (.iload_n 2, 1) := by decide +kernel
theorem dX7_comparedKeys_20 : decode cX7_comparedKeys 20 = .ok (.sipush 1024, 3) := by decide +kernel
theorem dX7_comparedKeys_23 : decode cX7_comparedKeys 23 = .ok (.iload 4, 2) := by decide +kernel
theorem dX7_comparedKeys_25 : decode cX7_comparedKeys 25 = .ok (.invokestatic 78, 3) := by decide +kernel
theorem dX7_comparedKeys_28 : decode cX7_comparedKeys 28 = .ok (.aload_n 0, 1) := by decide +kernel
theorem dX7_comparedKeys_29 : decode cX7_comparedKeys 29 = .ok (.invokevirtual 82, 3) := by decide +kernel
theorem dX7_comparedKeys_32 : decode cX7_comparedKeys 32 = .ok (.ireturn, 1) := by decide +kernel
theorem dX7_isAhead_0 : decode cX7_isAhead 0 = .ok (.aload_n 0, 1) := by decide +kernel
theorem dX7_isAhead_1 : decode cX7_isAhead 1 = .ok (.iload_n 2, 1) := by decide +kernel
theorem dX7_isAhead_2 : decode cX7_isAhead 2 = .ok (.iload_n 3, 1) := by decide +kernel
theorem dX7_isAhead_3 : decode cX7_isAhead 3 = .ok (.aload_n 0, 1) := by decide +kernel
theorem dX7_isAhead_4 : decode cX7_isAhead 4 = .ok (.iload 4, 2) := by decide +kernel
theorem dX7_isAhead_6 : decode cX7_isAhead 6 = .ok (.iconst 3, 1) := by decide +kernel
theorem dX7_isAhead_7 : decode cX7_isAhead 7 = .ok (.invokevirtual 58, 3) := by decide +kernel
theorem dX7_isAhead_10 : decode cX7_isAhead 10 = .ok (.aload_n 0, 1) := by decide +kernel
theorem dX7_isAhead_11 : decode cX7_isAhead 11 = .ok (.iload 4, 2) := by decide +kernel
theorem dX7_isAhead_13 : decode cX7_isAhead 13 = .ok (.iconst 2, 1) := by decide +kernel
theorem dX7_isAhead_14 : decode cX7_isAhead 14 = .ok (.invokevirtual 58, 3) := by decide +kernel
theorem dX7_isAhead_17 : decode cX7_isAhead 17 = .ok (.invokevirtual 86, 3) := by decide +kernel
theorem dX7_isAhead_20 : decode cX7_isAhead 20 = .ok (.istore 5, 2) := by decide +kernel
theorem dX7_isAhead_22 : decode cX7_isAhead 22 = .ok (.iload 5, 2) := by decide +kernel
theorem dX7_isAhead_24 : decode cX7_isAhead 24 = .ok (.ifCond .gt 14, 3) := by decide +kernel
theorem dX7_isAhead_27 : decode cX7_isAhead 27 = .ok (.iload 5, 2) := by decide +kernel
theorem dX7_isAhead_29 : decode cX7_isAhead 29 = .ok (.ifCond .ne 13, 3) := by decide +kernel
theorem dX7_isAhead_32 : decode cX7_isAhead 32 = .ok (.iload_n 1, 1) := by decide +kernel
theorem dX7_isAhead_33 : decode cX7_isAhead 33 = .ok (.iload 4, 2) := by decide +kernel
theorem dX7_isAhead_35 : decode cX7_isAhead 35 = .ok (.if_icmp .ge 7, 3) := by decide +kernel
theorem dX7_isAhead_38 : decode cX7_isAhead 38 = .ok (.iconst 1, 1) := by decide +kernel
theorem dX7_isAhead_39 : decode cX7_isAhead 39 = .ok (.goto 4, 3) := by decide +kernel
theorem dX7_isAhead_42 : decode cX7_isAhead 42 = .ok (.iconst 0, 1) := by decide +kernel
theorem dX7_isAhead_43 : decode cX7_isAhead 43 = .ok (.ireturn, 1) := by decide +kernel
theorem dX7_areInOrder_0 : decode cX7_areInOrder 0 = .ok (.aload_n 0, 1) := by decide +kernel
theorem dX7_areInOrder_1 : decode cX7_areInOrder 1 = .ok (.iload_n 1, 1) := by decide +kernel
theorem dX7_areInOrder_2 : decode cX7_areInOrder 2 = .ok (.aload_n 0, 1) := by decide +kernel
theorem dX7_areInOrder_3 : decode cX7_areInOrder 3 = .ok (.iload_n 1, 1) := by decide +kernel
theorem dX7_areInOrder_4 : decode cX7_areInOrder 4 = .ok (.iconst 3, 1) := by decide +kernel
theorem dX7_areInOrder_5 : decode cX7_areInOrder 5 = .ok (.invokevirtual 58, 3) := by decide +kernel
theorem dX7_areInOrder_8 : decode cX7_areInOrder 8 = .ok (.aload_n 0, 1) := by decide +kernel
theorem dX7_areInOrder_9 : decode cX7_areInOrder 9 = .ok (.iload_n 1, 1) := by decide +kernel
theorem dX7_areInOrder_10 : decode cX7_areInOrder 10 = .ok (.iconst 2, 1) := by decide +kernel
theorem dX7_areInOrder_11 : decode cX7_areInOrder 11 = .ok (.invokevirtual 58, 3) := by decide +kernel
theorem dX7_areInOrder_14 : decode cX7_areInOrder 14 = .ok (.iload_n 2, 1) := by decide +kernel
theorem dX7_areInOrder_15 : decode cX7_areInOrder 15 = .ok (.invokevirtual 90, 3) := by decide +kernel
theorem dX7_areInOrder_18 : decode cX7_areInOrder 18 = .ok (.ireturn, 1) := by decide +kernel
theorem dX7_order_0 : decode cX7_order 0 = .ok (.aload_n 0, 1) := by decide +kernel
theorem dX7_order_1 : decode cX7_order 1 = .ok (.iload_n 1, 1) := by decide +kernel
theorem dX7_order_2 : decode cX7_order 2 = .ok (.invokevirtual 66, 3) := by decide +kernel
theorem dX7_order_5 : decode cX7_order 5 = .ok (.ifCond .eq 11, 3) := by decide +kernel
theorem dX7_order_8 : decode cX7_order 8 = .ok (.aload_n 0, 1) := by decide +kernel
theorem dX7_order_9 : decode cX7_order 9 = .ok (.iload_n 2, 1) := by decide +kernel
theorem dX7_order_10 : decode cX7_order 10 = .ok (.invokevirtual 66, 3) := by decide +kernel
theorem dX7_order_13 : decode cX7_order 13 = .ok (.ifCond .ne 5, 3) := by decide +kernel
theorem dX7_order_16 : decode cX7_order 16 = .ok (.iconst (-1), 1) := by decide +kernel
theorem dX7_order_17 : decode cX7_order 17 = .ok (.ireturn, 1) := by decide +kernel
theorem dX7_order_18 : decode cX7_order 18 = .ok (.aload_n 0, 1) := by decide +kernel
theorem dX7_order_19 : decode cX7_order 19 = .ok (.aload_n 0, 1) := by decide +kernel
theorem dX7_order_20 : decode cX7_order 20 = .ok (.iload_n 1, 1) := by decide +kernel
theorem dX7_order_21 : decode cX7_order 21 = .ok (.iconst 3, 1) := by decide +kernel
theorem dX7_order_22 : decode cX7_order 22 = .ok (.invokevirtual 58, 3) := by decide +kernel
theorem dX7_order_25 : decode cX7_order 25 = .ok (.aload_n 0, 1) := by decide +kernel
theorem dX7_order_26 : decode cX7_order 26 = .ok (.iload_n 1, 1) := by decide +kernel
theorem dX7_order_27 : decode cX7_order 27 = .ok (.iconst 2, 1) := by decide +kernel
theorem dX7_order_28 : decode cX7_order 28 = .ok (.invokevirtual 58, 3) := by decide +kernel
theorem dX7_order_31 : decode cX7_order 31 = .ok (.aload_n 0, 1) := by decide +kernel
theorem dX7_order_32 : decode cX7_order 32 = .ok (.iload_n 2, 1) := by decide +kernel
theorem dX7_order_33 : decode cX7_order 33 = .ok (.iconst 3, 1) := by decide +kernel
theorem dX7_order_34 : decode cX7_order 34 = .ok (.invokevirtual 58, 3) := by decide +kernel
theorem dX7_order_37 : decode cX7_order 37 = .ok (.aload_n 0, 1) := by decide +kernel
theorem dX7_order_38 : decode cX7_order 38 = .ok (.iload_n 2, 1) := by decide +kernel
theorem dX7_order_39 : decode cX7_order 39 = .ok (.iconst 2, 1) := by decide +kernel
theorem dX7_order_40 : decode cX7_order 40 = .ok (.invokevirtual 58, 3) := by decide +kernel
theorem dX7_order_43 : decode cX7_order 43 = .ok (.invokevirtual 86, 3) := by decide +kernel
theorem dX7_order_46 : decode cX7_order 46 = .ok (.istore_n 3, 1) := by decide +kernel
theorem dX7_order_47 : decode cX7_order 47 = .ok (.iload_n 3, 1) := by decide +kernel
theorem dX7_order_48 : decode cX7_order 48 = .ok (.ifCond .ne 7, 3) := by decide +kernel
theorem dX7_order_51 : decode cX7_order 51 = .ok (.iconst 0, 1) := by decide +kernel
theorem dX7_order_52 : decode cX7_order 52 = .ok (.goto 12, 3) := by decide +kernel
theorem dX7_order_55 : decode cX7_order 55 = .ok (.iload_n 3, 1) := by decide +kernel
theorem dX7_order_56 : decode cX7_order 56 = .ok (.ifCond .le 7, 3) := by decide +kernel
theorem dX7_order_59 : decode cX7_order 59 = .ok (.iconst 1, 1) := by decide +kernel
theorem dX7_order_60 : decode cX7_order 60 = .ok (.goto 4, 3) := by decide +kernel
theorem dX7_order_63 : decode cX7_order 63 = .ok (.iconst 2, 1) := by decide +kernel
theorem dX7_order_64 : decode cX7_order 64 = .ok (.ireturn, 1) := by decide +kernel
theorem dX7_isNoMore_0 : decode cX7_isNoMore 0 = .ok (.aload_n 0, 1) := by decide +kernel
theorem dX7_isNoMore_1 : decode cX7_isNoMore 1 = .ok (.iload_n 3, 1) := by decide +kernel
theorem dX7_isNoMore_2 : decode cX7_isNoMore 2 = .ok (.iconst 2, 1) := by decide +kernel
theorem dX7_isNoMore_3 : decode cX7_isNoMore 3 = .ok (.invokevirtual 58, 3) := by decide +kernel
theorem dX7_isNoMore_6 : decode cX7_isNoMore 6 = .ok (.istore 4, 2) := by decide +kernel
theorem dX7_isNoMore_8 : decode cX7_isNoMore 8 = .ok (.aload_n 0, 1) := by decide +kernel
theorem dX7_isNoMore_9 : decode cX7_isNoMore 9 = .ok (.getfield 23, 3) := by decide +kernel
theorem dX7_isNoMore_12 : decode cX7_isNoMore 12 = .ok (.iload_n 1, 1) := by decide +kernel
theorem dX7_isNoMore_13 : decode cX7_isNoMore 13 = .ok (.iload 4, 2) := by decide +kernel
theorem dX7_isNoMore_15 : decode cX7_isNoMore 15 = .ok (.sipush 1024, 3) := by decide +kernel
theorem dX7_isNoMore_18 : decode cX7_isNoMore 18 = .ok (.iconst 1, 1) := by decide +kernel
theorem dX7_isNoMore_19 : decode cX7_isNoMore 19 = .ok (.invokestatic 78, 3) := by decide +kernel
theorem dX7_isNoMore_22 : decode cX7_isNoMore 22 = .ok (.aload_n 0, 1) := by decide +kernel
theorem dX7_isNoMore_23 : decode cX7_isNoMore 23 = .ok (.getfield 26, 3) := by decide +kernel
theorem dX7_isNoMore_26 : decode cX7_isNoMore 26 = .ok (.iload_n 2, 1) := by decide +kernel
theorem dX7_isNoMore_27 : decode cX7_isNoMore 27 = .ok (.iload 4, 2) := by decide +kernel
theorem dX7_isNoMore_29 : decode cX7_isNoMore 29 = .ok (.aload_n 0, 1) := by decide +kernel
theorem dX7_isNoMore_30 : decode cX7_isNoMore 30 = .ok (.iload_n 3, 1) := by decide +kernel
theorem dX7_isNoMore_31 : decode cX7_isNoMore 31 = .ok (.iconst 3, 1) := by decide +kernel
theorem dX7_isNoMore_32 : decode cX7_isNoMore 32 = .ok (.invokevirtual 58, 3) := by decide +kernel
theorem dX7_isNoMore_35 : decode cX7_isNoMore 35 = .ok (.iconst 1, 1) := by decide +kernel
theorem dX7_isNoMore_36 : decode cX7_isNoMore 36 = .ok (.invokestatic 78, 3) := by decide +kernel
theorem dX7_isNoMore_39 : decode cX7_isNoMore 39 = .ok (.aload_n 0, 1) := by decide +kernel
theorem dX7_isNoMore_40 : decode cX7_isNoMore 40 = .ok (.invokevirtual 82, 3) := by decide +kernel
theorem dX7_isNoMore_43 : decode cX7_isNoMore 43 = .ok (.ifCond .gt 7, 3) := by decide +kernel
theorem dX7_isNoMore_46 : decode cX7_isNoMore 46 = .ok (.iconst 1, 1) := by decide +kernel
theorem dX7_isNoMore_47 : decode cX7_isNoMore 47 = .ok (.goto 4, 3) := by decide +kernel
theorem dX7_isNoMore_50 : decode cX7_isNoMore 50 = .ok (.iconst 0, 1) := by decide +kernel
theorem dX7_isNoMore_51 : decode cX7_isNoMore 51 = .ok (.ireturn, 1) := by decide +kernel
theorem dX7_part_0 : decode cX7_part 0 = .ok (.aload_n 0, 1) := by decide +kernel
theorem dX7_part_1 : decode cX7_part 1 = .ok (.iload_n 1, 1) := by decide +kernel
theorem dX7_part_2 : decode cX7_part 2 = .ok (.invokevirtual 66, 3) := by decide +kernel
theorem dX7_part_5 : decode cX7_part 5 = .ok (.ifCond .eq 15, 3) := by decide +kernel
theorem dX7_part_8 : decode cX7_part 8 = .ok (.iload_n 2, 1) := by decide +kernel
theorem dX7_part_9 : decode cX7_part 9 = .ok (.i2l, 1) := by decide +kernel
theorem dX7_part_10 : decode cX7_part 10 = .ok (.lconst 1, 1) := by decide +kernel
theorem dX7_part_11 : decode cX7_part 11 = .ok (.ldc2_w 94, 3) := by decide +kernel
theorem dX7_part_14 : decode cX7_part 14 = .ok (.invokestatic 54, 3) := by decide +kernel
theorem dX7_part_17 : decode cX7_part 17 = .ok (.ifCond .ne 5, 3) := by decide +kernel
theorem dX7_part_20 : decode cX7_part 20 = .ok (.iconst (-1), 1) := by decide +kernel
theorem dX7_part_21 : decode cX7_part 21 = .ok (.ireturn, 1) := by decide +kernel
theorem dX7_part_22 : decode cX7_part 22 = .ok (.iconst 0, 1) := by decide +kernel
theorem dX7_part_23 : decode cX7_part 23 = .ok (.istore_n 3, 1) := by decide +kernel
theorem dX7_part_24 : decode cX7_part 24 = .ok (.aload_n 0, 1) := by decide +kernel
theorem dX7_part_25 : decode cX7_part 25 = .ok (.iload_n 3, 1) := by decide +kernel
theorem dX7_part_26 : decode cX7_part 26 = .ok (.iconst 1, 1) := by decide +kernel
theorem dX7_part_27 : decode cX7_part 27 = .ok (.iadd, 1) := by decide +kernel
theorem dX7_part_28 : decode cX7_part 28 = .ok (.iload_n 2, 1) := by decide +kernel
theorem dX7_part_29 : decode cX7_part 29 = .ok (.iload_n 1, 1) := by decide +kernel
theorem dX7_part_30 : decode cX7_part 30 = .ok (.invokevirtual 96, 3) := by decide +kernel
theorem dX7_part_33 : decode cX7_part 33 = .ok (.ifCond .eq 9, 3) := by decide +kernel
theorem dX7_part_36 : decode cX7_part 36 = .ok (.iinc 3 1, 3) := by decide +kernel
theorem dX7_part_39 : decode cX7_part 39 = .ok (.goto (-15), 3) := by decide +kernel
theorem dX7_part_42 : decode cX7_part 42 = .ok (.iload_n 3, 1) := by decide +kernel
theorem dX7_part_43 : decode cX7_part 43 = .ok (.ireturn, 1) := by decide +kernel
theorem dX7_isAliveAt_0 : decode cX7_isAliveAt 0 = .ok (.iload_n 3, 1) := by decide +kernel
theorem dX7_isAliveAt_1 : decode cX7_isAliveAt 1 = .ok (.ifCond .eq 15, 3) := by decide +kernel
theorem dX7_isAliveAt_4 : decode cX7_isAliveAt 4 = .ok (.aload_n 0, 1) := by decide +kernel
theorem dX7_isAliveAt_5 : decode cX7_isAliveAt 5 = .ok (.iload_n 1, 1) := by decide +kernel
theorem dX7_isAliveAt_6 : decode cX7_isAliveAt 6 = .ok (.iconst 4, 1) := by decide +kernel
theorem dX7_isAliveAt_7 : decode cX7_isAliveAt 7 = .ok (.invokevirtual 58, 3) := by decide +kernel
theorem dX7_isAliveAt_10 : decode cX7_isAliveAt 10 = .ok (.iload_n 2, 1) := by decide +kernel
theorem dX7_isAliveAt_11 : decode cX7_isAliveAt 11 = .ok (.iload_n 3, 1) := by decide +kernel
theorem dX7_isAliveAt_12 : decode cX7_isAliveAt 12 = .ok (.isub, 1) := by decide +kernel
theorem dX7_isAliveAt_13 : decode cX7_isAliveAt 13 = .ok (.if_icmp .le 7, 3) := by decide +kernel
theorem dX7_isAliveAt_16 : decode cX7_isAliveAt 16 = .ok (.iconst 1, 1) := by decide +kernel
theorem dX7_isAliveAt_17 : decode cX7_isAliveAt 17 = .ok (.goto 4, 3) := by decide +kernel
theorem dX7_isAliveAt_20 : decode cX7_isAliveAt 20 = .ok (.iconst 0, 1) := by decide +kernel
theorem dX7_isAliveAt_21 : decode cX7_isAliveAt 21 = .ok (.ireturn, 1) := by decide +kernel
theorem dX7_isAlive_0 : decode cX7_isAlive 0 = .ok (.aload_n 0, 1) := by decide +kernel
theorem dX7_isAlive_1 : decode cX7_isAlive 1 = .ok (.iload_n 1, 1) := by decide +kernel
theorem dX7_isAlive_2 : decode cX7_isAlive 2 = .ok (.invokevirtual 70, 3) := by decide +kernel
theorem dX7_isAlive_5 : decode cX7_isAlive 5 = .ok (.ifCond .ne 34, 3) := by decide +kernel
theorem dX7_isAlive_8 : decode cX7_isAlive 8 = .ok (.aload_n 0, 1) := by decide +kernel
theorem dX7_isAlive_9 : decode cX7_isAlive 9 = .ok (.iload_n 1, 1) := by decide +kernel
theorem dX7_isAlive_10 : decode cX7_isAlive 10 = .ok (.aload_n 0, 1) := by decide +kernel
theorem dX7_isAlive_11 : decode cX7_isAlive 11 = .ok (.getfield 7, 3) := by decide +kernel
theorem dX7_isAlive_14 : decode cX7_isAlive 14 = .ok (.iconst 0, 1) := by decide +kernel
theorem dX7_isAlive_15 : decode cX7_isAlive 15 = .ok (.iaload, 1) := by decide +kernel
theorem dX7_isAlive_16 : decode cX7_isAlive 16 = .ok (.aload_n 0, 1) := by decide +kernel
theorem dX7_isAlive_17 : decode cX7_isAlive 17 = .ok (.getfield 7, 3) := by decide +kernel
theorem dX7_isAlive_20 : decode cX7_isAlive 20 = .ok (.bipush 7, 2) := by decide +kernel
theorem dX7_isAlive_22 : decode cX7_isAlive 22 = .ok (.aload_n 0, 1) := by decide +kernel
theorem dX7_isAlive_23 : decode cX7_isAlive 23 = .ok (.iload_n 1, 1) := by decide +kernel
theorem dX7_isAlive_24 : decode cX7_isAlive 24 = .ok (.invokevirtual 62, 3) := by decide +kernel
theorem dX7_isAlive_27 : decode cX7_isAlive 27 = .ok (.iadd, 1) := by decide +kernel
theorem dX7_isAlive_28 : decode cX7_isAlive 28 = .ok (.iaload, 1) := by decide +kernel
theorem dX7_isAlive_29 : decode cX7_isAlive 29 = .ok (.invokevirtual 100, 3) := by decide +kernel
theorem dX7_isAlive_32 : decode cX7_isAlive 32 = .ok (.ifCond .eq 7, 3) := by decide +kernel
theorem dX7_isAlive_35 : decode cX7_isAlive 35 = .ok (.iconst 1, 1) := by decide +kernel
theorem dX7_isAlive_36 : decode cX7_isAlive 36 = .ok (.goto 4, 3) := by decide +kernel
theorem dX7_isAlive_39 : decode cX7_isAlive 39 = .ok (.iconst 0, 1) := by decide +kernel
theorem dX7_isAlive_40 : decode cX7_isAlive 40 = .ok (.ireturn, 1) := by decide +kernel
theorem dX7_begins__0 : decode cX7_begins_ 0 = .ok (.aload_n 0, 1) := by decide +kernel
theorem dX7_begins__1 : decode cX7_begins_ 1 = .ok (.iconst 0, 1) := by decide +kernel
theorem dX7_begins__2 : decode cX7_begins_ 2 = .ok (.putfield 103, 3) := by decide +kernel
theorem dX7_begins__5 : decode cX7_begins_ 5 = .ok (.return_, 1) := by decide +kernel
theorem dX7_ranks_0 : decode cX7_ranks 0 = .ok (.aload_n 0, 1) := by decide +kernel
theorem dX7_ranks_1 : decode cX7_ranks 1 = .ok (.getfield 107, 3) := by decide +kernel
theorem dX7_ranks_4 : decode cX7_ranks 4 = .ok (.ifCond .eq 4, 3) := by decide +kernel
theorem dX7_ranks_7 : decode cX7_ranks 7 = .ok (.return_, 1) := by decide +kernel
theorem dX7_ranks_8 : decode cX7_ranks 8 = .ok (.iconst 0, 1) := by decide +kernel
theorem dX7_ranks_9 : decode cX7_ranks 9 = .ok (.istore_n 1, 1) := by decide +kernel
theorem dX7_ranks_10 : decode cX7_ranks 10 = .ok (.iload_n 1, 1) := by decide +kernel
theorem dX7_ranks_11 : decode cX7_ranks 11 = .ok (.aload_n 0, 1) := by decide +kernel
theorem dX7_ranks_12 : decode cX7_ranks 12 = .ok (.getfield 7, 3) := by decide +kernel
theorem dX7_ranks_15 : decode cX7_ranks 15 = .ok (.iconst 2, 1) := by decide +kernel
theorem dX7_ranks_16 : decode cX7_ranks 16 = .ok (.iaload, 1) := by decide +kernel
theorem dX7_ranks_17 : decode cX7_ranks 17 = .ok (.if_icmp .ge 58, 3) := by decide +kernel
theorem dX7_ranks_20 : decode cX7_ranks 20 = .ok (.iload_n 1, 1) := by decide +kernel
theorem dX7_ranks_21 : decode cX7_ranks 21 = .ok (.istore_n 2, 1) := by decide +kernel
theorem dX7_ranks_22 : decode cX7_ranks 22 = .ok (.iload_n 2, 1) := by decide +kernel
theorem dX7_ranks_23 : decode cX7_ranks 23 = .ok (.ifCond .le 39, 3) := by decide +kernel
theorem dX7_ranks_26 : decode cX7_ranks 26 = .ok (.aload_n 0, 1) := by decide +kernel
theorem dX7_ranks_27 : decode cX7_ranks 27 = .ok (.iload_n 1, 1) := by decide +kernel
theorem dX7_ranks_28 : decode cX7_ranks 28 = .ok (.aload_n 0, 1) := by decide +kernel
theorem dX7_ranks_29 : decode cX7_ranks 29 = .ok (.getfield 32, 3) := by decide +kernel
theorem dX7_ranks_32 : decode cX7_ranks 32 = .ok (.iload_n 2, 1) := by decide +kernel
theorem dX7_ranks_33 : decode cX7_ranks 33 = .ok (.iconst 1, 1) := by decide +kernel
theorem dX7_ranks_34 : decode cX7_ranks 34 = .ok (.isub, 1) := by decide +kernel
theorem dX7_ranks_35 : decode cX7_ranks 35 = .ok (.iaload, 1) := by decide +kernel
theorem dX7_ranks_36 : decode cX7_ranks 36 = .ok (.invokevirtual 111, 3) := by decide +kernel
theorem dX7_ranks_39 : decode cX7_ranks 39 = .ok (.ifCond .eq 23, 3) := by decide +kernel
theorem dX7_ranks_42 : decode cX7_ranks 42 = .ok (.aload_n 0, 1) := by decide +kernel
theorem dX7_ranks_43 : decode cX7_ranks 43 = .ok (.getfield 32, 3) := by decide +kernel
theorem dX7_ranks_46 : decode cX7_ranks 46 = .ok (.iload_n 2, 1) := by decide +kernel
theorem dX7_ranks_47 : decode cX7_ranks 47 = .ok (.aload_n 0, 1) := by decide +kernel
theorem dX7_ranks_48 : decode cX7_ranks 48 = .ok (.getfield 32, 3) := by decide +kernel
theorem dX7_ranks_51 : decode cX7_ranks 51 = .ok (.iload_n 2, 1) := by decide +kernel
theorem dX7_ranks_52 : decode cX7_ranks 52 = .ok (.iconst 1, 1) := by decide +kernel
theorem dX7_ranks_53 : decode cX7_ranks 53 = .ok (.isub, 1) := by decide +kernel
theorem dX7_ranks_54 : decode cX7_ranks 54 = .ok (.iaload, 1) := by decide +kernel
theorem dX7_ranks_55 : decode cX7_ranks 55 = .ok (.iastore, 1) := by decide +kernel
theorem dX7_ranks_56 : decode cX7_ranks 56 = .ok (.iinc 2 (-1), 3) := by decide +kernel
theorem dX7_ranks_59 : decode cX7_ranks 59 = .ok (.goto (-37), 3) := by decide +kernel
theorem dX7_ranks_62 : decode cX7_ranks 62 = .ok (.aload_n 0, 1) := by decide +kernel
theorem dX7_ranks_63 : decode cX7_ranks 63 = .ok (.getfield 32, 3) := by decide +kernel
theorem dX7_ranks_66 : decode cX7_ranks 66 = .ok (.iload_n 2, 1) := by decide +kernel
theorem dX7_ranks_67 : decode cX7_ranks 67 = .ok (.iload_n 1, 1) := by decide +kernel
theorem dX7_ranks_68 : decode cX7_ranks 68 = .ok (.iastore, 1) := by decide +kernel
theorem dX7_ranks_69 : decode cX7_ranks 69 = .ok (.iinc 1 1, 3) := by decide +kernel
theorem dX7_ranks_72 : decode cX7_ranks 72 = .ok (.goto (-62), 3) := by decide +kernel
theorem dX7_ranks_75 : decode cX7_ranks 75 = .ok (.aload_n 0, 1) := by decide +kernel
theorem dX7_ranks_76 : decode cX7_ranks 76 = .ok (.iconst 1, 1) := by decide +kernel
theorem dX7_ranks_77 : decode cX7_ranks 77 = .ok (.putfield 107, 3) := by decide +kernel
theorem dX7_ranks_80 : decode cX7_ranks 80 = .ok (.return_, 1) := by decide +kernel
theorem dX7_comesIn_0 : decode cX7_comesIn 0 = .ok (.aload_n 0, 1) := by decide +kernel
theorem dX7_comesIn_1 : decode cX7_comesIn 1 = .ok (.getfield 29, 3) := by decide +kernel
theorem dX7_comesIn_4 : decode cX7_comesIn 4 = .ok (.aload_n 0, 1) := by decide +kernel
theorem dX7_comesIn_5 : decode cX7_comesIn 5 = .ok (.getfield 103, 3) := by decide +kernel
theorem dX7_comesIn_8 : decode cX7_comesIn 8 = .ok (.iload_n 1, 1) := by decide +kernel
theorem dX7_comesIn_9 : decode cX7_comesIn 9 = .ok (.iastore, 1) := by decide +kernel
theorem dX7_comesIn_10 : decode cX7_comesIn 10 = .ok (.aload_n 0, 1) := by decide +kernel
theorem dX7_comesIn_11 : decode cX7_comesIn 11 = .ok (.dup, 1) := by decide +kernel
theorem dX7_comesIn_12 : decode cX7_comesIn 12 = .ok (.getfield 103, 3) := by decide +kernel
theorem dX7_comesIn_15 : decode cX7_comesIn 15 = .ok (.iconst 1, 1) := by decide +kernel
theorem dX7_comesIn_16 : decode cX7_comesIn 16 = .ok (.iadd, 1) := by decide +kernel
theorem dX7_comesIn_17 : decode cX7_comesIn 17 = .ok (.putfield 103, 3) := by decide +kernel
theorem dX7_comesIn_20 : decode cX7_comesIn 20 = .ok (.return_, 1) := by decide +kernel
theorem dX7_cuts_0 : decode cX7_cuts 0 = .ok (.aload_n 0, 1) := by decide +kernel
theorem dX7_cuts_1 : decode cX7_cuts 1 = .ok (.aload_n 0, 1) := by decide +kernel
theorem dX7_cuts_2 : decode cX7_cuts 2 = .ok (.getfield 103, 3) := by decide +kernel
theorem dX7_cuts_5 : decode cX7_cuts 5 = .ok (.iload_n 1, 1) := by decide +kernel
theorem dX7_cuts_6 : decode cX7_cuts 6 = .ok (.if_icmp .ge 10, 3) := by decide +kernel
theorem dX7_cuts_9 : decode cX7_cuts 9 = .ok (.aload_n 0, 1) := by decide +kernel
theorem dX7_cuts_10 : decode cX7_cuts 10 = .ok (.getfield 103, 3) := by decide +kernel
theorem dX7_cuts_13 : decode cX7_cuts 13 = .ok (.goto 4, 3) := by decide +kernel
theorem dX7_cuts_16 : decode cX7_cuts 16 = .ok (.iload_n 1, 1) := by decide +kernel
theorem dX7_cuts_17 : decode cX7_cuts 17 = .ok (.putfield 103, 3) := by decide +kernel
theorem dX7_cuts_20 : decode cX7_cuts 20 = .ok (.return_, 1) := by decide +kernel
theorem dX7_lays_0 : decode cX7_lays 0 = .ok (.aload_n 0, 1) := by decide +kernel
theorem dX7_lays_1 : decode cX7_lays 1 = .ok (.invokevirtual 115, 3) := by decide +kernel
theorem dX7_lays_4 : decode cX7_lays 4 = .ok (.aload_n 0, 1) := by decide +kernel
theorem dX7_lays_5 : decode cX7_lays 5 = .ok (.invokevirtual 118, 3) := by decide +kernel
theorem dX7_lays_8 : decode cX7_lays 8 = .ok (.iconst 0, 1) := by decide +kernel
theorem dX7_lays_9 : decode cX7_lays 9 = .ok (.istore 5, 2) := by decide +kernel
theorem dX7_lays_11 : decode cX7_lays 11 = .ok (.iload 5, 2) := by decide +kernel
theorem dX7_lays_13 : decode cX7_lays 13 = .ok (.aload_n 0, 1) := by decide +kernel
theorem dX7_lays_14 : decode cX7_lays 14 = .ok (.getfield 7, 3) := by decide +kernel
theorem dX7_lays_17 : decode cX7_lays 17 = .ok (.iconst 2, 1) := by decide +kernel
theorem dX7_lays_18 : decode cX7_lays 18 = .ok (.iaload, 1) := by decide +kernel
theorem dX7_lays_19 : decode cX7_lays 19 = .ok (.if_icmp .ge 52, 3) := by decide +kernel
theorem dX7_lays_22 : decode cX7_lays 22 = .ok (.aload_n 0, 1) := by decide +kernel
theorem dX7_lays_23 : decode cX7_lays 23 = .ok (.getfield 32, 3) := by decide +kernel
theorem dX7_lays_26 : decode cX7_lays 26 = .ok (.iload 5, 2) := by decide +kernel
theorem dX7_lays_28 : decode cX7_lays 28 = .ok (.iaload, 1) := by decide +kernel
theorem dX7_lays_29 : decode cX7_lays 29 = .ok (.istore 6, 2) := by decide +kernel
theorem dX7_lays_31 : decode cX7_lays 31 = .ok (.iload 6, 2) := by decide +kernel
theorem dX7_lays_33 : decode cX7_lays 33 = .ok (.iload 4, 2) := by decide +kernel
theorem dX7_lays_35 : decode cX7_lays 35 = .ok (.if_icmp .ge 30, 3) := by decide +kernel
theorem dX7_lays_38 : decode cX7_lays 38 = .ok (.aload_n 0, 1) := by decide +kernel
theorem dX7_lays_39 : decode cX7_lays 39 = .ok (.iload 6, 2) := by decide +kernel
theorem dX7_lays_41 : decode cX7_lays 41 = .ok (.invokevirtual 62, 3) := by decide +kernel
theorem dX7_lays_44 : decode cX7_lays 44 = .ok (.iload_n 1, 1) := by decide +kernel
theorem dX7_lays_45 : decode cX7_lays 45 = .ok (.if_icmp .ne 20, 3) := by decide +kernel
theorem dX7_lays_48 : decode cX7_lays 48 = .ok (.aload_n 0, 1) := by decide +kernel
theorem dX7_lays_49 : decode cX7_lays 49 = .ok (.iload 6, 2) := by decide +kernel
theorem dX7_lays_51 : decode cX7_lays 51 = .ok (.iload_n 2, 1) := by decide +kernel
theorem dX7_lays_52 : decode cX7_lays 52 = .ok (.iload_n 3, 1) := by decide +kernel
theorem dX7_lays_53 : decode cX7_lays 53 = .ok (.invokevirtual 100, 3) := by decide +kernel
theorem dX7_lays_56 : decode cX7_lays 56 = .ok (.ifCond .eq 9, 3) := by decide +kernel
theorem dX7_lays_59 : decode cX7_lays 59 = .ok (.aload_n 0, 1) := by decide +kernel
theorem dX7_lays_60 : decode cX7_lays 60 = .ok (.iload 6, 2) := by decide +kernel
theorem dX7_lays_62 : decode cX7_lays 62 = .ok (.invokevirtual 120, 3) := by decide +kernel
theorem dX7_lays_65 : decode cX7_lays 65 = .ok (.iinc 5 1, 3) := by decide +kernel
theorem dX7_lays_68 : decode cX7_lays 68 = .ok (.goto (-57), 3) := by decide +kernel
theorem dX7_lays_71 : decode cX7_lays 71 = .ok (.return_, 1) := by decide +kernel
theorem dX7_laysAlive_0 : decode cX7_laysAlive 0 = .ok (.aload_n 0, 1) := by decide +kernel
theorem dX7_laysAlive_1 : decode cX7_laysAlive 1 = .ok (.iload_n 1, 1) := by decide +kernel
theorem dX7_laysAlive_2 : decode cX7_laysAlive 2 = .ok (.aload_n 0, 1) := by decide +kernel
theorem dX7_laysAlive_3 : decode cX7_laysAlive 3 = .ok (.getfield 7, 3) := by decide +kernel
theorem dX7_laysAlive_6 : decode cX7_laysAlive 6 = .ok (.iconst 0, 1) := by decide +kernel
theorem dX7_laysAlive_7 : decode cX7_laysAlive 7 = .ok (.iaload, 1) := by decide +kernel
theorem dX7_laysAlive_8 : decode cX7_laysAlive 8 = .ok (.aload_n 0, 1) := by decide +kernel
theorem dX7_laysAlive_9 : decode cX7_laysAlive 9 = .ok (.getfield 7, 3) := by decide +kernel
theorem dX7_laysAlive_12 : decode cX7_laysAlive 12 = .ok (.bipush 7, 2) := by decide +kernel
theorem dX7_laysAlive_14 : decode cX7_laysAlive 14 = .ok (.iload_n 1, 1) := by decide +kernel
theorem dX7_laysAlive_15 : decode cX7_laysAlive 15 = .ok (.iadd, 1) := by decide +kernel
theorem dX7_laysAlive_16 : decode cX7_laysAlive 16 = .ok (.iaload, 1) := by decide +kernel
theorem dX7_laysAlive_17 : decode cX7_laysAlive 17 = .ok (.aload_n 0, 1) := by decide +kernel
theorem dX7_laysAlive_18 : decode cX7_laysAlive 18 = .ok (.getfield 7, 3) := by decide +kernel
theorem dX7_laysAlive_21 : decode cX7_laysAlive 21 = .ok (.iconst 2, 1) := by decide +kernel
theorem dX7_laysAlive_22 : decode cX7_laysAlive 22 = .ok (.iaload, 1) := by decide +kernel
theorem dX7_laysAlive_23 : decode cX7_laysAlive 23 = .ok (.invokevirtual 124, 3) := by decide +kernel
theorem dX7_laysAlive_26 : decode cX7_laysAlive 26 = .ok (.return_, 1) := by decide +kernel
theorem dX7_laysSample_0 : decode cX7_laysSample 0 = .ok (.aload_n 0, 1) := by decide +kernel
theorem dX7_laysSample_1 : decode cX7_laysSample 1 = .ok (.iload_n 1, 1) := by decide +kernel
theorem dX7_laysSample_2 : decode cX7_laysSample 2 = .ok (.invokevirtual 128, 3) := by decide +kernel
theorem dX7_laysSample_5 : decode cX7_laysSample 5 = .ok (.aload_n 0, 1) := by decide +kernel
theorem dX7_laysSample_6 : decode cX7_laysSample 6 = .ok (.aload_n 0, 1) := by decide +kernel
theorem dX7_laysSample_7 : decode cX7_laysSample 7 = .ok (.getfield 7, 3) := by decide +kernel
theorem dX7_laysSample_10 : decode cX7_laysSample 10 = .ok (.iconst 3, 1) := by decide +kernel
theorem dX7_laysSample_11 : decode cX7_laysSample 11 = .ok (.iload_n 1, 1) := by decide +kernel
theorem dX7_laysSample_12 : decode cX7_laysSample 12 = .ok (.iadd, 1) := by decide +kernel
theorem dX7_laysSample_13 : decode cX7_laysSample 13 = .ok (.iaload, 1) := by decide +kernel
theorem dX7_laysSample_14 : decode cX7_laysSample 14 = .ok (.invokevirtual 131, 3) := by decide +kernel
theorem dX7_laysSample_17 : decode cX7_laysSample 17 = .ok (.return_, 1) := by decide +kernel
theorem dX7_placeOf_0 : decode cX7_placeOf 0 = .ok (.iconst 0, 1) := by decide +kernel
theorem dX7_placeOf_1 : decode cX7_placeOf 1 = .ok (.istore_n 2, 1) := by decide +kernel
theorem dX7_placeOf_2 : decode cX7_placeOf 2 = .ok (.iload_n 2, 1) := by decide +kernel
theorem dX7_placeOf_3 : decode cX7_placeOf 3 = .ok (.aload_n 0, 1) := by decide +kernel
theorem dX7_placeOf_4 : decode cX7_placeOf 4 = .ok (.getfield 103, 3) := by decide +kernel
theorem dX7_placeOf_7 : decode cX7_placeOf 7 = .ok (.if_icmp .ge 21, 3) := by decide +kernel
theorem dX7_placeOf_10 : decode cX7_placeOf 10 = .ok (.aload_n 0, 1) := by decide +kernel
theorem dX7_placeOf_11 : decode cX7_placeOf 11 = .ok (.getfield 29, 3) := by decide +kernel
theorem dX7_placeOf_14 : decode cX7_placeOf 14 = .ok (.iload_n 2, 1) := by decide +kernel
theorem dX7_placeOf_15 : decode cX7_placeOf 15 = .ok (.iaload, 1) := by decide +kernel
theorem dX7_placeOf_16 : decode cX7_placeOf 16 = .ok (.iload_n 1, 1) := by decide +kernel
theorem dX7_placeOf_17 : decode cX7_placeOf 17 = .ok (.if_icmp .ne 5, 3) := by decide +kernel
theorem dX7_placeOf_20 : decode cX7_placeOf 20 = .ok (.iload_n 2, 1) := by decide +kernel
theorem dX7_placeOf_21 : decode cX7_placeOf 21 = .ok (.ireturn, 1) := by decide +kernel
theorem dX7_placeOf_22 : decode cX7_placeOf 22 = .ok (.iinc 2 1, 3) := by decide +kernel
theorem dX7_placeOf_25 : decode cX7_placeOf 25 = .ok (.goto (-23), 3) := by decide +kernel
theorem dX7_placeOf_28 : decode cX7_placeOf 28 = .ok (.bipush (-2), 2) := by decide +kernel
theorem dX7_placeOf_30 : decode cX7_placeOf 30 = .ok (.ireturn, 1) := by decide +kernel
theorem dX7_toldOf_0 : decode cX7_toldOf 0 = .ok (.iload_n 1, 1) := by decide +kernel
theorem dX7_toldOf_1 : decode cX7_toldOf 1 = .ok (.iconst (-1), 1) := by decide +kernel
theorem dX7_toldOf_2 : decode cX7_toldOf 2 = .ok (.if_icmp .ne 10, 3) := by decide +kernel
theorem dX7_toldOf_5 : decode cX7_toldOf 5 = .ok (.aload_n 0, 1) := by decide +kernel
theorem dX7_toldOf_6 : decode cX7_toldOf 6 = .ok (.getfield 103, 3) := by decide +kernel
theorem dX7_toldOf_9 : decode cX7_toldOf 9 = .ok (.goto 22, 3) := by decide +kernel
theorem dX7_toldOf_12 : decode cX7_toldOf 12 = .ok (.iload_n 1, 1) := by decide +kernel
theorem dX7_toldOf_13 : decode cX7_toldOf 13 = .ok (.aload_n 0, 1) := by decide +kernel
theorem dX7_toldOf_14 : decode cX7_toldOf 14 = .ok (.getfield 103, 3) := by decide +kernel
theorem dX7_toldOf_17 : decode cX7_toldOf 17 = .ok (.if_icmp .ge 12, 3) := by decide +kernel
theorem dX7_toldOf_20 : decode cX7_toldOf 20 = .ok (.aload_n 0, 1) := by decide +kernel
theorem dX7_toldOf_21 : decode cX7_toldOf 21 = .ok (.getfield 29, 3) := by decide +kernel
theorem dX7_toldOf_24 : decode cX7_toldOf 24 = .ok (.iload_n 1, 1) := by decide +kernel
theorem dX7_toldOf_25 : decode cX7_toldOf 25 = .ok (.iaload, 1) := by decide +kernel
theorem dX7_toldOf_26 : decode cX7_toldOf 26 = .ok (.goto 5, 3) := by decide +kernel
theorem dX7_toldOf_29 : decode cX7_toldOf 29 = .ok (.bipush (-2), 2) := by decide +kernel
theorem dX7_toldOf_31 : decode cX7_toldOf 31 = .ok (.ireturn, 1) := by decide +kernel
theorem dX7_of_0 : decode cX7_of 0 = .ok (.aload_n 0, 1) := by decide +kernel
theorem dX7_of_1 : decode cX7_of 1 = .ok (.iload_n 1, 1) := by decide +kernel
theorem dX7_of_2 : decode cX7_of 2 = .ok (.invokevirtual 66, 3) := by decide +kernel
theorem dX7_of_5 : decode cX7_of 5 = .ok (.ifCond .ne 5, 3) := by decide +kernel
theorem dX7_of_8 : decode cX7_of 8 = .ok (.iconst (-1), 1) := by decide +kernel
theorem dX7_of_9 : decode cX7_of 9 = .ok (.ireturn, 1) := by decide +kernel
theorem dX7_of_10 : decode cX7_of 10 = .ok (.iload_n 2, 1) := by decide +kernel
theorem dX7_of_11 : decode cX7_of 11 = .ok (.tableswitch 130 0 7 #[45, 53, 53, 53, 53, 60, 86, 86], 45) := by decide +kernel
theorem dX7_of_56 : decode cX7_of 56 = .ok (.aload_n 0, 1) := by decide +kernel
theorem dX7_of_57 : decode cX7_of 57 = .ok (.iload_n 1, 1) := by decide +kernel
theorem dX7_of_58 : decode cX7_of 58 = .ok (.invokevirtual 62, 3) := by decide +kernel
theorem dX7_of_61 : decode cX7_of 61 = .ok (.iconst 4, 1) := by decide +kernel
theorem dX7_of_62 : decode cX7_of 62 = .ok (.irem, 1) := by decide +kernel
theorem dX7_of_63 : decode cX7_of 63 = .ok (.ireturn, 1) := by decide +kernel
theorem dX7_of_64 : decode cX7_of 64 = .ok (.aload_n 0, 1) := by decide +kernel
theorem dX7_of_65 : decode cX7_of 65 = .ok (.iload_n 1, 1) := by decide +kernel
theorem dX7_of_66 : decode cX7_of 66 = .ok (.iload_n 2, 1) := by decide +kernel
theorem dX7_of_67 : decode cX7_of 67 = .ok (.invokevirtual 58, 3) := by decide +kernel
theorem dX7_of_70 : decode cX7_of 70 = .ok (.ireturn, 1) := by decide +kernel
theorem dX7_of_71 : decode cX7_of 71 = .ok (.aload_n 0, 1) := by decide +kernel
theorem dX7_of_72 : decode cX7_of 72 = .ok (.iload_n 1, 1) := by decide +kernel
theorem dX7_of_73 : decode cX7_of 73 = .ok (.invokevirtual 70, 3) := by decide +kernel
theorem dX7_of_76 : decode cX7_of 76 = .ok (.ifCond .eq 7, 3) := by decide +kernel
theorem dX7_of_79 : decode cX7_of 79 = .ok (.iconst 0, 1) := by decide +kernel
theorem dX7_of_80 : decode cX7_of 80 = .ok (.goto 16, 3) := by decide +kernel
theorem dX7_of_83 : decode cX7_of 83 = .ok (.aload_n 0, 1) := by decide +kernel
theorem dX7_of_84 : decode cX7_of 84 = .ok (.iload_n 1, 1) := by decide +kernel
theorem dX7_of_85 : decode cX7_of 85 = .ok (.invokevirtual 134, 3) := by decide +kernel
theorem dX7_of_88 : decode cX7_of 88 = .ok (.ifCond .eq 7, 3) := by decide +kernel
theorem dX7_of_91 : decode cX7_of 91 = .ok (.iconst 2, 1) := by decide +kernel
theorem dX7_of_92 : decode cX7_of 92 = .ok (.goto 4, 3) := by decide +kernel
theorem dX7_of_95 : decode cX7_of 95 = .ok (.iconst 1, 1) := by decide +kernel
theorem dX7_of_96 : decode cX7_of 96 = .ok (.ireturn, 1) := by decide +kernel
theorem dX7_of_97 : decode cX7_of 97 = .ok (.aload_n 0, 1) := by decide +kernel
theorem dX7_of_98 : decode cX7_of 98 = .ok (.iload_n 1, 1) := by decide +kernel
theorem dX7_of_99 : decode cX7_of 99 = .ok (.invokevirtual 70, 3) := by decide +kernel
theorem dX7_of_102 : decode cX7_of 102 = .ok (.ifCond .eq 6, 3) := by decide +kernel
theorem dX7_of_105 : decode cX7_of 105 = .ok (.bipush (-2), 2) := by decide +kernel
theorem dX7_of_107 : decode cX7_of 107 = .ok (.ireturn, 1) := by decide +kernel
theorem dX7_of_108 : decode cX7_of 108 = .ok (.iload_n 2, 1) := by decide +kernel
theorem dX7_of_109 : decode cX7_of 109 = .ok (.bipush 6, 2) := by decide +kernel
theorem dX7_of_111 : decode cX7_of 111 = .ok (.if_icmp .ne 15, 3) := by decide +kernel
theorem dX7_of_114 : decode cX7_of 114 = .ok (.aload_n 0, 1) := by decide +kernel
theorem dX7_of_115 : decode cX7_of 115 = .ok (.aload_n 0, 1) := by decide +kernel
theorem dX7_of_116 : decode cX7_of 116 = .ok (.iload_n 1, 1) := by decide +kernel
theorem dX7_of_117 : decode cX7_of 117 = .ok (.invokevirtual 62, 3) := by decide +kernel
theorem dX7_of_120 : decode cX7_of 120 = .ok (.invokevirtual 137, 3) := by decide +kernel
theorem dX7_of_123 : decode cX7_of 123 = .ok (.goto 12, 3) := by decide +kernel
theorem dX7_of_126 : decode cX7_of 126 = .ok (.aload_n 0, 1) := by decide +kernel
theorem dX7_of_127 : decode cX7_of 127 = .ok (.aload_n 0, 1) := by decide +kernel
theorem dX7_of_128 : decode cX7_of 128 = .ok (.iload_n 1, 1) := by decide +kernel
theorem dX7_of_129 : decode cX7_of 129 = .ok (.invokevirtual 62, 3) := by decide +kernel
theorem dX7_of_132 : decode cX7_of 132 = .ok (.invokevirtual 128, 3) := by decide +kernel
theorem dX7_of_135 : decode cX7_of 135 = .ok (.aload_n 0, 1) := by decide +kernel
theorem dX7_of_136 : decode cX7_of 136 = .ok (.iload_n 1, 1) := by decide +kernel
theorem dX7_of_137 : decode cX7_of 137 = .ok (.invokevirtual 140, 3) := by decide +kernel
theorem dX7_of_140 : decode cX7_of 140 = .ok (.ireturn, 1) := by decide +kernel
theorem dX7_of_141 : decode cX7_of 141 = .ok (.iconst (-1), 1) := by decide +kernel
theorem dX7_of_142 : decode cX7_of 142 = .ok (.ireturn, 1) := by decide +kernel
theorem dX7_sample_0 : decode cX7_sample 0 = .ok (.iload_n 1, 1) := by decide +kernel
theorem dX7_sample_1 : decode cX7_sample 1 = .ok (.invokestatic 143, 3) := by decide +kernel
theorem dX7_sample_4 : decode cX7_sample 4 = .ok (.ifCond .eq 8, 3) := by decide +kernel
theorem dX7_sample_7 : decode cX7_sample 7 = .ok (.iload_n 2, 1) := by decide +kernel
theorem dX7_sample_8 : decode cX7_sample 8 = .ok (.iconst (-1), 1) := by decide +kernel
theorem dX7_sample_9 : decode cX7_sample 9 = .ok (.if_icmp .ge 5, 3) := by decide +kernel
theorem dX7_sample_12 : decode cX7_sample 12 = .ok (.iconst (-1), 1) := by decide +kernel
theorem dX7_sample_13 : decode cX7_sample 13 = .ok (.ireturn, 1) := by decide +kernel
theorem dX7_sample_14 : decode cX7_sample 14 = .ok (.aload_n 0, 1) := by decide +kernel
theorem dX7_sample_15 : decode cX7_sample 15 = .ok (.iload_n 1, 1) := by decide +kernel
theorem dX7_sample_16 : decode cX7_sample 16 = .ok (.invokevirtual 137, 3) := by decide +kernel
theorem dX7_sample_19 : decode cX7_sample 19 = .ok (.aload_n 0, 1) := by decide +kernel
theorem dX7_sample_20 : decode cX7_sample 20 = .ok (.iload_n 2, 1) := by decide +kernel
theorem dX7_sample_21 : decode cX7_sample 21 = .ok (.invokevirtual 146, 3) := by decide +kernel
theorem dX7_sample_24 : decode cX7_sample 24 = .ok (.ireturn, 1) := by decide +kernel
theorem dX7_laysMerged_0 : decode cX7_laysMerged 0 = .ok (.iload_n 1, 1) := by decide +kernel
theorem dX7_laysMerged_1 : decode cX7_laysMerged 1 = .ok (.i2l, 1) := by decide +kernel
theorem dX7_laysMerged_2 : decode cX7_laysMerged 2 = .ok (.lconst 1, 1) := by decide +kernel
theorem dX7_laysMerged_3 : decode cX7_laysMerged 3 = .ok (.ldc2_w 149, 3) := by decide +kernel
theorem dX7_laysMerged_6 : decode cX7_laysMerged 6 = .ok (.invokestatic 54, 3) := by decide +kernel
theorem dX7_laysMerged_9 : decode cX7_laysMerged 9 = .ok (.ifCond .eq 15, 3) := by decide +kernel
theorem dX7_laysMerged_12 : decode cX7_laysMerged 12 = .ok (.iload_n 2, 1) := by decide +kernel
theorem dX7_laysMerged_13 : decode cX7_laysMerged 13 = .ok (.i2l, 1) := by decide +kernel
theorem dX7_laysMerged_14 : decode cX7_laysMerged 14 = .ok (.lconst 1, 1) := by decide +kernel
theorem dX7_laysMerged_15 : decode cX7_laysMerged 15 = .ok (.ldc2_w 151, 3) := by decide +kernel
theorem dX7_laysMerged_18 : decode cX7_laysMerged 18 = .ok (.invokestatic 54, 3) := by decide +kernel
theorem dX7_laysMerged_21 : decode cX7_laysMerged 21 = .ok (.ifCond .ne 5, 3) := by decide +kernel
theorem dX7_laysMerged_24 : decode cX7_laysMerged 24 = .ok (.iconst 0, 1) := by decide +kernel
theorem dX7_laysMerged_25 : decode cX7_laysMerged 25 = .ok (.ireturn, 1) := by decide +kernel
theorem dX7_laysMerged_26 : decode cX7_laysMerged 26 = .ok (.aload_n 0, 1) := by decide +kernel
theorem dX7_laysMerged_27 : decode cX7_laysMerged 27 = .ok (.invokevirtual 115, 3) := by decide +kernel
theorem dX7_laysMerged_30 : decode cX7_laysMerged 30 = .ok (.aload_n 0, 1) := by decide +kernel
theorem dX7_laysMerged_31 : decode cX7_laysMerged 31 = .ok (.invokevirtual 118, 3) := by decide +kernel
theorem dX7_laysMerged_34 : decode cX7_laysMerged 34 = .ok (.iconst 0, 1) := by decide +kernel
theorem dX7_laysMerged_35 : decode cX7_laysMerged 35 = .ok (.istore_n 3, 1) := by decide +kernel
theorem dX7_laysMerged_36 : decode cX7_laysMerged 36 = .ok (.iload_n 3, 1) := by decide +kernel
theorem dX7_laysMerged_37 : decode cX7_laysMerged 37 = .ok (.aload_n 0, 1) := by decide +kernel
theorem dX7_laysMerged_38 : decode cX7_laysMerged 38 = .ok (.getfield 7, 3) := by decide +kernel
theorem dX7_laysMerged_41 : decode cX7_laysMerged 41 = .ok (.iconst 2, 1) := by decide +kernel
theorem dX7_laysMerged_42 : decode cX7_laysMerged 42 = .ok (.iaload, 1) := by decide +kernel
theorem dX7_laysMerged_43 : decode cX7_laysMerged 43 = .ok (.if_icmp .ge 55, 3) := by decide +kernel
theorem dX7_laysMerged_46 : decode cX7_laysMerged 46 = .ok (.aload_n 0, 1) := by decide +kernel
theorem dX7_laysMerged_47 : decode cX7_laysMerged 47 = .ok (.getfield 32, 3) := by decide +kernel
theorem dX7_laysMerged_50 : decode cX7_laysMerged 50 = .ok (.iload_n 3, 1) := by decide +kernel
theorem dX7_laysMerged_51 : decode cX7_laysMerged 51 = .ok (.iaload, 1) := by decide +kernel
theorem dX7_laysMerged_52 : decode cX7_laysMerged 52 = .ok (.istore 4, 2) := by decide +kernel
theorem dX7_laysMerged_54 : decode cX7_laysMerged 54 = .ok (.aload_n 0, 1) := by decide +kernel
theorem dX7_laysMerged_55 : decode cX7_laysMerged 55 = .ok (.iload 4, 2) := by decide +kernel
theorem dX7_laysMerged_57 : decode cX7_laysMerged 57 = .ok (.invokevirtual 70, 3) := by decide +kernel
theorem dX7_laysMerged_60 : decode cX7_laysMerged 60 = .ok (.ifCond .ne 32, 3) := by decide +kernel
theorem dX7_laysMerged_63 : decode cX7_laysMerged 63 = .ok (.iload_n 1, 1) := by decide +kernel
theorem dX7_laysMerged_64 : decode cX7_laysMerged 64 = .ok (.aload_n 0, 1) := by decide +kernel
theorem dX7_laysMerged_65 : decode cX7_laysMerged 65 = .ok (.iload 4, 2) := by decide +kernel
theorem dX7_laysMerged_67 : decode cX7_laysMerged 67 = .ok (.invokevirtual 62, 3) := by decide +kernel
theorem dX7_laysMerged_70 : decode cX7_laysMerged 70 = .ok (.ishr, 1) := by decide +kernel
theorem dX7_laysMerged_71 : decode cX7_laysMerged 71 = .ok (.iconst 1, 1) := by decide +kernel
theorem dX7_laysMerged_72 : decode cX7_laysMerged 72 = .ok (.iand, 1) := by decide +kernel
theorem dX7_laysMerged_73 : decode cX7_laysMerged 73 = .ok (.iconst 1, 1) := by decide +kernel
theorem dX7_laysMerged_74 : decode cX7_laysMerged 74 = .ok (.if_icmp .ne 18, 3) := by decide +kernel
theorem dX7_laysMerged_77 : decode cX7_laysMerged 77 = .ok (.aload_n 0, 1) := by decide +kernel
theorem dX7_laysMerged_78 : decode cX7_laysMerged 78 = .ok (.iload 4, 2) := by decide +kernel
theorem dX7_laysMerged_80 : decode cX7_laysMerged 80 = .ok (.invokevirtual 134, 3) := by decide +kernel
theorem dX7_laysMerged_83 : decode cX7_laysMerged 83 = .ok (.ifCond .eq 9, 3) := by decide +kernel
theorem dX7_laysMerged_86 : decode cX7_laysMerged 86 = .ok (.aload_n 0, 1) := by decide +kernel
theorem dX7_laysMerged_87 : decode cX7_laysMerged 87 = .ok (.iload 4, 2) := by decide +kernel
theorem dX7_laysMerged_89 : decode cX7_laysMerged 89 = .ok (.invokevirtual 120, 3) := by decide +kernel
theorem dX7_laysMerged_92 : decode cX7_laysMerged 92 = .ok (.iinc 3 1, 3) := by decide +kernel
theorem dX7_laysMerged_95 : decode cX7_laysMerged 95 = .ok (.goto (-59), 3) := by decide +kernel
theorem dX7_laysMerged_98 : decode cX7_laysMerged 98 = .ok (.aload_n 0, 1) := by decide +kernel
theorem dX7_laysMerged_99 : decode cX7_laysMerged 99 = .ok (.iload_n 2, 1) := by decide +kernel
theorem dX7_laysMerged_100 : decode cX7_laysMerged 100 = .ok (.invokevirtual 131, 3) := by decide +kernel
theorem dX7_laysMerged_103 : decode cX7_laysMerged 103 = .ok (.iconst 1, 1) := by decide +kernel
theorem dX7_laysMerged_104 : decode cX7_laysMerged 104 = .ok (.ireturn, 1) := by decide +kernel
theorem dX7_merged_0 : decode cX7_merged 0 = .ok (.iload_n 3, 1) := by decide +kernel
theorem dX7_merged_1 : decode cX7_merged 1 = .ok (.iconst (-1), 1) := by decide +kernel
theorem dX7_merged_2 : decode cX7_merged 2 = .ok (.if_icmp .lt 20, 3) := by decide +kernel
theorem dX7_merged_5 : decode cX7_merged 5 = .ok (.aload_n 0, 1) := by decide +kernel
theorem dX7_merged_6 : decode cX7_merged 6 = .ok (.iload_n 1, 1) := by decide +kernel
theorem dX7_merged_7 : decode cX7_merged 7 = .ok (.iload_n 2, 1) := by decide +kernel
theorem dX7_merged_8 : decode cX7_merged 8 = .ok (.invokevirtual 153, 3) := by decide +kernel
theorem dX7_merged_11 : decode cX7_merged 11 = .ok (.ifCond .eq 11, 3) := by decide +kernel
theorem dX7_merged_14 : decode cX7_merged 14 = .ok (.aload_n 0, 1) := by decide +kernel
theorem dX7_merged_15 : decode cX7_merged 15 = .ok (.iload_n 3, 1) := by decide +kernel
theorem dX7_merged_16 : decode cX7_merged 16 = .ok (.invokevirtual 146, 3) := by decide +kernel
theorem dX7_merged_19 : decode cX7_merged 19 = .ok (.goto 4, 3) := by decide +kernel
theorem dX7_merged_22 : decode cX7_merged 22 = .ok (.iconst (-1), 1) := by decide +kernel
theorem dX7_merged_23 : decode cX7_merged 23 = .ok (.ireturn, 1) := by decide +kernel
theorem dX7_partOf_0 : decode cX7_partOf 0 = .ok (.iload_n 3, 1) := by decide +kernel
theorem dX7_partOf_1 : decode cX7_partOf 1 = .ok (.invokestatic 143, 3) := by decide +kernel
theorem dX7_partOf_4 : decode cX7_partOf 4 = .ok (.ifCond .eq 12, 3) := by decide +kernel
theorem dX7_partOf_7 : decode cX7_partOf 7 = .ok (.aload_n 0, 1) := by decide +kernel
theorem dX7_partOf_8 : decode cX7_partOf 8 = .ok (.iload_n 1, 1) := by decide +kernel
theorem dX7_partOf_9 : decode cX7_partOf 9 = .ok (.iload_n 2, 1) := by decide +kernel
theorem dX7_partOf_10 : decode cX7_partOf 10 = .ok (.invokevirtual 153, 3) := by decide +kernel
theorem dX7_partOf_13 : decode cX7_partOf 13 = .ok (.ifCond .ne 5, 3) := by decide +kernel
theorem dX7_partOf_16 : decode cX7_partOf 16 = .ok (.iconst (-1), 1) := by decide +kernel
theorem dX7_partOf_17 : decode cX7_partOf 17 = .ok (.ireturn, 1) := by decide +kernel
theorem dX7_partOf_18 : decode cX7_partOf 18 = .ok (.iconst 0, 1) := by decide +kernel
theorem dX7_partOf_19 : decode cX7_partOf 19 = .ok (.istore 4, 2) := by decide +kernel
theorem dX7_partOf_21 : decode cX7_partOf 21 = .ok (.iconst 0, 1) := by decide +kernel
theorem dX7_partOf_22 : decode cX7_partOf 22 = .ok (.istore 5, 2) := by decide +kernel
theorem dX7_partOf_24 : decode cX7_partOf 24 = .ok (.iload 5, 2) := by decide +kernel
theorem dX7_partOf_26 : decode cX7_partOf 26 = .ok (.aload_n 0, 1) := by decide +kernel
theorem dX7_partOf_27 : decode cX7_partOf 27 = .ok (.getfield 103, 3) := by decide +kernel
theorem dX7_partOf_30 : decode cX7_partOf 30 = .ok (.if_icmp .ge 34, 3) := by decide +kernel
theorem dX7_partOf_33 : decode cX7_partOf 33 = .ok (.iload 4, 2) := by decide +kernel
theorem dX7_partOf_35 : decode cX7_partOf 35 = .ok (.aload_n 0, 1) := by decide +kernel
theorem dX7_partOf_36 : decode cX7_partOf 36 = .ok (.aload_n 0, 1) := by decide +kernel
theorem dX7_partOf_37 : decode cX7_partOf 37 = .ok (.getfield 29, 3) := by decide +kernel
theorem dX7_partOf_40 : decode cX7_partOf 40 = .ok (.iload 5, 2) := by decide +kernel
theorem dX7_partOf_42 : decode cX7_partOf 42 = .ok (.iaload, 1) := by decide +kernel
theorem dX7_partOf_43 : decode cX7_partOf 43 = .ok (.invokevirtual 62, 3) := by decide +kernel
theorem dX7_partOf_46 : decode cX7_partOf 46 = .ok (.iload_n 3, 1) := by decide +kernel
theorem dX7_partOf_47 : decode cX7_partOf 47 = .ok (.if_icmp .ne 7, 3) := by decide +kernel
theorem dX7_partOf_50 : decode cX7_partOf 50 = .ok (.iconst 1, 1) := by decide +kernel
theorem dX7_partOf_51 : decode cX7_partOf 51 = .ok (.goto 4, 3) := by decide +kernel
theorem dX7_partOf_54 : decode cX7_partOf 54 = .ok (.iconst 0, 1) := by decide +kernel
theorem dX7_partOf_55 : decode cX7_partOf 55 = .ok (.iadd, 1) := by decide +kernel
theorem dX7_partOf_56 : decode cX7_partOf 56 = .ok (.istore 4, 2) := by decide +kernel
theorem dX7_partOf_58 : decode cX7_partOf 58 = .ok (.iinc 5 1, 3) := by decide +kernel
theorem dX7_partOf_61 : decode cX7_partOf 61 = .ok (.goto (-37), 3) := by decide +kernel
theorem dX7_partOf_64 : decode cX7_partOf 64 = .ok (.iload 4, 2) := by decide +kernel
theorem dX7_partOf_66 : decode cX7_partOf 66 = .ok (.ireturn, 1) := by decide +kernel
theorem dX7_labelled_0 : decode cX7_labelled 0 = .ok (.iconst 0, 1) := by decide +kernel
theorem dX7_labelled_1 : decode cX7_labelled 1 = .ok (.istore_n 2, 1) := by decide +kernel
theorem dX7_labelled_2 : decode cX7_labelled 2 = .ok (.iconst 0, 1) := by decide +kernel
theorem dX7_labelled_3 : decode cX7_labelled 3 = .ok (.istore_n 3, 1) := by decide +kernel
theorem dX7_labelled_4 : decode cX7_labelled 4 = .ok (.iload_n 3, 1) := by decide +kernel
theorem dX7_labelled_5 : decode cX7_labelled 5 = .ok (.aload_n 0, 1) := by decide +kernel
theorem dX7_labelled_6 : decode cX7_labelled 6 = .ok (.getfield 103, 3) := by decide +kernel
theorem dX7_labelled_9 : decode cX7_labelled 9 = .ok (.if_icmp .ge 32, 3) := by decide +kernel
theorem dX7_labelled_12 : decode cX7_labelled 12 = .ok (.iload_n 2, 1) := by decide +kernel
theorem dX7_labelled_13 : decode cX7_labelled 13 = .ok (.aload_n 0, 1) := by decide +kernel
theorem dX7_labelled_14 : decode cX7_labelled 14 = .ok (.aload_n 0, 1) := by decide +kernel
theorem dX7_labelled_15 : decode cX7_labelled 15 = .ok (.getfield 29, 3) := by decide +kernel
theorem dX7_labelled_18 : decode cX7_labelled 18 = .ok (.iload_n 3, 1) := by decide +kernel
theorem dX7_labelled_19 : decode cX7_labelled 19 = .ok (.iaload, 1) := by decide +kernel
theorem dX7_labelled_20 : decode cX7_labelled 20 = .ok (.iconst 1, 1) := by decide +kernel
theorem dX7_labelled_21 : decode cX7_labelled 21 = .ok (.invokevirtual 58, 3) := by decide +kernel
theorem dX7_labelled_24 : decode cX7_labelled 24 = .ok (.iload_n 1, 1) := by decide +kernel
theorem dX7_labelled_25 : decode cX7_labelled 25 = .ok (.if_icmp .ne 7, 3) := by decide +kernel
theorem dX7_labelled_28 : decode cX7_labelled 28 = .ok (.iconst 1, 1) := by decide +kernel
theorem dX7_labelled_29 : decode cX7_labelled 29 = .ok (.goto 4, 3) := by decide +kernel
theorem dX7_labelled_32 : decode cX7_labelled 32 = .ok (.iconst 0, 1) := by decide +kernel
theorem dX7_labelled_33 : decode cX7_labelled 33 = .ok (.iadd, 1) := by decide +kernel
theorem dX7_labelled_34 : decode cX7_labelled 34 = .ok (.istore_n 2, 1) := by decide +kernel
theorem dX7_labelled_35 : decode cX7_labelled 35 = .ok (.iinc 3 1, 3) := by decide +kernel
theorem dX7_labelled_38 : decode cX7_labelled 38 = .ok (.goto (-34), 3) := by decide +kernel
theorem dX7_labelled_41 : decode cX7_labelled 41 = .ok (.iload_n 2, 1) := by decide +kernel
theorem dX7_labelled_42 : decode cX7_labelled 42 = .ok (.ireturn, 1) := by decide +kernel
theorem dX7_capped_0 : decode cX7_capped 0 = .ok (.iload_n 1, 1) := by decide +kernel
theorem dX7_capped_1 : decode cX7_capped 1 = .ok (.invokestatic 143, 3) := by decide +kernel
theorem dX7_capped_4 : decode cX7_capped 4 = .ok (.ifCond .eq 20, 3) := by decide +kernel
theorem dX7_capped_7 : decode cX7_capped 7 = .ok (.iload_n 2, 1) := by decide +kernel
theorem dX7_capped_8 : decode cX7_capped 8 = .ok (.i2l, 1) := by decide +kernel
theorem dX7_capped_9 : decode cX7_capped 9 = .ok (.lconst 1, 1) := by decide +kernel
theorem dX7_capped_10 : decode cX7_capped 10 = .ok (.ldc2_w 156, 3) := by decide +kernel
theorem dX7_capped_13 : decode cX7_capped 13 = .ok (.invokestatic 54, 3) := by decide +kernel
theorem dX7_capped_16 : decode cX7_capped 16 = .ok (.ifCond .eq 8, 3) := by decide +kernel
theorem dX7_capped_19 : decode cX7_capped 19 = .ok (.iload_n 3, 1) := by decide +kernel
theorem dX7_capped_20 : decode cX7_capped 20 = .ok (.iconst (-1), 1) := by decide +kernel
theorem dX7_capped_21 : decode cX7_capped 21 = .ok (.if_icmp .ge 5, 3) := by decide +kernel
theorem dX7_capped_24 : decode cX7_capped 24 = .ok (.iconst (-1), 1) := by decide +kernel
theorem dX7_capped_25 : decode cX7_capped 25 = .ok (.ireturn, 1) := by decide +kernel
theorem dX7_capped_26 : decode cX7_capped 26 = .ok (.aload_n 0, 1) := by decide +kernel
theorem dX7_capped_27 : decode cX7_capped 27 = .ok (.iload_n 1, 1) := by decide +kernel
theorem dX7_capped_28 : decode cX7_capped 28 = .ok (.invokevirtual 128, 3) := by decide +kernel
theorem dX7_capped_31 : decode cX7_capped 31 = .ok (.aload_n 0, 1) := by decide +kernel
theorem dX7_capped_32 : decode cX7_capped 32 = .ok (.getfield 103, 3) := by decide +kernel
theorem dX7_capped_35 : decode cX7_capped 35 = .ok (.istore 4, 2) := by decide +kernel
theorem dX7_capped_37 : decode cX7_capped 37 = .ok (.aload_n 0, 1) := by decide +kernel
theorem dX7_capped_38 : decode cX7_capped 38 = .ok (.iconst 0, 1) := by decide +kernel
theorem dX7_capped_39 : decode cX7_capped 39 = .ok (.putfield 103, 3) := by decide +kernel
theorem dX7_capped_42 : decode cX7_capped 42 = .ok (.iconst 0, 1) := by decide +kernel
theorem dX7_capped_43 : decode cX7_capped 43 = .ok (.istore 5, 2) := by decide +kernel
theorem dX7_capped_45 : decode cX7_capped 45 = .ok (.iload 5, 2) := by decide +kernel
theorem dX7_capped_47 : decode cX7_capped 47 = .ok (.iload 4, 2) := by decide +kernel
theorem dX7_capped_49 : decode cX7_capped 49 = .ok (.if_icmp .ge 72, 3) := by decide +kernel
theorem dX7_capped_52 : decode cX7_capped 52 = .ok (.aload_n 0, 1) := by decide +kernel
theorem dX7_capped_53 : decode cX7_capped 53 = .ok (.getfield 103, 3) := by decide +kernel
theorem dX7_capped_56 : decode cX7_capped 56 = .ok (.aload_n 0, 1) := by decide +kernel
theorem dX7_capped_57 : decode cX7_capped 57 = .ok (.getfield 7, 3) := by decide +kernel
theorem dX7_capped_60 : decode cX7_capped 60 = .ok (.iconst 3, 1) := by decide +kernel
theorem dX7_capped_61 : decode cX7_capped 61 = .ok (.iload_n 1, 1) := by decide +kernel
theorem dX7_capped_62 : decode cX7_capped 62 = .ok (.iadd, 1) := by decide +kernel
theorem dX7_capped_63 : decode cX7_capped 63 = .ok (.iaload, 1) := by decide +kernel
theorem dX7_capped_64 : decode cX7_capped 64 = .ok (.if_icmp .ge 57, 3) := by decide +kernel
theorem dX7_capped_67 : decode cX7_capped 67 = .ok (.aload_n 0, 1) := by decide +kernel
theorem dX7_capped_68 : decode cX7_capped 68 = .ok (.getfield 29, 3) := by decide +kernel
theorem dX7_capped_71 : decode cX7_capped 71 = .ok (.iload 5, 2) := by decide +kernel
theorem dX7_capped_73 : decode cX7_capped 73 = .ok (.iaload, 1) := by decide +kernel
theorem dX7_capped_74 : decode cX7_capped 74 = .ok (.istore 6, 2) := by decide +kernel
theorem dX7_capped_76 : decode cX7_capped 76 = .ok (.aload_n 0, 1) := by decide +kernel
theorem dX7_capped_77 : decode cX7_capped 77 = .ok (.aload_n 0, 1) := by decide +kernel
theorem dX7_capped_78 : decode cX7_capped 78 = .ok (.iload 6, 2) := by decide +kernel
theorem dX7_capped_80 : decode cX7_capped 80 = .ok (.iconst 1, 1) := by decide +kernel
theorem dX7_capped_81 : decode cX7_capped 81 = .ok (.invokevirtual 58, 3) := by decide +kernel
theorem dX7_capped_84 : decode cX7_capped 84 = .ok (.invokevirtual 158, 3) := by decide +kernel
theorem dX7_capped_87 : decode cX7_capped 87 = .ok (.iload_n 2, 1) := by decide +kernel
theorem dX7_capped_88 : decode cX7_capped 88 = .ok (.if_icmp .ne 6, 3) := by decide +kernel
theorem dX7_capped_91 : decode cX7_capped 91 = .ok (.goto 24, 3) := by decide +kernel
theorem dX7_capped_94 : decode cX7_capped 94 = .ok (.aload_n 0, 1) := by decide +kernel
theorem dX7_capped_95 : decode cX7_capped 95 = .ok (.getfield 29, 3) := by decide +kernel
theorem dX7_capped_98 : decode cX7_capped 98 = .ok (.aload_n 0, 1) := by decide +kernel
theorem dX7_capped_99 : decode cX7_capped 99 = .ok (.getfield 103, 3) := by decide +kernel
theorem dX7_capped_102 : decode cX7_capped 102 = .ok (.iload 6, 2) := by decide +kernel
theorem dX7_capped_104 : decode cX7_capped 104 = .ok (.iastore, 1) := by decide +kernel
theorem dX7_capped_105 : decode cX7_capped 105 = .ok (.aload_n 0, 1) := by decide +kernel
theorem dX7_capped_106 : decode cX7_capped 106 = .ok (.dup, 1) := by decide +kernel
theorem dX7_capped_107 : decode cX7_capped 107 = .ok (.getfield 103, 3) := by decide +kernel
theorem dX7_capped_110 : decode cX7_capped 110 = .ok (.iconst 1, 1) := by decide +kernel
theorem dX7_capped_111 : decode cX7_capped 111 = .ok (.iadd, 1) := by decide +kernel
theorem dX7_capped_112 : decode cX7_capped 112 = .ok (.putfield 103, 3) := by decide +kernel
theorem dX7_capped_115 : decode cX7_capped 115 = .ok (.iinc 5 1, 3) := by decide +kernel
theorem dX7_capped_118 : decode cX7_capped 118 = .ok (.goto (-73), 3) := by decide +kernel
theorem dX7_capped_121 : decode cX7_capped 121 = .ok (.aload_n 0, 1) := by decide +kernel
theorem dX7_capped_122 : decode cX7_capped 122 = .ok (.iload_n 3, 1) := by decide +kernel
theorem dX7_capped_123 : decode cX7_capped 123 = .ok (.invokevirtual 146, 3) := by decide +kernel
theorem dX7_capped_126 : decode cX7_capped 126 = .ok (.ireturn, 1) := by decide +kernel
theorem dX7_last_0 : decode cX7_last 0 = .ok (.iload_n 1, 1) := by decide +kernel
theorem dX7_last_1 : decode cX7_last 1 = .ok (.invokestatic 143, 3) := by decide +kernel
theorem dX7_last_4 : decode cX7_last 4 = .ok (.ifCond .ne 5, 3) := by decide +kernel
theorem dX7_last_7 : decode cX7_last 7 = .ok (.iconst (-1), 1) := by decide +kernel
theorem dX7_last_8 : decode cX7_last 8 = .ok (.ireturn, 1) := by decide +kernel
theorem dX7_last_9 : decode cX7_last 9 = .ok (.aload_n 0, 1) := by decide +kernel
theorem dX7_last_10 : decode cX7_last 10 = .ok (.iload_n 1, 1) := by decide +kernel
theorem dX7_last_11 : decode cX7_last 11 = .ok (.invokevirtual 137, 3) := by decide +kernel
theorem dX7_last_14 : decode cX7_last 14 = .ok (.aload_n 0, 1) := by decide +kernel
theorem dX7_last_15 : decode cX7_last 15 = .ok (.getfield 103, 3) := by decide +kernel
theorem dX7_last_18 : decode cX7_last 18 = .ok (.aload_n 0, 1) := by decide +kernel
theorem dX7_last_19 : decode cX7_last 19 = .ok (.getfield 7, 3) := by decide +kernel
theorem dX7_last_22 : decode cX7_last 22 = .ok (.iconst 3, 1) := by decide +kernel
theorem dX7_last_23 : decode cX7_last 23 = .ok (.iload_n 1, 1) := by decide +kernel
theorem dX7_last_24 : decode cX7_last 24 = .ok (.iadd, 1) := by decide +kernel
theorem dX7_last_25 : decode cX7_last 25 = .ok (.iaload, 1) := by decide +kernel
theorem dX7_last_26 : decode cX7_last 26 = .ok (.if_icmp .ge 8, 3) := by decide +kernel
theorem dX7_last_29 : decode cX7_last 29 = .ok (.bipush (-2), 2) := by decide +kernel
theorem dX7_last_31 : decode cX7_last 31 = .ok (.goto 14, 3) := by decide +kernel
theorem dX7_last_34 : decode cX7_last 34 = .ok (.aload_n 0, 1) := by decide +kernel
theorem dX7_last_35 : decode cX7_last 35 = .ok (.getfield 29, 3) := by decide +kernel
theorem dX7_last_38 : decode cX7_last 38 = .ok (.aload_n 0, 1) := by decide +kernel
theorem dX7_last_39 : decode cX7_last 39 = .ok (.getfield 103, 3) := by decide +kernel
theorem dX7_last_42 : decode cX7_last 42 = .ok (.iconst 1, 1) := by decide +kernel
theorem dX7_last_43 : decode cX7_last 43 = .ok (.isub, 1) := by decide +kernel
theorem dX7_last_44 : decode cX7_last 44 = .ok (.iaload, 1) := by decide +kernel
theorem dX7_last_45 : decode cX7_last 45 = .ok (.ireturn, 1) := by decide +kernel
theorem dX7_wouldBeIn_0 : decode cX7_wouldBeIn 0 = .ok (.aload_n 0, 1) := by decide +kernel
theorem dX7_wouldBeIn_1 : decode cX7_wouldBeIn 1 = .ok (.getfield 103, 3) := by decide +kernel
theorem dX7_wouldBeIn_4 : decode cX7_wouldBeIn 4 = .ok (.aload_n 0, 1) := by decide +kernel
theorem dX7_wouldBeIn_5 : decode cX7_wouldBeIn 5 = .ok (.getfield 7, 3) := by decide +kernel
theorem dX7_wouldBeIn_8 : decode cX7_wouldBeIn 8 = .ok (.iconst 3, 1) := by decide +kernel
theorem dX7_wouldBeIn_9 : decode cX7_wouldBeIn 9 = .ok (.iload_n 1, 1) := by decide +kernel
theorem dX7_wouldBeIn_10 : decode cX7_wouldBeIn 10 = .ok (.iadd, 1) := by decide +kernel
theorem dX7_wouldBeIn_11 : decode cX7_wouldBeIn 11 = .ok (.iaload, 1) := by decide +kernel
theorem dX7_wouldBeIn_12 : decode cX7_wouldBeIn 12 = .ok (.if_icmp .lt 25, 3) := by decide +kernel
theorem dX7_wouldBeIn_15 : decode cX7_wouldBeIn 15 = .ok (.aload_n 0, 1) := by decide +kernel
theorem dX7_wouldBeIn_16 : decode cX7_wouldBeIn 16 = .ok (.bipush 100, 2) := by decide +kernel
theorem dX7_wouldBeIn_18 : decode cX7_wouldBeIn 18 = .ok (.iload_n 2, 1) := by decide +kernel
theorem dX7_wouldBeIn_19 : decode cX7_wouldBeIn 19 = .ok (.iload_n 3, 1) := by decide +kernel
theorem dX7_wouldBeIn_20 : decode cX7_wouldBeIn 20 = .ok (.aload_n 0, 1) := by decide +kernel
theorem dX7_wouldBeIn_21 : decode cX7_wouldBeIn 21 = .ok (.getfield 29, 3) := by decide +kernel
theorem dX7_wouldBeIn_24 : decode cX7_wouldBeIn 24 = .ok (.aload_n 0, 1) := by decide +kernel
theorem dX7_wouldBeIn_25 : decode cX7_wouldBeIn 25 = .ok (.getfield 103, 3) := by decide +kernel
theorem dX7_wouldBeIn_28 : decode cX7_wouldBeIn 28 = .ok (.iconst 1, 1) := by decide +kernel
theorem dX7_wouldBeIn_29 : decode cX7_wouldBeIn 29 = .ok (.isub, 1) := by decide +kernel
theorem dX7_wouldBeIn_30 : decode cX7_wouldBeIn 30 = .ok (.iaload, 1) := by decide +kernel
theorem dX7_wouldBeIn_31 : decode cX7_wouldBeIn 31 = .ok (.invokevirtual 90, 3) := by decide +kernel
theorem dX7_wouldBeIn_34 : decode cX7_wouldBeIn 34 = .ok (.ifCond .eq 7, 3) := by decide +kernel
theorem dX7_wouldBeIn_37 : decode cX7_wouldBeIn 37 = .ok (.iconst 1, 1) := by decide +kernel
theorem dX7_wouldBeIn_38 : decode cX7_wouldBeIn 38 = .ok (.goto 4, 3) := by decide +kernel
theorem dX7_wouldBeIn_41 : decode cX7_wouldBeIn 41 = .ok (.iconst 0, 1) := by decide +kernel
theorem dX7_wouldBeIn_42 : decode cX7_wouldBeIn 42 = .ok (.ireturn, 1) := by decide +kernel
theorem dX7_needs_0 : decode cX7_needs 0 = .ok (.iload_n 1, 1) := by decide +kernel
theorem dX7_needs_1 : decode cX7_needs 1 = .ok (.invokestatic 143, 3) := by decide +kernel
theorem dX7_needs_4 : decode cX7_needs 4 = .ok (.ifCond .eq 15, 3) := by decide +kernel
theorem dX7_needs_7 : decode cX7_needs 7 = .ok (.iload_n 2, 1) := by decide +kernel
theorem dX7_needs_8 : decode cX7_needs 8 = .ok (.i2l, 1) := by decide +kernel
theorem dX7_needs_9 : decode cX7_needs 9 = .ok (.lconst 1, 1) := by decide +kernel
theorem dX7_needs_10 : decode cX7_needs 10 = .ok (.ldc2_w 161, 3) := by decide +kernel
theorem dX7_needs_13 : decode cX7_needs 13 = .ok (.invokestatic 54, 3) := by decide +kernel
theorem dX7_needs_16 : decode cX7_needs 16 = .ok (.ifCond .ne 5, 3) := by decide +kernel
theorem dX7_needs_19 : decode cX7_needs 19 = .ok (.iconst (-1), 1) := by decide +kernel
theorem dX7_needs_20 : decode cX7_needs 20 = .ok (.ireturn, 1) := by decide +kernel
theorem dX7_needs_21 : decode cX7_needs 21 = .ok (.aload_n 0, 1) := by decide +kernel
theorem dX7_needs_22 : decode cX7_needs 22 = .ok (.iload_n 1, 1) := by decide +kernel
theorem dX7_needs_23 : decode cX7_needs 23 = .ok (.invokevirtual 137, 3) := by decide +kernel
theorem dX7_needs_26 : decode cX7_needs 26 = .ok (.iconst 1, 1) := by decide +kernel
theorem dX7_needs_27 : decode cX7_needs 27 = .ok (.istore_n 3, 1) := by decide +kernel
theorem dX7_needs_28 : decode cX7_needs 28 = .ok (.iload_n 3, 1) := by decide +kernel
theorem dX7_needs_29 : decode cX7_needs 29 = .ok (.sipush 1023, 3) := by decide +kernel
theorem dX7_needs_32 : decode cX7_needs 32 = .ok (.if_icmp .gt 21, 3) := by decide +kernel
theorem dX7_needs_35 : decode cX7_needs 35 = .ok (.aload_n 0, 1) := by decide +kernel
theorem dX7_needs_36 : decode cX7_needs 36 = .ok (.iload_n 1, 1) := by decide +kernel
theorem dX7_needs_37 : decode cX7_needs 37 = .ok (.iload_n 3, 1) := by decide +kernel
theorem dX7_needs_38 : decode cX7_needs 38 = .ok (.iload_n 2, 1) := by decide +kernel
theorem dX7_needs_39 : decode cX7_needs 39 = .ok (.invokevirtual 163, 3) := by decide +kernel
theorem dX7_needs_42 : decode cX7_needs 42 = .ok (.ifCond .eq 5, 3) := by decide +kernel
theorem dX7_needs_45 : decode cX7_needs 45 = .ok (.iload_n 3, 1) := by decide +kernel
theorem dX7_needs_46 : decode cX7_needs 46 = .ok (.ireturn, 1) := by decide +kernel
theorem dX7_needs_47 : decode cX7_needs 47 = .ok (.iinc 3 1, 3) := by decide +kernel
theorem dX7_needs_50 : decode cX7_needs 50 = .ok (.goto (-22), 3) := by decide +kernel
theorem dX7_needs_53 : decode cX7_needs 53 = .ok (.bipush (-2), 2) := by decide +kernel
theorem dX7_needs_55 : decode cX7_needs 55 = .ok (.ireturn, 1) := by decide +kernel
theorem dX7_heavy_0 : decode cX7_heavy 0 = .ok (.iload_n 1, 1) := by decide +kernel
theorem dX7_heavy_1 : decode cX7_heavy 1 = .ok (.invokestatic 143, 3) := by decide +kernel
theorem dX7_heavy_4 : decode cX7_heavy 4 = .ok (.ifCond .eq 15, 3) := by decide +kernel
theorem dX7_heavy_7 : decode cX7_heavy 7 = .ok (.iload_n 2, 1) := by decide +kernel
theorem dX7_heavy_8 : decode cX7_heavy 8 = .ok (.i2l, 1) := by decide +kernel
theorem dX7_heavy_9 : decode cX7_heavy 9 = .ok (.lconst 1, 1) := by decide +kernel
theorem dX7_heavy_10 : decode cX7_heavy 10 = .ok (.ldc2_w 166, 3) := by decide +kernel
theorem dX7_heavy_13 : decode cX7_heavy 13 = .ok (.invokestatic 54, 3) := by decide +kernel
theorem dX7_heavy_16 : decode cX7_heavy 16 = .ok (.ifCond .ne 5, 3) := by decide +kernel
theorem dX7_heavy_19 : decode cX7_heavy 19 = .ok (.iconst (-1), 1) := by decide +kernel
theorem dX7_heavy_20 : decode cX7_heavy 20 = .ok (.ireturn, 1) := by decide +kernel
theorem dX7_heavy_21 : decode cX7_heavy 21 = .ok (.aload_n 0, 1) := by decide +kernel
theorem dX7_heavy_22 : decode cX7_heavy 22 = .ok (.iload_n 1, 1) := by decide +kernel
theorem dX7_heavy_23 : decode cX7_heavy 23 = .ok (.invokevirtual 137, 3) := by decide +kernel
theorem dX7_heavy_26 : decode cX7_heavy 26 = .ok (.iconst 1, 1) := by decide +kernel
theorem dX7_heavy_27 : decode cX7_heavy 27 = .ok (.istore_n 3, 1) := by decide +kernel
theorem dX7_heavy_28 : decode cX7_heavy 28 = .ok (.iload_n 3, 1) := by decide +kernel
theorem dX7_heavy_29 : decode cX7_heavy 29 = .ok (.bipush 20, 2) := by decide +kernel
theorem dX7_heavy_31 : decode cX7_heavy 31 = .ok (.if_icmp .gt 21, 3) := by decide +kernel
theorem dX7_heavy_34 : decode cX7_heavy 34 = .ok (.aload_n 0, 1) := by decide +kernel
theorem dX7_heavy_35 : decode cX7_heavy 35 = .ok (.iload_n 1, 1) := by decide +kernel
theorem dX7_heavy_36 : decode cX7_heavy 36 = .ok (.iload_n 2, 1) := by decide +kernel
theorem dX7_heavy_37 : decode cX7_heavy 37 = .ok (.iload_n 3, 1) := by decide +kernel
theorem dX7_heavy_38 : decode cX7_heavy 38 = .ok (.invokevirtual 163, 3) := by decide +kernel
theorem dX7_heavy_41 : decode cX7_heavy 41 = .ok (.ifCond .eq 5, 3) := by decide +kernel
theorem dX7_heavy_44 : decode cX7_heavy 44 = .ok (.iload_n 3, 1) := by decide +kernel
theorem dX7_heavy_45 : decode cX7_heavy 45 = .ok (.ireturn, 1) := by decide +kernel
theorem dX7_heavy_46 : decode cX7_heavy 46 = .ok (.iinc 3 1, 3) := by decide +kernel
theorem dX7_heavy_49 : decode cX7_heavy 49 = .ok (.goto (-21), 3) := by decide +kernel
theorem dX7_heavy_52 : decode cX7_heavy 52 = .ok (.bipush (-2), 2) := by decide +kernel
theorem dX7_heavy_54 : decode cX7_heavy 54 = .ok (.ireturn, 1) := by decide +kernel
theorem dX7_drawn_0 : decode cX7_drawn 0 = .ok (.iconst 0, 1) := by decide +kernel
theorem dX7_drawn_1 : decode cX7_drawn 1 = .ok (.istore_n 2, 1) := by decide +kernel
theorem dX7_drawn_2 : decode cX7_drawn 2 = .ok (.iload_n 2, 1) := by decide +kernel
theorem dX7_drawn_3 : decode cX7_drawn 3 = .ok (.ifCond .ne 33, 3) := by decide +kernel
theorem dX7_drawn_6 : decode cX7_drawn 6 = .ok (.aload_n 1, 1) := by decide +kernel
theorem dX7_drawn_7 : decode cX7_drawn 7 = .ok (.iconst 1, 1) := by decide +kernel
theorem dX7_drawn_8 : decode cX7_drawn 8 = .ok (.ldc2_w 168, 3) := by decide +kernel
theorem dX7_drawn_11 : decode cX7_drawn 11 = .ok (.aload_n 1, 1) := by decide +kernel
theorem dX7_drawn_12 : decode cX7_drawn 12 = .ok (.iconst 1, 1) := by decide +kernel
theorem dX7_drawn_13 : decode cX7_drawn 13 = .ok (.iaload, 1) := by decide +kernel
theorem dX7_drawn_14 : decode cX7_drawn 14 = .ok (.i2l, 1) := by decide +kernel
theorem dX7_drawn_15 : decode cX7_drawn 15 = .ok (.lmul, 1) := by decide +kernel
theorem dX7_drawn_16 : decode cX7_drawn 16 = .ok (.ldc2_w 170, 3) := by decide +kernel
theorem dX7_drawn_19 : decode cX7_drawn 19 = .ok (.ladd, 1) := by decide +kernel
theorem dX7_drawn_20 : decode cX7_drawn 20 = .ok (.ldc2_w 172, 3) := by decide +kernel
theorem dX7_drawn_23 : decode cX7_drawn 23 = .ok (.lrem, 1) := by decide +kernel
theorem dX7_drawn_24 : decode cX7_drawn 24 = .ok (.l2i, 1) := by decide +kernel
theorem dX7_drawn_25 : decode cX7_drawn 25 = .ok (.iastore, 1) := by decide +kernel
theorem dX7_drawn_26 : decode cX7_drawn 26 = .ok (.aload_n 1, 1) := by decide +kernel
theorem dX7_drawn_27 : decode cX7_drawn 27 = .ok (.iconst 1, 1) := by decide +kernel
theorem dX7_drawn_28 : decode cX7_drawn 28 = .ok (.iaload, 1) := by decide +kernel
theorem dX7_drawn_29 : decode cX7_drawn 29 = .ok (.bipush 64, 2) := by decide +kernel
theorem dX7_drawn_31 : decode cX7_drawn 31 = .ok (.idiv, 1) := by decide +kernel
theorem dX7_drawn_32 : decode cX7_drawn 32 = .ok (.istore_n 2, 1) := by decide +kernel
theorem dX7_drawn_33 : decode cX7_drawn 33 = .ok (.goto (-31), 3) := by decide +kernel
theorem dX7_drawn_36 : decode cX7_drawn 36 = .ok (.iload_n 2, 1) := by decide +kernel
theorem dX7_drawn_37 : decode cX7_drawn 37 = .ok (.ireturn, 1) := by decide +kernel
theorem dX7_skip_0 : decode cX7_skip 0 = .ok (.iload_n 1, 1) := by decide +kernel
theorem dX7_skip_1 : decode cX7_skip 1 = .ok (.invokestatic 143, 3) := by decide +kernel
theorem dX7_skip_4 : decode cX7_skip 4 = .ok (.ifCond .eq 15, 3) := by decide +kernel
theorem dX7_skip_7 : decode cX7_skip 7 = .ok (.iload_n 2, 1) := by decide +kernel
theorem dX7_skip_8 : decode cX7_skip 8 = .ok (.i2l, 1) := by decide +kernel
theorem dX7_skip_9 : decode cX7_skip 9 = .ok (.lconst 1, 1) := by decide +kernel
theorem dX7_skip_10 : decode cX7_skip 10 = .ok (.ldc2_w 161, 3) := by decide +kernel
theorem dX7_skip_13 : decode cX7_skip 13 = .ok (.invokestatic 54, 3) := by decide +kernel
theorem dX7_skip_16 : decode cX7_skip 16 = .ok (.ifCond .ne 5, 3) := by decide +kernel
theorem dX7_skip_19 : decode cX7_skip 19 = .ok (.iconst (-1), 1) := by decide +kernel
theorem dX7_skip_20 : decode cX7_skip 20 = .ok (.ireturn, 1) := by decide +kernel
theorem dX7_skip_21 : decode cX7_skip 21 = .ok (.aload_n 0, 1) := by decide +kernel
theorem dX7_skip_22 : decode cX7_skip 22 = .ok (.iload_n 1, 1) := by decide +kernel
theorem dX7_skip_23 : decode cX7_skip 23 = .ok (.invokevirtual 137, 3) := by decide +kernel
theorem dX7_skip_26 : decode cX7_skip 26 = .ok (.aload_n 0, 1) := by decide +kernel
theorem dX7_skip_27 : decode cX7_skip 27 = .ok (.getfield 7, 3) := by decide +kernel
theorem dX7_skip_30 : decode cX7_skip 30 = .ok (.iconst 1, 1) := by decide +kernel
theorem dX7_skip_31 : decode cX7_skip 31 = .ok (.iaload, 1) := by decide +kernel
theorem dX7_skip_32 : decode cX7_skip 32 = .ok (.istore_n 3, 1) := by decide +kernel
theorem dX7_skip_33 : decode cX7_skip 33 = .ok (.iconst 0, 1) := by decide +kernel
theorem dX7_skip_34 : decode cX7_skip 34 = .ok (.istore 4, 2) := by decide +kernel
theorem dX7_skip_36 : decode cX7_skip 36 = .ok (.iload 4, 2) := by decide +kernel
theorem dX7_skip_38 : decode cX7_skip 38 = .ok (.sipush 1000, 3) := by decide +kernel
theorem dX7_skip_41 : decode cX7_skip 41 = .ok (.if_icmp .ge 26, 3) := by decide +kernel
theorem dX7_skip_44 : decode cX7_skip 44 = .ok (.aload_n 0, 1) := by decide +kernel
theorem dX7_skip_45 : decode cX7_skip 45 = .ok (.iload_n 1, 1) := by decide +kernel
theorem dX7_skip_46 : decode cX7_skip 46 = .ok (.aload_n 0, 1) := by decide +kernel
theorem dX7_skip_47 : decode cX7_skip 47 = .ok (.aload_n 0, 1) := by decide +kernel
theorem dX7_skip_48 : decode cX7_skip 48 = .ok (.getfield 7, 3) := by decide +kernel
theorem dX7_skip_51 : decode cX7_skip 51 = .ok (.invokevirtual 174, 3) := by decide +kernel
theorem dX7_skip_54 : decode cX7_skip 54 = .ok (.iload_n 2, 1) := by decide +kernel
theorem dX7_skip_55 : decode cX7_skip 55 = .ok (.invokevirtual 163, 3) := by decide +kernel
theorem dX7_skip_58 : decode cX7_skip 58 = .ok (.ifCond .ne 9, 3) := by decide +kernel
theorem dX7_skip_61 : decode cX7_skip 61 = .ok (.iinc 4 1, 3) := by decide +kernel
theorem dX7_skip_64 : decode cX7_skip 64 = .ok (.goto (-28), 3) := by decide +kernel
theorem dX7_skip_67 : decode cX7_skip 67 = .ok (.aload_n 0, 1) := by decide +kernel
theorem dX7_skip_68 : decode cX7_skip 68 = .ok (.getfield 7, 3) := by decide +kernel
theorem dX7_skip_71 : decode cX7_skip 71 = .ok (.iconst 1, 1) := by decide +kernel
theorem dX7_skip_72 : decode cX7_skip 72 = .ok (.iload_n 3, 1) := by decide +kernel
theorem dX7_skip_73 : decode cX7_skip 73 = .ok (.iastore, 1) := by decide +kernel
theorem dX7_skip_74 : decode cX7_skip 74 = .ok (.iload 4, 2) := by decide +kernel
theorem dX7_skip_76 : decode cX7_skip 76 = .ok (.sipush 1000, 3) := by decide +kernel
theorem dX7_skip_79 : decode cX7_skip 79 = .ok (.if_icmp .ge 8, 3) := by decide +kernel
theorem dX7_skip_82 : decode cX7_skip 82 = .ok (.iload 4, 2) := by decide +kernel
theorem dX7_skip_84 : decode cX7_skip 84 = .ok (.goto 5, 3) := by decide +kernel
theorem dX7_skip_87 : decode cX7_skip 87 = .ok (.bipush (-2), 2) := by decide +kernel
theorem dX7_skip_89 : decode cX7_skip 89 = .ok (.ireturn, 1) := by decide +kernel
theorem dX7_weightFor_0 : decode cX7_weightFor 0 = .ok (.aload_n 0, 1) := by decide +kernel
theorem dX7_weightFor_1 : decode cX7_weightFor 1 = .ok (.iload_n 1, 1) := by decide +kernel
theorem dX7_weightFor_2 : decode cX7_weightFor 2 = .ok (.invokevirtual 66, 3) := by decide +kernel
theorem dX7_weightFor_5 : decode cX7_weightFor 5 = .ok (.ifCond .ne 5, 3) := by decide +kernel
theorem dX7_weightFor_8 : decode cX7_weightFor 8 = .ok (.iconst (-1), 1) := by decide +kernel
theorem dX7_weightFor_9 : decode cX7_weightFor 9 = .ok (.ireturn, 1) := by decide +kernel
theorem dX7_weightFor_10 : decode cX7_weightFor 10 = .ok (.aload_n 0, 1) := by decide +kernel
theorem dX7_weightFor_11 : decode cX7_weightFor 11 = .ok (.iload_n 1, 1) := by decide +kernel
theorem dX7_weightFor_12 : decode cX7_weightFor 12 = .ok (.invokevirtual 134, 3) := by decide +kernel
theorem dX7_weightFor_15 : decode cX7_weightFor 15 = .ok (.ifCond .ne 6, 3) := by decide +kernel
theorem dX7_weightFor_18 : decode cX7_weightFor 18 = .ok (.bipush (-2), 2) := by decide +kernel
theorem dX7_weightFor_20 : decode cX7_weightFor 20 = .ok (.ireturn, 1) := by decide +kernel
theorem dX7_weightFor_21 : decode cX7_weightFor 21 = .ok (.bipush 11, 2) := by decide +kernel
theorem dX7_weightFor_23 : decode cX7_weightFor 23 = .ok (.iconst 5, 1) := by decide +kernel
theorem dX7_weightFor_24 : decode cX7_weightFor 24 = .ok (.iload_n 1, 1) := by decide +kernel
theorem dX7_weightFor_25 : decode cX7_weightFor 25 = .ok (.imul, 1) := by decide +kernel
theorem dX7_weightFor_26 : decode cX7_weightFor 26 = .ok (.iadd, 1) := by decide +kernel
theorem dX7_weightFor_27 : decode cX7_weightFor 27 = .ok (.iconst 2, 1) := by decide +kernel
theorem dX7_weightFor_28 : decode cX7_weightFor 28 = .ok (.iadd, 1) := by decide +kernel
theorem dX7_weightFor_29 : decode cX7_weightFor 29 = .ok (.istore_n 2, 1) := by decide +kernel
theorem dX7_weightFor_30 : decode cX7_weightFor 30 = .ok (.aload_n 0, 1) := by decide +kernel
theorem dX7_weightFor_31 : decode cX7_weightFor 31 = .ok (.getfield 7, 3) := by decide +kernel
theorem dX7_weightFor_34 : decode cX7_weightFor 34 = .ok (.iload_n 2, 1) := by decide +kernel
theorem dX7_weightFor_35 : decode cX7_weightFor 35 = .ok (.iaload, 1) := by decide +kernel
theorem dX7_weightFor_36 : decode cX7_weightFor 36 = .ok (.istore_n 3, 1) := by decide +kernel
theorem dX7_weightFor_37 : decode cX7_weightFor 37 = .ok (.bipush (-2), 2) := by decide +kernel
theorem dX7_weightFor_39 : decode cX7_weightFor 39 = .ok (.istore 4, 2) := by decide +kernel
theorem dX7_weightFor_41 : decode cX7_weightFor 41 = .ok (.iconst 1, 1) := by decide +kernel
theorem dX7_weightFor_42 : decode cX7_weightFor 42 = .ok (.istore 5, 2) := by decide +kernel
theorem dX7_weightFor_44 : decode cX7_weightFor 44 = .ok (.iload 5, 2) := by decide +kernel
theorem dX7_weightFor_46 : decode cX7_weightFor 46 = .ok (.bipush 20, 2) := by decide +kernel
theorem dX7_weightFor_48 : decode cX7_weightFor 48 = .ok (.if_icmp .gt 53, 3) := by decide +kernel
theorem dX7_weightFor_51 : decode cX7_weightFor 51 = .ok (.iload 4, 2) := by decide +kernel
theorem dX7_weightFor_53 : decode cX7_weightFor 53 = .ok (.ifCond .ge 48, 3) := by decide +kernel
theorem dX7_weightFor_56 : decode cX7_weightFor 56 = .ok (.aload_n 0, 1) := by decide +kernel
theorem dX7_weightFor_57 : decode cX7_weightFor 57 = .ok (.getfield 7, 3) := by decide +kernel
theorem dX7_weightFor_60 : decode cX7_weightFor 60 = .ok (.iload_n 2, 1) := by decide +kernel
theorem dX7_weightFor_61 : decode cX7_weightFor 61 = .ok (.iload 5, 2) := by decide +kernel
theorem dX7_weightFor_63 : decode cX7_weightFor 63 = .ok (.iastore, 1) := by decide +kernel
theorem dX7_weightFor_64 : decode cX7_weightFor 64 = .ok (.aload_n 0, 1) := by decide +kernel
theorem dX7_weightFor_65 : decode cX7_weightFor 65 = .ok (.iconst 0, 1) := by decide +kernel
theorem dX7_weightFor_66 : decode cX7_weightFor 66 = .ok (.putfield 107, 3) := by decide +kernel
theorem dX7_weightFor_69 : decode cX7_weightFor 69 = .ok (.aload_n 0, 1) := by decide +kernel
theorem dX7_weightFor_70 : decode cX7_weightFor 70 = .ok (.aload_n 0, 1) := by decide +kernel
theorem dX7_weightFor_71 : decode cX7_weightFor 71 = .ok (.iload_n 1, 1) := by decide +kernel
theorem dX7_weightFor_72 : decode cX7_weightFor 72 = .ok (.invokevirtual 62, 3) := by decide +kernel
theorem dX7_weightFor_75 : decode cX7_weightFor 75 = .ok (.invokevirtual 137, 3) := by decide +kernel
theorem dX7_weightFor_78 : decode cX7_weightFor 78 = .ok (.aload_n 0, 1) := by decide +kernel
theorem dX7_weightFor_79 : decode cX7_weightFor 79 = .ok (.iload_n 1, 1) := by decide +kernel
theorem dX7_weightFor_80 : decode cX7_weightFor 80 = .ok (.invokevirtual 140, 3) := by decide +kernel
theorem dX7_weightFor_83 : decode cX7_weightFor 83 = .ok (.ifCond .lt 8, 3) := by decide +kernel
theorem dX7_weightFor_86 : decode cX7_weightFor 86 = .ok (.iload 5, 2) := by decide +kernel
theorem dX7_weightFor_88 : decode cX7_weightFor 88 = .ok (.goto 5, 3) := by decide +kernel
theorem dX7_weightFor_91 : decode cX7_weightFor 91 = .ok (.bipush (-2), 2) := by decide +kernel
theorem dX7_weightFor_93 : decode cX7_weightFor 93 = .ok (.istore 4, 2) := by decide +kernel
theorem dX7_weightFor_95 : decode cX7_weightFor 95 = .ok (.iinc 5 1, 3) := by decide +kernel
theorem dX7_weightFor_98 : decode cX7_weightFor 98 = .ok (.goto (-54), 3) := by decide +kernel
theorem dX7_weightFor_101 : decode cX7_weightFor 101 = .ok (.aload_n 0, 1) := by decide +kernel
theorem dX7_weightFor_102 : decode cX7_weightFor 102 = .ok (.getfield 7, 3) := by decide +kernel
theorem dX7_weightFor_105 : decode cX7_weightFor 105 = .ok (.iload_n 2, 1) := by decide +kernel
theorem dX7_weightFor_106 : decode cX7_weightFor 106 = .ok (.iload_n 3, 1) := by decide +kernel
theorem dX7_weightFor_107 : decode cX7_weightFor 107 = .ok (.iastore, 1) := by decide +kernel
theorem dX7_weightFor_108 : decode cX7_weightFor 108 = .ok (.aload_n 0, 1) := by decide +kernel
theorem dX7_weightFor_109 : decode cX7_weightFor 109 = .ok (.iconst 0, 1) := by decide +kernel
theorem dX7_weightFor_110 : decode cX7_weightFor 110 = .ok (.putfield 107, 3) := by decide +kernel
theorem dX7_weightFor_113 : decode cX7_weightFor 113 = .ok (.iload 4, 2) := by decide +kernel
theorem dX7_weightFor_115 : decode cX7_weightFor 115 = .ok (.ireturn, 1) := by decide +kernel
theorem dX7_sizeFor_0 : decode cX7_sizeFor 0 = .ok (.aload_n 0, 1) := by decide +kernel
theorem dX7_sizeFor_1 : decode cX7_sizeFor 1 = .ok (.iload_n 1, 1) := by decide +kernel
theorem dX7_sizeFor_2 : decode cX7_sizeFor 2 = .ok (.invokevirtual 66, 3) := by decide +kernel
theorem dX7_sizeFor_5 : decode cX7_sizeFor 5 = .ok (.ifCond .ne 5, 3) := by decide +kernel
theorem dX7_sizeFor_8 : decode cX7_sizeFor 8 = .ok (.iconst (-1), 1) := by decide +kernel
theorem dX7_sizeFor_9 : decode cX7_sizeFor 9 = .ok (.ireturn, 1) := by decide +kernel
theorem dX7_sizeFor_10 : decode cX7_sizeFor 10 = .ok (.aload_n 0, 1) := by decide +kernel
theorem dX7_sizeFor_11 : decode cX7_sizeFor 11 = .ok (.iload_n 1, 1) := by decide +kernel
theorem dX7_sizeFor_12 : decode cX7_sizeFor 12 = .ok (.invokevirtual 134, 3) := by decide +kernel
theorem dX7_sizeFor_15 : decode cX7_sizeFor 15 = .ok (.ifCond .ne 6, 3) := by decide +kernel
theorem dX7_sizeFor_18 : decode cX7_sizeFor 18 = .ok (.bipush (-2), 2) := by decide +kernel
theorem dX7_sizeFor_20 : decode cX7_sizeFor 20 = .ok (.ireturn, 1) := by decide +kernel
theorem dX7_sizeFor_21 : decode cX7_sizeFor 21 = .ok (.aload_n 0, 1) := by decide +kernel
theorem dX7_sizeFor_22 : decode cX7_sizeFor 22 = .ok (.aload_n 0, 1) := by decide +kernel
theorem dX7_sizeFor_23 : decode cX7_sizeFor 23 = .ok (.iload_n 1, 1) := by decide +kernel
theorem dX7_sizeFor_24 : decode cX7_sizeFor 24 = .ok (.invokevirtual 62, 3) := by decide +kernel
theorem dX7_sizeFor_27 : decode cX7_sizeFor 27 = .ok (.invokevirtual 128, 3) := by decide +kernel
theorem dX7_sizeFor_30 : decode cX7_sizeFor 30 = .ok (.aload_n 0, 1) := by decide +kernel
theorem dX7_sizeFor_31 : decode cX7_sizeFor 31 = .ok (.iload_n 1, 1) := by decide +kernel
theorem dX7_sizeFor_32 : decode cX7_sizeFor 32 = .ok (.invokevirtual 140, 3) := by decide +kernel
theorem dX7_sizeFor_35 : decode cX7_sizeFor 35 = .ok (.bipush 12, 2) := by decide +kernel
theorem dX7_sizeFor_37 : decode cX7_sizeFor 37 = .ok (.if_icmp .ge 13, 3) := by decide +kernel
theorem dX7_sizeFor_40 : decode cX7_sizeFor 40 = .ok (.aload_n 0, 1) := by decide +kernel
theorem dX7_sizeFor_41 : decode cX7_sizeFor 41 = .ok (.iload_n 1, 1) := by decide +kernel
theorem dX7_sizeFor_42 : decode cX7_sizeFor 42 = .ok (.invokevirtual 140, 3) := by decide +kernel
theorem dX7_sizeFor_45 : decode cX7_sizeFor 45 = .ok (.iconst 1, 1) := by decide +kernel
theorem dX7_sizeFor_46 : decode cX7_sizeFor 46 = .ok (.iadd, 1) := by decide +kernel
theorem dX7_sizeFor_47 : decode cX7_sizeFor 47 = .ok (.goto 5, 3) := by decide +kernel
theorem dX7_sizeFor_50 : decode cX7_sizeFor 50 = .ok (.bipush (-2), 2) := by decide +kernel
theorem dX7_sizeFor_52 : decode cX7_sizeFor 52 = .ok (.ireturn, 1) := by decide +kernel
theorem dX7_windowFor_0 : decode cX7_windowFor 0 = .ok (.aload_n 0, 1) := by decide +kernel
theorem dX7_windowFor_1 : decode cX7_windowFor 1 = .ok (.iload_n 1, 1) := by decide +kernel
theorem dX7_windowFor_2 : decode cX7_windowFor 2 = .ok (.invokevirtual 66, 3) := by decide +kernel
theorem dX7_windowFor_5 : decode cX7_windowFor 5 = .ok (.ifCond .ne 5, 3) := by decide +kernel
theorem dX7_windowFor_8 : decode cX7_windowFor 8 = .ok (.iconst (-1), 1) := by decide +kernel
theorem dX7_windowFor_9 : decode cX7_windowFor 9 = .ok (.ireturn, 1) := by decide +kernel
theorem dX7_windowFor_10 : decode cX7_windowFor 10 = .ok (.aload_n 0, 1) := by decide +kernel
theorem dX7_windowFor_11 : decode cX7_windowFor 11 = .ok (.iload_n 1, 1) := by decide +kernel
theorem dX7_windowFor_12 : decode cX7_windowFor 12 = .ok (.invokevirtual 70, 3) := by decide +kernel
theorem dX7_windowFor_15 : decode cX7_windowFor 15 = .ok (.ifCond .eq 6, 3) := by decide +kernel
theorem dX7_windowFor_18 : decode cX7_windowFor 18 = .ok (.bipush (-2), 2) := by decide +kernel
theorem dX7_windowFor_20 : decode cX7_windowFor 20 = .ok (.ireturn, 1) := by decide +kernel
theorem dX7_windowFor_21 : decode cX7_windowFor 21 = .ok (.aload_n 0, 1) := by decide +kernel
theorem dX7_windowFor_22 : decode cX7_windowFor 22 = .ok (.iload_n 1, 1) := by decide +kernel
theorem dX7_windowFor_23 : decode cX7_windowFor 23 = .ok (.invokevirtual 62, 3) := by decide +kernel
theorem dX7_windowFor_26 : decode cX7_windowFor 26 = .ok (.istore_n 2, 1) := by decide +kernel
theorem dX7_windowFor_27 : decode cX7_windowFor 27 = .ok (.bipush (-2), 2) := by decide +kernel
theorem dX7_windowFor_29 : decode cX7_windowFor 29 = .ok (.istore_n 3, 1) := by decide +kernel
theorem dX7_windowFor_30 : decode cX7_windowFor 30 = .ok (.sipush 9999, 3) := by decide +kernel
theorem dX7_windowFor_33 : decode cX7_windowFor 33 = .ok (.istore 4, 2) := by decide +kernel
theorem dX7_windowFor_35 : decode cX7_windowFor 35 = .ok (.iload 4, 2) := by decide +kernel
theorem dX7_windowFor_37 : decode cX7_windowFor 37 = .ok (.iconst 1, 1) := by decide +kernel
theorem dX7_windowFor_38 : decode cX7_windowFor 38 = .ok (.if_icmp .lt 66, 3) := by decide +kernel
theorem dX7_windowFor_41 : decode cX7_windowFor 41 = .ok (.iload_n 3, 1) := by decide +kernel
theorem dX7_windowFor_42 : decode cX7_windowFor 42 = .ok (.ifCond .ge 62, 3) := by decide +kernel
theorem dX7_windowFor_45 : decode cX7_windowFor 45 = .ok (.aload_n 0, 1) := by decide +kernel
theorem dX7_windowFor_46 : decode cX7_windowFor 46 = .ok (.iload_n 2, 1) := by decide +kernel
theorem dX7_windowFor_47 : decode cX7_windowFor 47 = .ok (.aload_n 0, 1) := by decide +kernel
theorem dX7_windowFor_48 : decode cX7_windowFor 48 = .ok (.getfield 7, 3) := by decide +kernel
theorem dX7_windowFor_51 : decode cX7_windowFor 51 = .ok (.iconst 0, 1) := by decide +kernel
theorem dX7_windowFor_52 : decode cX7_windowFor 52 = .ok (.iaload, 1) := by decide +kernel
theorem dX7_windowFor_53 : decode cX7_windowFor 53 = .ok (.iload 4, 2) := by decide +kernel
theorem dX7_windowFor_55 : decode cX7_windowFor 55 = .ok (.aload_n 0, 1) := by decide +kernel
theorem dX7_windowFor_56 : decode cX7_windowFor 56 = .ok (.getfield 7, 3) := by decide +kernel
theorem dX7_windowFor_59 : decode cX7_windowFor 59 = .ok (.iconst 2, 1) := by decide +kernel
theorem dX7_windowFor_60 : decode cX7_windowFor 60 = .ok (.iaload, 1) := by decide +kernel
theorem dX7_windowFor_61 : decode cX7_windowFor 61 = .ok (.invokevirtual 124, 3) := by decide +kernel
theorem dX7_windowFor_64 : decode cX7_windowFor 64 = .ok (.aload_n 0, 1) := by decide +kernel
theorem dX7_windowFor_65 : decode cX7_windowFor 65 = .ok (.aload_n 0, 1) := by decide +kernel
theorem dX7_windowFor_66 : decode cX7_windowFor 66 = .ok (.getfield 7, 3) := by decide +kernel
theorem dX7_windowFor_69 : decode cX7_windowFor 69 = .ok (.iconst 3, 1) := by decide +kernel
theorem dX7_windowFor_70 : decode cX7_windowFor 70 = .ok (.iload_n 2, 1) := by decide +kernel
theorem dX7_windowFor_71 : decode cX7_windowFor 71 = .ok (.iadd, 1) := by decide +kernel
theorem dX7_windowFor_72 : decode cX7_windowFor 72 = .ok (.iaload, 1) := by decide +kernel
theorem dX7_windowFor_73 : decode cX7_windowFor 73 = .ok (.invokevirtual 131, 3) := by decide +kernel
theorem dX7_windowFor_76 : decode cX7_windowFor 76 = .ok (.aload_n 0, 1) := by decide +kernel
theorem dX7_windowFor_77 : decode cX7_windowFor 77 = .ok (.iload_n 1, 1) := by decide +kernel
theorem dX7_windowFor_78 : decode cX7_windowFor 78 = .ok (.invokevirtual 140, 3) := by decide +kernel
theorem dX7_windowFor_81 : decode cX7_windowFor 81 = .ok (.ifCond .lt 8, 3) := by decide +kernel
theorem dX7_windowFor_84 : decode cX7_windowFor 84 = .ok (.iload 4, 2) := by decide +kernel
theorem dX7_windowFor_86 : decode cX7_windowFor 86 = .ok (.goto 5, 3) := by decide +kernel
theorem dX7_windowFor_89 : decode cX7_windowFor 89 = .ok (.bipush (-2), 2) := by decide +kernel
theorem dX7_windowFor_91 : decode cX7_windowFor 91 = .ok (.istore_n 3, 1) := by decide +kernel
theorem dX7_windowFor_92 : decode cX7_windowFor 92 = .ok (.aload_n 0, 1) := by decide +kernel
theorem dX7_windowFor_93 : decode cX7_windowFor 93 = .ok (.iload_n 2, 1) := by decide +kernel
theorem dX7_windowFor_94 : decode cX7_windowFor 94 = .ok (.iload 4, 2) := by decide +kernel
theorem dX7_windowFor_96 : decode cX7_windowFor 96 = .ok (.invokevirtual 178, 3) := by decide +kernel
theorem dX7_windowFor_99 : decode cX7_windowFor 99 = .ok (.istore 4, 2) := by decide +kernel
theorem dX7_windowFor_101 : decode cX7_windowFor 101 = .ok (.goto (-66), 3) := by decide +kernel
theorem dX7_windowFor_104 : decode cX7_windowFor 104 = .ok (.iload_n 3, 1) := by decide +kernel
theorem dX7_windowFor_105 : decode cX7_windowFor 105 = .ok (.ireturn, 1) := by decide +kernel
theorem dX7_lessWindow_0 : decode cX7_lessWindow 0 = .ok (.iconst 0, 1) := by decide +kernel
theorem dX7_lessWindow_1 : decode cX7_lessWindow 1 = .ok (.istore_n 3, 1) := by decide +kernel
theorem dX7_lessWindow_2 : decode cX7_lessWindow 2 = .ok (.iconst 0, 1) := by decide +kernel
theorem dX7_lessWindow_3 : decode cX7_lessWindow 3 = .ok (.istore 4, 2) := by decide +kernel
theorem dX7_lessWindow_5 : decode cX7_lessWindow 5 = .ok (.iload 4, 2) := by decide +kernel
theorem dX7_lessWindow_7 : decode cX7_lessWindow 7 = .ok (.aload_n 0, 1) := by decide +kernel
theorem dX7_lessWindow_8 : decode cX7_lessWindow 8 = .ok (.getfield 7, 3) := by decide +kernel
theorem dX7_lessWindow_11 : decode cX7_lessWindow 11 = .ok (.iconst 2, 1) := by decide +kernel
theorem dX7_lessWindow_12 : decode cX7_lessWindow 12 = .ok (.iaload, 1) := by decide +kernel
theorem dX7_lessWindow_13 : decode cX7_lessWindow 13 = .ok (.if_icmp .ge 50, 3) := by decide +kernel
theorem dX7_lessWindow_16 : decode cX7_lessWindow 16 = .ok (.aload_n 0, 1) := by decide +kernel
theorem dX7_lessWindow_17 : decode cX7_lessWindow 17 = .ok (.getfield 7, 3) := by decide +kernel
theorem dX7_lessWindow_20 : decode cX7_lessWindow 20 = .ok (.iconst 0, 1) := by decide +kernel
theorem dX7_lessWindow_21 : decode cX7_lessWindow 21 = .ok (.iaload, 1) := by decide +kernel
theorem dX7_lessWindow_22 : decode cX7_lessWindow 22 = .ok (.aload_n 0, 1) := by decide +kernel
theorem dX7_lessWindow_23 : decode cX7_lessWindow 23 = .ok (.iload 4, 2) := by decide +kernel
theorem dX7_lessWindow_25 : decode cX7_lessWindow 25 = .ok (.iconst 4, 1) := by decide +kernel
theorem dX7_lessWindow_26 : decode cX7_lessWindow 26 = .ok (.invokevirtual 58, 3) := by decide +kernel
theorem dX7_lessWindow_29 : decode cX7_lessWindow 29 = .ok (.isub, 1) := by decide +kernel
theorem dX7_lessWindow_30 : decode cX7_lessWindow 30 = .ok (.istore 5, 2) := by decide +kernel
theorem dX7_lessWindow_32 : decode cX7_lessWindow 32 = .ok (.aload_n 0, 1) := by decide +kernel
theorem dX7_lessWindow_33 : decode cX7_lessWindow 33 = .ok (.iload 4, 2) := by decide +kernel
theorem dX7_lessWindow_35 : decode cX7_lessWindow 35 = .ok (.invokevirtual 62, 3) := by decide +kernel
theorem dX7_lessWindow_38 : decode cX7_lessWindow 38 = .ok (.iload_n 1, 1) := by decide +kernel
theorem dX7_lessWindow_39 : decode cX7_lessWindow 39 = .ok (.if_icmp .ne 18, 3) := by decide +kernel
theorem dX7_lessWindow_42 : decode cX7_lessWindow 42 = .ok (.iload 5, 2) := by decide +kernel
theorem dX7_lessWindow_44 : decode cX7_lessWindow 44 = .ok (.iload_n 2, 1) := by decide +kernel
theorem dX7_lessWindow_45 : decode cX7_lessWindow 45 = .ok (.if_icmp .ge 12, 3) := by decide +kernel
theorem dX7_lessWindow_48 : decode cX7_lessWindow 48 = .ok (.iload 5, 2) := by decide +kernel
theorem dX7_lessWindow_50 : decode cX7_lessWindow 50 = .ok (.iload_n 3, 1) := by decide +kernel
theorem dX7_lessWindow_51 : decode cX7_lessWindow 51 = .ok (.if_icmp .le 6, 3) := by decide +kernel
theorem dX7_lessWindow_54 : decode cX7_lessWindow 54 = .ok (.iload 5, 2) := by decide +kernel
theorem dX7_lessWindow_56 : decode cX7_lessWindow 56 = .ok (.istore_n 3, 1) := by decide +kernel
theorem dX7_lessWindow_57 : decode cX7_lessWindow 57 = .ok (.iinc 4 1, 3) := by decide +kernel
theorem dX7_lessWindow_60 : decode cX7_lessWindow 60 = .ok (.goto (-55), 3) := by decide +kernel
theorem dX7_lessWindow_63 : decode cX7_lessWindow 63 = .ok (.iload_n 3, 1) := by decide +kernel
theorem dX7_lessWindow_64 : decode cX7_lessWindow 64 = .ok (.ireturn, 1) := by decide +kernel
theorem dX7_later_0 : decode cX7_later 0 = .ok (.iload_n 1, 1) := by decide +kernel
theorem dX7_later_1 : decode cX7_later 1 = .ok (.invokestatic 143, 3) := by decide +kernel
theorem dX7_later_4 : decode cX7_later 4 = .ok (.ifCond .eq 20, 3) := by decide +kernel
theorem dX7_later_7 : decode cX7_later 7 = .ok (.iload_n 2, 1) := by decide +kernel
theorem dX7_later_8 : decode cX7_later 8 = .ok (.i2l, 1) := by decide +kernel
theorem dX7_later_9 : decode cX7_later 9 = .ok (.lconst 0, 1) := by decide +kernel
theorem dX7_later_10 : decode cX7_later 10 = .ok (.ldc2_w 181, 3) := by decide +kernel
theorem dX7_later_13 : decode cX7_later 13 = .ok (.invokestatic 54, 3) := by decide +kernel
theorem dX7_later_16 : decode cX7_later 16 = .ok (.ifCond .eq 8, 3) := by decide +kernel
theorem dX7_later_19 : decode cX7_later 19 = .ok (.iload_n 3, 1) := by decide +kernel
theorem dX7_later_20 : decode cX7_later 20 = .ok (.iconst (-1), 1) := by decide +kernel
theorem dX7_later_21 : decode cX7_later 21 = .ok (.if_icmp .ge 5, 3) := by decide +kernel
theorem dX7_later_24 : decode cX7_later 24 = .ok (.iconst (-1), 1) := by decide +kernel
theorem dX7_later_25 : decode cX7_later 25 = .ok (.ireturn, 1) := by decide +kernel
theorem dX7_later_26 : decode cX7_later 26 = .ok (.aload_n 0, 1) := by decide +kernel
theorem dX7_later_27 : decode cX7_later 27 = .ok (.iload_n 1, 1) := by decide +kernel
theorem dX7_later_28 : decode cX7_later 28 = .ok (.aload_n 0, 1) := by decide +kernel
theorem dX7_later_29 : decode cX7_later 29 = .ok (.getfield 7, 3) := by decide +kernel
theorem dX7_later_32 : decode cX7_later 32 = .ok (.iconst 0, 1) := by decide +kernel
theorem dX7_later_33 : decode cX7_later 33 = .ok (.iaload, 1) := by decide +kernel
theorem dX7_later_34 : decode cX7_later 34 = .ok (.iload_n 2, 1) := by decide +kernel
theorem dX7_later_35 : decode cX7_later 35 = .ok (.iadd, 1) := by decide +kernel
theorem dX7_later_36 : decode cX7_later 36 = .ok (.aload_n 0, 1) := by decide +kernel
theorem dX7_later_37 : decode cX7_later 37 = .ok (.getfield 7, 3) := by decide +kernel
theorem dX7_later_40 : decode cX7_later 40 = .ok (.bipush 7, 2) := by decide +kernel
theorem dX7_later_42 : decode cX7_later 42 = .ok (.iload_n 1, 1) := by decide +kernel
theorem dX7_later_43 : decode cX7_later 43 = .ok (.iadd, 1) := by decide +kernel
theorem dX7_later_44 : decode cX7_later 44 = .ok (.iaload, 1) := by decide +kernel
theorem dX7_later_45 : decode cX7_later 45 = .ok (.aload_n 0, 1) := by decide +kernel
theorem dX7_later_46 : decode cX7_later 46 = .ok (.getfield 7, 3) := by decide +kernel
theorem dX7_later_49 : decode cX7_later 49 = .ok (.iconst 2, 1) := by decide +kernel
theorem dX7_later_50 : decode cX7_later 50 = .ok (.iaload, 1) := by decide +kernel
theorem dX7_later_51 : decode cX7_later 51 = .ok (.invokevirtual 124, 3) := by decide +kernel
theorem dX7_later_54 : decode cX7_later 54 = .ok (.aload_n 0, 1) := by decide +kernel
theorem dX7_later_55 : decode cX7_later 55 = .ok (.aload_n 0, 1) := by decide +kernel
theorem dX7_later_56 : decode cX7_later 56 = .ok (.getfield 7, 3) := by decide +kernel
theorem dX7_later_59 : decode cX7_later 59 = .ok (.iconst 3, 1) := by decide +kernel
theorem dX7_later_60 : decode cX7_later 60 = .ok (.iload_n 1, 1) := by decide +kernel
theorem dX7_later_61 : decode cX7_later 61 = .ok (.iadd, 1) := by decide +kernel
theorem dX7_later_62 : decode cX7_later 62 = .ok (.iaload, 1) := by decide +kernel
theorem dX7_later_63 : decode cX7_later 63 = .ok (.invokevirtual 131, 3) := by decide +kernel
theorem dX7_later_66 : decode cX7_later 66 = .ok (.aload_n 0, 1) := by decide +kernel
theorem dX7_later_67 : decode cX7_later 67 = .ok (.iload_n 3, 1) := by decide +kernel
theorem dX7_later_68 : decode cX7_later 68 = .ok (.invokevirtual 146, 3) := by decide +kernel
theorem dX7_later_71 : decode cX7_later 71 = .ok (.ireturn, 1) := by decide +kernel
theorem dX7_enters_0 : decode cX7_enters 0 = .ok (.aload_n 0, 1) := by decide +kernel
theorem dX7_enters_1 : decode cX7_enters 1 = .ok (.iload_n 1, 1) := by decide +kernel
theorem dX7_enters_2 : decode cX7_enters 2 = .ok (.invokevirtual 66, 3) := by decide +kernel
theorem dX7_enters_5 : decode cX7_enters 5 = .ok (.ifCond .ne 5, 3) := by decide +kernel
theorem dX7_enters_8 : decode cX7_enters 8 = .ok (.iconst (-1), 1) := by decide +kernel
theorem dX7_enters_9 : decode cX7_enters 9 = .ok (.ireturn, 1) := by decide +kernel
theorem dX7_enters_10 : decode cX7_enters 10 = .ok (.aload_n 0, 1) := by decide +kernel
theorem dX7_enters_11 : decode cX7_enters 11 = .ok (.iload_n 1, 1) := by decide +kernel
theorem dX7_enters_12 : decode cX7_enters 12 = .ok (.invokevirtual 70, 3) := by decide +kernel
theorem dX7_enters_15 : decode cX7_enters 15 = .ok (.ifCond .eq 6, 3) := by decide +kernel
theorem dX7_enters_18 : decode cX7_enters 18 = .ok (.bipush (-2), 2) := by decide +kernel
theorem dX7_enters_20 : decode cX7_enters 20 = .ok (.ireturn, 1) := by decide +kernel
theorem dX7_enters_21 : decode cX7_enters 21 = .ok (.aload_n 0, 1) := by decide +kernel
theorem dX7_enters_22 : decode cX7_enters 22 = .ok (.iload_n 1, 1) := by decide +kernel
theorem dX7_enters_23 : decode cX7_enters 23 = .ok (.invokevirtual 62, 3) := by decide +kernel
theorem dX7_enters_26 : decode cX7_enters 26 = .ok (.istore_n 2, 1) := by decide +kernel
theorem dX7_enters_27 : decode cX7_enters 27 = .ok (.aload_n 0, 1) := by decide +kernel
theorem dX7_enters_28 : decode cX7_enters 28 = .ok (.getfield 7, 3) := by decide +kernel
theorem dX7_enters_31 : decode cX7_enters 31 = .ok (.bipush 7, 2) := by decide +kernel
theorem dX7_enters_33 : decode cX7_enters 33 = .ok (.iload_n 2, 1) := by decide +kernel
theorem dX7_enters_34 : decode cX7_enters 34 = .ok (.iadd, 1) := by decide +kernel
theorem dX7_enters_35 : decode cX7_enters 35 = .ok (.iaload, 1) := by decide +kernel
theorem dX7_enters_36 : decode cX7_enters 36 = .ok (.istore_n 3, 1) := by decide +kernel
theorem dX7_enters_37 : decode cX7_enters 37 = .ok (.iload_n 3, 1) := by decide +kernel
theorem dX7_enters_38 : decode cX7_enters 38 = .ok (.ifCond .ne 7, 3) := by decide +kernel
theorem dX7_enters_41 : decode cX7_enters 41 = .ok (.iconst 0, 1) := by decide +kernel
theorem dX7_enters_42 : decode cX7_enters 42 = .ok (.goto 20, 3) := by decide +kernel
theorem dX7_enters_45 : decode cX7_enters 45 = .ok (.aload_n 0, 1) := by decide +kernel
theorem dX7_enters_46 : decode cX7_enters 46 = .ok (.iload_n 1, 1) := by decide +kernel
theorem dX7_enters_47 : decode cX7_enters 47 = .ok (.iconst 4, 1) := by decide +kernel
theorem dX7_enters_48 : decode cX7_enters 48 = .ok (.invokevirtual 58, 3) := by decide +kernel
theorem dX7_enters_51 : decode cX7_enters 51 = .ok (.iload_n 3, 1) := by decide +kernel
theorem dX7_enters_52 : decode cX7_enters 52 = .ok (.iadd, 1) := by decide +kernel
theorem dX7_enters_53 : decode cX7_enters 53 = .ok (.iconst 1, 1) := by decide +kernel
theorem dX7_enters_54 : decode cX7_enters 54 = .ok (.isub, 1) := by decide +kernel
theorem dX7_enters_55 : decode cX7_enters 55 = .ok (.aload_n 0, 1) := by decide +kernel
theorem dX7_enters_56 : decode cX7_enters 56 = .ok (.getfield 7, 3) := by decide +kernel
theorem dX7_enters_59 : decode cX7_enters 59 = .ok (.iconst 0, 1) := by decide +kernel
theorem dX7_enters_60 : decode cX7_enters 60 = .ok (.iaload, 1) := by decide +kernel
theorem dX7_enters_61 : decode cX7_enters 61 = .ok (.isub, 1) := by decide +kernel
theorem dX7_enters_62 : decode cX7_enters 62 = .ok (.istore 4, 2) := by decide +kernel
theorem dX7_enters_64 : decode cX7_enters 64 = .ok (.iconst 0, 1) := by decide +kernel
theorem dX7_enters_65 : decode cX7_enters 65 = .ok (.istore 5, 2) := by decide +kernel
theorem dX7_enters_67 : decode cX7_enters 67 = .ok (.iload 5, 2) := by decide +kernel
theorem dX7_enters_69 : decode cX7_enters 69 = .ok (.iload 4, 2) := by decide +kernel
theorem dX7_enters_71 : decode cX7_enters 71 = .ok (.if_icmp .gt 59, 3) := by decide +kernel
theorem dX7_enters_74 : decode cX7_enters 74 = .ok (.aload_n 0, 1) := by decide +kernel
theorem dX7_enters_75 : decode cX7_enters 75 = .ok (.iload_n 2, 1) := by decide +kernel
theorem dX7_enters_76 : decode cX7_enters 76 = .ok (.aload_n 0, 1) := by decide +kernel
theorem dX7_enters_77 : decode cX7_enters 77 = .ok (.getfield 7, 3) := by decide +kernel
theorem dX7_enters_80 : decode cX7_enters 80 = .ok (.iconst 0, 1) := by decide +kernel
theorem dX7_enters_81 : decode cX7_enters 81 = .ok (.iaload, 1) := by decide +kernel
theorem dX7_enters_82 : decode cX7_enters 82 = .ok (.iload 5, 2) := by decide +kernel
theorem dX7_enters_84 : decode cX7_enters 84 = .ok (.iadd, 1) := by decide +kernel
theorem dX7_enters_85 : decode cX7_enters 85 = .ok (.iload_n 3, 1) := by decide +kernel
theorem dX7_enters_86 : decode cX7_enters 86 = .ok (.aload_n 0, 1) := by decide +kernel
theorem dX7_enters_87 : decode cX7_enters 87 = .ok (.getfield 7, 3) := by decide +kernel
theorem dX7_enters_90 : decode cX7_enters 90 = .ok (.iconst 2, 1) := by decide +kernel
theorem dX7_enters_91 : decode cX7_enters 91 = .ok (.iaload, 1) := by decide +kernel
theorem dX7_enters_92 : decode cX7_enters 92 = .ok (.invokevirtual 124, 3) := by decide +kernel
theorem dX7_enters_95 : decode cX7_enters 95 = .ok (.aload_n 0, 1) := by decide +kernel
theorem dX7_enters_96 : decode cX7_enters 96 = .ok (.aload_n 0, 1) := by decide +kernel
theorem dX7_enters_97 : decode cX7_enters 97 = .ok (.getfield 7, 3) := by decide +kernel
theorem dX7_enters_100 : decode cX7_enters 100 = .ok (.iconst 3, 1) := by decide +kernel
theorem dX7_enters_101 : decode cX7_enters 101 = .ok (.iload_n 2, 1) := by decide +kernel
theorem dX7_enters_102 : decode cX7_enters 102 = .ok (.iadd, 1) := by decide +kernel
theorem dX7_enters_103 : decode cX7_enters 103 = .ok (.iaload, 1) := by decide +kernel
theorem dX7_enters_104 : decode cX7_enters 104 = .ok (.invokevirtual 131, 3) := by decide +kernel
theorem dX7_enters_107 : decode cX7_enters 107 = .ok (.aload_n 0, 1) := by decide +kernel
theorem dX7_enters_108 : decode cX7_enters 108 = .ok (.iload_n 1, 1) := by decide +kernel
theorem dX7_enters_109 : decode cX7_enters 109 = .ok (.invokevirtual 140, 3) := by decide +kernel
theorem dX7_enters_112 : decode cX7_enters 112 = .ok (.ifCond .lt 6, 3) := by decide +kernel
theorem dX7_enters_115 : decode cX7_enters 115 = .ok (.iload 5, 2) := by decide +kernel
theorem dX7_enters_117 : decode cX7_enters 117 = .ok (.ireturn, 1) := by decide +kernel
theorem dX7_enters_118 : decode cX7_enters 118 = .ok (.aload_n 0, 1) := by decide +kernel
theorem dX7_enters_119 : decode cX7_enters 119 = .ok (.iload_n 2, 1) := by decide +kernel
theorem dX7_enters_120 : decode cX7_enters 120 = .ok (.iload 5, 2) := by decide +kernel
theorem dX7_enters_122 : decode cX7_enters 122 = .ok (.invokevirtual 183, 3) := by decide +kernel
theorem dX7_enters_125 : decode cX7_enters 125 = .ok (.istore 5, 2) := by decide +kernel
theorem dX7_enters_127 : decode cX7_enters 127 = .ok (.goto (-60), 3) := by decide +kernel
theorem dX7_enters_130 : decode cX7_enters 130 = .ok (.bipush (-2), 2) := by decide +kernel
theorem dX7_enters_132 : decode cX7_enters 132 = .ok (.ireturn, 1) := by decide +kernel
theorem dX7_nextDeath_0 : decode cX7_nextDeath 0 = .ok (.ldc 186, 2) := by decide +kernel
theorem dX7_nextDeath_2 : decode cX7_nextDeath 2 = .ok (.istore_n 3, 1) := by decide +kernel
theorem dX7_nextDeath_3 : decode cX7_nextDeath 3 = .ok (.iconst 0, 1) := by decide +kernel
theorem dX7_nextDeath_4 : decode cX7_nextDeath 4 = .ok (.istore 4, 2) := by decide +kernel
theorem dX7_nextDeath_6 : decode cX7_nextDeath 6 = .ok (.iload 4, 2) := by decide +kernel
theorem dX7_nextDeath_8 : decode cX7_nextDeath 8 = .ok (.aload_n 0, 1) := by decide +kernel
theorem dX7_nextDeath_9 : decode cX7_nextDeath 9 = .ok (.getfield 7, 3) := by decide +kernel
theorem dX7_nextDeath_12 : decode cX7_nextDeath 12 = .ok (.iconst 2, 1) := by decide +kernel
theorem dX7_nextDeath_13 : decode cX7_nextDeath 13 = .ok (.iaload, 1) := by decide +kernel
theorem dX7_nextDeath_14 : decode cX7_nextDeath 14 = .ok (.if_icmp .ge 60, 3) := by decide +kernel
theorem dX7_nextDeath_17 : decode cX7_nextDeath 17 = .ok (.aload_n 0, 1) := by decide +kernel
theorem dX7_nextDeath_18 : decode cX7_nextDeath 18 = .ok (.iload 4, 2) := by decide +kernel
theorem dX7_nextDeath_20 : decode cX7_nextDeath 20 = .ok (.iconst 4, 1) := by decide +kernel
theorem dX7_nextDeath_21 : decode cX7_nextDeath 21 = .ok (.invokevirtual 58, 3) := by decide +kernel
theorem dX7_nextDeath_24 : decode cX7_nextDeath 24 = .ok (.aload_n 0, 1) := by decide +kernel
theorem dX7_nextDeath_25 : decode cX7_nextDeath 25 = .ok (.getfield 7, 3) := by decide +kernel
theorem dX7_nextDeath_28 : decode cX7_nextDeath 28 = .ok (.bipush 7, 2) := by decide +kernel
theorem dX7_nextDeath_30 : decode cX7_nextDeath 30 = .ok (.iload_n 1, 1) := by decide +kernel
theorem dX7_nextDeath_31 : decode cX7_nextDeath 31 = .ok (.iadd, 1) := by decide +kernel
theorem dX7_nextDeath_32 : decode cX7_nextDeath 32 = .ok (.iaload, 1) := by decide +kernel
theorem dX7_nextDeath_33 : decode cX7_nextDeath 33 = .ok (.iadd, 1) := by decide +kernel
theorem dX7_nextDeath_34 : decode cX7_nextDeath 34 = .ok (.aload_n 0, 1) := by decide +kernel
theorem dX7_nextDeath_35 : decode cX7_nextDeath 35 = .ok (.getfield 7, 3) := by decide +kernel
theorem dX7_nextDeath_38 : decode cX7_nextDeath 38 = .ok (.iconst 0, 1) := by decide +kernel
theorem dX7_nextDeath_39 : decode cX7_nextDeath 39 = .ok (.iaload, 1) := by decide +kernel
theorem dX7_nextDeath_40 : decode cX7_nextDeath 40 = .ok (.isub, 1) := by decide +kernel
theorem dX7_nextDeath_41 : decode cX7_nextDeath 41 = .ok (.istore 5, 2) := by decide +kernel
theorem dX7_nextDeath_43 : decode cX7_nextDeath 43 = .ok (.aload_n 0, 1) := by decide +kernel
theorem dX7_nextDeath_44 : decode cX7_nextDeath 44 = .ok (.iload 4, 2) := by decide +kernel
theorem dX7_nextDeath_46 : decode cX7_nextDeath 46 = .ok (.invokevirtual 62, 3) := by decide +kernel
theorem dX7_nextDeath_49 : decode cX7_nextDeath 49 = .ok (.iload_n 1, 1) := by decide +kernel
theorem dX7_nextDeath_50 : decode cX7_nextDeath 50 = .ok (.if_icmp .ne 18, 3) := by decide +kernel
theorem dX7_nextDeath_53 : decode cX7_nextDeath 53 = .ok (.iload 5, 2) := by decide +kernel
theorem dX7_nextDeath_55 : decode cX7_nextDeath 55 = .ok (.iload_n 2, 1) := by decide +kernel
theorem dX7_nextDeath_56 : decode cX7_nextDeath 56 = .ok (.if_icmp .le 12, 3) := by decide +kernel
theorem dX7_nextDeath_59 : decode cX7_nextDeath 59 = .ok (.iload 5, 2) := by decide +kernel
theorem dX7_nextDeath_61 : decode cX7_nextDeath 61 = .ok (.iload_n 3, 1) := by decide +kernel
theorem dX7_nextDeath_62 : decode cX7_nextDeath 62 = .ok (.if_icmp .ge 6, 3) := by decide +kernel
theorem dX7_nextDeath_65 : decode cX7_nextDeath 65 = .ok (.iload 5, 2) := by decide +kernel
theorem dX7_nextDeath_67 : decode cX7_nextDeath 67 = .ok (.istore_n 3, 1) := by decide +kernel
theorem dX7_nextDeath_68 : decode cX7_nextDeath 68 = .ok (.iinc 4 1, 3) := by decide +kernel
theorem dX7_nextDeath_71 : decode cX7_nextDeath 71 = .ok (.goto (-65), 3) := by decide +kernel
theorem dX7_nextDeath_74 : decode cX7_nextDeath 74 = .ok (.iload_n 3, 1) := by decide +kernel
theorem dX7_nextDeath_75 : decode cX7_nextDeath 75 = .ok (.ireturn, 1) := by decide +kernel
theorem dX7_changes_0 : decode cX7_changes 0 = .ok (.iload_n 1, 1) := by decide +kernel
theorem dX7_changes_1 : decode cX7_changes 1 = .ok (.invokestatic 143, 3) := by decide +kernel
theorem dX7_changes_4 : decode cX7_changes 4 = .ok (.ifCond .ne 5, 3) := by decide +kernel
theorem dX7_changes_7 : decode cX7_changes 7 = .ok (.iconst (-1), 1) := by decide +kernel
theorem dX7_changes_8 : decode cX7_changes 8 = .ok (.ireturn, 1) := by decide +kernel
theorem dX7_changes_9 : decode cX7_changes 9 = .ok (.aload_n 0, 1) := by decide +kernel
theorem dX7_changes_10 : decode cX7_changes 10 = .ok (.getfield 7, 3) := by decide +kernel
theorem dX7_changes_13 : decode cX7_changes 13 = .ok (.bipush 7, 2) := by decide +kernel
theorem dX7_changes_15 : decode cX7_changes 15 = .ok (.iload_n 1, 1) := by decide +kernel
theorem dX7_changes_16 : decode cX7_changes 16 = .ok (.iadd, 1) := by decide +kernel
theorem dX7_changes_17 : decode cX7_changes 17 = .ok (.iaload, 1) := by decide +kernel
theorem dX7_changes_18 : decode cX7_changes 18 = .ok (.istore_n 2, 1) := by decide +kernel
theorem dX7_changes_19 : decode cX7_changes 19 = .ok (.iload_n 2, 1) := by decide +kernel
theorem dX7_changes_20 : decode cX7_changes 20 = .ok (.ifCond .ne 6, 3) := by decide +kernel
theorem dX7_changes_23 : decode cX7_changes 23 = .ok (.bipush (-2), 2) := by decide +kernel
theorem dX7_changes_25 : decode cX7_changes 25 = .ok (.ireturn, 1) := by decide +kernel
theorem dX7_changes_26 : decode cX7_changes 26 = .ok (.aload_n 0, 1) := by decide +kernel
theorem dX7_changes_27 : decode cX7_changes 27 = .ok (.iload_n 1, 1) := by decide +kernel
theorem dX7_changes_28 : decode cX7_changes 28 = .ok (.invokevirtual 137, 3) := by decide +kernel
theorem dX7_changes_31 : decode cX7_changes 31 = .ok (.aload_n 0, 1) := by decide +kernel
theorem dX7_changes_32 : decode cX7_changes 32 = .ok (.getfield 103, 3) := by decide +kernel
theorem dX7_changes_35 : decode cX7_changes 35 = .ok (.istore_n 3, 1) := by decide +kernel
theorem dX7_changes_36 : decode cX7_changes 36 = .ok (.iconst 0, 1) := by decide +kernel
theorem dX7_changes_37 : decode cX7_changes 37 = .ok (.istore 4, 2) := by decide +kernel
theorem dX7_changes_39 : decode cX7_changes 39 = .ok (.iload 4, 2) := by decide +kernel
theorem dX7_changes_41 : decode cX7_changes 41 = .ok (.iload_n 3, 1) := by decide +kernel
theorem dX7_changes_42 : decode cX7_changes 42 = .ok (.if_icmp .ge 23, 3) := by decide +kernel
theorem dX7_changes_45 : decode cX7_changes 45 = .ok (.aload_n 0, 1) := by decide +kernel
theorem dX7_changes_46 : decode cX7_changes 46 = .ok (.getfield 35, 3) := by decide +kernel
theorem dX7_changes_49 : decode cX7_changes 49 = .ok (.iload 4, 2) := by decide +kernel
theorem dX7_changes_51 : decode cX7_changes 51 = .ok (.aload_n 0, 1) := by decide +kernel
theorem dX7_changes_52 : decode cX7_changes 52 = .ok (.getfield 29, 3) := by decide +kernel
theorem dX7_changes_55 : decode cX7_changes 55 = .ok (.iload 4, 2) := by decide +kernel
theorem dX7_changes_57 : decode cX7_changes 57 = .ok (.iaload, 1) := by decide +kernel
theorem dX7_changes_58 : decode cX7_changes 58 = .ok (.iastore, 1) := by decide +kernel
theorem dX7_changes_59 : decode cX7_changes 59 = .ok (.iinc 4 1, 3) := by decide +kernel
theorem dX7_changes_62 : decode cX7_changes 62 = .ok (.goto (-23), 3) := by decide +kernel
theorem dX7_changes_65 : decode cX7_changes 65 = .ok (.aload_n 0, 1) := by decide +kernel
theorem dX7_changes_66 : decode cX7_changes 66 = .ok (.iload_n 1, 1) := by decide +kernel
theorem dX7_changes_67 : decode cX7_changes 67 = .ok (.iconst 0, 1) := by decide +kernel
theorem dX7_changes_68 : decode cX7_changes 68 = .ok (.invokevirtual 183, 3) := by decide +kernel
theorem dX7_changes_71 : decode cX7_changes 71 = .ok (.istore 4, 2) := by decide +kernel
theorem dX7_changes_73 : decode cX7_changes 73 = .ok (.iload 4, 2) := by decide +kernel
theorem dX7_changes_75 : decode cX7_changes 75 = .ok (.ldc 186, 2) := by decide +kernel
theorem dX7_changes_77 : decode cX7_changes 77 = .ok (.if_icmp .ge 118, 3) := by decide +kernel
theorem dX7_changes_80 : decode cX7_changes 80 = .ok (.aload_n 0, 1) := by decide +kernel
theorem dX7_changes_81 : decode cX7_changes 81 = .ok (.iload_n 1, 1) := by decide +kernel
theorem dX7_changes_82 : decode cX7_changes 82 = .ok (.aload_n 0, 1) := by decide +kernel
theorem dX7_changes_83 : decode cX7_changes 83 = .ok (.getfield 7, 3) := by decide +kernel
theorem dX7_changes_86 : decode cX7_changes 86 = .ok (.iconst 0, 1) := by decide +kernel
theorem dX7_changes_87 : decode cX7_changes 87 = .ok (.iaload, 1) := by decide +kernel
theorem dX7_changes_88 : decode cX7_changes 88 = .ok (.iload 4, 2) := by decide +kernel
theorem dX7_changes_90 : decode cX7_changes 90 = .ok (.iadd, 1) := by decide +kernel
theorem dX7_changes_91 : decode cX7_changes 91 = .ok (.iload_n 2, 1) := by decide +kernel
theorem dX7_changes_92 : decode cX7_changes 92 = .ok (.aload_n 0, 1) := by decide +kernel
theorem dX7_changes_93 : decode cX7_changes 93 = .ok (.getfield 7, 3) := by decide +kernel
theorem dX7_changes_96 : decode cX7_changes 96 = .ok (.iconst 2, 1) := by decide +kernel
theorem dX7_changes_97 : decode cX7_changes 97 = .ok (.iaload, 1) := by decide +kernel
theorem dX7_changes_98 : decode cX7_changes 98 = .ok (.invokevirtual 124, 3) := by decide +kernel
theorem dX7_changes_101 : decode cX7_changes 101 = .ok (.aload_n 0, 1) := by decide +kernel
theorem dX7_changes_102 : decode cX7_changes 102 = .ok (.aload_n 0, 1) := by decide +kernel
theorem dX7_changes_103 : decode cX7_changes 103 = .ok (.getfield 7, 3) := by decide +kernel
theorem dX7_changes_106 : decode cX7_changes 106 = .ok (.iconst 3, 1) := by decide +kernel
theorem dX7_changes_107 : decode cX7_changes 107 = .ok (.iload_n 1, 1) := by decide +kernel
theorem dX7_changes_108 : decode cX7_changes 108 = .ok (.iadd, 1) := by decide +kernel
theorem dX7_changes_109 : decode cX7_changes 109 = .ok (.iaload, 1) := by decide +kernel
theorem dX7_changes_110 : decode cX7_changes 110 = .ok (.invokevirtual 131, 3) := by decide +kernel
theorem dX7_changes_113 : decode cX7_changes 113 = .ok (.aload_n 0, 1) := by decide +kernel
theorem dX7_changes_114 : decode cX7_changes 114 = .ok (.getfield 103, 3) := by decide +kernel
theorem dX7_changes_117 : decode cX7_changes 117 = .ok (.iload_n 3, 1) := by decide +kernel
theorem dX7_changes_118 : decode cX7_changes 118 = .ok (.if_icmp .ne 7, 3) := by decide +kernel
theorem dX7_changes_121 : decode cX7_changes 121 = .ok (.iconst 1, 1) := by decide +kernel
theorem dX7_changes_122 : decode cX7_changes 122 = .ok (.goto 4, 3) := by decide +kernel
theorem dX7_changes_125 : decode cX7_changes 125 = .ok (.iconst 0, 1) := by decide +kernel
theorem dX7_changes_126 : decode cX7_changes 126 = .ok (.istore 5, 2) := by decide +kernel
theorem dX7_changes_128 : decode cX7_changes 128 = .ok (.iconst 0, 1) := by decide +kernel
theorem dX7_changes_129 : decode cX7_changes 129 = .ok (.istore 6, 2) := by decide +kernel
theorem dX7_changes_131 : decode cX7_changes 131 = .ok (.iload 6, 2) := by decide +kernel
theorem dX7_changes_133 : decode cX7_changes 133 = .ok (.aload_n 0, 1) := by decide +kernel
theorem dX7_changes_134 : decode cX7_changes 134 = .ok (.getfield 103, 3) := by decide +kernel
theorem dX7_changes_137 : decode cX7_changes 137 = .ok (.if_icmp .ge 38, 3) := by decide +kernel
theorem dX7_changes_140 : decode cX7_changes 140 = .ok (.iload 5, 2) := by decide +kernel
theorem dX7_changes_142 : decode cX7_changes 142 = .ok (.ifCond .eq 33, 3) := by decide +kernel
theorem dX7_changes_145 : decode cX7_changes 145 = .ok (.aload_n 0, 1) := by decide +kernel
theorem dX7_changes_146 : decode cX7_changes 146 = .ok (.getfield 29, 3) := by decide +kernel
theorem dX7_changes_149 : decode cX7_changes 149 = .ok (.iload 6, 2) := by decide +kernel
theorem dX7_changes_151 : decode cX7_changes 151 = .ok (.iaload, 1) := by decide +kernel
theorem dX7_changes_152 : decode cX7_changes 152 = .ok (.aload_n 0, 1) := by decide +kernel
theorem dX7_changes_153 : decode cX7_changes 153 = .ok (.getfield 35, 3) := by decide +kernel
theorem dX7_changes_156 : decode cX7_changes 156 = .ok (.iload 6, 2) := by decide +kernel
theorem dX7_changes_158 : decode cX7_changes 158 = .ok (.iaload, 1) := by decide +kernel
theorem dX7_changes_159 : decode cX7_changes 159 = .ok (.if_icmp .ne 7, 3) := by decide +kernel
theorem dX7_changes_162 : decode cX7_changes 162 = .ok (.iconst 1, 1) := by decide +kernel
theorem dX7_changes_163 : decode cX7_changes 163 = .ok (.goto 4, 3) := by decide +kernel
theorem dX7_changes_166 : decode cX7_changes 166 = .ok (.iconst 0, 1) := by decide +kernel
theorem dX7_changes_167 : decode cX7_changes 167 = .ok (.istore 5, 2) := by decide +kernel
theorem dX7_changes_169 : decode cX7_changes 169 = .ok (.iinc 6 1, 3) := by decide +kernel
theorem dX7_changes_172 : decode cX7_changes 172 = .ok (.goto (-41), 3) := by decide +kernel
theorem dX7_changes_175 : decode cX7_changes 175 = .ok (.iload 5, 2) := by decide +kernel
theorem dX7_changes_177 : decode cX7_changes 177 = .ok (.ifCond .ne 6, 3) := by decide +kernel
theorem dX7_changes_180 : decode cX7_changes 180 = .ok (.iload 4, 2) := by decide +kernel
theorem dX7_changes_182 : decode cX7_changes 182 = .ok (.ireturn, 1) := by decide +kernel
theorem dX7_changes_183 : decode cX7_changes 183 = .ok (.aload_n 0, 1) := by decide +kernel
theorem dX7_changes_184 : decode cX7_changes 184 = .ok (.iload_n 1, 1) := by decide +kernel
theorem dX7_changes_185 : decode cX7_changes 185 = .ok (.iload 4, 2) := by decide +kernel
theorem dX7_changes_187 : decode cX7_changes 187 = .ok (.invokevirtual 183, 3) := by decide +kernel
theorem dX7_changes_190 : decode cX7_changes 190 = .ok (.istore 4, 2) := by decide +kernel
theorem dX7_changes_192 : decode cX7_changes 192 = .ok (.goto (-119), 3) := by decide +kernel
theorem dX7_changes_195 : decode cX7_changes 195 = .ok (.bipush (-2), 2) := by decide +kernel
theorem dX7_changes_197 : decode cX7_changes 197 = .ok (.ireturn, 1) := by decide +kernel
theorem dX7_laysThen_0 : decode cX7_laysThen 0 = .ok (.aload_n 0, 1) := by decide +kernel
theorem dX7_laysThen_1 : decode cX7_laysThen 1 = .ok (.iload_n 1, 1) := by decide +kernel
theorem dX7_laysThen_2 : decode cX7_laysThen 2 = .ok (.invokevirtual 62, 3) := by decide +kernel
theorem dX7_laysThen_5 : decode cX7_laysThen 5 = .ok (.istore_n 3, 1) := by decide +kernel
theorem dX7_laysThen_6 : decode cX7_laysThen 6 = .ok (.aload_n 0, 1) := by decide +kernel
theorem dX7_laysThen_7 : decode cX7_laysThen 7 = .ok (.iload_n 3, 1) := by decide +kernel
theorem dX7_laysThen_8 : decode cX7_laysThen 8 = .ok (.aload_n 0, 1) := by decide +kernel
theorem dX7_laysThen_9 : decode cX7_laysThen 9 = .ok (.iload_n 1, 1) := by decide +kernel
theorem dX7_laysThen_10 : decode cX7_laysThen 10 = .ok (.iconst 4, 1) := by decide +kernel
theorem dX7_laysThen_11 : decode cX7_laysThen 11 = .ok (.invokevirtual 58, 3) := by decide +kernel
theorem dX7_laysThen_14 : decode cX7_laysThen 14 = .ok (.aload_n 0, 1) := by decide +kernel
theorem dX7_laysThen_15 : decode cX7_laysThen 15 = .ok (.getfield 7, 3) := by decide +kernel
theorem dX7_laysThen_18 : decode cX7_laysThen 18 = .ok (.bipush 7, 2) := by decide +kernel
theorem dX7_laysThen_20 : decode cX7_laysThen 20 = .ok (.iload_n 3, 1) := by decide +kernel
theorem dX7_laysThen_21 : decode cX7_laysThen 21 = .ok (.iadd, 1) := by decide +kernel
theorem dX7_laysThen_22 : decode cX7_laysThen 22 = .ok (.iaload, 1) := by decide +kernel
theorem dX7_laysThen_23 : decode cX7_laysThen 23 = .ok (.iload_n 1, 1) := by decide +kernel
theorem dX7_laysThen_24 : decode cX7_laysThen 24 = .ok (.iload_n 2, 1) := by decide +kernel
theorem dX7_laysThen_25 : decode cX7_laysThen 25 = .ok (.ifCond .eq 7, 3) := by decide +kernel
theorem dX7_laysThen_28 : decode cX7_laysThen 28 = .ok (.iconst 1, 1) := by decide +kernel
theorem dX7_laysThen_29 : decode cX7_laysThen 29 = .ok (.goto 4, 3) := by decide +kernel
theorem dX7_laysThen_32 : decode cX7_laysThen 32 = .ok (.iconst 0, 1) := by decide +kernel
theorem dX7_laysThen_33 : decode cX7_laysThen 33 = .ok (.iadd, 1) := by decide +kernel
theorem dX7_laysThen_34 : decode cX7_laysThen 34 = .ok (.invokevirtual 124, 3) := by decide +kernel
theorem dX7_laysThen_37 : decode cX7_laysThen 37 = .ok (.aload_n 0, 1) := by decide +kernel
theorem dX7_laysThen_38 : decode cX7_laysThen 38 = .ok (.aload_n 0, 1) := by decide +kernel
theorem dX7_laysThen_39 : decode cX7_laysThen 39 = .ok (.getfield 7, 3) := by decide +kernel
theorem dX7_laysThen_42 : decode cX7_laysThen 42 = .ok (.iconst 3, 1) := by decide +kernel
theorem dX7_laysThen_43 : decode cX7_laysThen 43 = .ok (.iload_n 3, 1) := by decide +kernel
theorem dX7_laysThen_44 : decode cX7_laysThen 44 = .ok (.iadd, 1) := by decide +kernel
theorem dX7_laysThen_45 : decode cX7_laysThen 45 = .ok (.iaload, 1) := by decide +kernel
theorem dX7_laysThen_46 : decode cX7_laysThen 46 = .ok (.invokevirtual 131, 3) := by decide +kernel
theorem dX7_laysThen_49 : decode cX7_laysThen 49 = .ok (.return_, 1) := by decide +kernel
theorem dX7_then_0 : decode cX7_then 0 = .ok (.aload_n 0, 1) := by decide +kernel
theorem dX7_then_1 : decode cX7_then 1 = .ok (.iload_n 1, 1) := by decide +kernel
theorem dX7_then_2 : decode cX7_then 2 = .ok (.invokevirtual 66, 3) := by decide +kernel
theorem dX7_then_5 : decode cX7_then 5 = .ok (.ifCond .eq 8, 3) := by decide +kernel
theorem dX7_then_8 : decode cX7_then 8 = .ok (.iload_n 2, 1) := by decide +kernel
theorem dX7_then_9 : decode cX7_then 9 = .ok (.iconst (-1), 1) := by decide +kernel
theorem dX7_then_10 : decode cX7_then 10 = .ok (.if_icmp .ge 5, 3) := by decide +kernel
theorem dX7_then_13 : decode cX7_then 13 = .ok (.iconst (-1), 1) := by decide +kernel
theorem dX7_then_14 : decode cX7_then 14 = .ok (.ireturn, 1) := by decide +kernel
theorem dX7_then_15 : decode cX7_then 15 = .ok (.aload_n 0, 1) := by decide +kernel
theorem dX7_then_16 : decode cX7_then 16 = .ok (.iload_n 1, 1) := by decide +kernel
theorem dX7_then_17 : decode cX7_then 17 = .ok (.invokevirtual 70, 3) := by decide +kernel
theorem dX7_then_20 : decode cX7_then 20 = .ok (.ifCond .eq 6, 3) := by decide +kernel
theorem dX7_then_23 : decode cX7_then 23 = .ok (.bipush (-2), 2) := by decide +kernel
theorem dX7_then_25 : decode cX7_then 25 = .ok (.ireturn, 1) := by decide +kernel
theorem dX7_then_26 : decode cX7_then 26 = .ok (.aload_n 0, 1) := by decide +kernel
theorem dX7_then_27 : decode cX7_then 27 = .ok (.iload_n 1, 1) := by decide +kernel
theorem dX7_then_28 : decode cX7_then 28 = .ok (.iconst 1, 1) := by decide +kernel
theorem dX7_then_29 : decode cX7_then 29 = .ok (.invokevirtual 187, 3) := by decide +kernel
theorem dX7_then_32 : decode cX7_then 32 = .ok (.aload_n 0, 1) := by decide +kernel
theorem dX7_then_33 : decode cX7_then 33 = .ok (.iload_n 2, 1) := by decide +kernel
theorem dX7_then_34 : decode cX7_then 34 = .ok (.invokevirtual 146, 3) := by decide +kernel
theorem dX7_then_37 : decode cX7_then 37 = .ok (.ireturn, 1) := by decide +kernel
theorem dX7_putsOut_0 : decode cX7_putsOut 0 = .ok (.aload_n 0, 1) := by decide +kernel
theorem dX7_putsOut_1 : decode cX7_putsOut 1 = .ok (.iload_n 1, 1) := by decide +kernel
theorem dX7_putsOut_2 : decode cX7_putsOut 2 = .ok (.iconst 0, 1) := by decide +kernel
theorem dX7_putsOut_3 : decode cX7_putsOut 3 = .ok (.invokevirtual 187, 3) := by decide +kernel
theorem dX7_putsOut_6 : decode cX7_putsOut 6 = .ok (.aload_n 0, 1) := by decide +kernel
theorem dX7_putsOut_7 : decode cX7_putsOut 7 = .ok (.getfield 103, 3) := by decide +kernel
theorem dX7_putsOut_10 : decode cX7_putsOut 10 = .ok (.istore_n 3, 1) := by decide +kernel
theorem dX7_putsOut_11 : decode cX7_putsOut 11 = .ok (.iconst 0, 1) := by decide +kernel
theorem dX7_putsOut_12 : decode cX7_putsOut 12 = .ok (.istore 4, 2) := by decide +kernel
theorem dX7_putsOut_14 : decode cX7_putsOut 14 = .ok (.iload 4, 2) := by decide +kernel
theorem dX7_putsOut_16 : decode cX7_putsOut 16 = .ok (.iload_n 3, 1) := by decide +kernel
theorem dX7_putsOut_17 : decode cX7_putsOut 17 = .ok (.if_icmp .ge 23, 3) := by decide +kernel
theorem dX7_putsOut_20 : decode cX7_putsOut 20 = .ok (.aload_n 0, 1) := by decide +kernel
theorem dX7_putsOut_21 : decode cX7_putsOut 21 = .ok (.getfield 35, 3) := by decide +kernel
theorem dX7_putsOut_24 : decode cX7_putsOut 24 = .ok (.iload 4, 2) := by decide +kernel
theorem dX7_putsOut_26 : decode cX7_putsOut 26 = .ok (.aload_n 0, 1) := by decide +kernel
theorem dX7_putsOut_27 : decode cX7_putsOut 27 = .ok (.getfield 29, 3) := by decide +kernel
theorem dX7_putsOut_30 : decode cX7_putsOut 30 = .ok (.iload 4, 2) := by decide +kernel
theorem dX7_putsOut_32 : decode cX7_putsOut 32 = .ok (.iaload, 1) := by decide +kernel
theorem dX7_putsOut_33 : decode cX7_putsOut 33 = .ok (.iastore, 1) := by decide +kernel
theorem dX7_putsOut_34 : decode cX7_putsOut 34 = .ok (.iinc 4 1, 3) := by decide +kernel
theorem dX7_putsOut_37 : decode cX7_putsOut 37 = .ok (.goto (-23), 3) := by decide +kernel
theorem dX7_putsOut_40 : decode cX7_putsOut 40 = .ok (.aload_n 0, 1) := by decide +kernel
theorem dX7_putsOut_41 : decode cX7_putsOut 41 = .ok (.iload_n 1, 1) := by decide +kernel
theorem dX7_putsOut_42 : decode cX7_putsOut 42 = .ok (.iconst 1, 1) := by decide +kernel
theorem dX7_putsOut_43 : decode cX7_putsOut 43 = .ok (.invokevirtual 187, 3) := by decide +kernel
theorem dX7_putsOut_46 : decode cX7_putsOut 46 = .ok (.iconst 0, 1) := by decide +kernel
theorem dX7_putsOut_47 : decode cX7_putsOut 47 = .ok (.istore 4, 2) := by decide +kernel
theorem dX7_putsOut_49 : decode cX7_putsOut 49 = .ok (.iload 4, 2) := by decide +kernel
theorem dX7_putsOut_51 : decode cX7_putsOut 51 = .ok (.iload_n 3, 1) := by decide +kernel
theorem dX7_putsOut_52 : decode cX7_putsOut 52 = .ok (.if_icmp .ge 41, 3) := by decide +kernel
theorem dX7_putsOut_55 : decode cX7_putsOut 55 = .ok (.iload_n 2, 1) := by decide +kernel
theorem dX7_putsOut_56 : decode cX7_putsOut 56 = .ok (.iconst (-1), 1) := by decide +kernel
theorem dX7_putsOut_57 : decode cX7_putsOut 57 = .ok (.if_icmp .eq 14, 3) := by decide +kernel
theorem dX7_putsOut_60 : decode cX7_putsOut 60 = .ok (.aload_n 0, 1) := by decide +kernel
theorem dX7_putsOut_61 : decode cX7_putsOut 61 = .ok (.getfield 35, 3) := by decide +kernel
theorem dX7_putsOut_64 : decode cX7_putsOut 64 = .ok (.iload 4, 2) := by decide +kernel
theorem dX7_putsOut_66 : decode cX7_putsOut 66 = .ok (.iaload, 1) := by decide +kernel
theorem dX7_putsOut_67 : decode cX7_putsOut 67 = .ok (.iload_n 2, 1) := by decide +kernel
theorem dX7_putsOut_68 : decode cX7_putsOut 68 = .ok (.if_icmp .ne 19, 3) := by decide +kernel
theorem dX7_putsOut_71 : decode cX7_putsOut 71 = .ok (.aload_n 0, 1) := by decide +kernel
theorem dX7_putsOut_72 : decode cX7_putsOut 72 = .ok (.aload_n 0, 1) := by decide +kernel
theorem dX7_putsOut_73 : decode cX7_putsOut 73 = .ok (.getfield 35, 3) := by decide +kernel
theorem dX7_putsOut_76 : decode cX7_putsOut 76 = .ok (.iload 4, 2) := by decide +kernel
theorem dX7_putsOut_78 : decode cX7_putsOut 78 = .ok (.iaload, 1) := by decide +kernel
theorem dX7_putsOut_79 : decode cX7_putsOut 79 = .ok (.invokevirtual 140, 3) := by decide +kernel
theorem dX7_putsOut_82 : decode cX7_putsOut 82 = .ok (.ifCond .ge 5, 3) := by decide +kernel
theorem dX7_putsOut_85 : decode cX7_putsOut 85 = .ok (.iconst 1, 1) := by decide +kernel
theorem dX7_putsOut_86 : decode cX7_putsOut 86 = .ok (.ireturn, 1) := by decide +kernel
theorem dX7_putsOut_87 : decode cX7_putsOut 87 = .ok (.iinc 4 1, 3) := by decide +kernel
theorem dX7_putsOut_90 : decode cX7_putsOut 90 = .ok (.goto (-41), 3) := by decide +kernel
theorem dX7_putsOut_93 : decode cX7_putsOut 93 = .ok (.iconst 0, 1) := by decide +kernel
theorem dX7_putsOut_94 : decode cX7_putsOut 94 = .ok (.ireturn, 1) := by decide +kernel
theorem dX7_played_0 : decode cX7_played 0 = .ok (.iload_n 1, 1) := by decide +kernel
theorem dX7_played_1 : decode cX7_played 1 = .ok (.invokestatic 143, 3) := by decide +kernel
theorem dX7_played_4 : decode cX7_played 4 = .ok (.ifCond .eq 13, 3) := by decide +kernel
theorem dX7_played_7 : decode cX7_played 7 = .ok (.iload_n 2, 1) := by decide +kernel
theorem dX7_played_8 : decode cX7_played 8 = .ok (.i2l, 1) := by decide +kernel
theorem dX7_played_9 : decode cX7_played 9 = .ok (.lconst 0, 1) := by decide +kernel
theorem dX7_played_10 : decode cX7_played 10 = .ok (.lconst 1, 1) := by decide +kernel
theorem dX7_played_11 : decode cX7_played 11 = .ok (.invokestatic 54, 3) := by decide +kernel
theorem dX7_played_14 : decode cX7_played 14 = .ok (.ifCond .ne 5, 3) := by decide +kernel
theorem dX7_played_17 : decode cX7_played 17 = .ok (.iconst (-1), 1) := by decide +kernel
theorem dX7_played_18 : decode cX7_played 18 = .ok (.ireturn, 1) := by decide +kernel
theorem dX7_played_19 : decode cX7_played 19 = .ok (.iconst 0, 1) := by decide +kernel
theorem dX7_played_20 : decode cX7_played 20 = .ok (.istore_n 3, 1) := by decide +kernel
theorem dX7_played_21 : decode cX7_played 21 = .ok (.iconst 0, 1) := by decide +kernel
theorem dX7_played_22 : decode cX7_played 22 = .ok (.istore 4, 2) := by decide +kernel
theorem dX7_played_24 : decode cX7_played 24 = .ok (.iload 4, 2) := by decide +kernel
theorem dX7_played_26 : decode cX7_played 26 = .ok (.aload_n 0, 1) := by decide +kernel
theorem dX7_played_27 : decode cX7_played 27 = .ok (.getfield 7, 3) := by decide +kernel
theorem dX7_played_30 : decode cX7_played 30 = .ok (.iconst 2, 1) := by decide +kernel
theorem dX7_played_31 : decode cX7_played 31 = .ok (.iaload, 1) := by decide +kernel
theorem dX7_played_32 : decode cX7_played 32 = .ok (.if_icmp .ge 76, 3) := by decide +kernel
theorem dX7_played_35 : decode cX7_played 35 = .ok (.aload_n 0, 1) := by decide +kernel
theorem dX7_played_36 : decode cX7_played 36 = .ok (.iload 4, 2) := by decide +kernel
theorem dX7_played_38 : decode cX7_played 38 = .ok (.invokevirtual 62, 3) := by decide +kernel
theorem dX7_played_41 : decode cX7_played 41 = .ok (.iload_n 1, 1) := by decide +kernel
theorem dX7_played_42 : decode cX7_played 42 = .ok (.if_icmp .eq 6, 3) := by decide +kernel
theorem dX7_played_45 : decode cX7_played 45 = .ok (.goto 57, 3) := by decide +kernel
theorem dX7_played_48 : decode cX7_played 48 = .ok (.iload_n 2, 1) := by decide +kernel
theorem dX7_played_49 : decode cX7_played 49 = .ok (.ifCond .ne 10, 3) := by decide +kernel
theorem dX7_played_52 : decode cX7_played 52 = .ok (.aload_n 0, 1) := by decide +kernel
theorem dX7_played_53 : decode cX7_played 53 = .ok (.iload 4, 2) := by decide +kernel
theorem dX7_played_55 : decode cX7_played 55 = .ok (.iconst 1, 1) := by decide +kernel
theorem dX7_played_56 : decode cX7_played 56 = .ok (.invokevirtual 187, 3) := by decide +kernel
theorem dX7_played_59 : decode cX7_played 59 = .ok (.iload_n 2, 1) := by decide +kernel
theorem dX7_played_60 : decode cX7_played 60 = .ok (.ifCond .ne 20, 3) := by decide +kernel
theorem dX7_played_63 : decode cX7_played 63 = .ok (.aload_n 0, 1) := by decide +kernel
theorem dX7_played_64 : decode cX7_played 64 = .ok (.iload 4, 2) := by decide +kernel
theorem dX7_played_66 : decode cX7_played 66 = .ok (.invokevirtual 140, 3) := by decide +kernel
theorem dX7_played_69 : decode cX7_played 69 = .ok (.ifCond .lt 7, 3) := by decide +kernel
theorem dX7_played_72 : decode cX7_played 72 = .ok (.iconst 1, 1) := by decide +kernel
theorem dX7_played_73 : decode cX7_played 73 = .ok (.goto 14, 3) := by decide +kernel
theorem dX7_played_76 : decode cX7_played 76 = .ok (.iconst 0, 1) := by decide +kernel
theorem dX7_played_77 : decode cX7_played 77 = .ok (.goto 10, 3) := by decide +kernel
theorem dX7_played_80 : decode cX7_played 80 = .ok (.aload_n 0, 1) := by decide +kernel
theorem dX7_played_81 : decode cX7_played 81 = .ok (.iload 4, 2) := by decide +kernel
theorem dX7_played_83 : decode cX7_played 83 = .ok (.iconst (-1), 1) := by decide +kernel
theorem dX7_played_84 : decode cX7_played 84 = .ok (.invokevirtual 191, 3) := by decide +kernel
theorem dX7_played_87 : decode cX7_played 87 = .ok (.istore 5, 2) := by decide +kernel
theorem dX7_played_89 : decode cX7_played 89 = .ok (.iload_n 3, 1) := by decide +kernel
theorem dX7_played_90 : decode cX7_played 90 = .ok (.iload 5, 2) := by decide +kernel
theorem dX7_played_92 : decode cX7_played 92 = .ok (.ifCond .eq 7, 3) := by decide +kernel
theorem dX7_played_95 : decode cX7_played 95 = .ok (.iconst 1, 1) := by decide +kernel
theorem dX7_played_96 : decode cX7_played 96 = .ok (.goto 4, 3) := by decide +kernel
theorem dX7_played_99 : decode cX7_played 99 = .ok (.iconst 0, 1) := by decide +kernel
theorem dX7_played_100 : decode cX7_played 100 = .ok (.iadd, 1) := by decide +kernel
theorem dX7_played_101 : decode cX7_played 101 = .ok (.istore_n 3, 1) := by decide +kernel
theorem dX7_played_102 : decode cX7_played 102 = .ok (.iinc 4 1, 3) := by decide +kernel
theorem dX7_played_105 : decode cX7_played 105 = .ok (.goto (-81), 3) := by decide +kernel
theorem dX7_played_108 : decode cX7_played 108 = .ok (.iload_n 3, 1) := by decide +kernel
theorem dX7_played_109 : decode cX7_played 109 = .ok (.ireturn, 1) := by decide +kernel
theorem dX7_outBy_0 : decode cX7_outBy 0 = .ok (.aload_n 0, 1) := by decide +kernel
theorem dX7_outBy_1 : decode cX7_outBy 1 = .ok (.iload_n 1, 1) := by decide +kernel
theorem dX7_outBy_2 : decode cX7_outBy 2 = .ok (.invokevirtual 66, 3) := by decide +kernel
theorem dX7_outBy_5 : decode cX7_outBy 5 = .ok (.ifCond .ne 5, 3) := by decide +kernel
theorem dX7_outBy_8 : decode cX7_outBy 8 = .ok (.iconst (-1), 1) := by decide +kernel
theorem dX7_outBy_9 : decode cX7_outBy 9 = .ok (.ireturn, 1) := by decide +kernel
theorem dX7_outBy_10 : decode cX7_outBy 10 = .ok (.aload_n 0, 1) := by decide +kernel
theorem dX7_outBy_11 : decode cX7_outBy 11 = .ok (.iload_n 1, 1) := by decide +kernel
theorem dX7_outBy_12 : decode cX7_outBy 12 = .ok (.invokevirtual 70, 3) := by decide +kernel
theorem dX7_outBy_15 : decode cX7_outBy 15 = .ok (.ifCond .eq 6, 3) := by decide +kernel
theorem dX7_outBy_18 : decode cX7_outBy 18 = .ok (.bipush (-2), 2) := by decide +kernel
theorem dX7_outBy_20 : decode cX7_outBy 20 = .ok (.ireturn, 1) := by decide +kernel
theorem dX7_outBy_21 : decode cX7_outBy 21 = .ok (.iload_n 1, 1) := by decide +kernel
theorem dX7_outBy_22 : decode cX7_outBy 22 = .ok (.iconst 1, 1) := by decide +kernel
theorem dX7_outBy_23 : decode cX7_outBy 23 = .ok (.iadd, 1) := by decide +kernel
theorem dX7_outBy_24 : decode cX7_outBy 24 = .ok (.istore_n 2, 1) := by decide +kernel
theorem dX7_outBy_25 : decode cX7_outBy 25 = .ok (.iload_n 2, 1) := by decide +kernel
theorem dX7_outBy_26 : decode cX7_outBy 26 = .ok (.aload_n 0, 1) := by decide +kernel
theorem dX7_outBy_27 : decode cX7_outBy 27 = .ok (.getfield 7, 3) := by decide +kernel
theorem dX7_outBy_30 : decode cX7_outBy 30 = .ok (.iconst 2, 1) := by decide +kernel
theorem dX7_outBy_31 : decode cX7_outBy 31 = .ok (.iaload, 1) := by decide +kernel
theorem dX7_outBy_32 : decode cX7_outBy 32 = .ok (.if_icmp .ge 33, 3) := by decide +kernel
theorem dX7_outBy_35 : decode cX7_outBy 35 = .ok (.aload_n 0, 1) := by decide +kernel
theorem dX7_outBy_36 : decode cX7_outBy 36 = .ok (.iload_n 2, 1) := by decide +kernel
theorem dX7_outBy_37 : decode cX7_outBy 37 = .ok (.invokevirtual 62, 3) := by decide +kernel
theorem dX7_outBy_40 : decode cX7_outBy 40 = .ok (.aload_n 0, 1) := by decide +kernel
theorem dX7_outBy_41 : decode cX7_outBy 41 = .ok (.iload_n 1, 1) := by decide +kernel
theorem dX7_outBy_42 : decode cX7_outBy 42 = .ok (.invokevirtual 62, 3) := by decide +kernel
theorem dX7_outBy_45 : decode cX7_outBy 45 = .ok (.if_icmp .ne 14, 3) := by decide +kernel
theorem dX7_outBy_48 : decode cX7_outBy 48 = .ok (.aload_n 0, 1) := by decide +kernel
theorem dX7_outBy_49 : decode cX7_outBy 49 = .ok (.iload_n 2, 1) := by decide +kernel
theorem dX7_outBy_50 : decode cX7_outBy 50 = .ok (.iload_n 1, 1) := by decide +kernel
theorem dX7_outBy_51 : decode cX7_outBy 51 = .ok (.invokevirtual 191, 3) := by decide +kernel
theorem dX7_outBy_54 : decode cX7_outBy 54 = .ok (.ifCond .eq 5, 3) := by decide +kernel
theorem dX7_outBy_57 : decode cX7_outBy 57 = .ok (.iload_n 2, 1) := by decide +kernel
theorem dX7_outBy_58 : decode cX7_outBy 58 = .ok (.ireturn, 1) := by decide +kernel
theorem dX7_outBy_59 : decode cX7_outBy 59 = .ok (.iinc 2 1, 3) := by decide +kernel
theorem dX7_outBy_62 : decode cX7_outBy 62 = .ok (.goto (-37), 3) := by decide +kernel
theorem dX7_outBy_65 : decode cX7_outBy 65 = .ok (.bipush (-2), 2) := by decide +kernel
theorem dX7_outBy_67 : decode cX7_outBy 67 = .ok (.ireturn, 1) := by decide +kernel
theorem dX7_labels_0 : decode cX7_labels 0 = .ok (.iload_n 1, 1) := by decide +kernel
theorem dX7_labels_1 : decode cX7_labels 1 = .ok (.invokestatic 143, 3) := by decide +kernel
theorem dX7_labels_4 : decode cX7_labels 4 = .ok (.ifCond .eq 27, 3) := by decide +kernel
theorem dX7_labels_7 : decode cX7_labels 7 = .ok (.iload_n 2, 1) := by decide +kernel
theorem dX7_labels_8 : decode cX7_labels 8 = .ok (.i2l, 1) := by decide +kernel
theorem dX7_labels_9 : decode cX7_labels 9 = .ok (.lconst 0, 1) := by decide +kernel
theorem dX7_labels_10 : decode cX7_labels 10 = .ok (.ldc2_w 194, 3) := by decide +kernel
theorem dX7_labels_13 : decode cX7_labels 13 = .ok (.invokestatic 54, 3) := by decide +kernel
theorem dX7_labels_16 : decode cX7_labels 16 = .ok (.ifCond .eq 15, 3) := by decide +kernel
theorem dX7_labels_19 : decode cX7_labels 19 = .ok (.iload_n 3, 1) := by decide +kernel
theorem dX7_labels_20 : decode cX7_labels 20 = .ok (.i2l, 1) := by decide +kernel
theorem dX7_labels_21 : decode cX7_labels 21 = .ok (.lconst 0, 1) := by decide +kernel
theorem dX7_labels_22 : decode cX7_labels 22 = .ok (.ldc2_w 52, 3) := by decide +kernel
theorem dX7_labels_25 : decode cX7_labels 25 = .ok (.invokestatic 54, 3) := by decide +kernel
theorem dX7_labels_28 : decode cX7_labels 28 = .ok (.ifCond .ne 5, 3) := by decide +kernel
theorem dX7_labels_31 : decode cX7_labels 31 = .ok (.iconst (-1), 1) := by decide +kernel
theorem dX7_labels_32 : decode cX7_labels 32 = .ok (.ireturn, 1) := by decide +kernel
theorem dX7_labels_33 : decode cX7_labels 33 = .ok (.iload_n 3, 1) := by decide +kernel
theorem dX7_labels_34 : decode cX7_labels 34 = .ok (.iconst 2, 1) := by decide +kernel
theorem dX7_labels_35 : decode cX7_labels 35 = .ok (.if_icmp .ne 11, 3) := by decide +kernel
theorem dX7_labels_38 : decode cX7_labels 38 = .ok (.aload_n 0, 1) := by decide +kernel
theorem dX7_labels_39 : decode cX7_labels 39 = .ok (.iload_n 1, 1) := by decide +kernel
theorem dX7_labels_40 : decode cX7_labels 40 = .ok (.invokevirtual 137, 3) := by decide +kernel
theorem dX7_labels_43 : decode cX7_labels 43 = .ok (.goto 34, 3) := by decide +kernel
theorem dX7_labels_46 : decode cX7_labels 46 = .ok (.iload_n 3, 1) := by decide +kernel
theorem dX7_labels_47 : decode cX7_labels 47 = .ok (.iconst 3, 1) := by decide +kernel
theorem dX7_labels_48 : decode cX7_labels 48 = .ok (.if_icmp .ne 24, 3) := by decide +kernel
theorem dX7_labels_51 : decode cX7_labels 51 = .ok (.aload_n 0, 1) := by decide +kernel
theorem dX7_labels_52 : decode cX7_labels 52 = .ok (.iload_n 1, 1) := by decide +kernel
theorem dX7_labels_53 : decode cX7_labels 53 = .ok (.aload_n 0, 1) := by decide +kernel
theorem dX7_labels_54 : decode cX7_labels 54 = .ok (.getfield 7, 3) := by decide +kernel
theorem dX7_labels_57 : decode cX7_labels 57 = .ok (.iconst 0, 1) := by decide +kernel
theorem dX7_labels_58 : decode cX7_labels 58 = .ok (.iaload, 1) := by decide +kernel
theorem dX7_labels_59 : decode cX7_labels 59 = .ok (.iconst 0, 1) := by decide +kernel
theorem dX7_labels_60 : decode cX7_labels 60 = .ok (.aload_n 0, 1) := by decide +kernel
theorem dX7_labels_61 : decode cX7_labels 61 = .ok (.getfield 7, 3) := by decide +kernel
theorem dX7_labels_64 : decode cX7_labels 64 = .ok (.iconst 2, 1) := by decide +kernel
theorem dX7_labels_65 : decode cX7_labels 65 = .ok (.iaload, 1) := by decide +kernel
theorem dX7_labels_66 : decode cX7_labels 66 = .ok (.invokevirtual 124, 3) := by decide +kernel
theorem dX7_labels_69 : decode cX7_labels 69 = .ok (.goto 8, 3) := by decide +kernel
theorem dX7_labels_72 : decode cX7_labels 72 = .ok (.aload_n 0, 1) := by decide +kernel
theorem dX7_labels_73 : decode cX7_labels 73 = .ok (.iload_n 1, 1) := by decide +kernel
theorem dX7_labels_74 : decode cX7_labels 74 = .ok (.invokevirtual 128, 3) := by decide +kernel
theorem dX7_labels_77 : decode cX7_labels 77 = .ok (.iload_n 3, 1) := by decide +kernel
theorem dX7_labels_78 : decode cX7_labels 78 = .ok (.iconst 1, 1) := by decide +kernel
theorem dX7_labels_79 : decode cX7_labels 79 = .ok (.if_icmp .eq 9, 3) := by decide +kernel
theorem dX7_labels_82 : decode cX7_labels 82 = .ok (.aload_n 0, 1) := by decide +kernel
theorem dX7_labels_83 : decode cX7_labels 83 = .ok (.iload_n 2, 1) := by decide +kernel
theorem dX7_labels_84 : decode cX7_labels 84 = .ok (.invokevirtual 158, 3) := by decide +kernel
theorem dX7_labels_87 : decode cX7_labels 87 = .ok (.ireturn, 1) := by decide +kernel
theorem dX7_labels_88 : decode cX7_labels 88 = .ok (.iconst 0, 1) := by decide +kernel
theorem dX7_labels_89 : decode cX7_labels 89 = .ok (.istore 4, 2) := by decide +kernel
theorem dX7_labels_91 : decode cX7_labels 91 = .ok (.iconst 0, 1) := by decide +kernel
theorem dX7_labels_92 : decode cX7_labels 92 = .ok (.istore 5, 2) := by decide +kernel
theorem dX7_labels_94 : decode cX7_labels 94 = .ok (.iload 5, 2) := by decide +kernel
theorem dX7_labels_96 : decode cX7_labels 96 = .ok (.aload_n 0, 1) := by decide +kernel
theorem dX7_labels_97 : decode cX7_labels 97 = .ok (.getfield 103, 3) := by decide +kernel
theorem dX7_labels_100 : decode cX7_labels 100 = .ok (.if_icmp .ge 46, 3) := by decide +kernel
theorem dX7_labels_103 : decode cX7_labels 103 = .ok (.iload 4, 2) := by decide +kernel
theorem dX7_labels_105 : decode cX7_labels 105 = .ok (.aload_n 0, 1) := by decide +kernel
theorem dX7_labels_106 : decode cX7_labels 106 = .ok (.aload_n 0, 1) := by decide +kernel
theorem dX7_labels_107 : decode cX7_labels 107 = .ok (.getfield 29, 3) := by decide +kernel
theorem dX7_labels_110 : decode cX7_labels 110 = .ok (.iload 5, 2) := by decide +kernel
theorem dX7_labels_112 : decode cX7_labels 112 = .ok (.iaload, 1) := by decide +kernel
theorem dX7_labels_113 : decode cX7_labels 113 = .ok (.iconst 1, 1) := by decide +kernel
theorem dX7_labels_114 : decode cX7_labels 114 = .ok (.invokevirtual 58, 3) := by decide +kernel
theorem dX7_labels_117 : decode cX7_labels 117 = .ok (.iload_n 2, 1) := by decide +kernel
theorem dX7_labels_118 : decode cX7_labels 118 = .ok (.if_icmp .ne 18, 3) := by decide +kernel
theorem dX7_labels_121 : decode cX7_labels 121 = .ok (.aload_n 0, 1) := by decide +kernel
theorem dX7_labels_122 : decode cX7_labels 122 = .ok (.aload_n 0, 1) := by decide +kernel
theorem dX7_labels_123 : decode cX7_labels 123 = .ok (.getfield 29, 3) := by decide +kernel
theorem dX7_labels_126 : decode cX7_labels 126 = .ok (.iload 5, 2) := by decide +kernel
theorem dX7_labels_128 : decode cX7_labels 128 = .ok (.iaload, 1) := by decide +kernel
theorem dX7_labels_129 : decode cX7_labels 129 = .ok (.iconst 2, 1) := by decide +kernel
theorem dX7_labels_130 : decode cX7_labels 130 = .ok (.invokevirtual 58, 3) := by decide +kernel
theorem dX7_labels_133 : decode cX7_labels 133 = .ok (.goto 4, 3) := by decide +kernel
theorem dX7_labels_136 : decode cX7_labels 136 = .ok (.iconst 0, 1) := by decide +kernel
theorem dX7_labels_137 : decode cX7_labels 137 = .ok (.iadd, 1) := by decide +kernel
theorem dX7_labels_138 : decode cX7_labels 138 = .ok (.istore 4, 2) := by decide +kernel
theorem dX7_labels_140 : decode cX7_labels 140 = .ok (.iinc 5 1, 3) := by decide +kernel
theorem dX7_labels_143 : decode cX7_labels 143 = .ok (.goto (-49), 3) := by decide +kernel
theorem dX7_labels_146 : decode cX7_labels 146 = .ok (.iload 4, 2) := by decide +kernel
theorem dX7_labels_148 : decode cX7_labels 148 = .ok (.ireturn, 1) := by decide +kernel
theorem dX7_weights_0 : decode cX7_weights 0 = .ok (.iconst 0, 1) := by decide +kernel
theorem dX7_weights_1 : decode cX7_weights 1 = .ok (.istore_n 1, 1) := by decide +kernel
theorem dX7_weights_2 : decode cX7_weights 2 = .ok (.iconst 0, 1) := by decide +kernel
theorem dX7_weights_3 : decode cX7_weights 3 = .ok (.istore_n 2, 1) := by decide +kernel
theorem dX7_weights_4 : decode cX7_weights 4 = .ok (.iload_n 2, 1) := by decide +kernel
theorem dX7_weights_5 : decode cX7_weights 5 = .ok (.aload_n 0, 1) := by decide +kernel
theorem dX7_weights_6 : decode cX7_weights 6 = .ok (.getfield 103, 3) := by decide +kernel
theorem dX7_weights_9 : decode cX7_weights 9 = .ok (.if_icmp .ge 23, 3) := by decide +kernel
theorem dX7_weights_12 : decode cX7_weights 12 = .ok (.iload_n 1, 1) := by decide +kernel
theorem dX7_weights_13 : decode cX7_weights 13 = .ok (.aload_n 0, 1) := by decide +kernel
theorem dX7_weights_14 : decode cX7_weights 14 = .ok (.aload_n 0, 1) := by decide +kernel
theorem dX7_weights_15 : decode cX7_weights 15 = .ok (.getfield 29, 3) := by decide +kernel
theorem dX7_weights_18 : decode cX7_weights 18 = .ok (.iload_n 2, 1) := by decide +kernel
theorem dX7_weights_19 : decode cX7_weights 19 = .ok (.iaload, 1) := by decide +kernel
theorem dX7_weights_20 : decode cX7_weights 20 = .ok (.iconst 2, 1) := by decide +kernel
theorem dX7_weights_21 : decode cX7_weights 21 = .ok (.invokevirtual 58, 3) := by decide +kernel
theorem dX7_weights_24 : decode cX7_weights 24 = .ok (.iadd, 1) := by decide +kernel
theorem dX7_weights_25 : decode cX7_weights 25 = .ok (.istore_n 1, 1) := by decide +kernel
theorem dX7_weights_26 : decode cX7_weights 26 = .ok (.iinc 2 1, 3) := by decide +kernel
theorem dX7_weights_29 : decode cX7_weights 29 = .ok (.goto (-25), 3) := by decide +kernel
theorem dX7_weights_32 : decode cX7_weights 32 = .ok (.iload_n 1, 1) := by decide +kernel
theorem dX7_weights_33 : decode cX7_weights 33 = .ok (.ireturn, 1) := by decide +kernel
theorem dX7_thereIn_0 : decode cX7_thereIn 0 = .ok (.iconst 0, 1) := by decide +kernel
theorem dX7_thereIn_1 : decode cX7_thereIn 1 = .ok (.istore_n 2, 1) := by decide +kernel
theorem dX7_thereIn_2 : decode cX7_thereIn 2 = .ok (.iconst 0, 1) := by decide +kernel
theorem dX7_thereIn_3 : decode cX7_thereIn 3 = .ok (.istore_n 3, 1) := by decide +kernel
theorem dX7_thereIn_4 : decode cX7_thereIn 4 = .ok (.iload_n 3, 1) := by decide +kernel
theorem dX7_thereIn_5 : decode cX7_thereIn 5 = .ok (.aload_n 0, 1) := by decide +kernel
theorem dX7_thereIn_6 : decode cX7_thereIn 6 = .ok (.getfield 7, 3) := by decide +kernel
theorem dX7_thereIn_9 : decode cX7_thereIn 9 = .ok (.iconst 2, 1) := by decide +kernel
theorem dX7_thereIn_10 : decode cX7_thereIn 10 = .ok (.iaload, 1) := by decide +kernel
theorem dX7_thereIn_11 : decode cX7_thereIn 11 = .ok (.if_icmp .ge 26, 3) := by decide +kernel
theorem dX7_thereIn_14 : decode cX7_thereIn 14 = .ok (.iload_n 2, 1) := by decide +kernel
theorem dX7_thereIn_15 : decode cX7_thereIn 15 = .ok (.aload_n 0, 1) := by decide +kernel
theorem dX7_thereIn_16 : decode cX7_thereIn 16 = .ok (.iload_n 3, 1) := by decide +kernel
theorem dX7_thereIn_17 : decode cX7_thereIn 17 = .ok (.invokevirtual 62, 3) := by decide +kernel
theorem dX7_thereIn_20 : decode cX7_thereIn 20 = .ok (.iload_n 1, 1) := by decide +kernel
theorem dX7_thereIn_21 : decode cX7_thereIn 21 = .ok (.if_icmp .ne 7, 3) := by decide +kernel
theorem dX7_thereIn_24 : decode cX7_thereIn 24 = .ok (.iconst 1, 1) := by decide +kernel
theorem dX7_thereIn_25 : decode cX7_thereIn 25 = .ok (.goto 4, 3) := by decide +kernel
theorem dX7_thereIn_28 : decode cX7_thereIn 28 = .ok (.iconst 0, 1) := by decide +kernel
theorem dX7_thereIn_29 : decode cX7_thereIn 29 = .ok (.iadd, 1) := by decide +kernel
theorem dX7_thereIn_30 : decode cX7_thereIn 30 = .ok (.istore_n 2, 1) := by decide +kernel
theorem dX7_thereIn_31 : decode cX7_thereIn 31 = .ok (.iinc 3 1, 3) := by decide +kernel
theorem dX7_thereIn_34 : decode cX7_thereIn 34 = .ok (.goto (-30), 3) := by decide +kernel
theorem dX7_thereIn_37 : decode cX7_thereIn 37 = .ok (.iload_n 2, 1) := by decide +kernel
theorem dX7_thereIn_38 : decode cX7_thereIn 38 = .ok (.ireturn, 1) := by decide +kernel
theorem dX7_total_0 : decode cX7_total 0 = .ok (.iload_n 1, 1) := by decide +kernel
theorem dX7_total_1 : decode cX7_total 1 = .ok (.invokestatic 143, 3) := by decide +kernel
theorem dX7_total_4 : decode cX7_total 4 = .ok (.ifCond .ne 5, 3) := by decide +kernel
theorem dX7_total_7 : decode cX7_total 7 = .ok (.iconst (-1), 1) := by decide +kernel
theorem dX7_total_8 : decode cX7_total 8 = .ok (.ireturn, 1) := by decide +kernel
theorem dX7_total_9 : decode cX7_total 9 = .ok (.aload_n 0, 1) := by decide +kernel
theorem dX7_total_10 : decode cX7_total 10 = .ok (.iload_n 1, 1) := by decide +kernel
theorem dX7_total_11 : decode cX7_total 11 = .ok (.invokevirtual 128, 3) := by decide +kernel
theorem dX7_total_14 : decode cX7_total 14 = .ok (.iload_n 2, 1) := by decide +kernel
theorem dX7_total_15 : decode cX7_total 15 = .ok (.tableswitch 89 0 5 #[37, 42, 47, 64, 70, 79], 37) := by decide +kernel
theorem dX7_total_52 : decode cX7_total 52 = .ok (.aload_n 0, 1) := by decide +kernel
theorem dX7_total_53 : decode cX7_total 53 = .ok (.getfield 103, 3) := by decide +kernel
theorem dX7_total_56 : decode cX7_total 56 = .ok (.ireturn, 1) := by decide +kernel
theorem dX7_total_57 : decode cX7_total 57 = .ok (.aload_n 0, 1) := by decide +kernel
theorem dX7_total_58 : decode cX7_total 58 = .ok (.invokevirtual 196, 3) := by decide +kernel
theorem dX7_total_61 : decode cX7_total 61 = .ok (.ireturn, 1) := by decide +kernel
theorem dX7_total_62 : decode cX7_total 62 = .ok (.aload_n 0, 1) := by decide +kernel
theorem dX7_total_63 : decode cX7_total 63 = .ok (.aload_n 0, 1) := by decide +kernel
theorem dX7_total_64 : decode cX7_total 64 = .ok (.getfield 7, 3) := by decide +kernel
theorem dX7_total_67 : decode cX7_total 67 = .ok (.iconst 3, 1) := by decide +kernel
theorem dX7_total_68 : decode cX7_total 68 = .ok (.iload_n 1, 1) := by decide +kernel
theorem dX7_total_69 : decode cX7_total 69 = .ok (.iadd, 1) := by decide +kernel
theorem dX7_total_70 : decode cX7_total 70 = .ok (.iaload, 1) := by decide +kernel
theorem dX7_total_71 : decode cX7_total 71 = .ok (.invokevirtual 131, 3) := by decide +kernel
theorem dX7_total_74 : decode cX7_total 74 = .ok (.aload_n 0, 1) := by decide +kernel
theorem dX7_total_75 : decode cX7_total 75 = .ok (.invokevirtual 196, 3) := by decide +kernel
theorem dX7_total_78 : decode cX7_total 78 = .ok (.ireturn, 1) := by decide +kernel
theorem dX7_total_79 : decode cX7_total 79 = .ok (.aload_n 0, 1) := by decide +kernel
theorem dX7_total_80 : decode cX7_total 80 = .ok (.iload_n 1, 1) := by decide +kernel
theorem dX7_total_81 : decode cX7_total 81 = .ok (.invokevirtual 199, 3) := by decide +kernel
theorem dX7_total_84 : decode cX7_total 84 = .ok (.ireturn, 1) := by decide +kernel
theorem dX7_total_85 : decode cX7_total 85 = .ok (.aload_n 0, 1) := by decide +kernel
theorem dX7_total_86 : decode cX7_total 86 = .ok (.getfield 7, 3) := by decide +kernel
theorem dX7_total_89 : decode cX7_total 89 = .ok (.iconst 3, 1) := by decide +kernel
theorem dX7_total_90 : decode cX7_total 90 = .ok (.iload_n 1, 1) := by decide +kernel
theorem dX7_total_91 : decode cX7_total 91 = .ok (.iadd, 1) := by decide +kernel
theorem dX7_total_92 : decode cX7_total 92 = .ok (.iaload, 1) := by decide +kernel
theorem dX7_total_93 : decode cX7_total 93 = .ok (.ireturn, 1) := by decide +kernel
theorem dX7_total_94 : decode cX7_total 94 = .ok (.aload_n 0, 1) := by decide +kernel
theorem dX7_total_95 : decode cX7_total 95 = .ok (.getfield 7, 3) := by decide +kernel
theorem dX7_total_98 : decode cX7_total 98 = .ok (.bipush 7, 2) := by decide +kernel
theorem dX7_total_100 : decode cX7_total 100 = .ok (.iload_n 1, 1) := by decide +kernel
theorem dX7_total_101 : decode cX7_total 101 = .ok (.iadd, 1) := by decide +kernel
theorem dX7_total_102 : decode cX7_total 102 = .ok (.iaload, 1) := by decide +kernel
theorem dX7_total_103 : decode cX7_total 103 = .ok (.ireturn, 1) := by decide +kernel
theorem dX7_total_104 : decode cX7_total 104 = .ok (.iconst (-1), 1) := by decide +kernel
theorem dX7_total_105 : decode cX7_total 105 = .ok (.ireturn, 1) := by decide +kernel
theorem dX7_mode_0 : decode cX7_mode 0 = .ok (.iload_n 1, 1) := by decide +kernel
theorem dX7_mode_1 : decode cX7_mode 1 = .ok (.invokestatic 143, 3) := by decide +kernel
theorem dX7_mode_4 : decode cX7_mode 4 = .ok (.ifCond .ne 5, 3) := by decide +kernel
theorem dX7_mode_7 : decode cX7_mode 7 = .ok (.iconst (-1), 1) := by decide +kernel
theorem dX7_mode_8 : decode cX7_mode 8 = .ok (.ireturn, 1) := by decide +kernel
theorem dX7_mode_9 : decode cX7_mode 9 = .ok (.aload_n 0, 1) := by decide +kernel
theorem dX7_mode_10 : decode cX7_mode 10 = .ok (.iload_n 1, 1) := by decide +kernel
theorem dX7_mode_11 : decode cX7_mode 11 = .ok (.invokevirtual 137, 3) := by decide +kernel
theorem dX7_mode_14 : decode cX7_mode 14 = .ok (.aload_n 0, 1) := by decide +kernel
theorem dX7_mode_15 : decode cX7_mode 15 = .ok (.getfield 103, 3) := by decide +kernel
theorem dX7_mode_18 : decode cX7_mode 18 = .ok (.ifCond .ne 6, 3) := by decide +kernel
theorem dX7_mode_21 : decode cX7_mode 21 = .ok (.bipush (-2), 2) := by decide +kernel
theorem dX7_mode_23 : decode cX7_mode 23 = .ok (.ireturn, 1) := by decide +kernel
theorem dX7_mode_24 : decode cX7_mode 24 = .ok (.iconst 0, 1) := by decide +kernel
theorem dX7_mode_25 : decode cX7_mode 25 = .ok (.istore_n 2, 1) := by decide +kernel
theorem dX7_mode_26 : decode cX7_mode 26 = .ok (.iconst 1, 1) := by decide +kernel
theorem dX7_mode_27 : decode cX7_mode 27 = .ok (.istore_n 3, 1) := by decide +kernel
theorem dX7_mode_28 : decode cX7_mode 28 = .ok (.iload_n 3, 1) := by decide +kernel
theorem dX7_mode_29 : decode cX7_mode 29 = .ok (.bipush 26, 2) := by decide +kernel
theorem dX7_mode_31 : decode cX7_mode 31 = .ok (.if_icmp .ge 28, 3) := by decide +kernel
theorem dX7_mode_34 : decode cX7_mode 34 = .ok (.aload_n 0, 1) := by decide +kernel
theorem dX7_mode_35 : decode cX7_mode 35 = .ok (.iload_n 3, 1) := by decide +kernel
theorem dX7_mode_36 : decode cX7_mode 36 = .ok (.invokevirtual 158, 3) := by decide +kernel
theorem dX7_mode_39 : decode cX7_mode 39 = .ok (.aload_n 0, 1) := by decide +kernel
theorem dX7_mode_40 : decode cX7_mode 40 = .ok (.iload_n 2, 1) := by decide +kernel
theorem dX7_mode_41 : decode cX7_mode 41 = .ok (.invokevirtual 158, 3) := by decide +kernel
theorem dX7_mode_44 : decode cX7_mode 44 = .ok (.if_icmp .le 7, 3) := by decide +kernel
theorem dX7_mode_47 : decode cX7_mode 47 = .ok (.iload_n 3, 1) := by decide +kernel
theorem dX7_mode_48 : decode cX7_mode 48 = .ok (.goto 4, 3) := by decide +kernel
theorem dX7_mode_51 : decode cX7_mode 51 = .ok (.iload_n 2, 1) := by decide +kernel
theorem dX7_mode_52 : decode cX7_mode 52 = .ok (.istore_n 2, 1) := by decide +kernel
theorem dX7_mode_53 : decode cX7_mode 53 = .ok (.iinc 3 1, 3) := by decide +kernel
theorem dX7_mode_56 : decode cX7_mode 56 = .ok (.goto (-28), 3) := by decide +kernel
theorem dX7_mode_59 : decode cX7_mode 59 = .ok (.iload_n 2, 1) := by decide +kernel
theorem dX7_mode_60 : decode cX7_mode 60 = .ok (.ireturn, 1) := by decide +kernel
theorem dX7_unlike_0 : decode cX7_unlike 0 = .ok (.iload_n 1, 1) := by decide +kernel
theorem dX7_unlike_1 : decode cX7_unlike 1 = .ok (.invokestatic 143, 3) := by decide +kernel
theorem dX7_unlike_4 : decode cX7_unlike 4 = .ok (.ifCond .eq 10, 3) := by decide +kernel
theorem dX7_unlike_7 : decode cX7_unlike 7 = .ok (.iload_n 2, 1) := by decide +kernel
theorem dX7_unlike_8 : decode cX7_unlike 8 = .ok (.invokestatic 143, 3) := by decide +kernel
theorem dX7_unlike_11 : decode cX7_unlike 11 = .ok (.ifCond .ne 5, 3) := by decide +kernel
theorem dX7_unlike_14 : decode cX7_unlike 14 = .ok (.iconst (-1), 1) := by decide +kernel
theorem dX7_unlike_15 : decode cX7_unlike 15 = .ok (.ireturn, 1) := by decide +kernel
theorem dX7_unlike_16 : decode cX7_unlike 16 = .ok (.aload_n 0, 1) := by decide +kernel
theorem dX7_unlike_17 : decode cX7_unlike 17 = .ok (.iload_n 1, 1) := by decide +kernel
theorem dX7_unlike_18 : decode cX7_unlike 18 = .ok (.invokevirtual 137, 3) := by decide +kernel
theorem dX7_unlike_21 : decode cX7_unlike 21 = .ok (.iconst 0, 1) := by decide +kernel
theorem dX7_unlike_22 : decode cX7_unlike 22 = .ok (.istore_n 3, 1) := by decide +kernel
theorem dX7_unlike_23 : decode cX7_unlike 23 = .ok (.iload_n 3, 1) := by decide +kernel
theorem dX7_unlike_24 : decode cX7_unlike 24 = .ok (.bipush 26, 2) := by decide +kernel
theorem dX7_unlike_26 : decode cX7_unlike 26 = .ok (.if_icmp .ge 20, 3) := by decide +kernel
theorem dX7_unlike_29 : decode cX7_unlike 29 = .ok (.aload_n 0, 1) := by decide +kernel
theorem dX7_unlike_30 : decode cX7_unlike 30 = .ok (.getfield 38, 3) := by decide +kernel
theorem dX7_unlike_33 : decode cX7_unlike 33 = .ok (.iload_n 3, 1) := by decide +kernel
theorem dX7_unlike_34 : decode cX7_unlike 34 = .ok (.aload_n 0, 1) := by decide +kernel
theorem dX7_unlike_35 : decode cX7_unlike 35 = .ok (.iload_n 3, 1) := by decide +kernel
theorem dX7_unlike_36 : decode cX7_unlike 36 = .ok (.invokevirtual 158, 3) := by decide +kernel
theorem dX7_unlike_39 : decode cX7_unlike 39 = .ok (.iastore, 1) := by decide +kernel
theorem dX7_unlike_40 : decode cX7_unlike 40 = .ok (.iinc 3 1, 3) := by decide +kernel
theorem dX7_unlike_43 : decode cX7_unlike 43 = .ok (.goto (-20), 3) := by decide +kernel
theorem dX7_unlike_46 : decode cX7_unlike 46 = .ok (.aload_n 0, 1) := by decide +kernel
theorem dX7_unlike_47 : decode cX7_unlike 47 = .ok (.iload_n 2, 1) := by decide +kernel
theorem dX7_unlike_48 : decode cX7_unlike 48 = .ok (.invokevirtual 137, 3) := by decide +kernel
theorem dX7_unlike_51 : decode cX7_unlike 51 = .ok (.iconst 0, 1) := by decide +kernel
theorem dX7_unlike_52 : decode cX7_unlike 52 = .ok (.istore_n 3, 1) := by decide +kernel
theorem dX7_unlike_53 : decode cX7_unlike 53 = .ok (.iconst 0, 1) := by decide +kernel
theorem dX7_unlike_54 : decode cX7_unlike 54 = .ok (.istore 4, 2) := by decide +kernel
theorem dX7_unlike_56 : decode cX7_unlike 56 = .ok (.iload 4, 2) := by decide +kernel
theorem dX7_unlike_58 : decode cX7_unlike 58 = .ok (.bipush 26, 2) := by decide +kernel
theorem dX7_unlike_60 : decode cX7_unlike 60 = .ok (.if_icmp .ge 41, 3) := by decide +kernel
theorem dX7_unlike_63 : decode cX7_unlike 63 = .ok (.aload_n 0, 1) := by decide +kernel
theorem dX7_unlike_64 : decode cX7_unlike 64 = .ok (.getfield 38, 3) := by decide +kernel
theorem dX7_unlike_67 : decode cX7_unlike 67 = .ok (.iload 4, 2) := by decide +kernel
theorem dX7_unlike_69 : decode cX7_unlike 69 = .ok (.iaload, 1) := by decide +kernel
theorem dX7_unlike_70 : decode cX7_unlike 70 = .ok (.aload_n 0, 1) := by decide +kernel
theorem dX7_unlike_71 : decode cX7_unlike 71 = .ok (.iload 4, 2) := by decide +kernel
theorem dX7_unlike_73 : decode cX7_unlike 73 = .ok (.invokevirtual 158, 3) := by decide +kernel
theorem dX7_unlike_76 : decode cX7_unlike 76 = .ok (.isub, 1) := by decide +kernel
theorem dX7_unlike_77 : decode cX7_unlike 77 = .ok (.istore 5, 2) := by decide +kernel
theorem dX7_unlike_79 : decode cX7_unlike 79 = .ok (.iload_n 3, 1) := by decide +kernel
theorem dX7_unlike_80 : decode cX7_unlike 80 = .ok (.iload 5, 2) := by decide +kernel
theorem dX7_unlike_82 : decode cX7_unlike 82 = .ok (.ifCond .ge 9, 3) := by decide +kernel
theorem dX7_unlike_85 : decode cX7_unlike 85 = .ok (.iload 5, 2) := by decide +kernel
theorem dX7_unlike_87 : decode cX7_unlike 87 = .ok (.ineg, 1) := by decide +kernel
theorem dX7_unlike_88 : decode cX7_unlike 88 = .ok (.goto 5, 3) := by decide +kernel
theorem dX7_unlike_91 : decode cX7_unlike 91 = .ok (.iload 5, 2) := by decide +kernel
theorem dX7_unlike_93 : decode cX7_unlike 93 = .ok (.iadd, 1) := by decide +kernel
theorem dX7_unlike_94 : decode cX7_unlike 94 = .ok (.istore_n 3, 1) := by decide +kernel
theorem dX7_unlike_95 : decode cX7_unlike 95 = .ok (.iinc 4 1, 3) := by decide +kernel
theorem dX7_unlike_98 : decode cX7_unlike 98 = .ok (.goto (-42), 3) := by decide +kernel
theorem dX7_unlike_101 : decode cX7_unlike 101 = .ok (.iload_n 3, 1) := by decide +kernel
theorem dX7_unlike_102 : decode cX7_unlike 102 = .ok (.ireturn, 1) := by decide +kernel
theorem dX7_exchanges_0 : decode cX7_exchanges 0 = .ok (.iconst 0, 1) := by decide +kernel
theorem dX7_exchanges_1 : decode cX7_exchanges 1 = .ok (.istore_n 3, 1) := by decide +kernel
theorem dX7_exchanges_2 : decode cX7_exchanges 2 = .ok (.iload_n 3, 1) := by decide +kernel
theorem dX7_exchanges_3 : decode cX7_exchanges 3 = .ok (.sipush 511, 3) := by decide +kernel
theorem dX7_exchanges_6 : decode cX7_exchanges 6 = .ok (.if_icmp .ge 20, 3) := by decide +kernel
theorem dX7_exchanges_9 : decode cX7_exchanges 9 = .ok (.aload_n 0, 1) := by decide +kernel
theorem dX7_exchanges_10 : decode cX7_exchanges 10 = .ok (.getfield 7, 3) := by decide +kernel
theorem dX7_exchanges_13 : decode cX7_exchanges 13 = .ok (.iload_n 3, 1) := by decide +kernel
theorem dX7_exchanges_14 : decode cX7_exchanges 14 = .ok (.aload_n 1, 1) := by decide +kernel
theorem dX7_exchanges_15 : decode cX7_exchanges 15 = .ok (.iload_n 2, 1) := by decide +kernel
theorem dX7_exchanges_16 : decode cX7_exchanges 16 = .ok (.iload_n 3, 1) := by decide +kernel
theorem dX7_exchanges_17 : decode cX7_exchanges 17 = .ok (.iadd, 1) := by decide +kernel
theorem dX7_exchanges_18 : decode cX7_exchanges 18 = .ok (.iaload, 1) := by decide +kernel
theorem dX7_exchanges_19 : decode cX7_exchanges 19 = .ok (.iastore, 1) := by decide +kernel
theorem dX7_exchanges_20 : decode cX7_exchanges 20 = .ok (.iinc 3 1, 3) := by decide +kernel
theorem dX7_exchanges_23 : decode cX7_exchanges 23 = .ok (.goto (-21), 3) := by decide +kernel
theorem dX7_exchanges_26 : decode cX7_exchanges 26 = .ok (.aload_n 0, 1) := by decide +kernel
theorem dX7_exchanges_27 : decode cX7_exchanges 27 = .ok (.iconst 0, 1) := by decide +kernel
theorem dX7_exchanges_28 : decode cX7_exchanges 28 = .ok (.putfield 107, 3) := by decide +kernel
theorem dX7_exchanges_31 : decode cX7_exchanges 31 = .ok (.return_, 1) := by decide +kernel
theorem dX7_putsAside_0 : decode cX7_putsAside 0 = .ok (.iconst 0, 1) := by decide +kernel
theorem dX7_putsAside_1 : decode cX7_putsAside 1 = .ok (.istore_n 1, 1) := by decide +kernel
theorem dX7_putsAside_2 : decode cX7_putsAside 2 = .ok (.iload_n 1, 1) := by decide +kernel
theorem dX7_putsAside_3 : decode cX7_putsAside 3 = .ok (.sipush 511, 3) := by decide +kernel
theorem dX7_putsAside_6 : decode cX7_putsAside 6 = .ok (.if_icmp .ge 21, 3) := by decide +kernel
theorem dX7_putsAside_9 : decode cX7_putsAside 9 = .ok (.aload_n 0, 1) := by decide +kernel
theorem dX7_putsAside_10 : decode cX7_putsAside 10 = .ok (.getfield 41, 3) := by decide +kernel
theorem dX7_putsAside_13 : decode cX7_putsAside 13 = .ok (.iload_n 1, 1) := by decide +kernel
theorem dX7_putsAside_14 : decode cX7_putsAside 14 = .ok (.aload_n 0, 1) := by decide +kernel
theorem dX7_putsAside_15 : decode cX7_putsAside 15 = .ok (.getfield 7, 3) := by decide +kernel
theorem dX7_putsAside_18 : decode cX7_putsAside 18 = .ok (.iload_n 1, 1) := by decide +kernel
theorem dX7_putsAside_19 : decode cX7_putsAside 19 = .ok (.iaload, 1) := by decide +kernel
theorem dX7_putsAside_20 : decode cX7_putsAside 20 = .ok (.iastore, 1) := by decide +kernel
theorem dX7_putsAside_21 : decode cX7_putsAside 21 = .ok (.iinc 1 1, 3) := by decide +kernel
theorem dX7_putsAside_24 : decode cX7_putsAside 24 = .ok (.goto (-22), 3) := by decide +kernel
theorem dX7_putsAside_27 : decode cX7_putsAside 27 = .ok (.return_, 1) := by decide +kernel
theorem dX7_same_0 : decode cX7_same 0 = .ok (.iload_n 1, 1) := by decide +kernel
theorem dX7_same_1 : decode cX7_same 1 = .ok (.i2l, 1) := by decide +kernel
theorem dX7_same_2 : decode cX7_same 2 = .ok (.lconst 0, 1) := by decide +kernel
theorem dX7_same_3 : decode cX7_same 3 = .ok (.lconst 1, 1) := by decide +kernel
theorem dX7_same_4 : decode cX7_same 4 = .ok (.invokestatic 54, 3) := by decide +kernel
theorem dX7_same_7 : decode cX7_same 7 = .ok (.ifCond .eq 10, 3) := by decide +kernel
theorem dX7_same_10 : decode cX7_same 10 = .ok (.iload_n 2, 1) := by decide +kernel
theorem dX7_same_11 : decode cX7_same 11 = .ok (.invokestatic 143, 3) := by decide +kernel
theorem dX7_same_14 : decode cX7_same 14 = .ok (.ifCond .ne 5, 3) := by decide +kernel
theorem dX7_same_17 : decode cX7_same 17 = .ok (.iconst (-1), 1) := by decide +kernel
theorem dX7_same_18 : decode cX7_same 18 = .ok (.ireturn, 1) := by decide +kernel
theorem dX7_same_19 : decode cX7_same 19 = .ok (.aload_n 0, 1) := by decide +kernel
theorem dX7_same_20 : decode cX7_same 20 = .ok (.getfield 19, 3) := by decide +kernel
theorem dX7_same_23 : decode cX7_same 23 = .ok (.iload_n 1, 1) := by decide +kernel
theorem dX7_same_24 : decode cX7_same 24 = .ok (.baload, 1) := by decide +kernel
theorem dX7_same_25 : decode cX7_same 25 = .ok (.ifCond .ne 6, 3) := by decide +kernel
theorem dX7_same_28 : decode cX7_same 28 = .ok (.bipush (-2), 2) := by decide +kernel
theorem dX7_same_30 : decode cX7_same 30 = .ok (.ireturn, 1) := by decide +kernel
theorem dX7_same_31 : decode cX7_same 31 = .ok (.aload_n 0, 1) := by decide +kernel
theorem dX7_same_32 : decode cX7_same 32 = .ok (.iload_n 2, 1) := by decide +kernel
theorem dX7_same_33 : decode cX7_same 33 = .ok (.invokevirtual 137, 3) := by decide +kernel
theorem dX7_same_36 : decode cX7_same 36 = .ok (.aload_n 0, 1) := by decide +kernel
theorem dX7_same_37 : decode cX7_same 37 = .ok (.getfield 103, 3) := by decide +kernel
theorem dX7_same_40 : decode cX7_same 40 = .ok (.istore_n 3, 1) := by decide +kernel
theorem dX7_same_41 : decode cX7_same 41 = .ok (.iconst 0, 1) := by decide +kernel
theorem dX7_same_42 : decode cX7_same 42 = .ok (.istore 4, 2) := by decide +kernel
theorem dX7_same_44 : decode cX7_same 44 = .ok (.iload 4, 2) := by decide +kernel
theorem dX7_same_46 : decode cX7_same 46 = .ok (.iload_n 3, 1) := by decide +kernel
theorem dX7_same_47 : decode cX7_same 47 = .ok (.if_icmp .ge 23, 3) := by decide +kernel
theorem dX7_same_50 : decode cX7_same 50 = .ok (.aload_n 0, 1) := by decide +kernel
theorem dX7_same_51 : decode cX7_same 51 = .ok (.getfield 35, 3) := by decide +kernel
theorem dX7_same_54 : decode cX7_same 54 = .ok (.iload 4, 2) := by decide +kernel
theorem dX7_same_56 : decode cX7_same 56 = .ok (.aload_n 0, 1) := by decide +kernel
theorem dX7_same_57 : decode cX7_same 57 = .ok (.getfield 29, 3) := by decide +kernel
theorem dX7_same_60 : decode cX7_same 60 = .ok (.iload 4, 2) := by decide +kernel
theorem dX7_same_62 : decode cX7_same 62 = .ok (.iaload, 1) := by decide +kernel
theorem dX7_same_63 : decode cX7_same 63 = .ok (.iastore, 1) := by decide +kernel
theorem dX7_same_64 : decode cX7_same 64 = .ok (.iinc 4 1, 3) := by decide +kernel
theorem dX7_same_67 : decode cX7_same 67 = .ok (.goto (-23), 3) := by decide +kernel
theorem dX7_same_70 : decode cX7_same 70 = .ok (.aload_n 0, 1) := by decide +kernel
theorem dX7_same_71 : decode cX7_same 71 = .ok (.invokevirtual 202, 3) := by decide +kernel
theorem dX7_same_74 : decode cX7_same 74 = .ok (.aload_n 0, 1) := by decide +kernel
theorem dX7_same_75 : decode cX7_same 75 = .ok (.aload_n 0, 1) := by decide +kernel
theorem dX7_same_76 : decode cX7_same 76 = .ok (.getfield 16, 3) := by decide +kernel
theorem dX7_same_79 : decode cX7_same 79 = .ok (.sipush 511, 3) := by decide +kernel
theorem dX7_same_82 : decode cX7_same 82 = .ok (.iload_n 1, 1) := by decide +kernel
theorem dX7_same_83 : decode cX7_same 83 = .ok (.imul, 1) := by decide +kernel
theorem dX7_same_84 : decode cX7_same 84 = .ok (.invokevirtual 205, 3) := by decide +kernel
theorem dX7_same_87 : decode cX7_same 87 = .ok (.aload_n 0, 1) := by decide +kernel
theorem dX7_same_88 : decode cX7_same 88 = .ok (.iload_n 2, 1) := by decide +kernel
theorem dX7_same_89 : decode cX7_same 89 = .ok (.invokevirtual 137, 3) := by decide +kernel
theorem dX7_same_92 : decode cX7_same 92 = .ok (.aload_n 0, 1) := by decide +kernel
theorem dX7_same_93 : decode cX7_same 93 = .ok (.getfield 103, 3) := by decide +kernel
theorem dX7_same_96 : decode cX7_same 96 = .ok (.iload_n 3, 1) := by decide +kernel
theorem dX7_same_97 : decode cX7_same 97 = .ok (.if_icmp .ne 7, 3) := by decide +kernel
theorem dX7_same_100 : decode cX7_same 100 = .ok (.iconst 1, 1) := by decide +kernel
theorem dX7_same_101 : decode cX7_same 101 = .ok (.goto 4, 3) := by decide +kernel
theorem dX7_same_104 : decode cX7_same 104 = .ok (.iconst 0, 1) := by decide +kernel
theorem dX7_same_105 : decode cX7_same 105 = .ok (.istore 4, 2) := by decide +kernel
theorem dX7_same_107 : decode cX7_same 107 = .ok (.iconst 0, 1) := by decide +kernel
theorem dX7_same_108 : decode cX7_same 108 = .ok (.istore 5, 2) := by decide +kernel
theorem dX7_same_110 : decode cX7_same 110 = .ok (.iload 5, 2) := by decide +kernel
theorem dX7_same_112 : decode cX7_same 112 = .ok (.aload_n 0, 1) := by decide +kernel
theorem dX7_same_113 : decode cX7_same 113 = .ok (.getfield 103, 3) := by decide +kernel
theorem dX7_same_116 : decode cX7_same 116 = .ok (.if_icmp .ge 38, 3) := by decide +kernel
theorem dX7_same_119 : decode cX7_same 119 = .ok (.iload 4, 2) := by decide +kernel
theorem dX7_same_121 : decode cX7_same 121 = .ok (.ifCond .eq 33, 3) := by decide +kernel
theorem dX7_same_124 : decode cX7_same 124 = .ok (.aload_n 0, 1) := by decide +kernel
theorem dX7_same_125 : decode cX7_same 125 = .ok (.getfield 29, 3) := by decide +kernel
theorem dX7_same_128 : decode cX7_same 128 = .ok (.iload 5, 2) := by decide +kernel
theorem dX7_same_130 : decode cX7_same 130 = .ok (.iaload, 1) := by decide +kernel
theorem dX7_same_131 : decode cX7_same 131 = .ok (.aload_n 0, 1) := by decide +kernel
theorem dX7_same_132 : decode cX7_same 132 = .ok (.getfield 35, 3) := by decide +kernel
theorem dX7_same_135 : decode cX7_same 135 = .ok (.iload 5, 2) := by decide +kernel
theorem dX7_same_137 : decode cX7_same 137 = .ok (.iaload, 1) := by decide +kernel
theorem dX7_same_138 : decode cX7_same 138 = .ok (.if_icmp .ne 7, 3) := by decide +kernel
theorem dX7_same_141 : decode cX7_same 141 = .ok (.iconst 1, 1) := by decide +kernel
theorem dX7_same_142 : decode cX7_same 142 = .ok (.goto 4, 3) := by decide +kernel
theorem dX7_same_145 : decode cX7_same 145 = .ok (.iconst 0, 1) := by decide +kernel
theorem dX7_same_146 : decode cX7_same 146 = .ok (.istore 4, 2) := by decide +kernel
theorem dX7_same_148 : decode cX7_same 148 = .ok (.iinc 5 1, 3) := by decide +kernel
theorem dX7_same_151 : decode cX7_same 151 = .ok (.goto (-41), 3) := by decide +kernel
theorem dX7_same_154 : decode cX7_same 154 = .ok (.aload_n 0, 1) := by decide +kernel
theorem dX7_same_155 : decode cX7_same 155 = .ok (.aload_n 0, 1) := by decide +kernel
theorem dX7_same_156 : decode cX7_same 156 = .ok (.getfield 41, 3) := by decide +kernel
theorem dX7_same_159 : decode cX7_same 159 = .ok (.iconst 0, 1) := by decide +kernel
theorem dX7_same_160 : decode cX7_same 160 = .ok (.invokevirtual 205, 3) := by decide +kernel
theorem dX7_same_163 : decode cX7_same 163 = .ok (.iload 4, 2) := by decide +kernel
theorem dX7_same_165 : decode cX7_same 165 = .ok (.ifCond .eq 7, 3) := by decide +kernel
theorem dX7_same_168 : decode cX7_same 168 = .ok (.iconst 1, 1) := by decide +kernel
theorem dX7_same_169 : decode cX7_same 169 = .ok (.goto 4, 3) := by decide +kernel
theorem dX7_same_172 : decode cX7_same 172 = .ok (.iconst 0, 1) := by decide +kernel
theorem dX7_same_173 : decode cX7_same 173 = .ok (.ireturn, 1) := by decide +kernel
theorem dX7_keepsAct_0 : decode cX7_keepsAct 0 = .ok (.aload_n 0, 1) := by decide +kernel
theorem dX7_keepsAct_1 : decode cX7_keepsAct 1 = .ok (.getfield 209, 3) := by decide +kernel
theorem dX7_keepsAct_4 : decode cX7_keepsAct 4 = .ok (.bipush 10, 2) := by decide +kernel
theorem dX7_keepsAct_6 : decode cX7_keepsAct 6 = .ok (.if_icmp .ne 46, 3) := by decide +kernel
theorem dX7_keepsAct_9 : decode cX7_keepsAct 9 = .ok (.sipush 511, 3) := by decide +kernel
theorem dX7_keepsAct_12 : decode cX7_keepsAct 12 = .ok (.istore_n 1, 1) := by decide +kernel
theorem dX7_keepsAct_13 : decode cX7_keepsAct 13 = .ok (.iload_n 1, 1) := by decide +kernel
theorem dX7_keepsAct_14 : decode cX7_keepsAct 14 = .ok (.sipush 5110, 3) := by decide +kernel
theorem dX7_keepsAct_17 : decode cX7_keepsAct 17 = .ok (.if_icmp .ge 25, 3) := by decide +kernel
theorem dX7_keepsAct_20 : decode cX7_keepsAct 20 = .ok (.aload_n 0, 1) := by decide +kernel
theorem dX7_keepsAct_21 : decode cX7_keepsAct 21 = .ok (.getfield 13, 3) := by decide +kernel
theorem dX7_keepsAct_24 : decode cX7_keepsAct 24 = .ok (.iload_n 1, 1) := by decide +kernel
theorem dX7_keepsAct_25 : decode cX7_keepsAct 25 = .ok (.sipush 511, 3) := by decide +kernel
theorem dX7_keepsAct_28 : decode cX7_keepsAct 28 = .ok (.isub, 1) := by decide +kernel
theorem dX7_keepsAct_29 : decode cX7_keepsAct 29 = .ok (.aload_n 0, 1) := by decide +kernel
theorem dX7_keepsAct_30 : decode cX7_keepsAct 30 = .ok (.getfield 13, 3) := by decide +kernel
theorem dX7_keepsAct_33 : decode cX7_keepsAct 33 = .ok (.iload_n 1, 1) := by decide +kernel
theorem dX7_keepsAct_34 : decode cX7_keepsAct 34 = .ok (.iaload, 1) := by decide +kernel
theorem dX7_keepsAct_35 : decode cX7_keepsAct 35 = .ok (.iastore, 1) := by decide +kernel
theorem dX7_keepsAct_36 : decode cX7_keepsAct 36 = .ok (.iinc 1 1, 3) := by decide +kernel
theorem dX7_keepsAct_39 : decode cX7_keepsAct 39 = .ok (.goto (-26), 3) := by decide +kernel
theorem dX7_keepsAct_42 : decode cX7_keepsAct 42 = .ok (.aload_n 0, 1) := by decide +kernel
theorem dX7_keepsAct_43 : decode cX7_keepsAct 43 = .ok (.dup, 1) := by decide +kernel
theorem dX7_keepsAct_44 : decode cX7_keepsAct 44 = .ok (.getfield 209, 3) := by decide +kernel
theorem dX7_keepsAct_47 : decode cX7_keepsAct 47 = .ok (.iconst 1, 1) := by decide +kernel
theorem dX7_keepsAct_48 : decode cX7_keepsAct 48 = .ok (.isub, 1) := by decide +kernel
theorem dX7_keepsAct_49 : decode cX7_keepsAct 49 = .ok (.putfield 209, 3) := by decide +kernel
theorem dX7_keepsAct_52 : decode cX7_keepsAct 52 = .ok (.iconst 0, 1) := by decide +kernel
theorem dX7_keepsAct_53 : decode cX7_keepsAct 53 = .ok (.istore_n 1, 1) := by decide +kernel
theorem dX7_keepsAct_54 : decode cX7_keepsAct 54 = .ok (.iload_n 1, 1) := by decide +kernel
theorem dX7_keepsAct_55 : decode cX7_keepsAct 55 = .ok (.sipush 511, 3) := by decide +kernel
theorem dX7_keepsAct_58 : decode cX7_keepsAct 58 = .ok (.if_icmp .ge 30, 3) := by decide +kernel
theorem dX7_keepsAct_61 : decode cX7_keepsAct 61 = .ok (.aload_n 0, 1) := by decide +kernel
theorem dX7_keepsAct_62 : decode cX7_keepsAct 62 = .ok (.getfield 13, 3) := by decide +kernel
theorem dX7_keepsAct_65 : decode cX7_keepsAct 65 = .ok (.sipush 511, 3) := by decide +kernel
theorem dX7_keepsAct_68 : decode cX7_keepsAct 68 = .ok (.aload_n 0, 1) := by decide +kernel
theorem dX7_keepsAct_69 : decode cX7_keepsAct 69 = .ok (.getfield 209, 3) := by decide +kernel
theorem dX7_keepsAct_72 : decode cX7_keepsAct 72 = .ok (.imul, 1) := by decide +kernel
theorem dX7_keepsAct_73 : decode cX7_keepsAct 73 = .ok (.iload_n 1, 1) := by decide +kernel
theorem dX7_keepsAct_74 : decode cX7_keepsAct 74 = .ok (.iadd, 1) := by decide +kernel
theorem dX7_keepsAct_75 : decode cX7_keepsAct 75 = .ok (.aload_n 0, 1) := by decide +kernel
theorem dX7_keepsAct_76 : decode cX7_keepsAct 76 = .ok (.getfield 7, 3) := by decide +kernel
theorem dX7_keepsAct_79 : decode cX7_keepsAct 79 = .ok (.iload_n 1, 1) := by decide +kernel
theorem dX7_keepsAct_80 : decode cX7_keepsAct 80 = .ok (.iaload, 1) := by decide +kernel
theorem dX7_keepsAct_81 : decode cX7_keepsAct 81 = .ok (.iastore, 1) := by decide +kernel
theorem dX7_keepsAct_82 : decode cX7_keepsAct 82 = .ok (.iinc 1 1, 3) := by decide +kernel
theorem dX7_keepsAct_85 : decode cX7_keepsAct 85 = .ok (.goto (-31), 3) := by decide +kernel
theorem dX7_keepsAct_88 : decode cX7_keepsAct 88 = .ok (.aload_n 0, 1) := by decide +kernel
theorem dX7_keepsAct_89 : decode cX7_keepsAct 89 = .ok (.dup, 1) := by decide +kernel
theorem dX7_keepsAct_90 : decode cX7_keepsAct 90 = .ok (.getfield 209, 3) := by decide +kernel
theorem dX7_keepsAct_93 : decode cX7_keepsAct 93 = .ok (.iconst 1, 1) := by decide +kernel
theorem dX7_keepsAct_94 : decode cX7_keepsAct 94 = .ok (.iadd, 1) := by decide +kernel
theorem dX7_keepsAct_95 : decode cX7_keepsAct 95 = .ok (.putfield 209, 3) := by decide +kernel
theorem dX7_keepsAct_98 : decode cX7_keepsAct 98 = .ok (.aload_n 0, 1) := by decide +kernel
theorem dX7_keepsAct_99 : decode cX7_keepsAct 99 = .ok (.iconst 0, 1) := by decide +kernel
theorem dX7_keepsAct_100 : decode cX7_keepsAct 100 = .ok (.putfield 107, 3) := by decide +kernel
theorem dX7_keepsAct_103 : decode cX7_keepsAct 103 = .ok (.return_, 1) := by decide +kernel
theorem dX7_sets_0 : decode cX7_sets 0 = .ok (.aload_n 0, 1) := by decide +kernel
theorem dX7_sets_1 : decode cX7_sets 1 = .ok (.getfield 7, 3) := by decide +kernel
theorem dX7_sets_4 : decode cX7_sets 4 = .ok (.bipush 11, 2) := by decide +kernel
theorem dX7_sets_6 : decode cX7_sets 6 = .ok (.iconst 5, 1) := by decide +kernel
theorem dX7_sets_7 : decode cX7_sets 7 = .ok (.iload_n 1, 1) := by decide +kernel
theorem dX7_sets_8 : decode cX7_sets 8 = .ok (.imul, 1) := by decide +kernel
theorem dX7_sets_9 : decode cX7_sets 9 = .ok (.iadd, 1) := by decide +kernel
theorem dX7_sets_10 : decode cX7_sets 10 = .ok (.iload_n 2, 1) := by decide +kernel
theorem dX7_sets_11 : decode cX7_sets 11 = .ok (.iadd, 1) := by decide +kernel
theorem dX7_sets_12 : decode cX7_sets 12 = .ok (.iload_n 3, 1) := by decide +kernel
theorem dX7_sets_13 : decode cX7_sets 13 = .ok (.iastore, 1) := by decide +kernel
theorem dX7_sets_14 : decode cX7_sets 14 = .ok (.return_, 1) := by decide +kernel
theorem dX7_comesNew_0 : decode cX7_comesNew 0 = .ok (.aload_n 0, 1) := by decide +kernel
theorem dX7_comesNew_1 : decode cX7_comesNew 1 = .ok (.getfield 7, 3) := by decide +kernel
theorem dX7_comesNew_4 : decode cX7_comesNew 4 = .ok (.iconst 2, 1) := by decide +kernel
theorem dX7_comesNew_5 : decode cX7_comesNew 5 = .ok (.iaload, 1) := by decide +kernel
theorem dX7_comesNew_6 : decode cX7_comesNew 6 = .ok (.istore 5, 2) := by decide +kernel
theorem dX7_comesNew_8 : decode cX7_comesNew 8 = .ok (.aload_n 0, 1) := by decide +kernel
theorem dX7_comesNew_9 : decode cX7_comesNew 9 = .ok (.iload 5, 2) := by decide +kernel
theorem dX7_comesNew_11 : decode cX7_comesNew 11 = .ok (.iconst 0, 1) := by decide +kernel
theorem dX7_comesNew_12 : decode cX7_comesNew 12 = .ok (.iload_n 1, 1) := by decide +kernel
theorem dX7_comesNew_13 : decode cX7_comesNew 13 = .ok (.invokevirtual 212, 3) := by decide +kernel
theorem dX7_comesNew_16 : decode cX7_comesNew 16 = .ok (.aload_n 0, 1) := by decide +kernel
theorem dX7_comesNew_17 : decode cX7_comesNew 17 = .ok (.iload 5, 2) := by decide +kernel
theorem dX7_comesNew_19 : decode cX7_comesNew 19 = .ok (.iconst 1, 1) := by decide +kernel
theorem dX7_comesNew_20 : decode cX7_comesNew 20 = .ok (.iload_n 2, 1) := by decide +kernel
theorem dX7_comesNew_21 : decode cX7_comesNew 21 = .ok (.invokevirtual 212, 3) := by decide +kernel
theorem dX7_comesNew_24 : decode cX7_comesNew 24 = .ok (.aload_n 0, 1) := by decide +kernel
theorem dX7_comesNew_25 : decode cX7_comesNew 25 = .ok (.iload 5, 2) := by decide +kernel
theorem dX7_comesNew_27 : decode cX7_comesNew 27 = .ok (.iconst 2, 1) := by decide +kernel
theorem dX7_comesNew_28 : decode cX7_comesNew 28 = .ok (.iload_n 3, 1) := by decide +kernel
theorem dX7_comesNew_29 : decode cX7_comesNew 29 = .ok (.invokevirtual 212, 3) := by decide +kernel
theorem dX7_comesNew_32 : decode cX7_comesNew 32 = .ok (.aload_n 0, 1) := by decide +kernel
theorem dX7_comesNew_33 : decode cX7_comesNew 33 = .ok (.iload 5, 2) := by decide +kernel
theorem dX7_comesNew_35 : decode cX7_comesNew 35 = .ok (.iconst 3, 1) := by decide +kernel
theorem dX7_comesNew_36 : decode cX7_comesNew 36 = .ok (.iload 4, 2) := by decide +kernel
theorem dX7_comesNew_38 : decode cX7_comesNew 38 = .ok (.invokevirtual 212, 3) := by decide +kernel
theorem dX7_comesNew_41 : decode cX7_comesNew 41 = .ok (.aload_n 0, 1) := by decide +kernel
theorem dX7_comesNew_42 : decode cX7_comesNew 42 = .ok (.iload 5, 2) := by decide +kernel
theorem dX7_comesNew_44 : decode cX7_comesNew 44 = .ok (.iconst 4, 1) := by decide +kernel
theorem dX7_comesNew_45 : decode cX7_comesNew 45 = .ok (.aload_n 0, 1) := by decide +kernel
theorem dX7_comesNew_46 : decode cX7_comesNew 46 = .ok (.getfield 7, 3) := by decide +kernel
theorem dX7_comesNew_49 : decode cX7_comesNew 49 = .ok (.iconst 0, 1) := by decide +kernel
theorem dX7_comesNew_50 : decode cX7_comesNew 50 = .ok (.iaload, 1) := by decide +kernel
theorem dX7_comesNew_51 : decode cX7_comesNew 51 = .ok (.invokevirtual 212, 3) := by decide +kernel
theorem dX7_comesNew_54 : decode cX7_comesNew 54 = .ok (.aload_n 0, 1) := by decide +kernel
theorem dX7_comesNew_55 : decode cX7_comesNew 55 = .ok (.getfield 7, 3) := by decide +kernel
theorem dX7_comesNew_58 : decode cX7_comesNew 58 = .ok (.iconst 2, 1) := by decide +kernel
theorem dX7_comesNew_59 : decode cX7_comesNew 59 = .ok (.dup2, 1) := by decide +kernel
theorem dX7_comesNew_60 : decode cX7_comesNew 60 = .ok (.iaload, 1) := by decide +kernel
theorem dX7_comesNew_61 : decode cX7_comesNew 61 = .ok (.iconst 1, 1) := by decide +kernel
theorem dX7_comesNew_62 : decode cX7_comesNew 62 = .ok (.iadd, 1) := by decide +kernel
theorem dX7_comesNew_63 : decode cX7_comesNew 63 = .ok (.iastore, 1) := by decide +kernel
theorem dX7_comesNew_64 : decode cX7_comesNew 64 = .ok (.aload_n 0, 1) := by decide +kernel
theorem dX7_comesNew_65 : decode cX7_comesNew 65 = .ok (.iconst 0, 1) := by decide +kernel
theorem dX7_comesNew_66 : decode cX7_comesNew 66 = .ok (.putfield 107, 3) := by decide +kernel
theorem dX7_comesNew_69 : decode cX7_comesNew 69 = .ok (.iload 5, 2) := by decide +kernel
theorem dX7_comesNew_71 : decode cX7_comesNew 71 = .ok (.ireturn, 1) := by decide +kernel
theorem dX7_come_0 : decode cX7_come 0 = .ok (.iload_n 1, 1) := by decide +kernel
theorem dX7_come_1 : decode cX7_come 1 = .ok (.invokestatic 143, 3) := by decide +kernel
theorem dX7_come_4 : decode cX7_come 4 = .ok (.ifCond .eq 27, 3) := by decide +kernel
theorem dX7_come_7 : decode cX7_come 7 = .ok (.iload_n 2, 1) := by decide +kernel
theorem dX7_come_8 : decode cX7_come 8 = .ok (.i2l, 1) := by decide +kernel
theorem dX7_come_9 : decode cX7_come 9 = .ok (.lconst 0, 1) := by decide +kernel
theorem dX7_come_10 : decode cX7_come 10 = .ok (.ldc2_w 194, 3) := by decide +kernel
theorem dX7_come_13 : decode cX7_come 13 = .ok (.invokestatic 54, 3) := by decide +kernel
theorem dX7_come_16 : decode cX7_come 16 = .ok (.ifCond .eq 15, 3) := by decide +kernel
theorem dX7_come_19 : decode cX7_come 19 = .ok (.iload_n 3, 1) := by decide +kernel
theorem dX7_come_20 : decode cX7_come 20 = .ok (.i2l, 1) := by decide +kernel
theorem dX7_come_21 : decode cX7_come 21 = .ok (.lconst 1, 1) := by decide +kernel
theorem dX7_come_22 : decode cX7_come 22 = .ok (.ldc2_w 161, 3) := by decide +kernel
theorem dX7_come_25 : decode cX7_come 25 = .ok (.invokestatic 54, 3) := by decide +kernel
theorem dX7_come_28 : decode cX7_come 28 = .ok (.ifCond .ne 5, 3) := by decide +kernel
theorem dX7_come_31 : decode cX7_come 31 = .ok (.iconst (-1), 1) := by decide +kernel
theorem dX7_come_32 : decode cX7_come 32 = .ok (.ireturn, 1) := by decide +kernel
theorem dX7_come_33 : decode cX7_come 33 = .ok (.aload_n 0, 1) := by decide +kernel
theorem dX7_come_34 : decode cX7_come 34 = .ok (.getfield 7, 3) := by decide +kernel
theorem dX7_come_37 : decode cX7_come 37 = .ok (.iconst 2, 1) := by decide +kernel
theorem dX7_come_38 : decode cX7_come 38 = .ok (.iaload, 1) := by decide +kernel
theorem dX7_come_39 : decode cX7_come 39 = .ok (.bipush 100, 2) := by decide +kernel
theorem dX7_come_41 : decode cX7_come 41 = .ok (.if_icmp .ne 6, 3) := by decide +kernel
theorem dX7_come_44 : decode cX7_come 44 = .ok (.bipush (-2), 2) := by decide +kernel
theorem dX7_come_46 : decode cX7_come 46 = .ok (.ireturn, 1) := by decide +kernel
theorem dX7_come_47 : decode cX7_come 47 = .ok (.aload_n 0, 1) := by decide +kernel
theorem dX7_come_48 : decode cX7_come 48 = .ok (.invokevirtual 216, 3) := by decide +kernel
theorem dX7_come_51 : decode cX7_come 51 = .ok (.aload_n 0, 1) := by decide +kernel
theorem dX7_come_52 : decode cX7_come 52 = .ok (.iload_n 1, 1) := by decide +kernel
theorem dX7_come_53 : decode cX7_come 53 = .ok (.iload_n 2, 1) := by decide +kernel
theorem dX7_come_54 : decode cX7_come 54 = .ok (.iload_n 3, 1) := by decide +kernel
theorem dX7_come_55 : decode cX7_come 55 = .ok (.aload_n 0, 1) := by decide +kernel
theorem dX7_come_56 : decode cX7_come 56 = .ok (.aload_n 0, 1) := by decide +kernel
theorem dX7_come_57 : decode cX7_come 57 = .ok (.getfield 7, 3) := by decide +kernel
theorem dX7_come_60 : decode cX7_come 60 = .ok (.invokevirtual 174, 3) := by decide +kernel
theorem dX7_come_63 : decode cX7_come 63 = .ok (.invokevirtual 219, 3) := by decide +kernel
theorem dX7_come_66 : decode cX7_come 66 = .ok (.ireturn, 1) := by decide +kernel
theorem dX7_put_0 : decode cX7_put 0 = .ok (.iload_n 1, 1) := by decide +kernel
theorem dX7_put_1 : decode cX7_put 1 = .ok (.invokestatic 143, 3) := by decide +kernel
theorem dX7_put_4 : decode cX7_put 4 = .ok (.ifCond .eq 40, 3) := by decide +kernel
theorem dX7_put_7 : decode cX7_put 7 = .ok (.iload_n 2, 1) := by decide +kernel
theorem dX7_put_8 : decode cX7_put 8 = .ok (.i2l, 1) := by decide +kernel
theorem dX7_put_9 : decode cX7_put 9 = .ok (.lconst 0, 1) := by decide +kernel
theorem dX7_put_10 : decode cX7_put 10 = .ok (.ldc2_w 194, 3) := by decide +kernel
theorem dX7_put_13 : decode cX7_put 13 = .ok (.invokestatic 54, 3) := by decide +kernel
theorem dX7_put_16 : decode cX7_put 16 = .ok (.ifCond .eq 28, 3) := by decide +kernel
theorem dX7_put_19 : decode cX7_put 19 = .ok (.iload_n 3, 1) := by decide +kernel
theorem dX7_put_20 : decode cX7_put 20 = .ok (.i2l, 1) := by decide +kernel
theorem dX7_put_21 : decode cX7_put 21 = .ok (.lconst 1, 1) := by decide +kernel
theorem dX7_put_22 : decode cX7_put 22 = .ok (.ldc2_w 161, 3) := by decide +kernel
theorem dX7_put_25 : decode cX7_put 25 = .ok (.invokestatic 54, 3) := by decide +kernel
theorem dX7_put_28 : decode cX7_put 28 = .ok (.ifCond .eq 16, 3) := by decide +kernel
theorem dX7_put_31 : decode cX7_put 31 = .ok (.iload 4, 2) := by decide +kernel
theorem dX7_put_33 : decode cX7_put 33 = .ok (.i2l, 1) := by decide +kernel
theorem dX7_put_34 : decode cX7_put 34 = .ok (.lconst 1, 1) := by decide +kernel
theorem dX7_put_35 : decode cX7_put 35 = .ok (.ldc2_w 166, 3) := by decide +kernel
theorem dX7_put_38 : decode cX7_put 38 = .ok (.invokestatic 54, 3) := by decide +kernel
theorem dX7_put_41 : decode cX7_put 41 = .ok (.ifCond .ne 5, 3) := by decide +kernel
theorem dX7_put_44 : decode cX7_put 44 = .ok (.iconst (-1), 1) := by decide +kernel
theorem dX7_put_45 : decode cX7_put 45 = .ok (.ireturn, 1) := by decide +kernel
theorem dX7_put_46 : decode cX7_put 46 = .ok (.aload_n 0, 1) := by decide +kernel
theorem dX7_put_47 : decode cX7_put 47 = .ok (.getfield 7, 3) := by decide +kernel
theorem dX7_put_50 : decode cX7_put 50 = .ok (.iconst 2, 1) := by decide +kernel
theorem dX7_put_51 : decode cX7_put 51 = .ok (.iaload, 1) := by decide +kernel
theorem dX7_put_52 : decode cX7_put 52 = .ok (.bipush 100, 2) := by decide +kernel
theorem dX7_put_54 : decode cX7_put 54 = .ok (.if_icmp .ne 6, 3) := by decide +kernel
theorem dX7_put_57 : decode cX7_put 57 = .ok (.bipush (-2), 2) := by decide +kernel
theorem dX7_put_59 : decode cX7_put 59 = .ok (.ireturn, 1) := by decide +kernel
theorem dX7_put_60 : decode cX7_put 60 = .ok (.aload_n 0, 1) := by decide +kernel
theorem dX7_put_61 : decode cX7_put 61 = .ok (.invokevirtual 216, 3) := by decide +kernel
theorem dX7_put_64 : decode cX7_put 64 = .ok (.aload_n 0, 1) := by decide +kernel
theorem dX7_put_65 : decode cX7_put 65 = .ok (.iload_n 1, 1) := by decide +kernel
theorem dX7_put_66 : decode cX7_put 66 = .ok (.iload_n 2, 1) := by decide +kernel
theorem dX7_put_67 : decode cX7_put 67 = .ok (.iload_n 3, 1) := by decide +kernel
theorem dX7_put_68 : decode cX7_put 68 = .ok (.iload 4, 2) := by decide +kernel
theorem dX7_put_70 : decode cX7_put 70 = .ok (.invokevirtual 219, 3) := by decide +kernel
theorem dX7_put_73 : decode cX7_put 73 = .ok (.ireturn, 1) := by decide +kernel
theorem dX7_pass_0 : decode cX7_pass 0 = .ok (.iload_n 1, 1) := by decide +kernel
theorem dX7_pass_1 : decode cX7_pass 1 = .ok (.i2l, 1) := by decide +kernel
theorem dX7_pass_2 : decode cX7_pass 2 = .ok (.lconst 1, 1) := by decide +kernel
theorem dX7_pass_3 : decode cX7_pass 3 = .ok (.ldc2_w 181, 3) := by decide +kernel
theorem dX7_pass_6 : decode cX7_pass 6 = .ok (.invokestatic 54, 3) := by decide +kernel
theorem dX7_pass_9 : decode cX7_pass 9 = .ok (.ifCond .ne 5, 3) := by decide +kernel
theorem dX7_pass_12 : decode cX7_pass 12 = .ok (.iconst (-1), 1) := by decide +kernel
theorem dX7_pass_13 : decode cX7_pass 13 = .ok (.ireturn, 1) := by decide +kernel
theorem dX7_pass_14 : decode cX7_pass 14 = .ok (.aload_n 0, 1) := by decide +kernel
theorem dX7_pass_15 : decode cX7_pass 15 = .ok (.getfield 7, 3) := by decide +kernel
theorem dX7_pass_18 : decode cX7_pass 18 = .ok (.iconst 0, 1) := by decide +kernel
theorem dX7_pass_19 : decode cX7_pass 19 = .ok (.iaload, 1) := by decide +kernel
theorem dX7_pass_20 : decode cX7_pass 20 = .ok (.iload_n 1, 1) := by decide +kernel
theorem dX7_pass_21 : decode cX7_pass 21 = .ok (.iadd, 1) := by decide +kernel
theorem dX7_pass_22 : decode cX7_pass 22 = .ok (.ldc 222, 2) := by decide +kernel
theorem dX7_pass_24 : decode cX7_pass 24 = .ok (.if_icmp .le 6, 3) := by decide +kernel
theorem dX7_pass_27 : decode cX7_pass 27 = .ok (.bipush (-2), 2) := by decide +kernel
theorem dX7_pass_29 : decode cX7_pass 29 = .ok (.ireturn, 1) := by decide +kernel
theorem dX7_pass_30 : decode cX7_pass 30 = .ok (.aload_n 0, 1) := by decide +kernel
theorem dX7_pass_31 : decode cX7_pass 31 = .ok (.invokevirtual 216, 3) := by decide +kernel
theorem dX7_pass_34 : decode cX7_pass 34 = .ok (.aload_n 0, 1) := by decide +kernel
theorem dX7_pass_35 : decode cX7_pass 35 = .ok (.getfield 7, 3) := by decide +kernel
theorem dX7_pass_38 : decode cX7_pass 38 = .ok (.iconst 0, 1) := by decide +kernel
theorem dX7_pass_39 : decode cX7_pass 39 = .ok (.dup2, 1) := by decide +kernel
theorem dX7_pass_40 : decode cX7_pass 40 = .ok (.iaload, 1) := by decide +kernel
theorem dX7_pass_41 : decode cX7_pass 41 = .ok (.iload_n 1, 1) := by decide +kernel
theorem dX7_pass_42 : decode cX7_pass 42 = .ok (.iadd, 1) := by decide +kernel
theorem dX7_pass_43 : decode cX7_pass 43 = .ok (.iastore, 1) := by decide +kernel
theorem dX7_pass_44 : decode cX7_pass 44 = .ok (.aload_n 0, 1) := by decide +kernel
theorem dX7_pass_45 : decode cX7_pass 45 = .ok (.getfield 7, 3) := by decide +kernel
theorem dX7_pass_48 : decode cX7_pass 48 = .ok (.iconst 0, 1) := by decide +kernel
theorem dX7_pass_49 : decode cX7_pass 49 = .ok (.iaload, 1) := by decide +kernel
theorem dX7_pass_50 : decode cX7_pass 50 = .ok (.ireturn, 1) := by decide +kernel
theorem dX7_becomes_0 : decode cX7_becomes 0 = .ok (.aload_n 0, 1) := by decide +kernel
theorem dX7_becomes_1 : decode cX7_becomes 1 = .ok (.getfield 7, 3) := by decide +kernel
theorem dX7_becomes_4 : decode cX7_becomes 4 = .ok (.iload_n 1, 1) := by decide +kernel
theorem dX7_becomes_5 : decode cX7_becomes 5 = .ok (.iaload, 1) := by decide +kernel
theorem dX7_becomes_6 : decode cX7_becomes 6 = .ok (.istore_n 3, 1) := by decide +kernel
theorem dX7_becomes_7 : decode cX7_becomes 7 = .ok (.iload_n 3, 1) := by decide +kernel
theorem dX7_becomes_8 : decode cX7_becomes 8 = .ok (.iload_n 2, 1) := by decide +kernel
theorem dX7_becomes_9 : decode cX7_becomes 9 = .ok (.if_icmp .ne 6, 3) := by decide +kernel
theorem dX7_becomes_12 : decode cX7_becomes 12 = .ok (.bipush (-2), 2) := by decide +kernel
theorem dX7_becomes_14 : decode cX7_becomes 14 = .ok (.ireturn, 1) := by decide +kernel
theorem dX7_becomes_15 : decode cX7_becomes 15 = .ok (.aload_n 0, 1) := by decide +kernel
theorem dX7_becomes_16 : decode cX7_becomes 16 = .ok (.invokevirtual 216, 3) := by decide +kernel
theorem dX7_becomes_19 : decode cX7_becomes 19 = .ok (.aload_n 0, 1) := by decide +kernel
theorem dX7_becomes_20 : decode cX7_becomes 20 = .ok (.getfield 7, 3) := by decide +kernel
theorem dX7_becomes_23 : decode cX7_becomes 23 = .ok (.iload_n 1, 1) := by decide +kernel
theorem dX7_becomes_24 : decode cX7_becomes 24 = .ok (.iload_n 2, 1) := by decide +kernel
theorem dX7_becomes_25 : decode cX7_becomes 25 = .ok (.iastore, 1) := by decide +kernel
theorem dX7_becomes_26 : decode cX7_becomes 26 = .ok (.iload_n 3, 1) := by decide +kernel
theorem dX7_becomes_27 : decode cX7_becomes 27 = .ok (.ireturn, 1) := by decide +kernel
theorem dX7_size_0 : decode cX7_size 0 = .ok (.iload_n 1, 1) := by decide +kernel
theorem dX7_size_1 : decode cX7_size 1 = .ok (.invokestatic 143, 3) := by decide +kernel
theorem dX7_size_4 : decode cX7_size 4 = .ok (.ifCond .eq 26, 3) := by decide +kernel
theorem dX7_size_7 : decode cX7_size 7 = .ok (.iload_n 2, 1) := by decide +kernel
theorem dX7_size_8 : decode cX7_size 8 = .ok (.i2l, 1) := by decide +kernel
theorem dX7_size_9 : decode cX7_size 9 = .ok (.lconst 1, 1) := by decide +kernel
theorem dX7_size_10 : decode cX7_size 10 = .ok (.ldc2_w 156, 3) := by decide +kernel
theorem dX7_size_13 : decode cX7_size 13 = .ok (.invokestatic 54, 3) := by decide +kernel
theorem dX7_size_16 : decode cX7_size 16 = .ok (.ifCond .eq 14, 3) := by decide +kernel
theorem dX7_size_19 : decode cX7_size 19 = .ok (.aload_n 0, 1) := by decide +kernel
theorem dX7_size_20 : decode cX7_size 20 = .ok (.iconst 3, 1) := by decide +kernel
theorem dX7_size_21 : decode cX7_size 21 = .ok (.iload_n 1, 1) := by decide +kernel
theorem dX7_size_22 : decode cX7_size 22 = .ok (.iadd, 1) := by decide +kernel
theorem dX7_size_23 : decode cX7_size 23 = .ok (.iload_n 2, 1) := by decide +kernel
theorem dX7_size_24 : decode cX7_size 24 = .ok (.invokevirtual 223, 3) := by decide +kernel
theorem dX7_size_27 : decode cX7_size 27 = .ok (.goto 4, 3) := by decide +kernel
theorem dX7_size_30 : decode cX7_size 30 = .ok (.iconst (-1), 1) := by decide +kernel
theorem dX7_size_31 : decode cX7_size 31 = .ok (.ireturn, 1) := by decide +kernel
theorem dX7_window_0 : decode cX7_window 0 = .ok (.iload_n 1, 1) := by decide +kernel
theorem dX7_window_1 : decode cX7_window 1 = .ok (.invokestatic 143, 3) := by decide +kernel
theorem dX7_window_4 : decode cX7_window 4 = .ok (.ifCond .eq 27, 3) := by decide +kernel
theorem dX7_window_7 : decode cX7_window 7 = .ok (.iload_n 2, 1) := by decide +kernel
theorem dX7_window_8 : decode cX7_window 8 = .ok (.i2l, 1) := by decide +kernel
theorem dX7_window_9 : decode cX7_window 9 = .ok (.lconst 0, 1) := by decide +kernel
theorem dX7_window_10 : decode cX7_window 10 = .ok (.ldc2_w 181, 3) := by decide +kernel
theorem dX7_window_13 : decode cX7_window 13 = .ok (.invokestatic 54, 3) := by decide +kernel
theorem dX7_window_16 : decode cX7_window 16 = .ok (.ifCond .eq 15, 3) := by decide +kernel
theorem dX7_window_19 : decode cX7_window 19 = .ok (.aload_n 0, 1) := by decide +kernel
theorem dX7_window_20 : decode cX7_window 20 = .ok (.bipush 7, 2) := by decide +kernel
theorem dX7_window_22 : decode cX7_window 22 = .ok (.iload_n 1, 1) := by decide +kernel
theorem dX7_window_23 : decode cX7_window 23 = .ok (.iadd, 1) := by decide +kernel
theorem dX7_window_24 : decode cX7_window 24 = .ok (.iload_n 2, 1) := by decide +kernel
theorem dX7_window_25 : decode cX7_window 25 = .ok (.invokevirtual 223, 3) := by decide +kernel
theorem dX7_window_28 : decode cX7_window 28 = .ok (.goto 4, 3) := by decide +kernel
theorem dX7_window_31 : decode cX7_window 31 = .ok (.iconst (-1), 1) := by decide +kernel
theorem dX7_window_32 : decode cX7_window 32 = .ok (.ireturn, 1) := by decide +kernel
theorem dX7_weigh_0 : decode cX7_weigh 0 = .ok (.aload_n 0, 1) := by decide +kernel
theorem dX7_weigh_1 : decode cX7_weigh 1 = .ok (.iload_n 1, 1) := by decide +kernel
theorem dX7_weigh_2 : decode cX7_weigh 2 = .ok (.invokevirtual 226, 3) := by decide +kernel
theorem dX7_weigh_5 : decode cX7_weigh 5 = .ok (.ifCond .eq 31, 3) := by decide +kernel
theorem dX7_weigh_8 : decode cX7_weigh 8 = .ok (.iload_n 2, 1) := by decide +kernel
theorem dX7_weigh_9 : decode cX7_weigh 9 = .ok (.i2l, 1) := by decide +kernel
theorem dX7_weigh_10 : decode cX7_weigh 10 = .ok (.lconst 1, 1) := by decide +kernel
theorem dX7_weigh_11 : decode cX7_weigh 11 = .ok (.ldc2_w 161, 3) := by decide +kernel
theorem dX7_weigh_14 : decode cX7_weigh 14 = .ok (.invokestatic 54, 3) := by decide +kernel
theorem dX7_weigh_17 : decode cX7_weigh 17 = .ok (.ifCond .eq 19, 3) := by decide +kernel
theorem dX7_weigh_20 : decode cX7_weigh 20 = .ok (.aload_n 0, 1) := by decide +kernel
theorem dX7_weigh_21 : decode cX7_weigh 21 = .ok (.bipush 11, 2) := by decide +kernel
theorem dX7_weigh_23 : decode cX7_weigh 23 = .ok (.iconst 5, 1) := by decide +kernel
theorem dX7_weigh_24 : decode cX7_weigh 24 = .ok (.iload_n 1, 1) := by decide +kernel
theorem dX7_weigh_25 : decode cX7_weigh 25 = .ok (.imul, 1) := by decide +kernel
theorem dX7_weigh_26 : decode cX7_weigh 26 = .ok (.iadd, 1) := by decide +kernel
theorem dX7_weigh_27 : decode cX7_weigh 27 = .ok (.iconst 2, 1) := by decide +kernel
theorem dX7_weigh_28 : decode cX7_weigh 28 = .ok (.iadd, 1) := by decide +kernel
theorem dX7_weigh_29 : decode cX7_weigh 29 = .ok (.iload_n 2, 1) := by decide +kernel
theorem dX7_weigh_30 : decode cX7_weigh 30 = .ok (.invokevirtual 223, 3) := by decide +kernel
theorem dX7_weigh_33 : decode cX7_weigh 33 = .ok (.goto 4, 3) := by decide +kernel
theorem dX7_weigh_36 : decode cX7_weigh 36 = .ok (.iconst (-1), 1) := by decide +kernel
theorem dX7_weigh_37 : decode cX7_weigh 37 = .ok (.ireturn, 1) := by decide +kernel
theorem dX7_again_0 : decode cX7_again 0 = .ok (.aload_n 0, 1) := by decide +kernel
theorem dX7_again_1 : decode cX7_again 1 = .ok (.iload_n 1, 1) := by decide +kernel
theorem dX7_again_2 : decode cX7_again 2 = .ok (.invokevirtual 226, 3) := by decide +kernel
theorem dX7_again_5 : decode cX7_again 5 = .ok (.ifCond .ne 5, 3) := by decide +kernel
theorem dX7_again_8 : decode cX7_again 8 = .ok (.iconst (-1), 1) := by decide +kernel
theorem dX7_again_9 : decode cX7_again 9 = .ok (.ireturn, 1) := by decide +kernel
theorem dX7_again_10 : decode cX7_again 10 = .ok (.aload_n 0, 1) := by decide +kernel
theorem dX7_again_11 : decode cX7_again 11 = .ok (.invokevirtual 216, 3) := by decide +kernel
theorem dX7_again_14 : decode cX7_again 14 = .ok (.aload_n 0, 1) := by decide +kernel
theorem dX7_again_15 : decode cX7_again 15 = .ok (.aload_n 0, 1) := by decide +kernel
theorem dX7_again_16 : decode cX7_again 16 = .ok (.getfield 7, 3) := by decide +kernel
theorem dX7_again_19 : decode cX7_again 19 = .ok (.invokevirtual 174, 3) := by decide +kernel
theorem dX7_again_22 : decode cX7_again 22 = .ok (.istore_n 2, 1) := by decide +kernel
theorem dX7_again_23 : decode cX7_again 23 = .ok (.aload_n 0, 1) := by decide +kernel
theorem dX7_again_24 : decode cX7_again 24 = .ok (.iload_n 1, 1) := by decide +kernel
theorem dX7_again_25 : decode cX7_again 25 = .ok (.iconst 3, 1) := by decide +kernel
theorem dX7_again_26 : decode cX7_again 26 = .ok (.iload_n 2, 1) := by decide +kernel
theorem dX7_again_27 : decode cX7_again 27 = .ok (.invokevirtual 212, 3) := by decide +kernel
theorem dX7_again_30 : decode cX7_again 30 = .ok (.iload_n 2, 1) := by decide +kernel
theorem dX7_again_31 : decode cX7_again 31 = .ok (.ireturn, 1) := by decide +kernel
theorem dX7_drop_0 : decode cX7_drop 0 = .ok (.aload_n 0, 1) := by decide +kernel
theorem dX7_drop_1 : decode cX7_drop 1 = .ok (.iload_n 1, 1) := by decide +kernel
theorem dX7_drop_2 : decode cX7_drop 2 = .ok (.invokevirtual 226, 3) := by decide +kernel
theorem dX7_drop_5 : decode cX7_drop 5 = .ok (.ifCond .ne 5, 3) := by decide +kernel
theorem dX7_drop_8 : decode cX7_drop 8 = .ok (.iconst (-1), 1) := by decide +kernel
theorem dX7_drop_9 : decode cX7_drop 9 = .ok (.ireturn, 1) := by decide +kernel
theorem dX7_drop_10 : decode cX7_drop 10 = .ok (.aload_n 0, 1) := by decide +kernel
theorem dX7_drop_11 : decode cX7_drop 11 = .ok (.iload_n 1, 1) := by decide +kernel
theorem dX7_drop_12 : decode cX7_drop 12 = .ok (.invokevirtual 62, 3) := by decide +kernel
theorem dX7_drop_15 : decode cX7_drop 15 = .ok (.istore_n 2, 1) := by decide +kernel
theorem dX7_drop_16 : decode cX7_drop 16 = .ok (.aload_n 0, 1) := by decide +kernel
theorem dX7_drop_17 : decode cX7_drop 17 = .ok (.invokevirtual 216, 3) := by decide +kernel
theorem dX7_drop_20 : decode cX7_drop 20 = .ok (.aload_n 0, 1) := by decide +kernel
theorem dX7_drop_21 : decode cX7_drop 21 = .ok (.iload_n 1, 1) := by decide +kernel
theorem dX7_drop_22 : decode cX7_drop 22 = .ok (.iconst 0, 1) := by decide +kernel
theorem dX7_drop_23 : decode cX7_drop 23 = .ok (.iconst 4, 1) := by decide +kernel
theorem dX7_drop_24 : decode cX7_drop 24 = .ok (.iload_n 2, 1) := by decide +kernel
theorem dX7_drop_25 : decode cX7_drop 25 = .ok (.iadd, 1) := by decide +kernel
theorem dX7_drop_26 : decode cX7_drop 26 = .ok (.invokevirtual 212, 3) := by decide +kernel
theorem dX7_drop_29 : decode cX7_drop 29 = .ok (.aload_n 0, 1) := by decide +kernel
theorem dX7_drop_30 : decode cX7_drop 30 = .ok (.iload_n 2, 1) := by decide +kernel
theorem dX7_drop_31 : decode cX7_drop 31 = .ok (.invokevirtual 199, 3) := by decide +kernel
theorem dX7_drop_34 : decode cX7_drop 34 = .ok (.ireturn, 1) := by decide +kernel
theorem dX7_move_0 : decode cX7_move 0 = .ok (.aload_n 0, 1) := by decide +kernel
theorem dX7_move_1 : decode cX7_move 1 = .ok (.iload_n 1, 1) := by decide +kernel
theorem dX7_move_2 : decode cX7_move 2 = .ok (.invokevirtual 226, 3) := by decide +kernel
theorem dX7_move_5 : decode cX7_move 5 = .ok (.ifCond .eq 24, 3) := by decide +kernel
theorem dX7_move_8 : decode cX7_move 8 = .ok (.iload_n 2, 1) := by decide +kernel
theorem dX7_move_9 : decode cX7_move 9 = .ok (.invokestatic 143, 3) := by decide +kernel
theorem dX7_move_12 : decode cX7_move 12 = .ok (.ifCond .eq 17, 3) := by decide +kernel
theorem dX7_move_15 : decode cX7_move 15 = .ok (.aload_n 0, 1) := by decide +kernel
theorem dX7_move_16 : decode cX7_move 16 = .ok (.bipush 11, 2) := by decide +kernel
theorem dX7_move_18 : decode cX7_move 18 = .ok (.iconst 5, 1) := by decide +kernel
theorem dX7_move_19 : decode cX7_move 19 = .ok (.iload_n 1, 1) := by decide +kernel
theorem dX7_move_20 : decode cX7_move 20 = .ok (.imul, 1) := by decide +kernel
theorem dX7_move_21 : decode cX7_move 21 = .ok (.iadd, 1) := by decide +kernel
theorem dX7_move_22 : decode cX7_move 22 = .ok (.iload_n 2, 1) := by decide +kernel
theorem dX7_move_23 : decode cX7_move 23 = .ok (.invokevirtual 223, 3) := by decide +kernel
theorem dX7_move_26 : decode cX7_move 26 = .ok (.goto 4, 3) := by decide +kernel
theorem dX7_move_29 : decode cX7_move 29 = .ok (.iconst (-1), 1) := by decide +kernel
theorem dX7_move_30 : decode cX7_move 30 = .ok (.ireturn, 1) := by decide +kernel
theorem dX7_merge_0 : decode cX7_merge 0 = .ok (.iload_n 1, 1) := by decide +kernel
theorem dX7_merge_1 : decode cX7_merge 1 = .ok (.invokestatic 143, 3) := by decide +kernel
theorem dX7_merge_4 : decode cX7_merge 4 = .ok (.ifCond .eq 15, 3) := by decide +kernel
theorem dX7_merge_7 : decode cX7_merge 7 = .ok (.iload_n 2, 1) := by decide +kernel
theorem dX7_merge_8 : decode cX7_merge 8 = .ok (.invokestatic 143, 3) := by decide +kernel
theorem dX7_merge_11 : decode cX7_merge 11 = .ok (.ifCond .eq 8, 3) := by decide +kernel
theorem dX7_merge_14 : decode cX7_merge 14 = .ok (.iload_n 1, 1) := by decide +kernel
theorem dX7_merge_15 : decode cX7_merge 15 = .ok (.iload_n 2, 1) := by decide +kernel
theorem dX7_merge_16 : decode cX7_merge 16 = .ok (.if_icmp .ne 5, 3) := by decide +kernel
theorem dX7_merge_19 : decode cX7_merge 19 = .ok (.iconst (-1), 1) := by decide +kernel
theorem dX7_merge_20 : decode cX7_merge 20 = .ok (.ireturn, 1) := by decide +kernel
theorem dX7_merge_21 : decode cX7_merge 21 = .ok (.aload_n 0, 1) := by decide +kernel
theorem dX7_merge_22 : decode cX7_merge 22 = .ok (.iload_n 1, 1) := by decide +kernel
theorem dX7_merge_23 : decode cX7_merge 23 = .ok (.invokevirtual 199, 3) := by decide +kernel
theorem dX7_merge_26 : decode cX7_merge 26 = .ok (.istore_n 3, 1) := by decide +kernel
theorem dX7_merge_27 : decode cX7_merge 27 = .ok (.iload_n 3, 1) := by decide +kernel
theorem dX7_merge_28 : decode cX7_merge 28 = .ok (.ifCond .ne 6, 3) := by decide +kernel
theorem dX7_merge_31 : decode cX7_merge 31 = .ok (.bipush (-2), 2) := by decide +kernel
theorem dX7_merge_33 : decode cX7_merge 33 = .ok (.ireturn, 1) := by decide +kernel
theorem dX7_merge_34 : decode cX7_merge 34 = .ok (.aload_n 0, 1) := by decide +kernel
theorem dX7_merge_35 : decode cX7_merge 35 = .ok (.invokevirtual 216, 3) := by decide +kernel
theorem dX7_merge_38 : decode cX7_merge 38 = .ok (.iconst 0, 1) := by decide +kernel
theorem dX7_merge_39 : decode cX7_merge 39 = .ok (.istore 4, 2) := by decide +kernel
theorem dX7_merge_41 : decode cX7_merge 41 = .ok (.iload 4, 2) := by decide +kernel
theorem dX7_merge_43 : decode cX7_merge 43 = .ok (.aload_n 0, 1) := by decide +kernel
theorem dX7_merge_44 : decode cX7_merge 44 = .ok (.getfield 7, 3) := by decide +kernel
theorem dX7_merge_47 : decode cX7_merge 47 = .ok (.iconst 2, 1) := by decide +kernel
theorem dX7_merge_48 : decode cX7_merge 48 = .ok (.iaload, 1) := by decide +kernel
theorem dX7_merge_49 : decode cX7_merge 49 = .ok (.if_icmp .ge 27, 3) := by decide +kernel
theorem dX7_merge_52 : decode cX7_merge 52 = .ok (.aload_n 0, 1) := by decide +kernel
theorem dX7_merge_53 : decode cX7_merge 53 = .ok (.iload 4, 2) := by decide +kernel
theorem dX7_merge_55 : decode cX7_merge 55 = .ok (.invokevirtual 62, 3) := by decide +kernel
theorem dX7_merge_58 : decode cX7_merge 58 = .ok (.iload_n 1, 1) := by decide +kernel
theorem dX7_merge_59 : decode cX7_merge 59 = .ok (.if_icmp .ne 11, 3) := by decide +kernel
theorem dX7_merge_62 : decode cX7_merge 62 = .ok (.aload_n 0, 1) := by decide +kernel
theorem dX7_merge_63 : decode cX7_merge 63 = .ok (.iload 4, 2) := by decide +kernel
theorem dX7_merge_65 : decode cX7_merge 65 = .ok (.iconst 0, 1) := by decide +kernel
theorem dX7_merge_66 : decode cX7_merge 66 = .ok (.iload_n 2, 1) := by decide +kernel
theorem dX7_merge_67 : decode cX7_merge 67 = .ok (.invokevirtual 212, 3) := by decide +kernel
theorem dX7_merge_70 : decode cX7_merge 70 = .ok (.iinc 4 1, 3) := by decide +kernel
theorem dX7_merge_73 : decode cX7_merge 73 = .ok (.goto (-32), 3) := by decide +kernel
theorem dX7_merge_76 : decode cX7_merge 76 = .ok (.iload_n 3, 1) := by decide +kernel
theorem dX7_merge_77 : decode cX7_merge 77 = .ok (.ireturn, 1) := by decide +kernel
theorem dX7_rename_0 : decode cX7_rename 0 = .ok (.iload_n 1, 1) := by decide +kernel
theorem dX7_rename_1 : decode cX7_rename 1 = .ok (.i2l, 1) := by decide +kernel
theorem dX7_rename_2 : decode cX7_rename 2 = .ok (.lconst 0, 1) := by decide +kernel
theorem dX7_rename_3 : decode cX7_rename 3 = .ok (.ldc2_w 194, 3) := by decide +kernel
theorem dX7_rename_6 : decode cX7_rename 6 = .ok (.invokestatic 54, 3) := by decide +kernel
theorem dX7_rename_9 : decode cX7_rename 9 = .ok (.ifCond .eq 20, 3) := by decide +kernel
theorem dX7_rename_12 : decode cX7_rename 12 = .ok (.iload_n 2, 1) := by decide +kernel
theorem dX7_rename_13 : decode cX7_rename 13 = .ok (.i2l, 1) := by decide +kernel
theorem dX7_rename_14 : decode cX7_rename 14 = .ok (.lconst 0, 1) := by decide +kernel
theorem dX7_rename_15 : decode cX7_rename 15 = .ok (.ldc2_w 194, 3) := by decide +kernel
theorem dX7_rename_18 : decode cX7_rename 18 = .ok (.invokestatic 54, 3) := by decide +kernel
theorem dX7_rename_21 : decode cX7_rename 21 = .ok (.ifCond .eq 8, 3) := by decide +kernel
theorem dX7_rename_24 : decode cX7_rename 24 = .ok (.iload_n 1, 1) := by decide +kernel
theorem dX7_rename_25 : decode cX7_rename 25 = .ok (.iload_n 2, 1) := by decide +kernel
theorem dX7_rename_26 : decode cX7_rename 26 = .ok (.if_icmp .ne 5, 3) := by decide +kernel
theorem dX7_rename_29 : decode cX7_rename 29 = .ok (.iconst (-1), 1) := by decide +kernel
theorem dX7_rename_30 : decode cX7_rename 30 = .ok (.ireturn, 1) := by decide +kernel
theorem dX7_rename_31 : decode cX7_rename 31 = .ok (.iconst 0, 1) := by decide +kernel
theorem dX7_rename_32 : decode cX7_rename 32 = .ok (.istore_n 3, 1) := by decide +kernel
theorem dX7_rename_33 : decode cX7_rename 33 = .ok (.iconst 0, 1) := by decide +kernel
theorem dX7_rename_34 : decode cX7_rename 34 = .ok (.istore 4, 2) := by decide +kernel
theorem dX7_rename_36 : decode cX7_rename 36 = .ok (.iload 4, 2) := by decide +kernel
theorem dX7_rename_38 : decode cX7_rename 38 = .ok (.aload_n 0, 1) := by decide +kernel
theorem dX7_rename_39 : decode cX7_rename 39 = .ok (.getfield 7, 3) := by decide +kernel
theorem dX7_rename_42 : decode cX7_rename 42 = .ok (.iconst 2, 1) := by decide +kernel
theorem dX7_rename_43 : decode cX7_rename 43 = .ok (.iaload, 1) := by decide +kernel
theorem dX7_rename_44 : decode cX7_rename 44 = .ok (.if_icmp .ge 37, 3) := by decide +kernel
theorem dX7_rename_47 : decode cX7_rename 47 = .ok (.iload_n 3, 1) := by decide +kernel
theorem dX7_rename_48 : decode cX7_rename 48 = .ok (.aload_n 0, 1) := by decide +kernel
theorem dX7_rename_49 : decode cX7_rename 49 = .ok (.iload 4, 2) := by decide +kernel
theorem dX7_rename_51 : decode cX7_rename 51 = .ok (.invokevirtual 70, 3) := by decide +kernel
theorem dX7_rename_54 : decode cX7_rename 54 = .ok (.ifCond .ne 18, 3) := by decide +kernel
theorem dX7_rename_57 : decode cX7_rename 57 = .ok (.aload_n 0, 1) := by decide +kernel
theorem dX7_rename_58 : decode cX7_rename 58 = .ok (.iload 4, 2) := by decide +kernel
theorem dX7_rename_60 : decode cX7_rename 60 = .ok (.iconst 1, 1) := by decide +kernel
theorem dX7_rename_61 : decode cX7_rename 61 = .ok (.invokevirtual 58, 3) := by decide +kernel
theorem dX7_rename_64 : decode cX7_rename 64 = .ok (.iload_n 1, 1) := by decide +kernel
theorem dX7_rename_65 : decode cX7_rename 65 = .ok (.if_icmp .ne 7, 3) := by decide +kernel
theorem dX7_rename_68 : decode cX7_rename 68 = .ok (.iconst 1, 1) := by decide +kernel
theorem dX7_rename_69 : decode cX7_rename 69 = .ok (.goto 4, 3) := by decide +kernel
theorem dX7_rename_72 : decode cX7_rename 72 = .ok (.iconst 0, 1) := by decide +kernel
theorem dX7_rename_73 : decode cX7_rename 73 = .ok (.iadd, 1) := by decide +kernel
theorem dX7_rename_74 : decode cX7_rename 74 = .ok (.istore_n 3, 1) := by decide +kernel
theorem dX7_rename_75 : decode cX7_rename 75 = .ok (.iinc 4 1, 3) := by decide +kernel
theorem dX7_rename_78 : decode cX7_rename 78 = .ok (.goto (-42), 3) := by decide +kernel
theorem dX7_rename_81 : decode cX7_rename 81 = .ok (.iload_n 3, 1) := by decide +kernel
theorem dX7_rename_82 : decode cX7_rename 82 = .ok (.ifCond .ne 6, 3) := by decide +kernel
theorem dX7_rename_85 : decode cX7_rename 85 = .ok (.bipush (-2), 2) := by decide +kernel
theorem dX7_rename_87 : decode cX7_rename 87 = .ok (.ireturn, 1) := by decide +kernel
theorem dX7_rename_88 : decode cX7_rename 88 = .ok (.aload_n 0, 1) := by decide +kernel
theorem dX7_rename_89 : decode cX7_rename 89 = .ok (.invokevirtual 216, 3) := by decide +kernel
theorem dX7_rename_92 : decode cX7_rename 92 = .ok (.iconst 0, 1) := by decide +kernel
theorem dX7_rename_93 : decode cX7_rename 93 = .ok (.istore 4, 2) := by decide +kernel
theorem dX7_rename_95 : decode cX7_rename 95 = .ok (.iload 4, 2) := by decide +kernel
theorem dX7_rename_97 : decode cX7_rename 97 = .ok (.aload_n 0, 1) := by decide +kernel
theorem dX7_rename_98 : decode cX7_rename 98 = .ok (.getfield 7, 3) := by decide +kernel
theorem dX7_rename_101 : decode cX7_rename 101 = .ok (.iconst 2, 1) := by decide +kernel
theorem dX7_rename_102 : decode cX7_rename 102 = .ok (.iaload, 1) := by decide +kernel
theorem dX7_rename_103 : decode cX7_rename 103 = .ok (.if_icmp .ge 37, 3) := by decide +kernel
theorem dX7_rename_106 : decode cX7_rename 106 = .ok (.aload_n 0, 1) := by decide +kernel
theorem dX7_rename_107 : decode cX7_rename 107 = .ok (.iload 4, 2) := by decide +kernel
theorem dX7_rename_109 : decode cX7_rename 109 = .ok (.invokevirtual 70, 3) := by decide +kernel
theorem dX7_rename_112 : decode cX7_rename 112 = .ok (.ifCond .ne 22, 3) := by decide +kernel
theorem dX7_rename_115 : decode cX7_rename 115 = .ok (.aload_n 0, 1) := by decide +kernel
theorem dX7_rename_116 : decode cX7_rename 116 = .ok (.iload 4, 2) := by decide +kernel
theorem dX7_rename_118 : decode cX7_rename 118 = .ok (.iconst 1, 1) := by decide +kernel
theorem dX7_rename_119 : decode cX7_rename 119 = .ok (.invokevirtual 58, 3) := by decide +kernel
theorem dX7_rename_122 : decode cX7_rename 122 = .ok (.iload_n 1, 1) := by decide +kernel
theorem dX7_rename_123 : decode cX7_rename 123 = .ok (.if_icmp .ne 11, 3) := by decide +kernel
theorem dX7_rename_126 : decode cX7_rename 126 = .ok (.aload_n 0, 1) := by decide +kernel
theorem dX7_rename_127 : decode cX7_rename 127 = .ok (.iload 4, 2) := by decide +kernel
theorem dX7_rename_129 : decode cX7_rename 129 = .ok (.iconst 1, 1) := by decide +kernel
theorem dX7_rename_130 : decode cX7_rename 130 = .ok (.iload_n 2, 1) := by decide +kernel
theorem dX7_rename_131 : decode cX7_rename 131 = .ok (.invokevirtual 212, 3) := by decide +kernel
theorem dX7_rename_134 : decode cX7_rename 134 = .ok (.iinc 4 1, 3) := by decide +kernel
theorem dX7_rename_137 : decode cX7_rename 137 = .ok (.goto (-42), 3) := by decide +kernel
theorem dX7_rename_140 : decode cX7_rename 140 = .ok (.iload_n 3, 1) := by decide +kernel
theorem dX7_rename_141 : decode cX7_rename 141 = .ok (.ireturn, 1) := by decide +kernel
theorem dX7_thin_0 : decode cX7_thin 0 = .ok (.iload_n 1, 1) := by decide +kernel
theorem dX7_thin_1 : decode cX7_thin 1 = .ok (.invokestatic 143, 3) := by decide +kernel
theorem dX7_thin_4 : decode cX7_thin 4 = .ok (.ifCond .ne 5, 3) := by decide +kernel
theorem dX7_thin_7 : decode cX7_thin 7 = .ok (.iconst (-1), 1) := by decide +kernel
theorem dX7_thin_8 : decode cX7_thin 8 = .ok (.ireturn, 1) := by decide +kernel
theorem dX7_thin_9 : decode cX7_thin 9 = .ok (.aload_n 0, 1) := by decide +kernel
theorem dX7_thin_10 : decode cX7_thin 10 = .ok (.iload_n 1, 1) := by decide +kernel
theorem dX7_thin_11 : decode cX7_thin 11 = .ok (.invokevirtual 137, 3) := by decide +kernel
theorem dX7_thin_14 : decode cX7_thin 14 = .ok (.aload_n 0, 1) := by decide +kernel
theorem dX7_thin_15 : decode cX7_thin 15 = .ok (.iload_n 1, 1) := by decide +kernel
theorem dX7_thin_16 : decode cX7_thin 16 = .ok (.invokevirtual 199, 3) := by decide +kernel
theorem dX7_thin_19 : decode cX7_thin 19 = .ok (.aload_n 0, 1) := by decide +kernel
theorem dX7_thin_20 : decode cX7_thin 20 = .ok (.getfield 103, 3) := by decide +kernel
theorem dX7_thin_23 : decode cX7_thin 23 = .ok (.isub, 1) := by decide +kernel
theorem dX7_thin_24 : decode cX7_thin 24 = .ok (.istore_n 2, 1) := by decide +kernel
theorem dX7_thin_25 : decode cX7_thin 25 = .ok (.iload_n 2, 1) := by decide +kernel
theorem dX7_thin_26 : decode cX7_thin 26 = .ok (.ifCond .ne 6, 3) := by decide +kernel
theorem dX7_thin_29 : decode cX7_thin 29 = .ok (.bipush (-2), 2) := by decide +kernel
theorem dX7_thin_31 : decode cX7_thin 31 = .ok (.ireturn, 1) := by decide +kernel
theorem dX7_thin_32 : decode cX7_thin 32 = .ok (.aload_n 0, 1) := by decide +kernel
theorem dX7_thin_33 : decode cX7_thin 33 = .ok (.invokevirtual 216, 3) := by decide +kernel
theorem dX7_thin_36 : decode cX7_thin 36 = .ok (.iconst 0, 1) := by decide +kernel
theorem dX7_thin_37 : decode cX7_thin 37 = .ok (.istore_n 3, 1) := by decide +kernel
theorem dX7_thin_38 : decode cX7_thin 38 = .ok (.iload_n 3, 1) := by decide +kernel
theorem dX7_thin_39 : decode cX7_thin 39 = .ok (.aload_n 0, 1) := by decide +kernel
theorem dX7_thin_40 : decode cX7_thin 40 = .ok (.getfield 7, 3) := by decide +kernel
theorem dX7_thin_43 : decode cX7_thin 43 = .ok (.iconst 2, 1) := by decide +kernel
theorem dX7_thin_44 : decode cX7_thin 44 = .ok (.iaload, 1) := by decide +kernel
theorem dX7_thin_45 : decode cX7_thin 45 = .ok (.if_icmp .ge 35, 3) := by decide +kernel
theorem dX7_thin_48 : decode cX7_thin 48 = .ok (.aload_n 0, 1) := by decide +kernel
theorem dX7_thin_49 : decode cX7_thin 49 = .ok (.iload_n 3, 1) := by decide +kernel
theorem dX7_thin_50 : decode cX7_thin 50 = .ok (.invokevirtual 62, 3) := by decide +kernel
theorem dX7_thin_53 : decode cX7_thin 53 = .ok (.iload_n 1, 1) := by decide +kernel
theorem dX7_thin_54 : decode cX7_thin 54 = .ok (.if_icmp .ne 20, 3) := by decide +kernel
theorem dX7_thin_57 : decode cX7_thin 57 = .ok (.aload_n 0, 1) := by decide +kernel
theorem dX7_thin_58 : decode cX7_thin 58 = .ok (.iload_n 3, 1) := by decide +kernel
theorem dX7_thin_59 : decode cX7_thin 59 = .ok (.invokevirtual 140, 3) := by decide +kernel
theorem dX7_thin_62 : decode cX7_thin 62 = .ok (.ifCond .ge 12, 3) := by decide +kernel
theorem dX7_thin_65 : decode cX7_thin 65 = .ok (.aload_n 0, 1) := by decide +kernel
theorem dX7_thin_66 : decode cX7_thin 66 = .ok (.iload_n 3, 1) := by decide +kernel
theorem dX7_thin_67 : decode cX7_thin 67 = .ok (.iconst 0, 1) := by decide +kernel
theorem dX7_thin_68 : decode cX7_thin 68 = .ok (.iconst 4, 1) := by decide +kernel
theorem dX7_thin_69 : decode cX7_thin 69 = .ok (.iload_n 1, 1) := by decide +kernel
theorem dX7_thin_70 : decode cX7_thin 70 = .ok (.iadd, 1) := by decide +kernel
theorem dX7_thin_71 : decode cX7_thin 71 = .ok (.invokevirtual 212, 3) := by decide +kernel
theorem dX7_thin_74 : decode cX7_thin 74 = .ok (.iinc 3 1, 3) := by decide +kernel
theorem dX7_thin_77 : decode cX7_thin 77 = .ok (.goto (-39), 3) := by decide +kernel
theorem dX7_thin_80 : decode cX7_thin 80 = .ok (.iload_n 2, 1) := by decide +kernel
theorem dX7_thin_81 : decode cX7_thin 81 = .ok (.ireturn, 1) := by decide +kernel
theorem dX7_seed_0 : decode cX7_seed 0 = .ok (.iload_n 1, 1) := by decide +kernel
theorem dX7_seed_1 : decode cX7_seed 1 = .ok (.i2l, 1) := by decide +kernel
theorem dX7_seed_2 : decode cX7_seed 2 = .ok (.lconst 0, 1) := by decide +kernel
theorem dX7_seed_3 : decode cX7_seed 3 = .ok (.ldc2_w 229, 3) := by decide +kernel
theorem dX7_seed_6 : decode cX7_seed 6 = .ok (.invokestatic 54, 3) := by decide +kernel
theorem dX7_seed_9 : decode cX7_seed 9 = .ok (.ifCond .eq 12, 3) := by decide +kernel
theorem dX7_seed_12 : decode cX7_seed 12 = .ok (.aload_n 0, 1) := by decide +kernel
theorem dX7_seed_13 : decode cX7_seed 13 = .ok (.iconst 1, 1) := by decide +kernel
theorem dX7_seed_14 : decode cX7_seed 14 = .ok (.iload_n 1, 1) := by decide +kernel
theorem dX7_seed_15 : decode cX7_seed 15 = .ok (.invokevirtual 223, 3) := by decide +kernel
theorem dX7_seed_18 : decode cX7_seed 18 = .ok (.goto 4, 3) := by decide +kernel
theorem dX7_seed_21 : decode cX7_seed 21 = .ok (.iconst (-1), 1) := by decide +kernel
theorem dX7_seed_22 : decode cX7_seed 22 = .ok (.ireturn, 1) := by decide +kernel
theorem dX7_undo_0 : decode cX7_undo 0 = .ok (.aload_n 0, 1) := by decide +kernel
theorem dX7_undo_1 : decode cX7_undo 1 = .ok (.getfield 209, 3) := by decide +kernel
theorem dX7_undo_4 : decode cX7_undo 4 = .ok (.ifCond .ne 5, 3) := by decide +kernel
theorem dX7_undo_7 : decode cX7_undo 7 = .ok (.iconst (-1), 1) := by decide +kernel
theorem dX7_undo_8 : decode cX7_undo 8 = .ok (.ireturn, 1) := by decide +kernel
theorem dX7_undo_9 : decode cX7_undo 9 = .ok (.aload_n 0, 1) := by decide +kernel
theorem dX7_undo_10 : decode cX7_undo 10 = .ok (.dup, 1) := by decide +kernel
theorem dX7_undo_11 : decode cX7_undo 11 = .ok (.getfield 209, 3) := by decide +kernel
theorem dX7_undo_14 : decode cX7_undo 14 = .ok (.iconst 1, 1) := by decide +kernel
theorem dX7_undo_15 : decode cX7_undo 15 = .ok (.isub, 1) := by decide +kernel
theorem dX7_undo_16 : decode cX7_undo 16 = .ok (.putfield 209, 3) := by decide +kernel
theorem dX7_undo_19 : decode cX7_undo 19 = .ok (.aload_n 0, 1) := by decide +kernel
theorem dX7_undo_20 : decode cX7_undo 20 = .ok (.aload_n 0, 1) := by decide +kernel
theorem dX7_undo_21 : decode cX7_undo 21 = .ok (.getfield 13, 3) := by decide +kernel
theorem dX7_undo_24 : decode cX7_undo 24 = .ok (.sipush 511, 3) := by decide +kernel
theorem dX7_undo_27 : decode cX7_undo 27 = .ok (.aload_n 0, 1) := by decide +kernel
theorem dX7_undo_28 : decode cX7_undo 28 = .ok (.getfield 209, 3) := by decide +kernel
theorem dX7_undo_31 : decode cX7_undo 31 = .ok (.imul, 1) := by decide +kernel
theorem dX7_undo_32 : decode cX7_undo 32 = .ok (.invokevirtual 205, 3) := by decide +kernel
theorem dX7_undo_35 : decode cX7_undo 35 = .ok (.aload_n 0, 1) := by decide +kernel
theorem dX7_undo_36 : decode cX7_undo 36 = .ok (.getfield 209, 3) := by decide +kernel
theorem dX7_undo_39 : decode cX7_undo 39 = .ok (.ireturn, 1) := by decide +kernel
theorem dX7_keep_0 : decode cX7_keep 0 = .ok (.iload_n 1, 1) := by decide +kernel
theorem dX7_keep_1 : decode cX7_keep 1 = .ok (.i2l, 1) := by decide +kernel
theorem dX7_keep_2 : decode cX7_keep 2 = .ok (.lconst 0, 1) := by decide +kernel
theorem dX7_keep_3 : decode cX7_keep 3 = .ok (.lconst 1, 1) := by decide +kernel
theorem dX7_keep_4 : decode cX7_keep 4 = .ok (.invokestatic 54, 3) := by decide +kernel
theorem dX7_keep_7 : decode cX7_keep 7 = .ok (.ifCond .ne 5, 3) := by decide +kernel
theorem dX7_keep_10 : decode cX7_keep 10 = .ok (.iconst (-1), 1) := by decide +kernel
theorem dX7_keep_11 : decode cX7_keep 11 = .ok (.ireturn, 1) := by decide +kernel
theorem dX7_keep_12 : decode cX7_keep 12 = .ok (.iconst 0, 1) := by decide +kernel
theorem dX7_keep_13 : decode cX7_keep 13 = .ok (.istore_n 2, 1) := by decide +kernel
theorem dX7_keep_14 : decode cX7_keep 14 = .ok (.iload_n 2, 1) := by decide +kernel
theorem dX7_keep_15 : decode cX7_keep 15 = .ok (.sipush 511, 3) := by decide +kernel
theorem dX7_keep_18 : decode cX7_keep 18 = .ok (.if_icmp .ge 27, 3) := by decide +kernel
theorem dX7_keep_21 : decode cX7_keep 21 = .ok (.aload_n 0, 1) := by decide +kernel
theorem dX7_keep_22 : decode cX7_keep 22 = .ok (.getfield 16, 3) := by decide +kernel
theorem dX7_keep_25 : decode cX7_keep 25 = .ok (.sipush 511, 3) := by decide +kernel
theorem dX7_keep_28 : decode cX7_keep 28 = .ok (.iload_n 1, 1) := by decide +kernel
theorem dX7_keep_29 : decode cX7_keep 29 = .ok (.imul, 1) := by decide +kernel
theorem dX7_keep_30 : decode cX7_keep 30 = .ok (.iload_n 2, 1) := by decide +kernel
theorem dX7_keep_31 : decode cX7_keep 31 = .ok (.iadd, 1) := by decide +kernel
theorem dX7_keep_32 : decode cX7_keep 32 = .ok (.aload_n 0, 1) := by decide +kernel
theorem dX7_keep_33 : decode cX7_keep 33 = .ok (.getfield 7, 3) := by decide +kernel
theorem dX7_keep_36 : decode cX7_keep 36 = .ok (.iload_n 2, 1) := by decide +kernel
theorem dX7_keep_37 : decode cX7_keep 37 = .ok (.iaload, 1) := by decide +kernel
theorem dX7_keep_38 : decode cX7_keep 38 = .ok (.iastore, 1) := by decide +kernel
theorem dX7_keep_39 : decode cX7_keep 39 = .ok (.iinc 2 1, 3) := by decide +kernel
theorem dX7_keep_42 : decode cX7_keep 42 = .ok (.goto (-28), 3) := by decide +kernel
theorem dX7_keep_45 : decode cX7_keep 45 = .ok (.aload_n 0, 1) := by decide +kernel
theorem dX7_keep_46 : decode cX7_keep 46 = .ok (.getfield 19, 3) := by decide +kernel
theorem dX7_keep_49 : decode cX7_keep 49 = .ok (.iload_n 1, 1) := by decide +kernel
theorem dX7_keep_50 : decode cX7_keep 50 = .ok (.iconst 1, 1) := by decide +kernel
theorem dX7_keep_51 : decode cX7_keep 51 = .ok (.bastore, 1) := by decide +kernel
theorem dX7_keep_52 : decode cX7_keep 52 = .ok (.aload_n 0, 1) := by decide +kernel
theorem dX7_keep_53 : decode cX7_keep 53 = .ok (.getfield 7, 3) := by decide +kernel
theorem dX7_keep_56 : decode cX7_keep 56 = .ok (.iconst 2, 1) := by decide +kernel
theorem dX7_keep_57 : decode cX7_keep 57 = .ok (.iaload, 1) := by decide +kernel
theorem dX7_keep_58 : decode cX7_keep 58 = .ok (.ireturn, 1) := by decide +kernel
theorem dX7_back_0 : decode cX7_back 0 = .ok (.iload_n 1, 1) := by decide +kernel
theorem dX7_back_1 : decode cX7_back 1 = .ok (.i2l, 1) := by decide +kernel
theorem dX7_back_2 : decode cX7_back 2 = .ok (.lconst 0, 1) := by decide +kernel
theorem dX7_back_3 : decode cX7_back 3 = .ok (.lconst 1, 1) := by decide +kernel
theorem dX7_back_4 : decode cX7_back 4 = .ok (.invokestatic 54, 3) := by decide +kernel
theorem dX7_back_7 : decode cX7_back 7 = .ok (.ifCond .ne 5, 3) := by decide +kernel
theorem dX7_back_10 : decode cX7_back 10 = .ok (.iconst (-1), 1) := by decide +kernel
theorem dX7_back_11 : decode cX7_back 11 = .ok (.ireturn, 1) := by decide +kernel
theorem dX7_back_12 : decode cX7_back 12 = .ok (.aload_n 0, 1) := by decide +kernel
theorem dX7_back_13 : decode cX7_back 13 = .ok (.getfield 19, 3) := by decide +kernel
theorem dX7_back_16 : decode cX7_back 16 = .ok (.iload_n 1, 1) := by decide +kernel
theorem dX7_back_17 : decode cX7_back 17 = .ok (.baload, 1) := by decide +kernel
theorem dX7_back_18 : decode cX7_back 18 = .ok (.ifCond .ne 6, 3) := by decide +kernel
theorem dX7_back_21 : decode cX7_back 21 = .ok (.bipush (-2), 2) := by decide +kernel
theorem dX7_back_23 : decode cX7_back 23 = .ok (.ireturn, 1) := by decide +kernel
theorem dX7_back_24 : decode cX7_back 24 = .ok (.aload_n 0, 1) := by decide +kernel
theorem dX7_back_25 : decode cX7_back 25 = .ok (.aload_n 0, 1) := by decide +kernel
theorem dX7_back_26 : decode cX7_back 26 = .ok (.getfield 16, 3) := by decide +kernel
theorem dX7_back_29 : decode cX7_back 29 = .ok (.sipush 511, 3) := by decide +kernel
theorem dX7_back_32 : decode cX7_back 32 = .ok (.iload_n 1, 1) := by decide +kernel
theorem dX7_back_33 : decode cX7_back 33 = .ok (.imul, 1) := by decide +kernel
theorem dX7_back_34 : decode cX7_back 34 = .ok (.invokevirtual 205, 3) := by decide +kernel
theorem dX7_back_37 : decode cX7_back 37 = .ok (.aload_n 0, 1) := by decide +kernel
theorem dX7_back_38 : decode cX7_back 38 = .ok (.iconst 0, 1) := by decide +kernel
theorem dX7_back_39 : decode cX7_back 39 = .ok (.putfield 209, 3) := by decide +kernel
theorem dX7_back_42 : decode cX7_back 42 = .ok (.aload_n 0, 1) := by decide +kernel
theorem dX7_back_43 : decode cX7_back 43 = .ok (.getfield 7, 3) := by decide +kernel
theorem dX7_back_46 : decode cX7_back 46 = .ok (.iconst 2, 1) := by decide +kernel
theorem dX7_back_47 : decode cX7_back 47 = .ok (.iaload, 1) := by decide +kernel
theorem dX7_back_48 : decode cX7_back 48 = .ok (.ireturn, 1) := by decide +kernel
theorem dX7_spell_0 : decode cX7_spell 0 = .ok (.aload_n 0, 1) := by decide +kernel
theorem dX7_spell_1 : decode cX7_spell 1 = .ok (.getfield 231, 3) := by decide +kernel
theorem dX7_spell_4 : decode cX7_spell 4 = .ok (.aload_n 0, 1) := by decide +kernel
theorem dX7_spell_5 : decode cX7_spell 5 = .ok (.getfield 234, 3) := by decide +kernel
theorem dX7_spell_8 : decode cX7_spell 8 = .ok (.if_icmp .ne 8, 3) := by decide +kernel
theorem dX7_spell_11 : decode cX7_spell 11 = .ok (.aload_n 0, 1) := by decide +kernel
theorem dX7_spell_12 : decode cX7_spell 12 = .ok (.iload_n 1, 1) := by decide +kernel
theorem dX7_spell_13 : decode cX7_spell 13 = .ok (.putfield 237, 3) := by decide +kernel
theorem dX7_spell_16 : decode cX7_spell 16 = .ok (.aload_n 0, 1) := by decide +kernel
theorem dX7_spell_17 : decode cX7_spell 17 = .ok (.dup, 1) := by decide +kernel
theorem dX7_spell_18 : decode cX7_spell 18 = .ok (.getfield 231, 3) := by decide +kernel
theorem dX7_spell_21 : decode cX7_spell 21 = .ok (.iconst 1, 1) := by decide +kernel
theorem dX7_spell_22 : decode cX7_spell 22 = .ok (.iadd, 1) := by decide +kernel
theorem dX7_spell_23 : decode cX7_spell 23 = .ok (.putfield 231, 3) := by decide +kernel
theorem dX7_spell_26 : decode cX7_spell 26 = .ok (.return_, 1) := by decide +kernel
theorem dX7_spellNumber_0 : decode cX7_spellNumber 0 = .ok (.iload_n 1, 1) := by decide +kernel
theorem dX7_spellNumber_1 : decode cX7_spellNumber 1 = .ok (.bipush 9, 2) := by decide +kernel
theorem dX7_spellNumber_3 : decode cX7_spellNumber 3 = .ok (.if_icmp .le 11, 3) := by decide +kernel
theorem dX7_spellNumber_6 : decode cX7_spellNumber 6 = .ok (.aload_n 0, 1) := by decide +kernel
theorem dX7_spellNumber_7 : decode cX7_spellNumber 7 = .ok (.iload_n 1, 1) := by decide +kernel
theorem dX7_spellNumber_8 : decode cX7_spellNumber 8 = .ok (.bipush 10, 2) := by decide +kernel
theorem dX7_spellNumber_10 : decode cX7_spellNumber 10 = .ok (.idiv, 1) := by decide +kernel
theorem dX7_spellNumber_11 : decode cX7_spellNumber 11 = .ok (.invokevirtual 240, 3) := by decide +kernel
theorem dX7_spellNumber_14 : decode cX7_spellNumber 14 = .ok (.aload_n 0, 1) := by decide +kernel
theorem dX7_spellNumber_15 : decode cX7_spellNumber 15 = .ok (.bipush 48, 2) := by decide +kernel
theorem dX7_spellNumber_17 : decode cX7_spellNumber 17 = .ok (.iload_n 1, 1) := by decide +kernel
theorem dX7_spellNumber_18 : decode cX7_spellNumber 18 = .ok (.bipush 10, 2) := by decide +kernel
theorem dX7_spellNumber_20 : decode cX7_spellNumber 20 = .ok (.irem, 1) := by decide +kernel
theorem dX7_spellNumber_21 : decode cX7_spellNumber 21 = .ok (.iadd, 1) := by decide +kernel
theorem dX7_spellNumber_22 : decode cX7_spellNumber 22 = .ok (.invokevirtual 243, 3) := by decide +kernel
theorem dX7_spellNumber_25 : decode cX7_spellNumber 25 = .ok (.return_, 1) := by decide +kernel
theorem dX7_spells_0 : decode cX7_spells 0 = .ok (.aload_n 0, 1) := by decide +kernel
theorem dX7_spells_1 : decode cX7_spells 1 = .ok (.getfield 231, 3) := by decide +kernel
theorem dX7_spells_4 : decode cX7_spells 4 = .ok (.ifCond .le 9, 3) := by decide +kernel
theorem dX7_spells_7 : decode cX7_spells 7 = .ok (.aload_n 0, 1) := by decide +kernel
theorem dX7_spells_8 : decode cX7_spells 8 = .ok (.bipush 59, 2) := by decide +kernel
theorem dX7_spells_10 : decode cX7_spells 10 = .ok (.invokevirtual 243, 3) := by decide +kernel
theorem dX7_spells_13 : decode cX7_spells 13 = .ok (.iconst 0, 1) := by decide +kernel
theorem dX7_spells_14 : decode cX7_spells 14 = .ok (.istore_n 2, 1) := by decide +kernel
theorem dX7_spells_15 : decode cX7_spells 15 = .ok (.iload_n 2, 1) := by decide +kernel
theorem dX7_spells_16 : decode cX7_spells 16 = .ok (.aload_n 1, 1) := by decide +kernel
theorem dX7_spells_17 : decode cX7_spells 17 = .ok (.invokevirtual 246, 3) := by decide +kernel
theorem dX7_spells_20 : decode cX7_spells 20 = .ok (.if_icmp .ge 18, 3) := by decide +kernel
theorem dX7_spells_23 : decode cX7_spells 23 = .ok (.aload_n 0, 1) := by decide +kernel
theorem dX7_spells_24 : decode cX7_spells 24 = .ok (.aload_n 1, 1) := by decide +kernel
theorem dX7_spells_25 : decode cX7_spells 25 = .ok (.iload_n 2, 1) := by decide +kernel
theorem dX7_spells_26 : decode cX7_spells 26 = .ok (.invokevirtual 251, 3) := by decide +kernel
theorem dX7_spells_29 : decode cX7_spells 29 = .ok (.invokevirtual 243, 3) := by decide +kernel
theorem dX7_spells_32 : decode cX7_spells 32 = .ok (.iinc 2 1, 3) := by decide +kernel
theorem dX7_spells_35 : decode cX7_spells 35 = .ok (.goto (-20), 3) := by decide +kernel
theorem dX7_spells_38 : decode cX7_spells 38 = .ok (.return_, 1) := by decide +kernel
theorem dX7_spellsOn_0 : decode cX7_spellsOn 0 = .ok (.aload_n 0, 1) := by decide +kernel
theorem dX7_spellsOn_1 : decode cX7_spellsOn 1 = .ok (.bipush 32, 2) := by decide +kernel
theorem dX7_spellsOn_3 : decode cX7_spellsOn 3 = .ok (.invokevirtual 243, 3) := by decide +kernel
theorem dX7_spellsOn_6 : decode cX7_spellsOn 6 = .ok (.aload_n 0, 1) := by decide +kernel
theorem dX7_spellsOn_7 : decode cX7_spellsOn 7 = .ok (.iload_n 1, 1) := by decide +kernel
theorem dX7_spellsOn_8 : decode cX7_spellsOn 8 = .ok (.invokevirtual 240, 3) := by decide +kernel
theorem dX7_spellsOn_11 : decode cX7_spellsOn 11 = .ok (.return_, 1) := by decide +kernel
theorem dX7_spellWait_0 : decode cX7_spellWait 0 = .ok (.iload_n 1, 1) := by decide +kernel
theorem dX7_spellWait_1 : decode cX7_spellWait 1 = .ok (.istore_n 2, 1) := by decide +kernel
theorem dX7_spellWait_2 : decode cX7_spellWait 2 = .ok (.iload_n 2, 1) := by decide +kernel
theorem dX7_spellWait_3 : decode cX7_spellWait 3 = .ok (.ifCond .le 36, 3) := by decide +kernel
theorem dX7_spellWait_6 : decode cX7_spellWait 6 = .ok (.aload_n 0, 1) := by decide +kernel
theorem dX7_spellWait_7 : decode cX7_spellWait 7 = .ok (.ldc 255, 2) := by decide +kernel
theorem dX7_spellWait_9 : decode cX7_spellWait 9 = .ok (.invokevirtual 257, 3) := by decide +kernel
theorem dX7_spellWait_12 : decode cX7_spellWait 12 = .ok (.aload_n 0, 1) := by decide +kernel
theorem dX7_spellWait_13 : decode cX7_spellWait 13 = .ok (.iload_n 2, 1) := by decide +kernel
theorem dX7_spellWait_14 : decode cX7_spellWait 14 = .ok (.sipush 9999, 3) := by decide +kernel
theorem dX7_spellWait_17 : decode cX7_spellWait 17 = .ok (.if_icmp .ge 7, 3) := by decide +kernel
theorem dX7_spellWait_20 : decode cX7_spellWait 20 = .ok (.iload_n 2, 1) := by decide +kernel
theorem dX7_spellWait_21 : decode cX7_spellWait 21 = .ok (.goto 6, 3) := by decide +kernel
theorem dX7_spellWait_24 : decode cX7_spellWait 24 = .ok (.sipush 9999, 3) := by decide +kernel
theorem dX7_spellWait_27 : decode cX7_spellWait 27 = .ok (.invokevirtual 261, 3) := by decide +kernel
theorem dX7_spellWait_30 : decode cX7_spellWait 30 = .ok (.iinc 2 (-9999), 6) := by decide +kernel
theorem dX7_spellWait_36 : decode cX7_spellWait 36 = .ok (.goto (-34), 3) := by decide +kernel
theorem dX7_spellWait_39 : decode cX7_spellWait 39 = .ok (.return_, 1) := by decide +kernel
theorem dX7_spellAll_0 : decode cX7_spellAll 0 = .ok (.iconst 0, 1) := by decide +kernel
theorem dX7_spellAll_1 : decode cX7_spellAll 1 = .ok (.istore_n 1, 1) := by decide +kernel
theorem dX7_spellAll_2 : decode cX7_spellAll 2 = .ok (.iload_n 1, 1) := by decide +kernel
theorem dX7_spellAll_3 : decode cX7_spellAll 3 = .ok (.iconst 4, 1) := by decide +kernel
theorem dX7_spellAll_4 : decode cX7_spellAll 4 = .ok (.if_icmp .ge 58, 3) := by decide +kernel
theorem dX7_spellAll_7 : decode cX7_spellAll 7 = .ok (.aload_n 0, 1) := by decide +kernel
theorem dX7_spellAll_8 : decode cX7_spellAll 8 = .ok (.ldc_w 264, 3) := by decide +kernel
theorem dX7_spellAll_11 : decode cX7_spellAll 11 = .ok (.invokevirtual 257, 3) := by decide +kernel
theorem dX7_spellAll_14 : decode cX7_spellAll 14 = .ok (.aload_n 0, 1) := by decide +kernel
theorem dX7_spellAll_15 : decode cX7_spellAll 15 = .ok (.iload_n 1, 1) := by decide +kernel
theorem dX7_spellAll_16 : decode cX7_spellAll 16 = .ok (.invokevirtual 261, 3) := by decide +kernel
theorem dX7_spellAll_19 : decode cX7_spellAll 19 = .ok (.aload_n 0, 1) := by decide +kernel
theorem dX7_spellAll_20 : decode cX7_spellAll 20 = .ok (.aload_n 0, 1) := by decide +kernel
theorem dX7_spellAll_21 : decode cX7_spellAll 21 = .ok (.getfield 7, 3) := by decide +kernel
theorem dX7_spellAll_24 : decode cX7_spellAll 24 = .ok (.iconst 3, 1) := by decide +kernel
theorem dX7_spellAll_25 : decode cX7_spellAll 25 = .ok (.iload_n 1, 1) := by decide +kernel
theorem dX7_spellAll_26 : decode cX7_spellAll 26 = .ok (.iadd, 1) := by decide +kernel
theorem dX7_spellAll_27 : decode cX7_spellAll 27 = .ok (.iaload, 1) := by decide +kernel
theorem dX7_spellAll_28 : decode cX7_spellAll 28 = .ok (.invokevirtual 261, 3) := by decide +kernel
theorem dX7_spellAll_31 : decode cX7_spellAll 31 = .ok (.aload_n 0, 1) := by decide +kernel
theorem dX7_spellAll_32 : decode cX7_spellAll 32 = .ok (.ldc_w 266, 3) := by decide +kernel
theorem dX7_spellAll_35 : decode cX7_spellAll 35 = .ok (.invokevirtual 257, 3) := by decide +kernel
theorem dX7_spellAll_38 : decode cX7_spellAll 38 = .ok (.aload_n 0, 1) := by decide +kernel
theorem dX7_spellAll_39 : decode cX7_spellAll 39 = .ok (.iload_n 1, 1) := by decide +kernel
theorem dX7_spellAll_40 : decode cX7_spellAll 40 = .ok (.invokevirtual 261, 3) := by decide +kernel
theorem dX7_spellAll_43 : decode cX7_spellAll 43 = .ok (.aload_n 0, 1) := by decide +kernel
theorem dX7_spellAll_44 : decode cX7_spellAll 44 = .ok (.aload_n 0, 1) := by decide +kernel
theorem dX7_spellAll_45 : decode cX7_spellAll 45 = .ok (.getfield 7, 3) := by decide +kernel
theorem dX7_spellAll_48 : decode cX7_spellAll 48 = .ok (.bipush 7, 2) := by decide +kernel
theorem dX7_spellAll_50 : decode cX7_spellAll 50 = .ok (.iload_n 1, 1) := by decide +kernel
theorem dX7_spellAll_51 : decode cX7_spellAll 51 = .ok (.iadd, 1) := by decide +kernel
theorem dX7_spellAll_52 : decode cX7_spellAll 52 = .ok (.iaload, 1) := by decide +kernel
theorem dX7_spellAll_53 : decode cX7_spellAll 53 = .ok (.invokevirtual 261, 3) := by decide +kernel
theorem dX7_spellAll_56 : decode cX7_spellAll 56 = .ok (.iinc 1 1, 3) := by decide +kernel
theorem dX7_spellAll_59 : decode cX7_spellAll 59 = .ok (.goto (-57), 3) := by decide +kernel
theorem dX7_spellAll_62 : decode cX7_spellAll 62 = .ok (.iconst 0, 1) := by decide +kernel
theorem dX7_spellAll_63 : decode cX7_spellAll 63 = .ok (.istore_n 1, 1) := by decide +kernel
theorem dX7_spellAll_64 : decode cX7_spellAll 64 = .ok (.iconst 0, 1) := by decide +kernel
theorem dX7_spellAll_65 : decode cX7_spellAll 65 = .ok (.istore_n 2, 1) := by decide +kernel
theorem dX7_spellAll_66 : decode cX7_spellAll 66 = .ok (.iload_n 2, 1) := by decide +kernel
theorem dX7_spellAll_67 : decode cX7_spellAll 67 = .ok (.aload_n 0, 1) := by decide +kernel
theorem dX7_spellAll_68 : decode cX7_spellAll 68 = .ok (.getfield 7, 3) := by decide +kernel
theorem dX7_spellAll_71 : decode cX7_spellAll 71 = .ok (.iconst 2, 1) := by decide +kernel
theorem dX7_spellAll_72 : decode cX7_spellAll 72 = .ok (.iaload, 1) := by decide +kernel
theorem dX7_spellAll_73 : decode cX7_spellAll 73 = .ok (.if_icmp .ge 94, 3) := by decide +kernel
theorem dX7_spellAll_76 : decode cX7_spellAll 76 = .ok (.aload_n 0, 1) := by decide +kernel
theorem dX7_spellAll_77 : decode cX7_spellAll 77 = .ok (.iload_n 2, 1) := by decide +kernel
theorem dX7_spellAll_78 : decode cX7_spellAll 78 = .ok (.invokevirtual 70, 3) := by decide +kernel
theorem dX7_spellAll_81 : decode cX7_spellAll 81 = .ok (.ifCond .eq 6, 3) := by decide +kernel
theorem dX7_spellAll_84 : decode cX7_spellAll 84 = .ok (.goto 77, 3) := by decide +kernel
theorem dX7_spellAll_87 : decode cX7_spellAll 87 = .ok (.aload_n 0, 1) := by decide +kernel
theorem dX7_spellAll_88 : decode cX7_spellAll 88 = .ok (.aload_n 0, 1) := by decide +kernel
theorem dX7_spellAll_89 : decode cX7_spellAll 89 = .ok (.iload_n 2, 1) := by decide +kernel
theorem dX7_spellAll_90 : decode cX7_spellAll 90 = .ok (.iconst 4, 1) := by decide +kernel
theorem dX7_spellAll_91 : decode cX7_spellAll 91 = .ok (.invokevirtual 58, 3) := by decide +kernel
theorem dX7_spellAll_94 : decode cX7_spellAll 94 = .ok (.iload_n 1, 1) := by decide +kernel
theorem dX7_spellAll_95 : decode cX7_spellAll 95 = .ok (.isub, 1) := by decide +kernel
theorem dX7_spellAll_96 : decode cX7_spellAll 96 = .ok (.invokevirtual 268, 3) := by decide +kernel
theorem dX7_spellAll_99 : decode cX7_spellAll 99 = .ok (.aload_n 0, 1) := by decide +kernel
theorem dX7_spellAll_100 : decode cX7_spellAll 100 = .ok (.iload_n 2, 1) := by decide +kernel
theorem dX7_spellAll_101 : decode cX7_spellAll 101 = .ok (.iconst 4, 1) := by decide +kernel
theorem dX7_spellAll_102 : decode cX7_spellAll 102 = .ok (.invokevirtual 58, 3) := by decide +kernel
theorem dX7_spellAll_105 : decode cX7_spellAll 105 = .ok (.istore_n 1, 1) := by decide +kernel
theorem dX7_spellAll_106 : decode cX7_spellAll 106 = .ok (.aload_n 0, 1) := by decide +kernel
theorem dX7_spellAll_107 : decode cX7_spellAll 107 = .ok (.ldc_w 271, 3) := by decide +kernel
theorem dX7_spellAll_110 : decode cX7_spellAll 110 = .ok (.invokevirtual 257, 3) := by decide +kernel
theorem dX7_spellAll_113 : decode cX7_spellAll 113 = .ok (.aload_n 0, 1) := by decide +kernel
theorem dX7_spellAll_114 : decode cX7_spellAll 114 = .ok (.aload_n 0, 1) := by decide +kernel
theorem dX7_spellAll_115 : decode cX7_spellAll 115 = .ok (.iload_n 2, 1) := by decide +kernel
theorem dX7_spellAll_116 : decode cX7_spellAll 116 = .ok (.invokevirtual 62, 3) := by decide +kernel
theorem dX7_spellAll_119 : decode cX7_spellAll 119 = .ok (.invokevirtual 261, 3) := by decide +kernel
theorem dX7_spellAll_122 : decode cX7_spellAll 122 = .ok (.aload_n 0, 1) := by decide +kernel
theorem dX7_spellAll_123 : decode cX7_spellAll 123 = .ok (.bipush 32, 2) := by decide +kernel
theorem dX7_spellAll_125 : decode cX7_spellAll 125 = .ok (.invokevirtual 243, 3) := by decide +kernel
theorem dX7_spellAll_128 : decode cX7_spellAll 128 = .ok (.aload_n 0, 1) := by decide +kernel
theorem dX7_spellAll_129 : decode cX7_spellAll 129 = .ok (.bipush 97, 2) := by decide +kernel
theorem dX7_spellAll_131 : decode cX7_spellAll 131 = .ok (.aload_n 0, 1) := by decide +kernel
theorem dX7_spellAll_132 : decode cX7_spellAll 132 = .ok (.iload_n 2, 1) := by decide +kernel
theorem dX7_spellAll_133 : decode cX7_spellAll 133 = .ok (.iconst 1, 1) := by decide +kernel
theorem dX7_spellAll_134 : decode cX7_spellAll 134 = .ok (.invokevirtual 58, 3) := by decide +kernel
theorem dX7_spellAll_137 : decode cX7_spellAll 137 = .ok (.iadd, 1) := by decide +kernel
theorem dX7_spellAll_138 : decode cX7_spellAll 138 = .ok (.invokevirtual 243, 3) := by decide +kernel
theorem dX7_spellAll_141 : decode cX7_spellAll 141 = .ok (.aload_n 0, 1) := by decide +kernel
theorem dX7_spellAll_142 : decode cX7_spellAll 142 = .ok (.aload_n 0, 1) := by decide +kernel
theorem dX7_spellAll_143 : decode cX7_spellAll 143 = .ok (.iload_n 2, 1) := by decide +kernel
theorem dX7_spellAll_144 : decode cX7_spellAll 144 = .ok (.iconst 2, 1) := by decide +kernel
theorem dX7_spellAll_145 : decode cX7_spellAll 145 = .ok (.invokevirtual 58, 3) := by decide +kernel
theorem dX7_spellAll_148 : decode cX7_spellAll 148 = .ok (.invokevirtual 261, 3) := by decide +kernel
theorem dX7_spellAll_151 : decode cX7_spellAll 151 = .ok (.aload_n 0, 1) := by decide +kernel
theorem dX7_spellAll_152 : decode cX7_spellAll 152 = .ok (.aload_n 0, 1) := by decide +kernel
theorem dX7_spellAll_153 : decode cX7_spellAll 153 = .ok (.iload_n 2, 1) := by decide +kernel
theorem dX7_spellAll_154 : decode cX7_spellAll 154 = .ok (.iconst 3, 1) := by decide +kernel
theorem dX7_spellAll_155 : decode cX7_spellAll 155 = .ok (.invokevirtual 58, 3) := by decide +kernel
theorem dX7_spellAll_158 : decode cX7_spellAll 158 = .ok (.invokevirtual 261, 3) := by decide +kernel
theorem dX7_spellAll_161 : decode cX7_spellAll 161 = .ok (.iinc 2 1, 3) := by decide +kernel
theorem dX7_spellAll_164 : decode cX7_spellAll 164 = .ok (.goto (-98), 3) := by decide +kernel
theorem dX7_spellAll_167 : decode cX7_spellAll 167 = .ok (.aload_n 0, 1) := by decide +kernel
theorem dX7_spellAll_168 : decode cX7_spellAll 168 = .ok (.aload_n 0, 1) := by decide +kernel
theorem dX7_spellAll_169 : decode cX7_spellAll 169 = .ok (.getfield 7, 3) := by decide +kernel
theorem dX7_spellAll_172 : decode cX7_spellAll 172 = .ok (.iconst 0, 1) := by decide +kernel
theorem dX7_spellAll_173 : decode cX7_spellAll 173 = .ok (.iaload, 1) := by decide +kernel
theorem dX7_spellAll_174 : decode cX7_spellAll 174 = .ok (.iload_n 1, 1) := by decide +kernel
theorem dX7_spellAll_175 : decode cX7_spellAll 175 = .ok (.isub, 1) := by decide +kernel
theorem dX7_spellAll_176 : decode cX7_spellAll 176 = .ok (.invokevirtual 268, 3) := by decide +kernel
theorem dX7_spellAll_179 : decode cX7_spellAll 179 = .ok (.aload_n 0, 1) := by decide +kernel
theorem dX7_spellAll_180 : decode cX7_spellAll 180 = .ok (.ldc_w 273, 3) := by decide +kernel
theorem dX7_spellAll_183 : decode cX7_spellAll 183 = .ok (.invokevirtual 257, 3) := by decide +kernel
theorem dX7_spellAll_186 : decode cX7_spellAll 186 = .ok (.aload_n 0, 1) := by decide +kernel
theorem dX7_spellAll_187 : decode cX7_spellAll 187 = .ok (.aload_n 0, 1) := by decide +kernel
theorem dX7_spellAll_188 : decode cX7_spellAll 188 = .ok (.getfield 7, 3) := by decide +kernel
theorem dX7_spellAll_191 : decode cX7_spellAll 191 = .ok (.iconst 1, 1) := by decide +kernel
theorem dX7_spellAll_192 : decode cX7_spellAll 192 = .ok (.iaload, 1) := by decide +kernel
theorem dX7_spellAll_193 : decode cX7_spellAll 193 = .ok (.invokevirtual 261, 3) := by decide +kernel
theorem dX7_spellAll_196 : decode cX7_spellAll 196 = .ok (.return_, 1) := by decide +kernel
theorem dX7_told_0 : decode cX7_told 0 = .ok (.iload_n 1, 1) := by decide +kernel
theorem dX7_told_1 : decode cX7_told 1 = .ok (.iconst (-1), 1) := by decide +kernel
theorem dX7_told_2 : decode cX7_told 2 = .ok (.if_icmp .ge 5, 3) := by decide +kernel
theorem dX7_told_5 : decode cX7_told 5 = .ok (.iconst (-1), 1) := by decide +kernel
theorem dX7_told_6 : decode cX7_told 6 = .ok (.ireturn, 1) := by decide +kernel
theorem dX7_told_7 : decode cX7_told 7 = .ok (.aload_n 0, 1) := by decide +kernel
theorem dX7_told_8 : decode cX7_told 8 = .ok (.iconst 0, 1) := by decide +kernel
theorem dX7_told_9 : decode cX7_told 9 = .ok (.putfield 231, 3) := by decide +kernel
theorem dX7_told_12 : decode cX7_told 12 = .ok (.aload_n 0, 1) := by decide +kernel
theorem dX7_told_13 : decode cX7_told 13 = .ok (.iload_n 1, 1) := by decide +kernel
theorem dX7_told_14 : decode cX7_told 14 = .ok (.putfield 234, 3) := by decide +kernel
theorem dX7_told_17 : decode cX7_told 17 = .ok (.aload_n 0, 1) := by decide +kernel
theorem dX7_told_18 : decode cX7_told 18 = .ok (.bipush (-2), 2) := by decide +kernel
theorem dX7_told_20 : decode cX7_told 20 = .ok (.putfield 237, 3) := by decide +kernel
theorem dX7_told_23 : decode cX7_told 23 = .ok (.aload_n 0, 1) := by decide +kernel
theorem dX7_told_24 : decode cX7_told 24 = .ok (.invokevirtual 275, 3) := by decide +kernel
theorem dX7_told_27 : decode cX7_told 27 = .ok (.iload_n 1, 1) := by decide +kernel
theorem dX7_told_28 : decode cX7_told 28 = .ok (.iconst (-1), 1) := by decide +kernel
theorem dX7_told_29 : decode cX7_told 29 = .ok (.if_icmp .ne 10, 3) := by decide +kernel
theorem dX7_told_32 : decode cX7_told 32 = .ok (.aload_n 0, 1) := by decide +kernel
theorem dX7_told_33 : decode cX7_told 33 = .ok (.getfield 231, 3) := by decide +kernel
theorem dX7_told_36 : decode cX7_told 36 = .ok (.goto 7, 3) := by decide +kernel
theorem dX7_told_39 : decode cX7_told 39 = .ok (.aload_n 0, 1) := by decide +kernel
theorem dX7_told_40 : decode cX7_told 40 = .ok (.getfield 237, 3) := by decide +kernel
theorem dX7_told_43 : decode cX7_told 43 = .ok (.ireturn, 1) := by decide +kernel
theorem dX7_digest_0 : decode cX7_digest 0 = .ok (.ldc2_w 278, 3) := by decide +kernel
theorem dX7_digest_3 : decode cX7_digest 3 = .ok (.lstore_n 1, 1) := by decide +kernel
theorem dX7_digest_4 : decode cX7_digest 4 = .ok (.iconst 0, 1) := by decide +kernel
theorem dX7_digest_5 : decode cX7_digest 5 = .ok (.istore_n 3, 1) := by decide +kernel
theorem dX7_digest_6 : decode cX7_digest 6 = .ok (.iload_n 3, 1) := by decide +kernel
theorem dX7_digest_7 : decode cX7_digest 7 = .ok (.aload_n 0, 1) := by decide +kernel
theorem dX7_digest_8 : decode cX7_digest 8 = .ok (.getfield 7, 3) := by decide +kernel
theorem dX7_digest_11 : decode cX7_digest 11 = .ok (.iconst 2, 1) := by decide +kernel
theorem dX7_digest_12 : decode cX7_digest 12 = .ok (.iaload, 1) := by decide +kernel
theorem dX7_digest_13 : decode cX7_digest 13 = .ok (.if_icmp .ge 56, 3) := by decide +kernel
theorem dX7_digest_16 : decode cX7_digest 16 = .ok (.iconst 0, 1) := by decide +kernel
theorem dX7_digest_17 : decode cX7_digest 17 = .ok (.istore 4, 2) := by decide +kernel
theorem dX7_digest_19 : decode cX7_digest 19 = .ok (.iload 4, 2) := by decide +kernel
theorem dX7_digest_21 : decode cX7_digest 21 = .ok (.iconst 5, 1) := by decide +kernel
theorem dX7_digest_22 : decode cX7_digest 22 = .ok (.if_icmp .ge 41, 3) := by decide +kernel
theorem dX7_digest_25 : decode cX7_digest 25 = .ok (.ldc2_w 280, 3) := by decide +kernel
theorem dX7_digest_28 : decode cX7_digest 28 = .ok (.lload_n 1, 1) := by decide +kernel
theorem dX7_digest_29 : decode cX7_digest 29 = .ok (.lmul, 1) := by decide +kernel
theorem dX7_digest_30 : decode cX7_digest 30 = .ok (.iload 4, 2) := by decide +kernel
theorem dX7_digest_32 : decode cX7_digest 32 = .ok (.ifCond .ne 15, 3) := by decide +kernel
theorem dX7_digest_35 : decode cX7_digest 35 = .ok (.aload_n 0, 1) := by decide +kernel
theorem dX7_digest_36 : decode cX7_digest 36 = .ok (.iload_n 3, 1) := by decide +kernel
theorem dX7_digest_37 : decode cX7_digest 37 = .ok (.invokevirtual 70, 3) := by decide +kernel
theorem dX7_digest_40 : decode cX7_digest 40 = .ok (.ifCond .eq 7, 3) := by decide +kernel
theorem dX7_digest_43 : decode cX7_digest 43 = .ok (.iconst 4, 1) := by decide +kernel
theorem dX7_digest_44 : decode cX7_digest 44 = .ok (.goto 10, 3) := by decide +kernel
theorem dX7_digest_47 : decode cX7_digest 47 = .ok (.aload_n 0, 1) := by decide +kernel
theorem dX7_digest_48 : decode cX7_digest 48 = .ok (.iload_n 3, 1) := by decide +kernel
theorem dX7_digest_49 : decode cX7_digest 49 = .ok (.iload 4, 2) := by decide +kernel
theorem dX7_digest_51 : decode cX7_digest 51 = .ok (.invokevirtual 58, 3) := by decide +kernel
theorem dX7_digest_54 : decode cX7_digest 54 = .ok (.i2l, 1) := by decide +kernel
theorem dX7_digest_55 : decode cX7_digest 55 = .ok (.ladd, 1) := by decide +kernel
theorem dX7_digest_56 : decode cX7_digest 56 = .ok (.lstore_n 1, 1) := by decide +kernel
theorem dX7_digest_57 : decode cX7_digest 57 = .ok (.iinc 4 1, 3) := by decide +kernel
theorem dX7_digest_60 : decode cX7_digest 60 = .ok (.goto (-41), 3) := by decide +kernel
theorem dX7_digest_63 : decode cX7_digest 63 = .ok (.iinc 3 1, 3) := by decide +kernel
theorem dX7_digest_66 : decode cX7_digest 66 = .ok (.goto (-60), 3) := by decide +kernel
theorem dX7_digest_69 : decode cX7_digest 69 = .ok (.lload_n 1, 1) := by decide +kernel
theorem dX7_digest_70 : decode cX7_digest 70 = .ok (.lreturn, 1) := by decide +kernel
theorem dX7_count_0 : decode cX7_count 0 = .ok (.iconst 0, 1) := by decide +kernel
theorem dX7_count_1 : decode cX7_count 1 = .ok (.istore_n 2, 1) := by decide +kernel
theorem dX7_count_2 : decode cX7_count 2 = .ok (.iconst 0, 1) := by decide +kernel
theorem dX7_count_3 : decode cX7_count 3 = .ok (.istore_n 3, 1) := by decide +kernel
theorem dX7_count_4 : decode cX7_count 4 = .ok (.iconst 0, 1) := by decide +kernel
theorem dX7_count_5 : decode cX7_count 5 = .ok (.istore 4, 2) := by decide +kernel
theorem dX7_count_7 : decode cX7_count 7 = .ok (.iload 4, 2) := by decide +kernel
theorem dX7_count_9 : decode cX7_count 9 = .ok (.aload_n 0, 1) := by decide +kernel
theorem dX7_count_10 : decode cX7_count 10 = .ok (.getfield 7, 3) := by decide +kernel
theorem dX7_count_13 : decode cX7_count 13 = .ok (.iconst 2, 1) := by decide +kernel
theorem dX7_count_14 : decode cX7_count 14 = .ok (.iaload, 1) := by decide +kernel
theorem dX7_count_15 : decode cX7_count 15 = .ok (.if_icmp .ge 43, 3) := by decide +kernel
theorem dX7_count_18 : decode cX7_count 18 = .ok (.iload_n 2, 1) := by decide +kernel
theorem dX7_count_19 : decode cX7_count 19 = .ok (.aload_n 0, 1) := by decide +kernel
theorem dX7_count_20 : decode cX7_count 20 = .ok (.iload 4, 2) := by decide +kernel
theorem dX7_count_22 : decode cX7_count 22 = .ok (.invokevirtual 70, 3) := by decide +kernel
theorem dX7_count_25 : decode cX7_count 25 = .ok (.ifCond .eq 7, 3) := by decide +kernel
theorem dX7_count_28 : decode cX7_count 28 = .ok (.iconst 0, 1) := by decide +kernel
theorem dX7_count_29 : decode cX7_count 29 = .ok (.goto 4, 3) := by decide +kernel
theorem dX7_count_32 : decode cX7_count 32 = .ok (.iconst 1, 1) := by decide +kernel
theorem dX7_count_33 : decode cX7_count 33 = .ok (.iadd, 1) := by decide +kernel
theorem dX7_count_34 : decode cX7_count 34 = .ok (.istore_n 2, 1) := by decide +kernel
theorem dX7_count_35 : decode cX7_count 35 = .ok (.iload_n 3, 1) := by decide +kernel
theorem dX7_count_36 : decode cX7_count 36 = .ok (.aload_n 0, 1) := by decide +kernel
theorem dX7_count_37 : decode cX7_count 37 = .ok (.iload 4, 2) := by decide +kernel
theorem dX7_count_39 : decode cX7_count 39 = .ok (.invokevirtual 134, 3) := by decide +kernel
theorem dX7_count_42 : decode cX7_count 42 = .ok (.ifCond .eq 7, 3) := by decide +kernel
theorem dX7_count_45 : decode cX7_count 45 = .ok (.iconst 1, 1) := by decide +kernel
theorem dX7_count_46 : decode cX7_count 46 = .ok (.goto 4, 3) := by decide +kernel
theorem dX7_count_49 : decode cX7_count 49 = .ok (.iconst 0, 1) := by decide +kernel
theorem dX7_count_50 : decode cX7_count 50 = .ok (.iadd, 1) := by decide +kernel
theorem dX7_count_51 : decode cX7_count 51 = .ok (.istore_n 3, 1) := by decide +kernel
theorem dX7_count_52 : decode cX7_count 52 = .ok (.iinc 4 1, 3) := by decide +kernel
theorem dX7_count_55 : decode cX7_count 55 = .ok (.goto (-48), 3) := by decide +kernel
theorem dX7_count_58 : decode cX7_count 58 = .ok (.iload_n 1, 1) := by decide +kernel
theorem dX7_count_59 : decode cX7_count 59 = .ok (.tableswitch 110 0 7 #[45, 52, 54, 61, 68, 73, 78, 108], 45) := by decide +kernel
theorem dX7_count_104 : decode cX7_count 104 = .ok (.aload_n 0, 1) := by decide +kernel
theorem dX7_count_105 : decode cX7_count 105 = .ok (.getfield 7, 3) := by decide +kernel
theorem dX7_count_108 : decode cX7_count 108 = .ok (.iconst 2, 1) := by decide +kernel
theorem dX7_count_109 : decode cX7_count 109 = .ok (.iaload, 1) := by decide +kernel
theorem dX7_count_110 : decode cX7_count 110 = .ok (.ireturn, 1) := by decide +kernel
theorem dX7_count_111 : decode cX7_count 111 = .ok (.iload_n 2, 1) := by decide +kernel
theorem dX7_count_112 : decode cX7_count 112 = .ok (.ireturn, 1) := by decide +kernel
theorem dX7_count_113 : decode cX7_count 113 = .ok (.aload_n 0, 1) := by decide +kernel
theorem dX7_count_114 : decode cX7_count 114 = .ok (.getfield 7, 3) := by decide +kernel
theorem dX7_count_117 : decode cX7_count 117 = .ok (.iconst 0, 1) := by decide +kernel
theorem dX7_count_118 : decode cX7_count 118 = .ok (.iaload, 1) := by decide +kernel
theorem dX7_count_119 : decode cX7_count 119 = .ok (.ireturn, 1) := by decide +kernel
theorem dX7_count_120 : decode cX7_count 120 = .ok (.aload_n 0, 1) := by decide +kernel
theorem dX7_count_121 : decode cX7_count 121 = .ok (.getfield 7, 3) := by decide +kernel
theorem dX7_count_124 : decode cX7_count 124 = .ok (.iconst 1, 1) := by decide +kernel
theorem dX7_count_125 : decode cX7_count 125 = .ok (.iaload, 1) := by decide +kernel
theorem dX7_count_126 : decode cX7_count 126 = .ok (.ireturn, 1) := by decide +kernel
theorem dX7_count_127 : decode cX7_count 127 = .ok (.aload_n 0, 1) := by decide +kernel
theorem dX7_count_128 : decode cX7_count 128 = .ok (.getfield 209, 3) := by decide +kernel
theorem dX7_count_131 : decode cX7_count 131 = .ok (.ireturn, 1) := by decide +kernel
theorem dX7_count_132 : decode cX7_count 132 = .ok (.aload_n 0, 1) := by decide +kernel
theorem dX7_count_133 : decode cX7_count 133 = .ok (.getfield 282, 3) := by decide +kernel
theorem dX7_count_136 : decode cX7_count 136 = .ok (.ireturn, 1) := by decide +kernel
theorem dX7_count_137 : decode cX7_count 137 = .ok (.aload_n 0, 1) := by decide +kernel
theorem dX7_count_138 : decode cX7_count 138 = .ok (.getfield 19, 3) := by decide +kernel
theorem dX7_count_141 : decode cX7_count 141 = .ok (.iconst 0, 1) := by decide +kernel
theorem dX7_count_142 : decode cX7_count 142 = .ok (.baload, 1) := by decide +kernel
theorem dX7_count_143 : decode cX7_count 143 = .ok (.ifCond .eq 7, 3) := by decide +kernel
theorem dX7_count_146 : decode cX7_count 146 = .ok (.iconst 1, 1) := by decide +kernel
theorem dX7_count_147 : decode cX7_count 147 = .ok (.goto 4, 3) := by decide +kernel
theorem dX7_count_150 : decode cX7_count 150 = .ok (.iconst 0, 1) := by decide +kernel
theorem dX7_count_151 : decode cX7_count 151 = .ok (.aload_n 0, 1) := by decide +kernel
theorem dX7_count_152 : decode cX7_count 152 = .ok (.getfield 19, 3) := by decide +kernel
theorem dX7_count_155 : decode cX7_count 155 = .ok (.iconst 1, 1) := by decide +kernel
theorem dX7_count_156 : decode cX7_count 156 = .ok (.baload, 1) := by decide +kernel
theorem dX7_count_157 : decode cX7_count 157 = .ok (.ifCond .eq 7, 3) := by decide +kernel
theorem dX7_count_160 : decode cX7_count 160 = .ok (.iconst 2, 1) := by decide +kernel
theorem dX7_count_161 : decode cX7_count 161 = .ok (.goto 4, 3) := by decide +kernel
theorem dX7_count_164 : decode cX7_count 164 = .ok (.iconst 0, 1) := by decide +kernel
theorem dX7_count_165 : decode cX7_count 165 = .ok (.iadd, 1) := by decide +kernel
theorem dX7_count_166 : decode cX7_count 166 = .ok (.ireturn, 1) := by decide +kernel
theorem dX7_count_167 : decode cX7_count 167 = .ok (.iload_n 3, 1) := by decide +kernel
theorem dX7_count_168 : decode cX7_count 168 = .ok (.ireturn, 1) := by decide +kernel
theorem dX7_count_169 : decode cX7_count 169 = .ok (.iconst (-1), 1) := by decide +kernel
theorem dX7_count_170 : decode cX7_count 170 = .ok (.ireturn, 1) := by decide +kernel
theorem dX7_laysFour_0 : decode cX7_laysFour 0 = .ok (.bipush 24, 2) := by decide +kernel
theorem dX7_laysFour_2 : decode cX7_laysFour 2 = .ok (.istore_n 2, 1) := by decide +kernel
theorem dX7_laysFour_3 : decode cX7_laysFour 3 = .ok (.iload_n 2, 1) := by decide +kernel
theorem dX7_laysFour_4 : decode cX7_laysFour 4 = .ok (.ifCond .lt 32, 3) := by decide +kernel
theorem dX7_laysFour_7 : decode cX7_laysFour 7 = .ok (.aload_n 0, 1) := by decide +kernel
theorem dX7_laysFour_8 : decode cX7_laysFour 8 = .ok (.getfield 44, 3) := by decide +kernel
theorem dX7_laysFour_11 : decode cX7_laysFour 11 = .ok (.aload_n 0, 1) := by decide +kernel
theorem dX7_laysFour_12 : decode cX7_laysFour 12 = .ok (.getfield 282, 3) := by decide +kernel
theorem dX7_laysFour_15 : decode cX7_laysFour 15 = .ok (.iload_n 1, 1) := by decide +kernel
theorem dX7_laysFour_16 : decode cX7_laysFour 16 = .ok (.iload_n 2, 1) := by decide +kernel
theorem dX7_laysFour_17 : decode cX7_laysFour 17 = .ok (.ishr, 1) := by decide +kernel
theorem dX7_laysFour_18 : decode cX7_laysFour 18 = .ok (.i2b, 1) := by decide +kernel
theorem dX7_laysFour_19 : decode cX7_laysFour 19 = .ok (.bastore, 1) := by decide +kernel
theorem dX7_laysFour_20 : decode cX7_laysFour 20 = .ok (.aload_n 0, 1) := by decide +kernel
theorem dX7_laysFour_21 : decode cX7_laysFour 21 = .ok (.dup, 1) := by decide +kernel
theorem dX7_laysFour_22 : decode cX7_laysFour 22 = .ok (.getfield 282, 3) := by decide +kernel
theorem dX7_laysFour_25 : decode cX7_laysFour 25 = .ok (.iconst 1, 1) := by decide +kernel
theorem dX7_laysFour_26 : decode cX7_laysFour 26 = .ok (.iadd, 1) := by decide +kernel
theorem dX7_laysFour_27 : decode cX7_laysFour 27 = .ok (.putfield 282, 3) := by decide +kernel
theorem dX7_laysFour_30 : decode cX7_laysFour 30 = .ok (.iinc 2 (-8), 3) := by decide +kernel
theorem dX7_laysFour_33 : decode cX7_laysFour 33 = .ok (.goto (-30), 3) := by decide +kernel
theorem dX7_laysFour_36 : decode cX7_laysFour 36 = .ok (.return_, 1) := by decide +kernel
theorem dX7_feed_0 : decode cX7_feed 0 = .ok (.aload_n 0, 1) := by decide +kernel
theorem dX7_feed_1 : decode cX7_feed 1 = .ok (.getfield 282, 3) := by decide +kernel
theorem dX7_feed_4 : decode cX7_feed 4 = .ok (.sipush 380, 3) := by decide +kernel
theorem dX7_feed_7 : decode cX7_feed 7 = .ok (.if_icmp .le 5, 3) := by decide +kernel
theorem dX7_feed_10 : decode cX7_feed 10 = .ok (.iconst (-1), 1) := by decide +kernel
theorem dX7_feed_11 : decode cX7_feed 11 = .ok (.ireturn, 1) := by decide +kernel
theorem dX7_feed_12 : decode cX7_feed 12 = .ok (.aload_n 0, 1) := by decide +kernel
theorem dX7_feed_13 : decode cX7_feed 13 = .ok (.iload_n 1, 1) := by decide +kernel
theorem dX7_feed_14 : decode cX7_feed 14 = .ok (.invokevirtual 285, 3) := by decide +kernel
theorem dX7_feed_17 : decode cX7_feed 17 = .ok (.aload_n 0, 1) := by decide +kernel
theorem dX7_feed_18 : decode cX7_feed 18 = .ok (.iload_n 2, 1) := by decide +kernel
theorem dX7_feed_19 : decode cX7_feed 19 = .ok (.invokevirtual 285, 3) := by decide +kernel
theorem dX7_feed_22 : decode cX7_feed 22 = .ok (.aload_n 0, 1) := by decide +kernel
theorem dX7_feed_23 : decode cX7_feed 23 = .ok (.iload_n 3, 1) := by decide +kernel
theorem dX7_feed_24 : decode cX7_feed 24 = .ok (.invokevirtual 285, 3) := by decide +kernel
theorem dX7_feed_27 : decode cX7_feed 27 = .ok (.aload_n 0, 1) := by decide +kernel
theorem dX7_feed_28 : decode cX7_feed 28 = .ok (.iload 4, 2) := by decide +kernel
theorem dX7_feed_30 : decode cX7_feed 30 = .ok (.invokevirtual 285, 3) := by decide +kernel
theorem dX7_feed_33 : decode cX7_feed 33 = .ok (.aload_n 0, 1) := by decide +kernel
theorem dX7_feed_34 : decode cX7_feed 34 = .ok (.iload 5, 2) := by decide +kernel
theorem dX7_feed_36 : decode cX7_feed 36 = .ok (.invokevirtual 285, 3) := by decide +kernel
theorem dX7_feed_39 : decode cX7_feed 39 = .ok (.aload_n 0, 1) := by decide +kernel
theorem dX7_feed_40 : decode cX7_feed 40 = .ok (.getfield 282, 3) := by decide +kernel
theorem dX7_feed_43 : decode cX7_feed 43 = .ok (.ireturn, 1) := by decide +kernel
theorem dX7_end_0 : decode cX7_end 0 = .ok (.iload_n 1, 1) := by decide +kernel
theorem dX7_end_1 : decode cX7_end 1 = .ok (.i2l, 1) := by decide +kernel
theorem dX7_end_2 : decode cX7_end 2 = .ok (.lconst 0, 1) := by decide +kernel
theorem dX7_end_3 : decode cX7_end 3 = .ok (.aload_n 0, 1) := by decide +kernel
theorem dX7_end_4 : decode cX7_end 4 = .ok (.getfield 282, 3) := by decide +kernel
theorem dX7_end_7 : decode cX7_end 7 = .ok (.i2l, 1) := by decide +kernel
theorem dX7_end_8 : decode cX7_end 8 = .ok (.invokestatic 54, 3) := by decide +kernel
theorem dX7_end_11 : decode cX7_end 11 = .ok (.ifCond .ne 5, 3) := by decide +kernel
theorem dX7_end_14 : decode cX7_end 14 = .ok (.iconst (-1), 1) := by decide +kernel
theorem dX7_end_15 : decode cX7_end 15 = .ok (.ireturn, 1) := by decide +kernel
theorem dX7_end_16 : decode cX7_end 16 = .ok (.aload_n 0, 1) := by decide +kernel
theorem dX7_end_17 : decode cX7_end 17 = .ok (.iload_n 1, 1) := by decide +kernel
theorem dX7_end_18 : decode cX7_end 18 = .ok (.putfield 282, 3) := by decide +kernel
theorem dX7_end_21 : decode cX7_end 21 = .ok (.iload_n 1, 1) := by decide +kernel
theorem dX7_end_22 : decode cX7_end 22 = .ok (.ireturn, 1) := by decide +kernel
theorem dX7_byteAt_0 : decode cX7_byteAt 0 = .ok (.iload_n 1, 1) := by decide +kernel
theorem dX7_byteAt_1 : decode cX7_byteAt 1 = .ok (.aload_n 0, 1) := by decide +kernel
theorem dX7_byteAt_2 : decode cX7_byteAt 2 = .ok (.getfield 282, 3) := by decide +kernel
theorem dX7_byteAt_5 : decode cX7_byteAt 5 = .ok (.if_icmp .ge 16, 3) := by decide +kernel
theorem dX7_byteAt_8 : decode cX7_byteAt 8 = .ok (.aload_n 0, 1) := by decide +kernel
theorem dX7_byteAt_9 : decode cX7_byteAt 9 = .ok (.getfield 44, 3) := by decide +kernel
theorem dX7_byteAt_12 : decode cX7_byteAt 12 = .ok (.iload_n 1, 1) := by decide +kernel
theorem dX7_byteAt_13 : decode cX7_byteAt 13 = .ok (.baload, 1) := by decide +kernel
theorem dX7_byteAt_14 : decode cX7_byteAt 14 = .ok (.sipush 255, 3) := by decide +kernel
theorem dX7_byteAt_17 : decode cX7_byteAt 17 = .ok (.iand, 1) := by decide +kernel
theorem dX7_byteAt_18 : decode cX7_byteAt 18 = .ok (.goto 4, 3) := by decide +kernel
theorem dX7_byteAt_21 : decode cX7_byteAt 21 = .ok (.iconst (-1), 1) := by decide +kernel
theorem dX7_byteAt_22 : decode cX7_byteAt 22 = .ok (.ireturn, 1) := by decide +kernel
theorem dX7_nextByte_0 : decode cX7_nextByte 0 = .ok (.aload_n 0, 1) := by decide +kernel
theorem dX7_nextByte_1 : decode cX7_nextByte 1 = .ok (.aload_n 0, 1) := by decide +kernel
theorem dX7_nextByte_2 : decode cX7_nextByte 2 = .ok (.getfield 288, 3) := by decide +kernel
theorem dX7_nextByte_5 : decode cX7_nextByte 5 = .ok (.invokevirtual 291, 3) := by decide +kernel
theorem dX7_nextByte_8 : decode cX7_nextByte 8 = .ok (.bipush 32, 2) := by decide +kernel
theorem dX7_nextByte_10 : decode cX7_nextByte 10 = .ok (.if_icmp .ne 16, 3) := by decide +kernel
theorem dX7_nextByte_13 : decode cX7_nextByte 13 = .ok (.aload_n 0, 1) := by decide +kernel
theorem dX7_nextByte_14 : decode cX7_nextByte 14 = .ok (.dup, 1) := by decide +kernel
theorem dX7_nextByte_15 : decode cX7_nextByte 15 = .ok (.getfield 288, 3) := by decide +kernel
theorem dX7_nextByte_18 : decode cX7_nextByte 18 = .ok (.iconst 1, 1) := by decide +kernel
theorem dX7_nextByte_19 : decode cX7_nextByte 19 = .ok (.iadd, 1) := by decide +kernel
theorem dX7_nextByte_20 : decode cX7_nextByte 20 = .ok (.putfield 288, 3) := by decide +kernel
theorem dX7_nextByte_23 : decode cX7_nextByte 23 = .ok (.goto (-23), 3) := by decide +kernel
theorem dX7_nextByte_26 : decode cX7_nextByte 26 = .ok (.aload_n 0, 1) := by decide +kernel
theorem dX7_nextByte_27 : decode cX7_nextByte 27 = .ok (.aload_n 0, 1) := by decide +kernel
theorem dX7_nextByte_28 : decode cX7_nextByte 28 = .ok (.getfield 288, 3) := by decide +kernel
theorem dX7_nextByte_31 : decode cX7_nextByte 31 = .ok (.invokevirtual 291, 3) := by decide +kernel
theorem dX7_nextByte_34 : decode cX7_nextByte 34 = .ok (.ireturn, 1) := by decide +kernel
theorem dX7_fails_0 : decode cX7_fails 0 = .ok (.aload_n 0, 1) := by decide +kernel
theorem dX7_fails_1 : decode cX7_fails 1 = .ok (.bipush 8, 2) := by decide +kernel
theorem dX7_fails_3 : decode cX7_fails 3 = .ok (.iload_n 2, 1) := by decide +kernel
theorem dX7_fails_4 : decode cX7_fails 4 = .ok (.imul, 1) := by decide +kernel
theorem dX7_fails_5 : decode cX7_fails 5 = .ok (.iload_n 1, 1) := by decide +kernel
theorem dX7_fails_6 : decode cX7_fails 6 = .ok (.iadd, 1) := by decide +kernel
theorem dX7_fails_7 : decode cX7_fails 7 = .ok (.putfield 294, 3) := by decide +kernel
theorem dX7_fails_10 : decode cX7_fails 10 = .ok (.iconst 0, 1) := by decide +kernel
theorem dX7_fails_11 : decode cX7_fails 11 = .ok (.ireturn, 1) := by decide +kernel
theorem dX7_takesWord_0 : decode cX7_takesWord 0 = .ok (.aload_n 0, 1) := by decide +kernel
theorem dX7_takesWord_1 : decode cX7_takesWord 1 = .ok (.invokevirtual 297, 3) := by decide +kernel
theorem dX7_takesWord_4 : decode cX7_takesWord 4 = .ok (.iconst (-1), 1) := by decide +kernel
theorem dX7_takesWord_5 : decode cX7_takesWord 5 = .ok (.if_icmp .ne 10, 3) := by decide +kernel
theorem dX7_takesWord_8 : decode cX7_takesWord 8 = .ok (.aload_n 0, 1) := by decide +kernel
theorem dX7_takesWord_9 : decode cX7_takesWord 9 = .ok (.getfield 282, 3) := by decide +kernel
theorem dX7_takesWord_12 : decode cX7_takesWord 12 = .ok (.goto 7, 3) := by decide +kernel
theorem dX7_takesWord_15 : decode cX7_takesWord 15 = .ok (.aload_n 0, 1) := by decide +kernel
theorem dX7_takesWord_16 : decode cX7_takesWord 16 = .ok (.getfield 288, 3) := by decide +kernel
theorem dX7_takesWord_19 : decode cX7_takesWord 19 = .ok (.istore_n 2, 1) := by decide +kernel
theorem dX7_takesWord_20 : decode cX7_takesWord 20 = .ok (.iconst 0, 1) := by decide +kernel
theorem dX7_takesWord_21 : decode cX7_takesWord 21 = .ok (.istore_n 3, 1) := by decide +kernel
theorem dX7_takesWord_22 : decode cX7_takesWord 22 = .ok (.iload_n 3, 1) := by decide +kernel
theorem dX7_takesWord_23 : decode cX7_takesWord 23 = .ok (.aload_n 1, 1) := by decide +kernel
theorem dX7_takesWord_24 : decode cX7_takesWord 24 = .ok (.invokevirtual 246, 3) := by decide +kernel
theorem dX7_takesWord_27 : decode cX7_takesWord 27 = .ok (.if_icmp .ge 24, 3) := by decide +kernel
theorem dX7_takesWord_30 : decode cX7_takesWord 30 = .ok (.aload_n 0, 1) := by decide +kernel
theorem dX7_takesWord_31 : decode cX7_takesWord 31 = .ok (.iload_n 2, 1) := by decide +kernel
theorem dX7_takesWord_32 : decode cX7_takesWord 32 = .ok (.iload_n 3, 1) := by decide +kernel
theorem dX7_takesWord_33 : decode cX7_takesWord 33 = .ok (.iadd, 1) := by decide +kernel
theorem dX7_takesWord_34 : decode cX7_takesWord 34 = .ok (.invokevirtual 291, 3) := by decide +kernel
theorem dX7_takesWord_37 : decode cX7_takesWord 37 = .ok (.aload_n 1, 1) := by decide +kernel
theorem dX7_takesWord_38 : decode cX7_takesWord 38 = .ok (.iload_n 3, 1) := by decide +kernel
theorem dX7_takesWord_39 : decode cX7_takesWord 39 = .ok (.invokevirtual 251, 3) := by decide +kernel
theorem dX7_takesWord_42 : decode cX7_takesWord 42 = .ok (.if_icmp .ne 9, 3) := by decide +kernel
theorem dX7_takesWord_45 : decode cX7_takesWord 45 = .ok (.iinc 3 1, 3) := by decide +kernel
theorem dX7_takesWord_48 : decode cX7_takesWord 48 = .ok (.goto (-26), 3) := by decide +kernel
theorem dX7_takesWord_51 : decode cX7_takesWord 51 = .ok (.iload_n 3, 1) := by decide +kernel
theorem dX7_takesWord_52 : decode cX7_takesWord 52 = .ok (.aload_n 1, 1) := by decide +kernel
theorem dX7_takesWord_53 : decode cX7_takesWord 53 = .ok (.invokevirtual 246, 3) := by decide +kernel
theorem dX7_takesWord_56 : decode cX7_takesWord 56 = .ok (.if_icmp .ne 27, 3) := by decide +kernel
theorem dX7_takesWord_59 : decode cX7_takesWord 59 = .ok (.aload_n 0, 1) := by decide +kernel
theorem dX7_takesWord_60 : decode cX7_takesWord 60 = .ok (.iload_n 2, 1) := by decide +kernel
theorem dX7_takesWord_61 : decode cX7_takesWord 61 = .ok (.iload_n 3, 1) := by decide +kernel
theorem dX7_takesWord_62 : decode cX7_takesWord 62 = .ok (.iadd, 1) := by decide +kernel
theorem dX7_takesWord_63 : decode cX7_takesWord 63 = .ok (.invokevirtual 291, 3) := by decide +kernel
theorem dX7_takesWord_66 : decode cX7_takesWord 66 = .ok (.i2l, 1) := by decide +kernel
theorem dX7_takesWord_67 : decode cX7_takesWord 67 = .ok (.ldc2_w 300, 3) := by decide +kernel
theorem dX7_takesWord_70 : decode cX7_takesWord 70 = .ok (.ldc2_w 302, 3) := by decide +kernel
theorem dX7_takesWord_73 : decode cX7_takesWord 73 = .ok (.invokestatic 54, 3) := by decide +kernel
theorem dX7_takesWord_76 : decode cX7_takesWord 76 = .ok (.ifCond .ne 7, 3) := by decide +kernel
theorem dX7_takesWord_79 : decode cX7_takesWord 79 = .ok (.iconst 1, 1) := by decide +kernel
theorem dX7_takesWord_80 : decode cX7_takesWord 80 = .ok (.goto 4, 3) := by decide +kernel
theorem dX7_takesWord_83 : decode cX7_takesWord 83 = .ok (.iconst 0, 1) := by decide +kernel
theorem dX7_takesWord_84 : decode cX7_takesWord 84 = .ok (.istore 4, 2) := by decide +kernel
theorem dX7_takesWord_86 : decode cX7_takesWord 86 = .ok (.iload 4, 2) := by decide +kernel
theorem dX7_takesWord_88 : decode cX7_takesWord 88 = .ok (.ifCond .eq 16, 3) := by decide +kernel
theorem dX7_takesWord_91 : decode cX7_takesWord 91 = .ok (.aload_n 0, 1) := by decide +kernel
theorem dX7_takesWord_92 : decode cX7_takesWord 92 = .ok (.dup, 1) := by decide +kernel
theorem dX7_takesWord_93 : decode cX7_takesWord 93 = .ok (.getfield 288, 3) := by decide +kernel
theorem dX7_takesWord_96 : decode cX7_takesWord 96 = .ok (.aload_n 1, 1) := by decide +kernel
theorem dX7_takesWord_97 : decode cX7_takesWord 97 = .ok (.invokevirtual 246, 3) := by decide +kernel
theorem dX7_takesWord_100 : decode cX7_takesWord 100 = .ok (.iadd, 1) := by decide +kernel
theorem dX7_takesWord_101 : decode cX7_takesWord 101 = .ok (.putfield 288, 3) := by decide +kernel
theorem dX7_takesWord_104 : decode cX7_takesWord 104 = .ok (.iload 4, 2) := by decide +kernel
theorem dX7_takesWord_106 : decode cX7_takesWord 106 = .ok (.ireturn, 1) := by decide +kernel
theorem dX7_readsNumber_0 : decode cX7_readsNumber 0 = .ok (.aload_n 0, 1) := by decide +kernel
theorem dX7_readsNumber_1 : decode cX7_readsNumber 1 = .ok (.invokevirtual 297, 3) := by decide +kernel
theorem dX7_readsNumber_4 : decode cX7_readsNumber 4 = .ok (.i2l, 1) := by decide +kernel
theorem dX7_readsNumber_5 : decode cX7_readsNumber 5 = .ok (.ldc2_w 304, 3) := by decide +kernel
theorem dX7_readsNumber_8 : decode cX7_readsNumber 8 = .ok (.ldc2_w 306, 3) := by decide +kernel
theorem dX7_readsNumber_11 : decode cX7_readsNumber 11 = .ok (.invokestatic 54, 3) := by decide +kernel
theorem dX7_readsNumber_14 : decode cX7_readsNumber 14 = .ok (.ifCond .ne 13, 3) := by decide +kernel
theorem dX7_readsNumber_17 : decode cX7_readsNumber 17 = .ok (.aload_n 0, 1) := by decide +kernel
theorem dX7_readsNumber_18 : decode cX7_readsNumber 18 = .ok (.iconst 1, 1) := by decide +kernel
theorem dX7_readsNumber_19 : decode cX7_readsNumber 19 = .ok (.aload_n 0, 1) := by decide +kernel
theorem dX7_readsNumber_20 : decode cX7_readsNumber 20 = .ok (.getfield 288, 3) := by decide +kernel
theorem dX7_readsNumber_23 : decode cX7_readsNumber 23 = .ok (.invokevirtual 308, 3) := by decide +kernel
theorem dX7_readsNumber_26 : decode cX7_readsNumber 26 = .ok (.ireturn, 1) := by decide +kernel
theorem dX7_readsNumber_27 : decode cX7_readsNumber 27 = .ok (.aload_n 0, 1) := by decide +kernel
theorem dX7_readsNumber_28 : decode cX7_readsNumber 28 = .ok (.getfield 288, 3) := by decide +kernel
theorem dX7_readsNumber_31 : decode cX7_readsNumber 31 = .ok (.istore_n 3, 1) := by decide +kernel
theorem dX7_readsNumber_32 : decode cX7_readsNumber 32 = .ok (.aload_n 0, 1) := by decide +kernel
theorem dX7_readsNumber_33 : decode cX7_readsNumber 33 = .ok (.iconst 0, 1) := by decide +kernel
theorem dX7_readsNumber_34 : decode cX7_readsNumber 34 = .ok (.putfield 311, 3) := by decide +kernel
theorem dX7_readsNumber_37 : decode cX7_readsNumber 37 = .ok (.aload_n 0, 1) := by decide +kernel
theorem dX7_readsNumber_38 : decode cX7_readsNumber 38 = .ok (.aload_n 0, 1) := by decide +kernel
theorem dX7_readsNumber_39 : decode cX7_readsNumber 39 = .ok (.getfield 288, 3) := by decide +kernel
theorem dX7_readsNumber_42 : decode cX7_readsNumber 42 = .ok (.invokevirtual 291, 3) := by decide +kernel
theorem dX7_readsNumber_45 : decode cX7_readsNumber 45 = .ok (.i2l, 1) := by decide +kernel
theorem dX7_readsNumber_46 : decode cX7_readsNumber 46 = .ok (.ldc2_w 304, 3) := by decide +kernel
theorem dX7_readsNumber_49 : decode cX7_readsNumber 49 = .ok (.ldc2_w 306, 3) := by decide +kernel
theorem dX7_readsNumber_52 : decode cX7_readsNumber 52 = .ok (.invokestatic 54, 3) := by decide +kernel
theorem dX7_readsNumber_55 : decode cX7_readsNumber 55 = .ok (.ifCond .eq 48, 3) := by decide +kernel
theorem dX7_readsNumber_58 : decode cX7_readsNumber 58 = .ok (.aload_n 0, 1) := by decide +kernel
theorem dX7_readsNumber_59 : decode cX7_readsNumber 59 = .ok (.getfield 311, 3) := by decide +kernel
theorem dX7_readsNumber_62 : decode cX7_readsNumber 62 = .ok (.ldc 186, 2) := by decide +kernel
theorem dX7_readsNumber_64 : decode cX7_readsNumber 64 = .ok (.if_icmp .ge 26, 3) := by decide +kernel
theorem dX7_readsNumber_67 : decode cX7_readsNumber 67 = .ok (.aload_n 0, 1) := by decide +kernel
theorem dX7_readsNumber_68 : decode cX7_readsNumber 68 = .ok (.bipush 10, 2) := by decide +kernel
theorem dX7_readsNumber_70 : decode cX7_readsNumber 70 = .ok (.aload_n 0, 1) := by decide +kernel
theorem dX7_readsNumber_71 : decode cX7_readsNumber 71 = .ok (.getfield 311, 3) := by decide +kernel
theorem dX7_readsNumber_74 : decode cX7_readsNumber 74 = .ok (.imul, 1) := by decide +kernel
theorem dX7_readsNumber_75 : decode cX7_readsNumber 75 = .ok (.aload_n 0, 1) := by decide +kernel
theorem dX7_readsNumber_76 : decode cX7_readsNumber 76 = .ok (.aload_n 0, 1) := by decide +kernel
theorem dX7_readsNumber_77 : decode cX7_readsNumber 77 = .ok (.getfield 288, 3) := by decide +kernel
theorem dX7_readsNumber_80 : decode cX7_readsNumber 80 = .ok (.invokevirtual 291, 3) := by decide +kernel
theorem dX7_readsNumber_83 : decode cX7_readsNumber 83 = .ok (.iadd, 1) := by decide +kernel
theorem dX7_readsNumber_84 : decode cX7_readsNumber 84 = .ok (.bipush 48, 2) := by decide +kernel
theorem dX7_readsNumber_86 : decode cX7_readsNumber 86 = .ok (.isub, 1) := by decide +kernel
theorem dX7_readsNumber_87 : decode cX7_readsNumber 87 = .ok (.putfield 311, 3) := by decide +kernel
theorem dX7_readsNumber_90 : decode cX7_readsNumber 90 = .ok (.aload_n 0, 1) := by decide +kernel
theorem dX7_readsNumber_91 : decode cX7_readsNumber 91 = .ok (.dup, 1) := by decide +kernel
theorem dX7_readsNumber_92 : decode cX7_readsNumber 92 = .ok (.getfield 288, 3) := by decide +kernel
theorem dX7_readsNumber_95 : decode cX7_readsNumber 95 = .ok (.iconst 1, 1) := by decide +kernel
theorem dX7_readsNumber_96 : decode cX7_readsNumber 96 = .ok (.iadd, 1) := by decide +kernel
theorem dX7_readsNumber_97 : decode cX7_readsNumber 97 = .ok (.putfield 288, 3) := by decide +kernel
theorem dX7_readsNumber_100 : decode cX7_readsNumber 100 = .ok (.goto (-63), 3) := by decide +kernel
theorem dX7_readsNumber_103 : decode cX7_readsNumber 103 = .ok (.aload_n 0, 1) := by decide +kernel
theorem dX7_readsNumber_104 : decode cX7_readsNumber 104 = .ok (.getfield 311, 3) := by decide +kernel
theorem dX7_readsNumber_107 : decode cX7_readsNumber 107 = .ok (.i2l, 1) := by decide +kernel
theorem dX7_readsNumber_108 : decode cX7_readsNumber 108 = .ok (.iload_n 1, 1) := by decide +kernel
theorem dX7_readsNumber_109 : decode cX7_readsNumber 109 = .ok (.i2l, 1) := by decide +kernel
theorem dX7_readsNumber_110 : decode cX7_readsNumber 110 = .ok (.iload_n 2, 1) := by decide +kernel
theorem dX7_readsNumber_111 : decode cX7_readsNumber 111 = .ok (.i2l, 1) := by decide +kernel
theorem dX7_readsNumber_112 : decode cX7_readsNumber 112 = .ok (.invokestatic 54, 3) := by decide +kernel
theorem dX7_readsNumber_115 : decode cX7_readsNumber 115 = .ok (.ifCond .ne 12, 3) := by decide +kernel
theorem dX7_readsNumber_118 : decode cX7_readsNumber 118 = .ok (.aload_n 0, 1) := by decide +kernel
theorem dX7_readsNumber_119 : decode cX7_readsNumber 119 = .ok (.iconst 2, 1) := by decide +kernel
theorem dX7_readsNumber_120 : decode cX7_readsNumber 120 = .ok (.iload_n 3, 1) := by decide +kernel
theorem dX7_readsNumber_121 : decode cX7_readsNumber 121 = .ok (.invokevirtual 308, 3) := by decide +kernel
theorem dX7_readsNumber_124 : decode cX7_readsNumber 124 = .ok (.ifCond .eq 7, 3) := by decide +kernel
theorem dX7_readsNumber_127 : decode cX7_readsNumber 127 = .ok (.iconst 1, 1) := by decide +kernel
theorem dX7_readsNumber_128 : decode cX7_readsNumber 128 = .ok (.goto 4, 3) := by decide +kernel
theorem dX7_readsNumber_131 : decode cX7_readsNumber 131 = .ok (.iconst 0, 1) := by decide +kernel
theorem dX7_readsNumber_132 : decode cX7_readsNumber 132 = .ok (.ireturn, 1) := by decide +kernel
theorem dX7_readsLabel_0 : decode cX7_readsLabel 0 = .ok (.aload_n 0, 1) := by decide +kernel
theorem dX7_readsLabel_1 : decode cX7_readsLabel 1 = .ok (.invokevirtual 297, 3) := by decide +kernel
theorem dX7_readsLabel_4 : decode cX7_readsLabel 4 = .ok (.istore_n 1, 1) := by decide +kernel
theorem dX7_readsLabel_5 : decode cX7_readsLabel 5 = .ok (.iload_n 1, 1) := by decide +kernel
theorem dX7_readsLabel_6 : decode cX7_readsLabel 6 = .ok (.i2l, 1) := by decide +kernel
theorem dX7_readsLabel_7 : decode cX7_readsLabel 7 = .ok (.ldc2_w 300, 3) := by decide +kernel
theorem dX7_readsLabel_10 : decode cX7_readsLabel 10 = .ok (.ldc2_w 302, 3) := by decide +kernel
theorem dX7_readsLabel_13 : decode cX7_readsLabel 13 = .ok (.invokestatic 54, 3) := by decide +kernel
theorem dX7_readsLabel_16 : decode cX7_readsLabel 16 = .ok (.ifCond .eq 26, 3) := by decide +kernel
theorem dX7_readsLabel_19 : decode cX7_readsLabel 19 = .ok (.aload_n 0, 1) := by decide +kernel
theorem dX7_readsLabel_20 : decode cX7_readsLabel 20 = .ok (.aload_n 0, 1) := by decide +kernel
theorem dX7_readsLabel_21 : decode cX7_readsLabel 21 = .ok (.getfield 288, 3) := by decide +kernel
theorem dX7_readsLabel_24 : decode cX7_readsLabel 24 = .ok (.iconst 1, 1) := by decide +kernel
theorem dX7_readsLabel_25 : decode cX7_readsLabel 25 = .ok (.iadd, 1) := by decide +kernel
theorem dX7_readsLabel_26 : decode cX7_readsLabel 26 = .ok (.invokevirtual 291, 3) := by decide +kernel
theorem dX7_readsLabel_29 : decode cX7_readsLabel 29 = .ok (.i2l, 1) := by decide +kernel
theorem dX7_readsLabel_30 : decode cX7_readsLabel 30 = .ok (.ldc2_w 300, 3) := by decide +kernel
theorem dX7_readsLabel_33 : decode cX7_readsLabel 33 = .ok (.ldc2_w 302, 3) := by decide +kernel
theorem dX7_readsLabel_36 : decode cX7_readsLabel 36 = .ok (.invokestatic 54, 3) := by decide +kernel
theorem dX7_readsLabel_39 : decode cX7_readsLabel 39 = .ok (.ifCond .eq 13, 3) := by decide +kernel
theorem dX7_readsLabel_42 : decode cX7_readsLabel 42 = .ok (.aload_n 0, 1) := by decide +kernel
theorem dX7_readsLabel_43 : decode cX7_readsLabel 43 = .ok (.iconst 1, 1) := by decide +kernel
theorem dX7_readsLabel_44 : decode cX7_readsLabel 44 = .ok (.aload_n 0, 1) := by decide +kernel
theorem dX7_readsLabel_45 : decode cX7_readsLabel 45 = .ok (.getfield 288, 3) := by decide +kernel
theorem dX7_readsLabel_48 : decode cX7_readsLabel 48 = .ok (.invokevirtual 308, 3) := by decide +kernel
theorem dX7_readsLabel_51 : decode cX7_readsLabel 51 = .ok (.ireturn, 1) := by decide +kernel
theorem dX7_readsLabel_52 : decode cX7_readsLabel 52 = .ok (.aload_n 0, 1) := by decide +kernel
theorem dX7_readsLabel_53 : decode cX7_readsLabel 53 = .ok (.iload_n 1, 1) := by decide +kernel
theorem dX7_readsLabel_54 : decode cX7_readsLabel 54 = .ok (.bipush 97, 2) := by decide +kernel
theorem dX7_readsLabel_56 : decode cX7_readsLabel 56 = .ok (.isub, 1) := by decide +kernel
theorem dX7_readsLabel_57 : decode cX7_readsLabel 57 = .ok (.putfield 311, 3) := by decide +kernel
theorem dX7_readsLabel_60 : decode cX7_readsLabel 60 = .ok (.aload_n 0, 1) := by decide +kernel
theorem dX7_readsLabel_61 : decode cX7_readsLabel 61 = .ok (.dup, 1) := by decide +kernel
theorem dX7_readsLabel_62 : decode cX7_readsLabel 62 = .ok (.getfield 288, 3) := by decide +kernel
theorem dX7_readsLabel_65 : decode cX7_readsLabel 65 = .ok (.iconst 1, 1) := by decide +kernel
theorem dX7_readsLabel_66 : decode cX7_readsLabel 66 = .ok (.iadd, 1) := by decide +kernel
theorem dX7_readsLabel_67 : decode cX7_readsLabel 67 = .ok (.putfield 288, 3) := by decide +kernel
theorem dX7_readsLabel_70 : decode cX7_readsLabel 70 = .ok (.iconst 1, 1) := by decide +kernel
theorem dX7_readsLabel_71 : decode cX7_readsLabel 71 = .ok (.ireturn, 1) := by decide +kernel
theorem dX7_readsSize_0 : decode cX7_readsSize 0 = .ok (.aload_n 0, 1) := by decide +kernel
theorem dX7_readsSize_1 : decode cX7_readsSize 1 = .ok (.iconst 0, 1) := by decide +kernel
theorem dX7_readsSize_2 : decode cX7_readsSize 2 = .ok (.iconst 3, 1) := by decide +kernel
theorem dX7_readsSize_3 : decode cX7_readsSize 3 = .ok (.invokevirtual 314, 3) := by decide +kernel
theorem dX7_readsSize_6 : decode cX7_readsSize 6 = .ok (.ifCond .ne 5, 3) := by decide +kernel
theorem dX7_readsSize_9 : decode cX7_readsSize 9 = .ok (.iconst 0, 1) := by decide +kernel
theorem dX7_readsSize_10 : decode cX7_readsSize 10 = .ok (.ireturn, 1) := by decide +kernel
theorem dX7_readsSize_11 : decode cX7_readsSize 11 = .ok (.aload_n 0, 1) := by decide +kernel
theorem dX7_readsSize_12 : decode cX7_readsSize 12 = .ok (.getfield 311, 3) := by decide +kernel
theorem dX7_readsSize_15 : decode cX7_readsSize 15 = .ok (.istore_n 1, 1) := by decide +kernel
theorem dX7_readsSize_16 : decode cX7_readsSize 16 = .ok (.aload_n 0, 1) := by decide +kernel
theorem dX7_readsSize_17 : decode cX7_readsSize 17 = .ok (.iconst 1, 1) := by decide +kernel
theorem dX7_readsSize_18 : decode cX7_readsSize 18 = .ok (.bipush 12, 2) := by decide +kernel
theorem dX7_readsSize_20 : decode cX7_readsSize 20 = .ok (.invokevirtual 314, 3) := by decide +kernel
theorem dX7_readsSize_23 : decode cX7_readsSize 23 = .ok (.ifCond .ne 5, 3) := by decide +kernel
theorem dX7_readsSize_26 : decode cX7_readsSize 26 = .ok (.iconst 0, 1) := by decide +kernel
theorem dX7_readsSize_27 : decode cX7_readsSize 27 = .ok (.ireturn, 1) := by decide +kernel
theorem dX7_readsSize_28 : decode cX7_readsSize 28 = .ok (.aload_n 0, 1) := by decide +kernel
theorem dX7_readsSize_29 : decode cX7_readsSize 29 = .ok (.getfield 7, 3) := by decide +kernel
theorem dX7_readsSize_32 : decode cX7_readsSize 32 = .ok (.iconst 3, 1) := by decide +kernel
theorem dX7_readsSize_33 : decode cX7_readsSize 33 = .ok (.iload_n 1, 1) := by decide +kernel
theorem dX7_readsSize_34 : decode cX7_readsSize 34 = .ok (.iadd, 1) := by decide +kernel
theorem dX7_readsSize_35 : decode cX7_readsSize 35 = .ok (.aload_n 0, 1) := by decide +kernel
theorem dX7_readsSize_36 : decode cX7_readsSize 36 = .ok (.getfield 311, 3) := by decide +kernel
theorem dX7_readsSize_39 : decode cX7_readsSize 39 = .ok (.iastore, 1) := by decide +kernel
theorem dX7_readsSize_40 : decode cX7_readsSize 40 = .ok (.iconst 1, 1) := by decide +kernel
theorem dX7_readsSize_41 : decode cX7_readsSize 41 = .ok (.ireturn, 1) := by decide +kernel
theorem dX7_readsWindow_0 : decode cX7_readsWindow 0 = .ok (.aload_n 0, 1) := by decide +kernel
theorem dX7_readsWindow_1 : decode cX7_readsWindow 1 = .ok (.iconst 0, 1) := by decide +kernel
theorem dX7_readsWindow_2 : decode cX7_readsWindow 2 = .ok (.iconst 3, 1) := by decide +kernel
theorem dX7_readsWindow_3 : decode cX7_readsWindow 3 = .ok (.invokevirtual 314, 3) := by decide +kernel
theorem dX7_readsWindow_6 : decode cX7_readsWindow 6 = .ok (.ifCond .ne 5, 3) := by decide +kernel
theorem dX7_readsWindow_9 : decode cX7_readsWindow 9 = .ok (.iconst 0, 1) := by decide +kernel
theorem dX7_readsWindow_10 : decode cX7_readsWindow 10 = .ok (.ireturn, 1) := by decide +kernel
theorem dX7_readsWindow_11 : decode cX7_readsWindow 11 = .ok (.aload_n 0, 1) := by decide +kernel
theorem dX7_readsWindow_12 : decode cX7_readsWindow 12 = .ok (.getfield 311, 3) := by decide +kernel
theorem dX7_readsWindow_15 : decode cX7_readsWindow 15 = .ok (.istore_n 1, 1) := by decide +kernel
theorem dX7_readsWindow_16 : decode cX7_readsWindow 16 = .ok (.aload_n 0, 1) := by decide +kernel
theorem dX7_readsWindow_17 : decode cX7_readsWindow 17 = .ok (.iconst 0, 1) := by decide +kernel
theorem dX7_readsWindow_18 : decode cX7_readsWindow 18 = .ok (.sipush 9999, 3) := by decide +kernel
theorem dX7_readsWindow_21 : decode cX7_readsWindow 21 = .ok (.invokevirtual 314, 3) := by decide +kernel
theorem dX7_readsWindow_24 : decode cX7_readsWindow 24 = .ok (.ifCond .ne 5, 3) := by decide +kernel
theorem dX7_readsWindow_27 : decode cX7_readsWindow 27 = .ok (.iconst 0, 1) := by decide +kernel
theorem dX7_readsWindow_28 : decode cX7_readsWindow 28 = .ok (.ireturn, 1) := by decide +kernel
theorem dX7_readsWindow_29 : decode cX7_readsWindow 29 = .ok (.aload_n 0, 1) := by decide +kernel
theorem dX7_readsWindow_30 : decode cX7_readsWindow 30 = .ok (.getfield 7, 3) := by decide +kernel
theorem dX7_readsWindow_33 : decode cX7_readsWindow 33 = .ok (.bipush 7, 2) := by decide +kernel
theorem dX7_readsWindow_35 : decode cX7_readsWindow 35 = .ok (.iload_n 1, 1) := by decide +kernel
theorem dX7_readsWindow_36 : decode cX7_readsWindow 36 = .ok (.iadd, 1) := by decide +kernel
theorem dX7_readsWindow_37 : decode cX7_readsWindow 37 = .ok (.aload_n 0, 1) := by decide +kernel
theorem dX7_readsWindow_38 : decode cX7_readsWindow 38 = .ok (.getfield 311, 3) := by decide +kernel
theorem dX7_readsWindow_41 : decode cX7_readsWindow 41 = .ok (.iastore, 1) := by decide +kernel
theorem dX7_readsWindow_42 : decode cX7_readsWindow 42 = .ok (.iconst 1, 1) := by decide +kernel
theorem dX7_readsWindow_43 : decode cX7_readsWindow 43 = .ok (.ireturn, 1) := by decide +kernel
theorem dX7_readsSeed_0 : decode cX7_readsSeed 0 = .ok (.aload_n 0, 1) := by decide +kernel
theorem dX7_readsSeed_1 : decode cX7_readsSeed 1 = .ok (.iconst 0, 1) := by decide +kernel
theorem dX7_readsSeed_2 : decode cX7_readsSeed 2 = .ok (.ldc_w 317, 3) := by decide +kernel
theorem dX7_readsSeed_5 : decode cX7_readsSeed 5 = .ok (.invokevirtual 314, 3) := by decide +kernel
theorem dX7_readsSeed_8 : decode cX7_readsSeed 8 = .ok (.ifCond .ne 5, 3) := by decide +kernel
theorem dX7_readsSeed_11 : decode cX7_readsSeed 11 = .ok (.iconst 0, 1) := by decide +kernel
theorem dX7_readsSeed_12 : decode cX7_readsSeed 12 = .ok (.ireturn, 1) := by decide +kernel
theorem dX7_readsSeed_13 : decode cX7_readsSeed 13 = .ok (.aload_n 0, 1) := by decide +kernel
theorem dX7_readsSeed_14 : decode cX7_readsSeed 14 = .ok (.getfield 7, 3) := by decide +kernel
theorem dX7_readsSeed_17 : decode cX7_readsSeed 17 = .ok (.iconst 1, 1) := by decide +kernel
theorem dX7_readsSeed_18 : decode cX7_readsSeed 18 = .ok (.aload_n 0, 1) := by decide +kernel
theorem dX7_readsSeed_19 : decode cX7_readsSeed 19 = .ok (.getfield 311, 3) := by decide +kernel
theorem dX7_readsSeed_22 : decode cX7_readsSeed 22 = .ok (.iastore, 1) := by decide +kernel
theorem dX7_readsSeed_23 : decode cX7_readsSeed 23 = .ok (.iconst 1, 1) := by decide +kernel
theorem dX7_readsSeed_24 : decode cX7_readsSeed 24 = .ok (.ireturn, 1) := by decide +kernel
theorem dX7_readsWait_0 : decode cX7_readsWait 0 = .ok (.aload_n 0, 1) := by decide +kernel
theorem dX7_readsWait_1 : decode cX7_readsWait 1 = .ok (.iconst 0, 1) := by decide +kernel
theorem dX7_readsWait_2 : decode cX7_readsWait 2 = .ok (.sipush 9999, 3) := by decide +kernel
theorem dX7_readsWait_5 : decode cX7_readsWait 5 = .ok (.invokevirtual 314, 3) := by decide +kernel
theorem dX7_readsWait_8 : decode cX7_readsWait 8 = .ok (.ifCond .ne 5, 3) := by decide +kernel
theorem dX7_readsWait_11 : decode cX7_readsWait 11 = .ok (.iconst 0, 1) := by decide +kernel
theorem dX7_readsWait_12 : decode cX7_readsWait 12 = .ok (.ireturn, 1) := by decide +kernel
theorem dX7_readsWait_13 : decode cX7_readsWait 13 = .ok (.aload_n 0, 1) := by decide +kernel
theorem dX7_readsWait_14 : decode cX7_readsWait 14 = .ok (.getfield 7, 3) := by decide +kernel
theorem dX7_readsWait_17 : decode cX7_readsWait 17 = .ok (.iconst 0, 1) := by decide +kernel
theorem dX7_readsWait_18 : decode cX7_readsWait 18 = .ok (.iaload, 1) := by decide +kernel
theorem dX7_readsWait_19 : decode cX7_readsWait 19 = .ok (.aload_n 0, 1) := by decide +kernel
theorem dX7_readsWait_20 : decode cX7_readsWait 20 = .ok (.getfield 311, 3) := by decide +kernel
theorem dX7_readsWait_23 : decode cX7_readsWait 23 = .ok (.iadd, 1) := by decide +kernel
theorem dX7_readsWait_24 : decode cX7_readsWait 24 = .ok (.ldc 222, 2) := by decide +kernel
theorem dX7_readsWait_26 : decode cX7_readsWait 26 = .ok (.if_icmp .le 10, 3) := by decide +kernel
theorem dX7_readsWait_29 : decode cX7_readsWait 29 = .ok (.aload_n 0, 1) := by decide +kernel
theorem dX7_readsWait_30 : decode cX7_readsWait 30 = .ok (.iconst 3, 1) := by decide +kernel
theorem dX7_readsWait_31 : decode cX7_readsWait 31 = .ok (.iload_n 1, 1) := by decide +kernel
theorem dX7_readsWait_32 : decode cX7_readsWait 32 = .ok (.invokevirtual 308, 3) := by decide +kernel
theorem dX7_readsWait_35 : decode cX7_readsWait 35 = .ok (.ireturn, 1) := by decide +kernel
theorem dX7_readsWait_36 : decode cX7_readsWait 36 = .ok (.aload_n 0, 1) := by decide +kernel
theorem dX7_readsWait_37 : decode cX7_readsWait 37 = .ok (.getfield 7, 3) := by decide +kernel
theorem dX7_readsWait_40 : decode cX7_readsWait 40 = .ok (.iconst 0, 1) := by decide +kernel
theorem dX7_readsWait_41 : decode cX7_readsWait 41 = .ok (.dup2, 1) := by decide +kernel
theorem dX7_readsWait_42 : decode cX7_readsWait 42 = .ok (.iaload, 1) := by decide +kernel
theorem dX7_readsWait_43 : decode cX7_readsWait 43 = .ok (.aload_n 0, 1) := by decide +kernel
theorem dX7_readsWait_44 : decode cX7_readsWait 44 = .ok (.getfield 311, 3) := by decide +kernel
theorem dX7_readsWait_47 : decode cX7_readsWait 47 = .ok (.iadd, 1) := by decide +kernel
theorem dX7_readsWait_48 : decode cX7_readsWait 48 = .ok (.iastore, 1) := by decide +kernel
theorem dX7_readsWait_49 : decode cX7_readsWait 49 = .ok (.iconst 1, 1) := by decide +kernel
theorem dX7_readsWait_50 : decode cX7_readsWait 50 = .ok (.ireturn, 1) := by decide +kernel
theorem dX7_readsItem_0 : decode cX7_readsItem 0 = .ok (.aload_n 0, 1) := by decide +kernel
theorem dX7_readsItem_1 : decode cX7_readsItem 1 = .ok (.iconst 0, 1) := by decide +kernel
theorem dX7_readsItem_2 : decode cX7_readsItem 2 = .ok (.iconst 3, 1) := by decide +kernel
theorem dX7_readsItem_3 : decode cX7_readsItem 3 = .ok (.invokevirtual 314, 3) := by decide +kernel
theorem dX7_readsItem_6 : decode cX7_readsItem 6 = .ok (.ifCond .ne 5, 3) := by decide +kernel
theorem dX7_readsItem_9 : decode cX7_readsItem 9 = .ok (.iconst 0, 1) := by decide +kernel
theorem dX7_readsItem_10 : decode cX7_readsItem 10 = .ok (.ireturn, 1) := by decide +kernel
theorem dX7_readsItem_11 : decode cX7_readsItem 11 = .ok (.aload_n 0, 1) := by decide +kernel
theorem dX7_readsItem_12 : decode cX7_readsItem 12 = .ok (.getfield 311, 3) := by decide +kernel
theorem dX7_readsItem_15 : decode cX7_readsItem 15 = .ok (.istore_n 3, 1) := by decide +kernel
theorem dX7_readsItem_16 : decode cX7_readsItem 16 = .ok (.aload_n 0, 1) := by decide +kernel
theorem dX7_readsItem_17 : decode cX7_readsItem 17 = .ok (.invokevirtual 318, 3) := by decide +kernel
theorem dX7_readsItem_20 : decode cX7_readsItem 20 = .ok (.ifCond .ne 5, 3) := by decide +kernel
theorem dX7_readsItem_23 : decode cX7_readsItem 23 = .ok (.iconst 0, 1) := by decide +kernel
theorem dX7_readsItem_24 : decode cX7_readsItem 24 = .ok (.ireturn, 1) := by decide +kernel
theorem dX7_readsItem_25 : decode cX7_readsItem 25 = .ok (.aload_n 0, 1) := by decide +kernel
theorem dX7_readsItem_26 : decode cX7_readsItem 26 = .ok (.getfield 311, 3) := by decide +kernel
theorem dX7_readsItem_29 : decode cX7_readsItem 29 = .ok (.istore 4, 2) := by decide +kernel
theorem dX7_readsItem_31 : decode cX7_readsItem 31 = .ok (.aload_n 0, 1) := by decide +kernel
theorem dX7_readsItem_32 : decode cX7_readsItem 32 = .ok (.iconst 1, 1) := by decide +kernel
theorem dX7_readsItem_33 : decode cX7_readsItem 33 = .ok (.bipush 20, 2) := by decide +kernel
theorem dX7_readsItem_35 : decode cX7_readsItem 35 = .ok (.invokevirtual 314, 3) := by decide +kernel
theorem dX7_readsItem_38 : decode cX7_readsItem 38 = .ok (.ifCond .ne 5, 3) := by decide +kernel
theorem dX7_readsItem_41 : decode cX7_readsItem 41 = .ok (.iconst 0, 1) := by decide +kernel
theorem dX7_readsItem_42 : decode cX7_readsItem 42 = .ok (.ireturn, 1) := by decide +kernel
theorem dX7_readsItem_43 : decode cX7_readsItem 43 = .ok (.aload_n 0, 1) := by decide +kernel
theorem dX7_readsItem_44 : decode cX7_readsItem 44 = .ok (.getfield 311, 3) := by decide +kernel
theorem dX7_readsItem_47 : decode cX7_readsItem 47 = .ok (.istore 5, 2) := by decide +kernel
theorem dX7_readsItem_49 : decode cX7_readsItem 49 = .ok (.iconst 1, 1) := by decide +kernel
theorem dX7_readsItem_50 : decode cX7_readsItem 50 = .ok (.istore 6, 2) := by decide +kernel
theorem dX7_readsItem_52 : decode cX7_readsItem 52 = .ok (.iconst 0, 1) := by decide +kernel
theorem dX7_readsItem_53 : decode cX7_readsItem 53 = .ok (.istore 7, 2) := by decide +kernel
theorem dX7_readsItem_55 : decode cX7_readsItem 55 = .ok (.iload_n 2, 1) := by decide +kernel
theorem dX7_readsItem_56 : decode cX7_readsItem 56 = .ok (.ifCond .eq 25, 3) := by decide +kernel
theorem dX7_readsItem_59 : decode cX7_readsItem 59 = .ok (.aload_n 0, 1) := by decide +kernel
theorem dX7_readsItem_60 : decode cX7_readsItem 60 = .ok (.iconst 1, 1) := by decide +kernel
theorem dX7_readsItem_61 : decode cX7_readsItem 61 = .ok (.sipush 1023, 3) := by decide +kernel
theorem dX7_readsItem_64 : decode cX7_readsItem 64 = .ok (.invokevirtual 314, 3) := by decide +kernel
theorem dX7_readsItem_67 : decode cX7_readsItem 67 = .ok (.ifCond .ne 5, 3) := by decide +kernel
theorem dX7_readsItem_70 : decode cX7_readsItem 70 = .ok (.iconst 0, 1) := by decide +kernel
theorem dX7_readsItem_71 : decode cX7_readsItem 71 = .ok (.ireturn, 1) := by decide +kernel
theorem dX7_readsItem_72 : decode cX7_readsItem 72 = .ok (.aload_n 0, 1) := by decide +kernel
theorem dX7_readsItem_73 : decode cX7_readsItem 73 = .ok (.getfield 311, 3) := by decide +kernel
theorem dX7_readsItem_76 : decode cX7_readsItem 76 = .ok (.istore 7, 2) := by decide +kernel
theorem dX7_readsItem_78 : decode cX7_readsItem 78 = .ok (.goto 31, 3) := by decide +kernel
theorem dX7_readsItem_81 : decode cX7_readsItem 81 = .ok (.aload_n 0, 1) := by decide +kernel
theorem dX7_readsItem_82 : decode cX7_readsItem 82 = .ok (.ldc_w 322, 3) := by decide +kernel
theorem dX7_readsItem_85 : decode cX7_readsItem 85 = .ok (.invokevirtual 323, 3) := by decide +kernel
theorem dX7_readsItem_88 : decode cX7_readsItem 88 = .ok (.ifCond .eq 21, 3) := by decide +kernel
theorem dX7_readsItem_91 : decode cX7_readsItem 91 = .ok (.aload_n 0, 1) := by decide +kernel
theorem dX7_readsItem_92 : decode cX7_readsItem 92 = .ok (.iconst 1, 1) := by decide +kernel
theorem dX7_readsItem_93 : decode cX7_readsItem 93 = .ok (.bipush 50, 2) := by decide +kernel
theorem dX7_readsItem_95 : decode cX7_readsItem 95 = .ok (.invokevirtual 314, 3) := by decide +kernel
theorem dX7_readsItem_98 : decode cX7_readsItem 98 = .ok (.ifCond .ne 5, 3) := by decide +kernel
theorem dX7_readsItem_101 : decode cX7_readsItem 101 = .ok (.iconst 0, 1) := by decide +kernel
theorem dX7_readsItem_102 : decode cX7_readsItem 102 = .ok (.ireturn, 1) := by decide +kernel
theorem dX7_readsItem_103 : decode cX7_readsItem 103 = .ok (.aload_n 0, 1) := by decide +kernel
theorem dX7_readsItem_104 : decode cX7_readsItem 104 = .ok (.getfield 311, 3) := by decide +kernel
theorem dX7_readsItem_107 : decode cX7_readsItem 107 = .ok (.istore 6, 2) := by decide +kernel
theorem dX7_readsItem_109 : decode cX7_readsItem 109 = .ok (.aload_n 0, 1) := by decide +kernel
theorem dX7_readsItem_110 : decode cX7_readsItem 110 = .ok (.getfield 7, 3) := by decide +kernel
theorem dX7_readsItem_113 : decode cX7_readsItem 113 = .ok (.iconst 2, 1) := by decide +kernel
theorem dX7_readsItem_114 : decode cX7_readsItem 114 = .ok (.iaload, 1) := by decide +kernel
theorem dX7_readsItem_115 : decode cX7_readsItem 115 = .ok (.iload 6, 2) := by decide +kernel
theorem dX7_readsItem_117 : decode cX7_readsItem 117 = .ok (.iadd, 1) := by decide +kernel
theorem dX7_readsItem_118 : decode cX7_readsItem 118 = .ok (.bipush 100, 2) := by decide +kernel
theorem dX7_readsItem_120 : decode cX7_readsItem 120 = .ok (.if_icmp .le 10, 3) := by decide +kernel
theorem dX7_readsItem_123 : decode cX7_readsItem 123 = .ok (.aload_n 0, 1) := by decide +kernel
theorem dX7_readsItem_124 : decode cX7_readsItem 124 = .ok (.iconst 3, 1) := by decide +kernel
theorem dX7_readsItem_125 : decode cX7_readsItem 125 = .ok (.iload_n 1, 1) := by decide +kernel
theorem dX7_readsItem_126 : decode cX7_readsItem 126 = .ok (.invokevirtual 308, 3) := by decide +kernel
theorem dX7_readsItem_129 : decode cX7_readsItem 129 = .ok (.ireturn, 1) := by decide +kernel
theorem dX7_readsItem_130 : decode cX7_readsItem 130 = .ok (.iconst 0, 1) := by decide +kernel
theorem dX7_readsItem_131 : decode cX7_readsItem 131 = .ok (.istore 8, 2) := by decide +kernel
theorem dX7_readsItem_133 : decode cX7_readsItem 133 = .ok (.iload 8, 2) := by decide +kernel
theorem dX7_readsItem_135 : decode cX7_readsItem 135 = .ok (.iload 6, 2) := by decide +kernel
theorem dX7_readsItem_137 : decode cX7_readsItem 137 = .ok (.if_icmp .ge 37, 3) := by decide +kernel
theorem dX7_readsItem_140 : decode cX7_readsItem 140 = .ok (.aload_n 0, 1) := by decide +kernel
theorem dX7_readsItem_141 : decode cX7_readsItem 141 = .ok (.iload_n 3, 1) := by decide +kernel
theorem dX7_readsItem_142 : decode cX7_readsItem 142 = .ok (.iload 4, 2) := by decide +kernel
theorem dX7_readsItem_144 : decode cX7_readsItem 144 = .ok (.iload 5, 2) := by decide +kernel
theorem dX7_readsItem_146 : decode cX7_readsItem 146 = .ok (.iload_n 2, 1) := by decide +kernel
theorem dX7_readsItem_147 : decode cX7_readsItem 147 = .ok (.ifCond .eq 8, 3) := by decide +kernel
theorem dX7_readsItem_150 : decode cX7_readsItem 150 = .ok (.iload 7, 2) := by decide +kernel
theorem dX7_readsItem_152 : decode cX7_readsItem 152 = .ok (.goto 11, 3) := by decide +kernel
theorem dX7_readsItem_155 : decode cX7_readsItem 155 = .ok (.aload_n 0, 1) := by decide +kernel
theorem dX7_readsItem_156 : decode cX7_readsItem 156 = .ok (.aload_n 0, 1) := by decide +kernel
theorem dX7_readsItem_157 : decode cX7_readsItem 157 = .ok (.getfield 7, 3) := by decide +kernel
theorem dX7_readsItem_160 : decode cX7_readsItem 160 = .ok (.invokevirtual 174, 3) := by decide +kernel
theorem dX7_readsItem_163 : decode cX7_readsItem 163 = .ok (.invokevirtual 219, 3) := by decide +kernel
theorem dX7_readsItem_166 : decode cX7_readsItem 166 = .ok (.istore 9, 2) := by decide +kernel
theorem dX7_readsItem_168 : decode cX7_readsItem 168 = .ok (.iinc 8 1, 3) := by decide +kernel
theorem dX7_readsItem_171 : decode cX7_readsItem 171 = .ok (.goto (-38), 3) := by decide +kernel
theorem dX7_readsItem_174 : decode cX7_readsItem 174 = .ok (.iconst 1, 1) := by decide +kernel
theorem dX7_readsItem_175 : decode cX7_readsItem 175 = .ok (.ireturn, 1) := by decide +kernel
theorem dX7_readsStatement_0 : decode cX7_readsStatement 0 = .ok (.aload_n 0, 1) := by decide +kernel
theorem dX7_readsStatement_1 : decode cX7_readsStatement 1 = .ok (.invokevirtual 297, 3) := by decide +kernel
theorem dX7_readsStatement_4 : decode cX7_readsStatement 4 = .ok (.istore_n 1, 1) := by decide +kernel
theorem dX7_readsStatement_5 : decode cX7_readsStatement 5 = .ok (.aload_n 0, 1) := by decide +kernel
theorem dX7_readsStatement_6 : decode cX7_readsStatement 6 = .ok (.getfield 288, 3) := by decide +kernel
theorem dX7_readsStatement_9 : decode cX7_readsStatement 9 = .ok (.istore_n 2, 1) := by decide +kernel
theorem dX7_readsStatement_10 : decode cX7_readsStatement 10 = .ok (.aload_n 0, 1) := by decide +kernel
theorem dX7_readsStatement_11 : decode cX7_readsStatement 11 = .ok (.ldc_w 264, 3) := by decide +kernel
theorem dX7_readsStatement_14 : decode cX7_readsStatement 14 = .ok (.invokevirtual 323, 3) := by decide +kernel
theorem dX7_readsStatement_17 : decode cX7_readsStatement 17 = .ok (.ifCond .eq 8, 3) := by decide +kernel
theorem dX7_readsStatement_20 : decode cX7_readsStatement 20 = .ok (.aload_n 0, 1) := by decide +kernel
theorem dX7_readsStatement_21 : decode cX7_readsStatement 21 = .ok (.invokevirtual 327, 3) := by decide +kernel
theorem dX7_readsStatement_24 : decode cX7_readsStatement 24 = .ok (.ireturn, 1) := by decide +kernel
theorem dX7_readsStatement_25 : decode cX7_readsStatement 25 = .ok (.aload_n 0, 1) := by decide +kernel
theorem dX7_readsStatement_26 : decode cX7_readsStatement 26 = .ok (.ldc_w 266, 3) := by decide +kernel
theorem dX7_readsStatement_29 : decode cX7_readsStatement 29 = .ok (.invokevirtual 323, 3) := by decide +kernel
theorem dX7_readsStatement_32 : decode cX7_readsStatement 32 = .ok (.ifCond .eq 8, 3) := by decide +kernel
theorem dX7_readsStatement_35 : decode cX7_readsStatement 35 = .ok (.aload_n 0, 1) := by decide +kernel
theorem dX7_readsStatement_36 : decode cX7_readsStatement 36 = .ok (.invokevirtual 330, 3) := by decide +kernel
theorem dX7_readsStatement_39 : decode cX7_readsStatement 39 = .ok (.ireturn, 1) := by decide +kernel
theorem dX7_readsStatement_40 : decode cX7_readsStatement 40 = .ok (.aload_n 0, 1) := by decide +kernel
theorem dX7_readsStatement_41 : decode cX7_readsStatement 41 = .ok (.ldc_w 273, 3) := by decide +kernel
theorem dX7_readsStatement_44 : decode cX7_readsStatement 44 = .ok (.invokevirtual 323, 3) := by decide +kernel
theorem dX7_readsStatement_47 : decode cX7_readsStatement 47 = .ok (.ifCond .eq 8, 3) := by decide +kernel
theorem dX7_readsStatement_50 : decode cX7_readsStatement 50 = .ok (.aload_n 0, 1) := by decide +kernel
theorem dX7_readsStatement_51 : decode cX7_readsStatement 51 = .ok (.invokevirtual 333, 3) := by decide +kernel
theorem dX7_readsStatement_54 : decode cX7_readsStatement 54 = .ok (.ireturn, 1) := by decide +kernel
theorem dX7_readsStatement_55 : decode cX7_readsStatement 55 = .ok (.aload_n 0, 1) := by decide +kernel
theorem dX7_readsStatement_56 : decode cX7_readsStatement 56 = .ok (.ldc 255, 2) := by decide +kernel
theorem dX7_readsStatement_58 : decode cX7_readsStatement 58 = .ok (.invokevirtual 323, 3) := by decide +kernel
theorem dX7_readsStatement_61 : decode cX7_readsStatement 61 = .ok (.ifCond .eq 9, 3) := by decide +kernel
theorem dX7_readsStatement_64 : decode cX7_readsStatement 64 = .ok (.aload_n 0, 1) := by decide +kernel
theorem dX7_readsStatement_65 : decode cX7_readsStatement 65 = .ok (.iload_n 2, 1) := by decide +kernel
theorem dX7_readsStatement_66 : decode cX7_readsStatement 66 = .ok (.invokevirtual 336, 3) := by decide +kernel
theorem dX7_readsStatement_69 : decode cX7_readsStatement 69 = .ok (.ireturn, 1) := by decide +kernel
theorem dX7_readsStatement_70 : decode cX7_readsStatement 70 = .ok (.aload_n 0, 1) := by decide +kernel
theorem dX7_readsStatement_71 : decode cX7_readsStatement 71 = .ok (.ldc_w 339, 3) := by decide +kernel
theorem dX7_readsStatement_74 : decode cX7_readsStatement 74 = .ok (.invokevirtual 323, 3) := by decide +kernel
theorem dX7_readsStatement_77 : decode cX7_readsStatement 77 = .ok (.ifCond .eq 10, 3) := by decide +kernel
theorem dX7_readsStatement_80 : decode cX7_readsStatement 80 = .ok (.aload_n 0, 1) := by decide +kernel
theorem dX7_readsStatement_81 : decode cX7_readsStatement 81 = .ok (.iload_n 2, 1) := by decide +kernel
theorem dX7_readsStatement_82 : decode cX7_readsStatement 82 = .ok (.iconst 0, 1) := by decide +kernel
theorem dX7_readsStatement_83 : decode cX7_readsStatement 83 = .ok (.invokevirtual 340, 3) := by decide +kernel
theorem dX7_readsStatement_86 : decode cX7_readsStatement 86 = .ok (.ireturn, 1) := by decide +kernel
theorem dX7_readsStatement_87 : decode cX7_readsStatement 87 = .ok (.aload_n 0, 1) := by decide +kernel
theorem dX7_readsStatement_88 : decode cX7_readsStatement 88 = .ok (.ldc_w 271, 3) := by decide +kernel
theorem dX7_readsStatement_91 : decode cX7_readsStatement 91 = .ok (.invokevirtual 323, 3) := by decide +kernel
theorem dX7_readsStatement_94 : decode cX7_readsStatement 94 = .ok (.ifCond .eq 12, 3) := by decide +kernel
theorem dX7_readsStatement_97 : decode cX7_readsStatement 97 = .ok (.aload_n 0, 1) := by decide +kernel
theorem dX7_readsStatement_98 : decode cX7_readsStatement 98 = .ok (.iload_n 2, 1) := by decide +kernel
theorem dX7_readsStatement_99 : decode cX7_readsStatement 99 = .ok (.iconst 1, 1) := by decide +kernel
theorem dX7_readsStatement_100 : decode cX7_readsStatement 100 = .ok (.invokevirtual 340, 3) := by decide +kernel
theorem dX7_readsStatement_103 : decode cX7_readsStatement 103 = .ok (.goto 9, 3) := by decide +kernel
theorem dX7_readsStatement_106 : decode cX7_readsStatement 106 = .ok (.aload_n 0, 1) := by decide +kernel
theorem dX7_readsStatement_107 : decode cX7_readsStatement 107 = .ok (.iconst 1, 1) := by decide +kernel
theorem dX7_readsStatement_108 : decode cX7_readsStatement 108 = .ok (.iload_n 2, 1) := by decide +kernel
theorem dX7_readsStatement_109 : decode cX7_readsStatement 109 = .ok (.invokevirtual 308, 3) := by decide +kernel
theorem dX7_readsStatement_112 : decode cX7_readsStatement 112 = .ok (.ireturn, 1) := by decide +kernel
theorem dX7_readsAll_0 : decode cX7_readsAll 0 = .ok (.aload_n 0, 1) := by decide +kernel
theorem dX7_readsAll_1 : decode cX7_readsAll 1 = .ok (.iconst 0, 1) := by decide +kernel
theorem dX7_readsAll_2 : decode cX7_readsAll 2 = .ok (.putfield 288, 3) := by decide +kernel
theorem dX7_readsAll_5 : decode cX7_readsAll 5 = .ok (.iconst 1, 1) := by decide +kernel
theorem dX7_readsAll_6 : decode cX7_readsAll 6 = .ok (.istore_n 1, 1) := by decide +kernel
theorem dX7_readsAll_7 : decode cX7_readsAll 7 = .ok (.iload_n 1, 1) := by decide +kernel
theorem dX7_readsAll_8 : decode cX7_readsAll 8 = .ok (.ifCond .eq 48, 3) := by decide +kernel
theorem dX7_readsAll_11 : decode cX7_readsAll 11 = .ok (.aload_n 0, 1) := by decide +kernel
theorem dX7_readsAll_12 : decode cX7_readsAll 12 = .ok (.invokevirtual 344, 3) := by decide +kernel
theorem dX7_readsAll_15 : decode cX7_readsAll 15 = .ok (.ifCond .ne 5, 3) := by decide +kernel
theorem dX7_readsAll_18 : decode cX7_readsAll 18 = .ok (.iconst 0, 1) := by decide +kernel
theorem dX7_readsAll_19 : decode cX7_readsAll 19 = .ok (.ireturn, 1) := by decide +kernel
theorem dX7_readsAll_20 : decode cX7_readsAll 20 = .ok (.aload_n 0, 1) := by decide +kernel
theorem dX7_readsAll_21 : decode cX7_readsAll 21 = .ok (.invokevirtual 297, 3) := by decide +kernel
theorem dX7_readsAll_24 : decode cX7_readsAll 24 = .ok (.bipush 59, 2) := by decide +kernel
theorem dX7_readsAll_26 : decode cX7_readsAll 26 = .ok (.if_icmp .ne 7, 3) := by decide +kernel
theorem dX7_readsAll_29 : decode cX7_readsAll 29 = .ok (.iconst 1, 1) := by decide +kernel
theorem dX7_readsAll_30 : decode cX7_readsAll 30 = .ok (.goto 4, 3) := by decide +kernel
theorem dX7_readsAll_33 : decode cX7_readsAll 33 = .ok (.iconst 0, 1) := by decide +kernel
theorem dX7_readsAll_34 : decode cX7_readsAll 34 = .ok (.istore_n 1, 1) := by decide +kernel
theorem dX7_readsAll_35 : decode cX7_readsAll 35 = .ok (.aload_n 0, 1) := by decide +kernel
theorem dX7_readsAll_36 : decode cX7_readsAll 36 = .ok (.dup, 1) := by decide +kernel
theorem dX7_readsAll_37 : decode cX7_readsAll 37 = .ok (.getfield 288, 3) := by decide +kernel
theorem dX7_readsAll_40 : decode cX7_readsAll 40 = .ok (.iload_n 1, 1) := by decide +kernel
theorem dX7_readsAll_41 : decode cX7_readsAll 41 = .ok (.ifCond .eq 7, 3) := by decide +kernel
theorem dX7_readsAll_44 : decode cX7_readsAll 44 = .ok (.iconst 1, 1) := by decide +kernel
theorem dX7_readsAll_45 : decode cX7_readsAll 45 = .ok (.goto 4, 3) := by decide +kernel
theorem dX7_readsAll_48 : decode cX7_readsAll 48 = .ok (.iconst 0, 1) := by decide +kernel
theorem dX7_readsAll_49 : decode cX7_readsAll 49 = .ok (.iadd, 1) := by decide +kernel
theorem dX7_readsAll_50 : decode cX7_readsAll 50 = .ok (.putfield 288, 3) := by decide +kernel
theorem dX7_readsAll_53 : decode cX7_readsAll 53 = .ok (.goto (-46), 3) := by decide +kernel
theorem dX7_readsAll_56 : decode cX7_readsAll 56 = .ok (.aload_n 0, 1) := by decide +kernel
theorem dX7_readsAll_57 : decode cX7_readsAll 57 = .ok (.invokevirtual 297, 3) := by decide +kernel
theorem dX7_readsAll_60 : decode cX7_readsAll 60 = .ok (.iconst (-1), 1) := by decide +kernel
theorem dX7_readsAll_61 : decode cX7_readsAll 61 = .ok (.if_icmp .eq 15, 3) := by decide +kernel
theorem dX7_readsAll_64 : decode cX7_readsAll 64 = .ok (.aload_n 0, 1) := by decide +kernel
theorem dX7_readsAll_65 : decode cX7_readsAll 65 = .ok (.iconst 1, 1) := by decide +kernel
theorem dX7_readsAll_66 : decode cX7_readsAll 66 = .ok (.aload_n 0, 1) := by decide +kernel
theorem dX7_readsAll_67 : decode cX7_readsAll 67 = .ok (.getfield 288, 3) := by decide +kernel
theorem dX7_readsAll_70 : decode cX7_readsAll 70 = .ok (.invokevirtual 308, 3) := by decide +kernel
theorem dX7_readsAll_73 : decode cX7_readsAll 73 = .ok (.ifCond .eq 7, 3) := by decide +kernel
theorem dX7_readsAll_76 : decode cX7_readsAll 76 = .ok (.iconst 1, 1) := by decide +kernel
theorem dX7_readsAll_77 : decode cX7_readsAll 77 = .ok (.goto 4, 3) := by decide +kernel
theorem dX7_readsAll_80 : decode cX7_readsAll 80 = .ok (.iconst 0, 1) := by decide +kernel
theorem dX7_readsAll_81 : decode cX7_readsAll 81 = .ok (.ireturn, 1) := by decide +kernel
theorem dX7_tell_0 : decode cX7_tell 0 = .ok (.aload_n 0, 1) := by decide +kernel
theorem dX7_tell_1 : decode cX7_tell 1 = .ok (.invokevirtual 202, 3) := by decide +kernel
theorem dX7_tell_4 : decode cX7_tell 4 = .ok (.aload_n 0, 1) := by decide +kernel
theorem dX7_tell_5 : decode cX7_tell 5 = .ok (.getfield 7, 3) := by decide +kernel
theorem dX7_tell_8 : decode cX7_tell 8 = .ok (.invokestatic 48, 3) := by decide +kernel
theorem dX7_tell_11 : decode cX7_tell 11 = .ok (.aload_n 0, 1) := by decide +kernel
theorem dX7_tell_12 : decode cX7_tell 12 = .ok (.invokevirtual 347, 3) := by decide +kernel
theorem dX7_tell_15 : decode cX7_tell 15 = .ok (.istore_n 1, 1) := by decide +kernel
theorem dX7_tell_16 : decode cX7_tell 16 = .ok (.aload_n 0, 1) := by decide +kernel
theorem dX7_tell_17 : decode cX7_tell 17 = .ok (.iconst 0, 1) := by decide +kernel
theorem dX7_tell_18 : decode cX7_tell 18 = .ok (.putfield 282, 3) := by decide +kernel
theorem dX7_tell_21 : decode cX7_tell 21 = .ok (.aload_n 0, 1) := by decide +kernel
theorem dX7_tell_22 : decode cX7_tell 22 = .ok (.iconst 0, 1) := by decide +kernel
theorem dX7_tell_23 : decode cX7_tell 23 = .ok (.putfield 107, 3) := by decide +kernel
theorem dX7_tell_26 : decode cX7_tell 26 = .ok (.iload_n 1, 1) := by decide +kernel
theorem dX7_tell_27 : decode cX7_tell 27 = .ok (.ifCond .ne 20, 3) := by decide +kernel
theorem dX7_tell_30 : decode cX7_tell 30 = .ok (.aload_n 0, 1) := by decide +kernel
theorem dX7_tell_31 : decode cX7_tell 31 = .ok (.aload_n 0, 1) := by decide +kernel
theorem dX7_tell_32 : decode cX7_tell 32 = .ok (.getfield 41, 3) := by decide +kernel
theorem dX7_tell_35 : decode cX7_tell 35 = .ok (.iconst 0, 1) := by decide +kernel
theorem dX7_tell_36 : decode cX7_tell 36 = .ok (.invokevirtual 205, 3) := by decide +kernel
theorem dX7_tell_39 : decode cX7_tell 39 = .ok (.bipush (-2), 2) := by decide +kernel
theorem dX7_tell_41 : decode cX7_tell 41 = .ok (.aload_n 0, 1) := by decide +kernel
theorem dX7_tell_42 : decode cX7_tell 42 = .ok (.getfield 294, 3) := by decide +kernel
theorem dX7_tell_45 : decode cX7_tell 45 = .ok (.isub, 1) := by decide +kernel
theorem dX7_tell_46 : decode cX7_tell 46 = .ok (.ireturn, 1) := by decide +kernel
theorem dX7_tell_47 : decode cX7_tell 47 = .ok (.aload_n 0, 1) := by decide +kernel
theorem dX7_tell_48 : decode cX7_tell 48 = .ok (.iconst 0, 1) := by decide +kernel
theorem dX7_tell_49 : decode cX7_tell 49 = .ok (.putfield 209, 3) := by decide +kernel
theorem dX7_tell_52 : decode cX7_tell 52 = .ok (.aload_n 0, 1) := by decide +kernel
theorem dX7_tell_53 : decode cX7_tell 53 = .ok (.getfield 7, 3) := by decide +kernel
theorem dX7_tell_56 : decode cX7_tell 56 = .ok (.iconst 2, 1) := by decide +kernel
theorem dX7_tell_57 : decode cX7_tell 57 = .ok (.iaload, 1) := by decide +kernel
theorem dX7_tell_58 : decode cX7_tell 58 = .ok (.ireturn, 1) := by decide +kernel
theorem dX7_swap_0 : decode cX7_swap 0 = .ok (.aload_n 0, 1) := by decide +kernel
theorem dX7_swap_1 : decode cX7_swap 1 = .ok (.iload_n 1, 1) := by decide +kernel
theorem dX7_swap_2 : decode cX7_swap 2 = .ok (.invokevirtual 226, 3) := by decide +kernel
theorem dX7_swap_5 : decode cX7_swap 5 = .ok (.ifCond .eq 16, 3) := by decide +kernel
theorem dX7_swap_8 : decode cX7_swap 8 = .ok (.aload_n 0, 1) := by decide +kernel
theorem dX7_swap_9 : decode cX7_swap 9 = .ok (.iload_n 2, 1) := by decide +kernel
theorem dX7_swap_10 : decode cX7_swap 10 = .ok (.invokevirtual 226, 3) := by decide +kernel
theorem dX7_swap_13 : decode cX7_swap 13 = .ok (.ifCond .eq 8, 3) := by decide +kernel
theorem dX7_swap_16 : decode cX7_swap 16 = .ok (.iload_n 1, 1) := by decide +kernel
theorem dX7_swap_17 : decode cX7_swap 17 = .ok (.iload_n 2, 1) := by decide +kernel
theorem dX7_swap_18 : decode cX7_swap 18 = .ok (.if_icmp .ne 5, 3) := by decide +kernel
theorem dX7_swap_21 : decode cX7_swap 21 = .ok (.iconst (-1), 1) := by decide +kernel
theorem dX7_swap_22 : decode cX7_swap 22 = .ok (.ireturn, 1) := by decide +kernel
theorem dX7_swap_23 : decode cX7_swap 23 = .ok (.aload_n 0, 1) := by decide +kernel
theorem dX7_swap_24 : decode cX7_swap 24 = .ok (.iload_n 1, 1) := by decide +kernel
theorem dX7_swap_25 : decode cX7_swap 25 = .ok (.iconst 3, 1) := by decide +kernel
theorem dX7_swap_26 : decode cX7_swap 26 = .ok (.invokevirtual 58, 3) := by decide +kernel
theorem dX7_swap_29 : decode cX7_swap 29 = .ok (.istore_n 3, 1) := by decide +kernel
theorem dX7_swap_30 : decode cX7_swap 30 = .ok (.aload_n 0, 1) := by decide +kernel
theorem dX7_swap_31 : decode cX7_swap 31 = .ok (.iload_n 2, 1) := by decide +kernel
theorem dX7_swap_32 : decode cX7_swap 32 = .ok (.iconst 3, 1) := by decide +kernel
theorem dX7_swap_33 : decode cX7_swap 33 = .ok (.invokevirtual 58, 3) := by decide +kernel
theorem dX7_swap_36 : decode cX7_swap 36 = .ok (.istore 4, 2) := by decide +kernel
theorem dX7_swap_38 : decode cX7_swap 38 = .ok (.iload_n 3, 1) := by decide +kernel
theorem dX7_swap_39 : decode cX7_swap 39 = .ok (.iload 4, 2) := by decide +kernel
theorem dX7_swap_41 : decode cX7_swap 41 = .ok (.if_icmp .ne 6, 3) := by decide +kernel
theorem dX7_swap_44 : decode cX7_swap 44 = .ok (.bipush (-2), 2) := by decide +kernel
theorem dX7_swap_46 : decode cX7_swap 46 = .ok (.ireturn, 1) := by decide +kernel
theorem dX7_swap_47 : decode cX7_swap 47 = .ok (.aload_n 0, 1) := by decide +kernel
theorem dX7_swap_48 : decode cX7_swap 48 = .ok (.invokevirtual 216, 3) := by decide +kernel
theorem dX7_swap_51 : decode cX7_swap 51 = .ok (.aload_n 0, 1) := by decide +kernel
theorem dX7_swap_52 : decode cX7_swap 52 = .ok (.iload_n 1, 1) := by decide +kernel
theorem dX7_swap_53 : decode cX7_swap 53 = .ok (.iconst 3, 1) := by decide +kernel
theorem dX7_swap_54 : decode cX7_swap 54 = .ok (.iload 4, 2) := by decide +kernel
theorem dX7_swap_56 : decode cX7_swap 56 = .ok (.invokevirtual 212, 3) := by decide +kernel
theorem dX7_swap_59 : decode cX7_swap 59 = .ok (.aload_n 0, 1) := by decide +kernel
theorem dX7_swap_60 : decode cX7_swap 60 = .ok (.iload_n 2, 1) := by decide +kernel
theorem dX7_swap_61 : decode cX7_swap 61 = .ok (.iconst 3, 1) := by decide +kernel
theorem dX7_swap_62 : decode cX7_swap 62 = .ok (.iload_n 3, 1) := by decide +kernel
theorem dX7_swap_63 : decode cX7_swap 63 = .ok (.invokevirtual 212, 3) := by decide +kernel
theorem dX7_swap_66 : decode cX7_swap 66 = .ok (.iconst 1, 1) := by decide +kernel
theorem dX7_swap_67 : decode cX7_swap 67 = .ok (.ireturn, 1) := by decide +kernel
theorem dX7_heavier_0 : decode cX7_heavier 0 = .ok (.iload_n 0, 1) := by decide +kernel
theorem dX7_heavier_1 : decode cX7_heavier 1 = .ok (.iload_n 1, 1) := by decide +kernel
theorem dX7_heavier_2 : decode cX7_heavier 2 = .ok (.imul, 1) := by decide +kernel
theorem dX7_heavier_3 : decode cX7_heavier 3 = .ok (.bipush 20, 2) := by decide +kernel
theorem dX7_heavier_5 : decode cX7_heavier 5 = .ok (.if_icmp .le 8, 3) := by decide +kernel
theorem dX7_heavier_8 : decode cX7_heavier 8 = .ok (.bipush 20, 2) := by decide +kernel
theorem dX7_heavier_10 : decode cX7_heavier 10 = .ok (.goto 6, 3) := by decide +kernel
theorem dX7_heavier_13 : decode cX7_heavier 13 = .ok (.iload_n 0, 1) := by decide +kernel
theorem dX7_heavier_14 : decode cX7_heavier 14 = .ok (.iload_n 1, 1) := by decide +kernel
theorem dX7_heavier_15 : decode cX7_heavier 15 = .ok (.imul, 1) := by decide +kernel
theorem dX7_heavier_16 : decode cX7_heavier 16 = .ok (.ireturn, 1) := by decide +kernel
theorem dX7_weighAll_0 : decode cX7_weighAll 0 = .ok (.iload_n 1, 1) := by decide +kernel
theorem dX7_weighAll_1 : decode cX7_weighAll 1 = .ok (.invokestatic 143, 3) := by decide +kernel
theorem dX7_weighAll_4 : decode cX7_weighAll 4 = .ok (.ifCond .eq 17, 3) := by decide +kernel
theorem dX7_weighAll_7 : decode cX7_weighAll 7 = .ok (.iload_n 2, 1) := by decide +kernel
theorem dX7_weighAll_8 : decode cX7_weighAll 8 = .ok (.i2l, 1) := by decide +kernel
theorem dX7_weighAll_9 : decode cX7_weighAll 9 = .ok (.ldc2_w 350, 3) := by decide +kernel
theorem dX7_weighAll_12 : decode cX7_weighAll 12 = .ok (.ldc2_w 161, 3) := by decide +kernel
theorem dX7_weighAll_15 : decode cX7_weighAll 15 = .ok (.invokestatic 54, 3) := by decide +kernel
theorem dX7_weighAll_18 : decode cX7_weighAll 18 = .ok (.ifCond .ne 5, 3) := by decide +kernel
theorem dX7_weighAll_21 : decode cX7_weighAll 21 = .ok (.iconst (-1), 1) := by decide +kernel
theorem dX7_weighAll_22 : decode cX7_weighAll 22 = .ok (.ireturn, 1) := by decide +kernel
theorem dX7_weighAll_23 : decode cX7_weighAll 23 = .ok (.iconst 0, 1) := by decide +kernel
theorem dX7_weighAll_24 : decode cX7_weighAll 24 = .ok (.istore_n 3, 1) := by decide +kernel
theorem dX7_weighAll_25 : decode cX7_weighAll 25 = .ok (.iconst 0, 1) := by decide +kernel
theorem dX7_weighAll_26 : decode cX7_weighAll 26 = .ok (.istore 4, 2) := by decide +kernel
theorem dX7_weighAll_28 : decode cX7_weighAll 28 = .ok (.iload 4, 2) := by decide +kernel
theorem dX7_weighAll_30 : decode cX7_weighAll 30 = .ok (.aload_n 0, 1) := by decide +kernel
theorem dX7_weighAll_31 : decode cX7_weighAll 31 = .ok (.getfield 7, 3) := by decide +kernel
theorem dX7_weighAll_34 : decode cX7_weighAll 34 = .ok (.iconst 2, 1) := by decide +kernel
theorem dX7_weighAll_35 : decode cX7_weighAll 35 = .ok (.iaload, 1) := by decide +kernel
theorem dX7_weighAll_36 : decode cX7_weighAll 36 = .ok (.if_icmp .ge 39, 3) := by decide +kernel
theorem dX7_weighAll_39 : decode cX7_weighAll 39 = .ok (.iload_n 3, 1) := by decide +kernel
theorem dX7_weighAll_40 : decode cX7_weighAll 40 = .ok (.aload_n 0, 1) := by decide +kernel
theorem dX7_weighAll_41 : decode cX7_weighAll 41 = .ok (.iload 4, 2) := by decide +kernel
theorem dX7_weighAll_43 : decode cX7_weighAll 43 = .ok (.invokevirtual 62, 3) := by decide +kernel
theorem dX7_weighAll_46 : decode cX7_weighAll 46 = .ok (.iload_n 1, 1) := by decide +kernel
theorem dX7_weighAll_47 : decode cX7_weighAll 47 = .ok (.if_icmp .ne 19, 3) := by decide +kernel
theorem dX7_weighAll_50 : decode cX7_weighAll 50 = .ok (.aload_n 0, 1) := by decide +kernel
theorem dX7_weighAll_51 : decode cX7_weighAll 51 = .ok (.iload 4, 2) := by decide +kernel
theorem dX7_weighAll_53 : decode cX7_weighAll 53 = .ok (.iconst 2, 1) := by decide +kernel
theorem dX7_weighAll_54 : decode cX7_weighAll 54 = .ok (.invokevirtual 58, 3) := by decide +kernel
theorem dX7_weighAll_57 : decode cX7_weighAll 57 = .ok (.bipush 20, 2) := by decide +kernel
theorem dX7_weighAll_59 : decode cX7_weighAll 59 = .ok (.if_icmp .ge 7, 3) := by decide +kernel
theorem dX7_weighAll_62 : decode cX7_weighAll 62 = .ok (.iconst 1, 1) := by decide +kernel
theorem dX7_weighAll_63 : decode cX7_weighAll 63 = .ok (.goto 4, 3) := by decide +kernel
theorem dX7_weighAll_66 : decode cX7_weighAll 66 = .ok (.iconst 0, 1) := by decide +kernel
theorem dX7_weighAll_67 : decode cX7_weighAll 67 = .ok (.iadd, 1) := by decide +kernel
theorem dX7_weighAll_68 : decode cX7_weighAll 68 = .ok (.istore_n 3, 1) := by decide +kernel
theorem dX7_weighAll_69 : decode cX7_weighAll 69 = .ok (.iinc 4 1, 3) := by decide +kernel
theorem dX7_weighAll_72 : decode cX7_weighAll 72 = .ok (.goto (-44), 3) := by decide +kernel
theorem dX7_weighAll_75 : decode cX7_weighAll 75 = .ok (.iload_n 3, 1) := by decide +kernel
theorem dX7_weighAll_76 : decode cX7_weighAll 76 = .ok (.ifCond .ne 6, 3) := by decide +kernel
theorem dX7_weighAll_79 : decode cX7_weighAll 79 = .ok (.bipush (-2), 2) := by decide +kernel
theorem dX7_weighAll_81 : decode cX7_weighAll 81 = .ok (.ireturn, 1) := by decide +kernel
theorem dX7_weighAll_82 : decode cX7_weighAll 82 = .ok (.aload_n 0, 1) := by decide +kernel
theorem dX7_weighAll_83 : decode cX7_weighAll 83 = .ok (.invokevirtual 216, 3) := by decide +kernel
theorem dX7_weighAll_86 : decode cX7_weighAll 86 = .ok (.iconst 0, 1) := by decide +kernel
theorem dX7_weighAll_87 : decode cX7_weighAll 87 = .ok (.istore 4, 2) := by decide +kernel
theorem dX7_weighAll_89 : decode cX7_weighAll 89 = .ok (.iload 4, 2) := by decide +kernel
theorem dX7_weighAll_91 : decode cX7_weighAll 91 = .ok (.aload_n 0, 1) := by decide +kernel
theorem dX7_weighAll_92 : decode cX7_weighAll 92 = .ok (.getfield 7, 3) := by decide +kernel
theorem dX7_weighAll_95 : decode cX7_weighAll 95 = .ok (.iconst 2, 1) := by decide +kernel
theorem dX7_weighAll_96 : decode cX7_weighAll 96 = .ok (.iaload, 1) := by decide +kernel
theorem dX7_weighAll_97 : decode cX7_weighAll 97 = .ok (.if_icmp .ge 37, 3) := by decide +kernel
theorem dX7_weighAll_100 : decode cX7_weighAll 100 = .ok (.aload_n 0, 1) := by decide +kernel
theorem dX7_weighAll_101 : decode cX7_weighAll 101 = .ok (.iload 4, 2) := by decide +kernel
theorem dX7_weighAll_103 : decode cX7_weighAll 103 = .ok (.invokevirtual 62, 3) := by decide +kernel
theorem dX7_weighAll_106 : decode cX7_weighAll 106 = .ok (.iload_n 1, 1) := by decide +kernel
theorem dX7_weighAll_107 : decode cX7_weighAll 107 = .ok (.if_icmp .ne 21, 3) := by decide +kernel
theorem dX7_weighAll_110 : decode cX7_weighAll 110 = .ok (.aload_n 0, 1) := by decide +kernel
theorem dX7_weighAll_111 : decode cX7_weighAll 111 = .ok (.iload 4, 2) := by decide +kernel
theorem dX7_weighAll_113 : decode cX7_weighAll 113 = .ok (.iconst 2, 1) := by decide +kernel
theorem dX7_weighAll_114 : decode cX7_weighAll 114 = .ok (.aload_n 0, 1) := by decide +kernel
theorem dX7_weighAll_115 : decode cX7_weighAll 115 = .ok (.iload 4, 2) := by decide +kernel
theorem dX7_weighAll_117 : decode cX7_weighAll 117 = .ok (.iconst 2, 1) := by decide +kernel
theorem dX7_weighAll_118 : decode cX7_weighAll 118 = .ok (.invokevirtual 58, 3) := by decide +kernel
theorem dX7_weighAll_121 : decode cX7_weighAll 121 = .ok (.iload_n 2, 1) := by decide +kernel
theorem dX7_weighAll_122 : decode cX7_weighAll 122 = .ok (.invokestatic 352, 3) := by decide +kernel
theorem dX7_weighAll_125 : decode cX7_weighAll 125 = .ok (.invokevirtual 212, 3) := by decide +kernel
theorem dX7_weighAll_128 : decode cX7_weighAll 128 = .ok (.iinc 4 1, 3) := by decide +kernel
theorem dX7_weighAll_131 : decode cX7_weighAll 131 = .ok (.goto (-42), 3) := by decide +kernel
theorem dX7_weighAll_134 : decode cX7_weighAll 134 = .ok (.iload_n 3, 1) := by decide +kernel
theorem dX7_weighAll_135 : decode cX7_weighAll 135 = .ok (.ireturn, 1) := by decide +kernel
theorem dX7_split_0 : decode cX7_split 0 = .ok (.iload_n 1, 1) := by decide +kernel
theorem dX7_split_1 : decode cX7_split 1 = .ok (.invokestatic 143, 3) := by decide +kernel
theorem dX7_split_4 : decode cX7_split 4 = .ok (.ifCond .eq 27, 3) := by decide +kernel
theorem dX7_split_7 : decode cX7_split 7 = .ok (.iload_n 3, 1) := by decide +kernel
theorem dX7_split_8 : decode cX7_split 8 = .ok (.invokestatic 143, 3) := by decide +kernel
theorem dX7_split_11 : decode cX7_split 11 = .ok (.ifCond .eq 20, 3) := by decide +kernel
theorem dX7_split_14 : decode cX7_split 14 = .ok (.iload_n 1, 1) := by decide +kernel
theorem dX7_split_15 : decode cX7_split 15 = .ok (.iload_n 3, 1) := by decide +kernel
theorem dX7_split_16 : decode cX7_split 16 = .ok (.if_icmp .eq 15, 3) := by decide +kernel
theorem dX7_split_19 : decode cX7_split 19 = .ok (.iload_n 2, 1) := by decide +kernel
theorem dX7_split_20 : decode cX7_split 20 = .ok (.i2l, 1) := by decide +kernel
theorem dX7_split_21 : decode cX7_split 21 = .ok (.lconst 0, 1) := by decide +kernel
theorem dX7_split_22 : decode cX7_split 22 = .ok (.ldc2_w 194, 3) := by decide +kernel
theorem dX7_split_25 : decode cX7_split 25 = .ok (.invokestatic 54, 3) := by decide +kernel
theorem dX7_split_28 : decode cX7_split 28 = .ok (.ifCond .ne 5, 3) := by decide +kernel
theorem dX7_split_31 : decode cX7_split 31 = .ok (.iconst (-1), 1) := by decide +kernel
theorem dX7_split_32 : decode cX7_split 32 = .ok (.ireturn, 1) := by decide +kernel
theorem dX7_split_33 : decode cX7_split 33 = .ok (.iconst 0, 1) := by decide +kernel
theorem dX7_split_34 : decode cX7_split 34 = .ok (.istore 4, 2) := by decide +kernel
theorem dX7_split_36 : decode cX7_split 36 = .ok (.iconst 0, 1) := by decide +kernel
theorem dX7_split_37 : decode cX7_split 37 = .ok (.istore 5, 2) := by decide +kernel
theorem dX7_split_39 : decode cX7_split 39 = .ok (.iload 5, 2) := by decide +kernel
theorem dX7_split_41 : decode cX7_split 41 = .ok (.aload_n 0, 1) := by decide +kernel
theorem dX7_split_42 : decode cX7_split 42 = .ok (.getfield 7, 3) := by decide +kernel
theorem dX7_split_45 : decode cX7_split 45 = .ok (.iconst 2, 1) := by decide +kernel
theorem dX7_split_46 : decode cX7_split 46 = .ok (.iaload, 1) := by decide +kernel
theorem dX7_split_47 : decode cX7_split 47 = .ok (.if_icmp .ge 40, 3) := by decide +kernel
theorem dX7_split_50 : decode cX7_split 50 = .ok (.iload 4, 2) := by decide +kernel
theorem dX7_split_52 : decode cX7_split 52 = .ok (.aload_n 0, 1) := by decide +kernel
theorem dX7_split_53 : decode cX7_split 53 = .ok (.iload 5, 2) := by decide +kernel
theorem dX7_split_55 : decode cX7_split 55 = .ok (.invokevirtual 62, 3) := by decide +kernel
theorem dX7_split_58 : decode cX7_split 58 = .ok (.iload_n 1, 1) := by decide +kernel
theorem dX7_split_59 : decode cX7_split 59 = .ok (.if_icmp .ne 18, 3) := by decide +kernel
theorem dX7_split_62 : decode cX7_split 62 = .ok (.aload_n 0, 1) := by decide +kernel
theorem dX7_split_63 : decode cX7_split 63 = .ok (.iload 5, 2) := by decide +kernel
theorem dX7_split_65 : decode cX7_split 65 = .ok (.iconst 1, 1) := by decide +kernel
theorem dX7_split_66 : decode cX7_split 66 = .ok (.invokevirtual 58, 3) := by decide +kernel
theorem dX7_split_69 : decode cX7_split 69 = .ok (.iload_n 2, 1) := by decide +kernel
theorem dX7_split_70 : decode cX7_split 70 = .ok (.if_icmp .ne 7, 3) := by decide +kernel
theorem dX7_split_73 : decode cX7_split 73 = .ok (.iconst 1, 1) := by decide +kernel
theorem dX7_split_74 : decode cX7_split 74 = .ok (.goto 4, 3) := by decide +kernel
theorem dX7_split_77 : decode cX7_split 77 = .ok (.iconst 0, 1) := by decide +kernel
theorem dX7_split_78 : decode cX7_split 78 = .ok (.iadd, 1) := by decide +kernel
theorem dX7_split_79 : decode cX7_split 79 = .ok (.istore 4, 2) := by decide +kernel
theorem dX7_split_81 : decode cX7_split 81 = .ok (.iinc 5 1, 3) := by decide +kernel
theorem dX7_split_84 : decode cX7_split 84 = .ok (.goto (-45), 3) := by decide +kernel
theorem dX7_split_87 : decode cX7_split 87 = .ok (.iload 4, 2) := by decide +kernel
theorem dX7_split_89 : decode cX7_split 89 = .ok (.ifCond .ne 6, 3) := by decide +kernel
theorem dX7_split_92 : decode cX7_split 92 = .ok (.bipush (-2), 2) := by decide +kernel
theorem dX7_split_94 : decode cX7_split 94 = .ok (.ireturn, 1) := by decide +kernel
theorem dX7_split_95 : decode cX7_split 95 = .ok (.aload_n 0, 1) := by decide +kernel
theorem dX7_split_96 : decode cX7_split 96 = .ok (.invokevirtual 216, 3) := by decide +kernel
theorem dX7_split_99 : decode cX7_split 99 = .ok (.iconst 0, 1) := by decide +kernel
theorem dX7_split_100 : decode cX7_split 100 = .ok (.istore 5, 2) := by decide +kernel
theorem dX7_split_102 : decode cX7_split 102 = .ok (.iload 5, 2) := by decide +kernel
theorem dX7_split_104 : decode cX7_split 104 = .ok (.aload_n 0, 1) := by decide +kernel
theorem dX7_split_105 : decode cX7_split 105 = .ok (.getfield 7, 3) := by decide +kernel
theorem dX7_split_108 : decode cX7_split 108 = .ok (.iconst 2, 1) := by decide +kernel
theorem dX7_split_109 : decode cX7_split 109 = .ok (.iaload, 1) := by decide +kernel
theorem dX7_split_110 : decode cX7_split 110 = .ok (.if_icmp .ge 38, 3) := by decide +kernel
theorem dX7_split_113 : decode cX7_split 113 = .ok (.aload_n 0, 1) := by decide +kernel
theorem dX7_split_114 : decode cX7_split 114 = .ok (.iload 5, 2) := by decide +kernel
theorem dX7_split_116 : decode cX7_split 116 = .ok (.invokevirtual 62, 3) := by decide +kernel
theorem dX7_split_119 : decode cX7_split 119 = .ok (.iload_n 1, 1) := by decide +kernel
theorem dX7_split_120 : decode cX7_split 120 = .ok (.if_icmp .ne 22, 3) := by decide +kernel
theorem dX7_split_123 : decode cX7_split 123 = .ok (.aload_n 0, 1) := by decide +kernel
theorem dX7_split_124 : decode cX7_split 124 = .ok (.iload 5, 2) := by decide +kernel
theorem dX7_split_126 : decode cX7_split 126 = .ok (.iconst 1, 1) := by decide +kernel
theorem dX7_split_127 : decode cX7_split 127 = .ok (.invokevirtual 58, 3) := by decide +kernel
theorem dX7_split_130 : decode cX7_split 130 = .ok (.iload_n 2, 1) := by decide +kernel
theorem dX7_split_131 : decode cX7_split 131 = .ok (.if_icmp .ne 11, 3) := by decide +kernel
theorem dX7_split_134 : decode cX7_split 134 = .ok (.aload_n 0, 1) := by decide +kernel
theorem dX7_split_135 : decode cX7_split 135 = .ok (.iload 5, 2) := by decide +kernel
theorem dX7_split_137 : decode cX7_split 137 = .ok (.iconst 0, 1) := by decide +kernel
theorem dX7_split_138 : decode cX7_split 138 = .ok (.iload_n 3, 1) := by decide +kernel
theorem dX7_split_139 : decode cX7_split 139 = .ok (.invokevirtual 212, 3) := by decide +kernel
theorem dX7_split_142 : decode cX7_split 142 = .ok (.iinc 5 1, 3) := by decide +kernel
theorem dX7_split_145 : decode cX7_split 145 = .ok (.goto (-43), 3) := by decide +kernel
theorem dX7_split_148 : decode cX7_split 148 = .ok (.iload 4, 2) := by decide +kernel
theorem dX7_split_150 : decode cX7_split 150 = .ok (.ireturn, 1) := by decide +kernel
theorem dX7_isExpired_0 : decode cX7_isExpired 0 = .ok (.aload_n 0, 1) := by decide +kernel
theorem dX7_isExpired_1 : decode cX7_isExpired 1 = .ok (.iload_n 1, 1) := by decide +kernel
theorem dX7_isExpired_2 : decode cX7_isExpired 2 = .ok (.invokevirtual 70, 3) := by decide +kernel
theorem dX7_isExpired_5 : decode cX7_isExpired 5 = .ok (.ifCond .ne 15, 3) := by decide +kernel
theorem dX7_isExpired_8 : decode cX7_isExpired 8 = .ok (.aload_n 0, 1) := by decide +kernel
theorem dX7_isExpired_9 : decode cX7_isExpired 9 = .ok (.iload_n 1, 1) := by decide +kernel
theorem dX7_isExpired_10 : decode cX7_isExpired 10 = .ok (.invokevirtual 134, 3) := by decide +kernel
theorem dX7_isExpired_13 : decode cX7_isExpired 13 = .ok (.ifCond .ne 7, 3) := by decide +kernel
theorem dX7_isExpired_16 : decode cX7_isExpired 16 = .ok (.iconst 1, 1) := by decide +kernel
theorem dX7_isExpired_17 : decode cX7_isExpired 17 = .ok (.goto 4, 3) := by decide +kernel
theorem dX7_isExpired_20 : decode cX7_isExpired 20 = .ok (.iconst 0, 1) := by decide +kernel
theorem dX7_isExpired_21 : decode cX7_isExpired 21 = .ok (.ireturn, 1) := by decide +kernel
theorem dX7_purge_0 : decode cX7_purge 0 = .ok (.iconst 0, 1) := by decide +kernel
theorem dX7_purge_1 : decode cX7_purge 1 = .ok (.istore_n 1, 1) := by decide +kernel
theorem dX7_purge_2 : decode cX7_purge 2 = .ok (.iconst 0, 1) := by decide +kernel
theorem dX7_purge_3 : decode cX7_purge 3 = .ok (.istore_n 2, 1) := by decide +kernel
theorem dX7_purge_4 : decode cX7_purge 4 = .ok (.iload_n 2, 1) := by decide +kernel
theorem dX7_purge_5 : decode cX7_purge 5 = .ok (.aload_n 0, 1) := by decide +kernel
theorem dX7_purge_6 : decode cX7_purge 6 = .ok (.getfield 7, 3) := by decide +kernel
theorem dX7_purge_9 : decode cX7_purge 9 = .ok (.iconst 2, 1) := by decide +kernel
theorem dX7_purge_10 : decode cX7_purge 10 = .ok (.iaload, 1) := by decide +kernel
theorem dX7_purge_11 : decode cX7_purge 11 = .ok (.if_icmp .ge 25, 3) := by decide +kernel
theorem dX7_purge_14 : decode cX7_purge 14 = .ok (.iload_n 1, 1) := by decide +kernel
theorem dX7_purge_15 : decode cX7_purge 15 = .ok (.aload_n 0, 1) := by decide +kernel
theorem dX7_purge_16 : decode cX7_purge 16 = .ok (.iload_n 2, 1) := by decide +kernel
theorem dX7_purge_17 : decode cX7_purge 17 = .ok (.invokevirtual 355, 3) := by decide +kernel
theorem dX7_purge_20 : decode cX7_purge 20 = .ok (.ifCond .eq 7, 3) := by decide +kernel
theorem dX7_purge_23 : decode cX7_purge 23 = .ok (.iconst 1, 1) := by decide +kernel
theorem dX7_purge_24 : decode cX7_purge 24 = .ok (.goto 4, 3) := by decide +kernel
theorem dX7_purge_27 : decode cX7_purge 27 = .ok (.iconst 0, 1) := by decide +kernel
theorem dX7_purge_28 : decode cX7_purge 28 = .ok (.iadd, 1) := by decide +kernel
theorem dX7_purge_29 : decode cX7_purge 29 = .ok (.istore_n 1, 1) := by decide +kernel
theorem dX7_purge_30 : decode cX7_purge 30 = .ok (.iinc 2 1, 3) := by decide +kernel
theorem dX7_purge_33 : decode cX7_purge 33 = .ok (.goto (-29), 3) := by decide +kernel
theorem dX7_purge_36 : decode cX7_purge 36 = .ok (.iload_n 1, 1) := by decide +kernel
theorem dX7_purge_37 : decode cX7_purge 37 = .ok (.ifCond .ne 6, 3) := by decide +kernel
theorem dX7_purge_40 : decode cX7_purge 40 = .ok (.bipush (-2), 2) := by decide +kernel
theorem dX7_purge_42 : decode cX7_purge 42 = .ok (.ireturn, 1) := by decide +kernel
theorem dX7_purge_43 : decode cX7_purge 43 = .ok (.aload_n 0, 1) := by decide +kernel
theorem dX7_purge_44 : decode cX7_purge 44 = .ok (.invokevirtual 216, 3) := by decide +kernel
theorem dX7_purge_47 : decode cX7_purge 47 = .ok (.iconst 0, 1) := by decide +kernel
theorem dX7_purge_48 : decode cX7_purge 48 = .ok (.istore_n 2, 1) := by decide +kernel
theorem dX7_purge_49 : decode cX7_purge 49 = .ok (.iload_n 2, 1) := by decide +kernel
theorem dX7_purge_50 : decode cX7_purge 50 = .ok (.aload_n 0, 1) := by decide +kernel
theorem dX7_purge_51 : decode cX7_purge 51 = .ok (.getfield 7, 3) := by decide +kernel
theorem dX7_purge_54 : decode cX7_purge 54 = .ok (.iconst 2, 1) := by decide +kernel
theorem dX7_purge_55 : decode cX7_purge 55 = .ok (.iaload, 1) := by decide +kernel
theorem dX7_purge_56 : decode cX7_purge 56 = .ok (.if_icmp .ge 30, 3) := by decide +kernel
theorem dX7_purge_59 : decode cX7_purge 59 = .ok (.aload_n 0, 1) := by decide +kernel
theorem dX7_purge_60 : decode cX7_purge 60 = .ok (.iload_n 2, 1) := by decide +kernel
theorem dX7_purge_61 : decode cX7_purge 61 = .ok (.invokevirtual 355, 3) := by decide +kernel
theorem dX7_purge_64 : decode cX7_purge 64 = .ok (.ifCond .eq 16, 3) := by decide +kernel
theorem dX7_purge_67 : decode cX7_purge 67 = .ok (.aload_n 0, 1) := by decide +kernel
theorem dX7_purge_68 : decode cX7_purge 68 = .ok (.iload_n 2, 1) := by decide +kernel
theorem dX7_purge_69 : decode cX7_purge 69 = .ok (.iconst 0, 1) := by decide +kernel
theorem dX7_purge_70 : decode cX7_purge 70 = .ok (.iconst 4, 1) := by decide +kernel
theorem dX7_purge_71 : decode cX7_purge 71 = .ok (.aload_n 0, 1) := by decide +kernel
theorem dX7_purge_72 : decode cX7_purge 72 = .ok (.iload_n 2, 1) := by decide +kernel
theorem dX7_purge_73 : decode cX7_purge 73 = .ok (.invokevirtual 62, 3) := by decide +kernel
theorem dX7_purge_76 : decode cX7_purge 76 = .ok (.iadd, 1) := by decide +kernel
theorem dX7_purge_77 : decode cX7_purge 77 = .ok (.invokevirtual 212, 3) := by decide +kernel
theorem dX7_purge_80 : decode cX7_purge 80 = .ok (.iinc 2 1, 3) := by decide +kernel
theorem dX7_purge_83 : decode cX7_purge 83 = .ok (.goto (-34), 3) := by decide +kernel
theorem dX7_purge_86 : decode cX7_purge 86 = .ok (.iload_n 1, 1) := by decide +kernel
theorem dX7_purge_87 : decode cX7_purge 87 = .ok (.ireturn, 1) := by decide +kernel
theorem dX7_lots_0 : decode cX7_lots 0 = .ok (.aload_n 0, 1) := by decide +kernel
theorem dX7_lots_1 : decode cX7_lots 1 = .ok (.iload_n 1, 1) := by decide +kernel
theorem dX7_lots_2 : decode cX7_lots 2 = .ok (.invokevirtual 66, 3) := by decide +kernel
theorem dX7_lots_5 : decode cX7_lots 5 = .ok (.ifCond .eq 15, 3) := by decide +kernel
theorem dX7_lots_8 : decode cX7_lots 8 = .ok (.iload_n 2, 1) := by decide +kernel
theorem dX7_lots_9 : decode cX7_lots 9 = .ok (.i2l, 1) := by decide +kernel
theorem dX7_lots_10 : decode cX7_lots 10 = .ok (.lconst 1, 1) := by decide +kernel
theorem dX7_lots_11 : decode cX7_lots 11 = .ok (.ldc2_w 161, 3) := by decide +kernel
theorem dX7_lots_14 : decode cX7_lots 14 = .ok (.invokestatic 54, 3) := by decide +kernel
theorem dX7_lots_17 : decode cX7_lots 17 = .ok (.ifCond .ne 5, 3) := by decide +kernel
theorem dX7_lots_20 : decode cX7_lots 20 = .ok (.iconst (-1), 1) := by decide +kernel
theorem dX7_lots_21 : decode cX7_lots 21 = .ok (.ireturn, 1) := by decide +kernel
theorem dX7_lots_22 : decode cX7_lots 22 = .ok (.aload_n 0, 1) := by decide +kernel
theorem dX7_lots_23 : decode cX7_lots 23 = .ok (.iload_n 1, 1) := by decide +kernel
theorem dX7_lots_24 : decode cX7_lots 24 = .ok (.invokevirtual 70, 3) := by decide +kernel
theorem dX7_lots_27 : decode cX7_lots 27 = .ok (.ifCond .eq 6, 3) := by decide +kernel
theorem dX7_lots_30 : decode cX7_lots 30 = .ok (.bipush (-2), 2) := by decide +kernel
theorem dX7_lots_32 : decode cX7_lots 32 = .ok (.ireturn, 1) := by decide +kernel
theorem dX7_lots_33 : decode cX7_lots 33 = .ok (.iconst 0, 1) := by decide +kernel
theorem dX7_lots_34 : decode cX7_lots 34 = .ok (.istore_n 3, 1) := by decide +kernel
theorem dX7_lots_35 : decode cX7_lots 35 = .ok (.iconst 1, 1) := by decide +kernel
theorem dX7_lots_36 : decode cX7_lots 36 = .ok (.istore 4, 2) := by decide +kernel
theorem dX7_lots_38 : decode cX7_lots 38 = .ok (.iload 4, 2) := by decide +kernel
theorem dX7_lots_40 : decode cX7_lots 40 = .ok (.sipush 1023, 3) := by decide +kernel
theorem dX7_lots_43 : decode cX7_lots 43 = .ok (.if_icmp .gt 30, 3) := by decide +kernel
theorem dX7_lots_46 : decode cX7_lots 46 = .ok (.iload_n 3, 1) := by decide +kernel
theorem dX7_lots_47 : decode cX7_lots 47 = .ok (.aload_n 0, 1) := by decide +kernel
theorem dX7_lots_48 : decode cX7_lots 48 = .ok (.bipush 100, 2) := by decide +kernel
theorem dX7_lots_50 : decode cX7_lots 50 = .ok (.iload 4, 2) := by decide +kernel
theorem dX7_lots_52 : decode cX7_lots 52 = .ok (.iload_n 2, 1) := by decide +kernel
theorem dX7_lots_53 : decode cX7_lots 53 = .ok (.iload_n 1, 1) := by decide +kernel
theorem dX7_lots_54 : decode cX7_lots 54 = .ok (.invokevirtual 90, 3) := by decide +kernel
theorem dX7_lots_57 : decode cX7_lots 57 = .ok (.ifCond .eq 7, 3) := by decide +kernel
theorem dX7_lots_60 : decode cX7_lots 60 = .ok (.iconst 1, 1) := by decide +kernel
theorem dX7_lots_61 : decode cX7_lots 61 = .ok (.goto 4, 3) := by decide +kernel
theorem dX7_lots_64 : decode cX7_lots 64 = .ok (.iconst 0, 1) := by decide +kernel
theorem dX7_lots_65 : decode cX7_lots 65 = .ok (.iadd, 1) := by decide +kernel
theorem dX7_lots_66 : decode cX7_lots 66 = .ok (.istore_n 3, 1) := by decide +kernel
theorem dX7_lots_67 : decode cX7_lots 67 = .ok (.iinc 4 1, 3) := by decide +kernel
theorem dX7_lots_70 : decode cX7_lots 70 = .ok (.goto (-32), 3) := by decide +kernel
theorem dX7_lots_73 : decode cX7_lots 73 = .ok (.iload_n 3, 1) := by decide +kernel
theorem dX7_lots_74 : decode cX7_lots 74 = .ok (.ireturn, 1) := by decide +kernel
theorem dX7_kindsOf_0 : decode cX7_kindsOf 0 = .ok (.aload_n 0, 1) := by decide +kernel
theorem dX7_kindsOf_1 : decode cX7_kindsOf 1 = .ok (.iload_n 1, 1) := by decide +kernel
theorem dX7_kindsOf_2 : decode cX7_kindsOf 2 = .ok (.invokevirtual 128, 3) := by decide +kernel
theorem dX7_kindsOf_5 : decode cX7_kindsOf 5 = .ok (.aload_n 0, 1) := by decide +kernel
theorem dX7_kindsOf_6 : decode cX7_kindsOf 6 = .ok (.iload_n 2, 1) := by decide +kernel
theorem dX7_kindsOf_7 : decode cX7_kindsOf 7 = .ok (.invokevirtual 131, 3) := by decide +kernel
theorem dX7_kindsOf_10 : decode cX7_kindsOf 10 = .ok (.iconst 0, 1) := by decide +kernel
theorem dX7_kindsOf_11 : decode cX7_kindsOf 11 = .ok (.istore_n 3, 1) := by decide +kernel
theorem dX7_kindsOf_12 : decode cX7_kindsOf 12 = .ok (.iconst 0, 1) := by decide +kernel
theorem dX7_kindsOf_13 : decode cX7_kindsOf 13 = .ok (.istore 4, 2) := by decide +kernel
theorem dX7_kindsOf_15 : decode cX7_kindsOf 15 = .ok (.iload 4, 2) := by decide +kernel
theorem dX7_kindsOf_17 : decode cX7_kindsOf 17 = .ok (.bipush 26, 2) := by decide +kernel
theorem dX7_kindsOf_19 : decode cX7_kindsOf 19 = .ok (.if_icmp .ge 26, 3) := by decide +kernel
theorem dX7_kindsOf_22 : decode cX7_kindsOf 22 = .ok (.iload_n 3, 1) := by decide +kernel
theorem dX7_kindsOf_23 : decode cX7_kindsOf 23 = .ok (.aload_n 0, 1) := by decide +kernel
theorem dX7_kindsOf_24 : decode cX7_kindsOf 24 = .ok (.iload 4, 2) := by decide +kernel
theorem dX7_kindsOf_26 : decode cX7_kindsOf 26 = .ok (.invokevirtual 158, 3) := by decide +kernel
theorem dX7_kindsOf_29 : decode cX7_kindsOf 29 = .ok (.ifCond .le 7, 3) := by decide +kernel
theorem dX7_kindsOf_32 : decode cX7_kindsOf 32 = .ok (.iconst 1, 1) := by decide +kernel
theorem dX7_kindsOf_33 : decode cX7_kindsOf 33 = .ok (.goto 4, 3) := by decide +kernel
theorem dX7_kindsOf_36 : decode cX7_kindsOf 36 = .ok (.iconst 0, 1) := by decide +kernel
theorem dX7_kindsOf_37 : decode cX7_kindsOf 37 = .ok (.iadd, 1) := by decide +kernel
theorem dX7_kindsOf_38 : decode cX7_kindsOf 38 = .ok (.istore_n 3, 1) := by decide +kernel
theorem dX7_kindsOf_39 : decode cX7_kindsOf 39 = .ok (.iinc 4 1, 3) := by decide +kernel
theorem dX7_kindsOf_42 : decode cX7_kindsOf 42 = .ok (.goto (-27), 3) := by decide +kernel
theorem dX7_kindsOf_45 : decode cX7_kindsOf 45 = .ok (.iload_n 3, 1) := by decide +kernel
theorem dX7_kindsOf_46 : decode cX7_kindsOf 46 = .ok (.ireturn, 1) := by decide +kernel
theorem dX7_kinds_0 : decode cX7_kinds 0 = .ok (.iload_n 1, 1) := by decide +kernel
theorem dX7_kinds_1 : decode cX7_kinds 1 = .ok (.invokestatic 143, 3) := by decide +kernel
theorem dX7_kinds_4 : decode cX7_kinds 4 = .ok (.ifCond .eq 24, 3) := by decide +kernel
theorem dX7_kinds_7 : decode cX7_kinds 7 = .ok (.iload_n 2, 1) := by decide +kernel
theorem dX7_kinds_8 : decode cX7_kinds 8 = .ok (.i2l, 1) := by decide +kernel
theorem dX7_kinds_9 : decode cX7_kinds 9 = .ok (.lconst 1, 1) := by decide +kernel
theorem dX7_kinds_10 : decode cX7_kinds 10 = .ok (.ldc2_w 156, 3) := by decide +kernel
theorem dX7_kinds_13 : decode cX7_kinds 13 = .ok (.invokestatic 54, 3) := by decide +kernel
theorem dX7_kinds_16 : decode cX7_kinds 16 = .ok (.ifCond .eq 12, 3) := by decide +kernel
theorem dX7_kinds_19 : decode cX7_kinds 19 = .ok (.aload_n 0, 1) := by decide +kernel
theorem dX7_kinds_20 : decode cX7_kinds 20 = .ok (.iload_n 1, 1) := by decide +kernel
theorem dX7_kinds_21 : decode cX7_kinds 21 = .ok (.iload_n 2, 1) := by decide +kernel
theorem dX7_kinds_22 : decode cX7_kinds 22 = .ok (.invokevirtual 358, 3) := by decide +kernel
theorem dX7_kinds_25 : decode cX7_kinds 25 = .ok (.goto 4, 3) := by decide +kernel
theorem dX7_kinds_28 : decode cX7_kinds 28 = .ok (.iconst (-1), 1) := by decide +kernel
theorem dX7_kinds_29 : decode cX7_kinds 29 = .ok (.ireturn, 1) := by decide +kernel
theorem dX7_sizeForKinds_0 : decode cX7_sizeForKinds 0 = .ok (.iload_n 1, 1) := by decide +kernel
theorem dX7_sizeForKinds_1 : decode cX7_sizeForKinds 1 = .ok (.invokestatic 143, 3) := by decide +kernel
theorem dX7_sizeForKinds_4 : decode cX7_sizeForKinds 4 = .ok (.ifCond .eq 15, 3) := by decide +kernel
theorem dX7_sizeForKinds_7 : decode cX7_sizeForKinds 7 = .ok (.iload_n 2, 1) := by decide +kernel
theorem dX7_sizeForKinds_8 : decode cX7_sizeForKinds 8 = .ok (.i2l, 1) := by decide +kernel
theorem dX7_sizeForKinds_9 : decode cX7_sizeForKinds 9 = .ok (.lconst 1, 1) := by decide +kernel
theorem dX7_sizeForKinds_10 : decode cX7_sizeForKinds 10 = .ok (.ldc2_w 156, 3) := by decide +kernel
theorem dX7_sizeForKinds_13 : decode cX7_sizeForKinds 13 = .ok (.invokestatic 54, 3) := by decide +kernel
theorem dX7_sizeForKinds_16 : decode cX7_sizeForKinds 16 = .ok (.ifCond .ne 5, 3) := by decide +kernel
theorem dX7_sizeForKinds_19 : decode cX7_sizeForKinds 19 = .ok (.iconst (-1), 1) := by decide +kernel
theorem dX7_sizeForKinds_20 : decode cX7_sizeForKinds 20 = .ok (.ireturn, 1) := by decide +kernel
theorem dX7_sizeForKinds_21 : decode cX7_sizeForKinds 21 = .ok (.iconst 1, 1) := by decide +kernel
theorem dX7_sizeForKinds_22 : decode cX7_sizeForKinds 22 = .ok (.istore_n 3, 1) := by decide +kernel
theorem dX7_sizeForKinds_23 : decode cX7_sizeForKinds 23 = .ok (.iload_n 3, 1) := by decide +kernel
theorem dX7_sizeForKinds_24 : decode cX7_sizeForKinds 24 = .ok (.bipush 12, 2) := by decide +kernel
theorem dX7_sizeForKinds_26 : decode cX7_sizeForKinds 26 = .ok (.if_icmp .gt 21, 3) := by decide +kernel
theorem dX7_sizeForKinds_29 : decode cX7_sizeForKinds 29 = .ok (.aload_n 0, 1) := by decide +kernel
theorem dX7_sizeForKinds_30 : decode cX7_sizeForKinds 30 = .ok (.iload_n 1, 1) := by decide +kernel
theorem dX7_sizeForKinds_31 : decode cX7_sizeForKinds 31 = .ok (.iload_n 3, 1) := by decide +kernel
theorem dX7_sizeForKinds_32 : decode cX7_sizeForKinds 32 = .ok (.invokevirtual 358, 3) := by decide +kernel
theorem dX7_sizeForKinds_35 : decode cX7_sizeForKinds 35 = .ok (.iload_n 2, 1) := by decide +kernel
theorem dX7_sizeForKinds_36 : decode cX7_sizeForKinds 36 = .ok (.if_icmp .lt 5, 3) := by decide +kernel
theorem dX7_sizeForKinds_39 : decode cX7_sizeForKinds 39 = .ok (.iload_n 3, 1) := by decide +kernel
theorem dX7_sizeForKinds_40 : decode cX7_sizeForKinds 40 = .ok (.ireturn, 1) := by decide +kernel
theorem dX7_sizeForKinds_41 : decode cX7_sizeForKinds 41 = .ok (.iinc 3 1, 3) := by decide +kernel
theorem dX7_sizeForKinds_44 : decode cX7_sizeForKinds 44 = .ok (.goto (-21), 3) := by decide +kernel
theorem dX7_sizeForKinds_47 : decode cX7_sizeForKinds 47 = .ok (.bipush (-2), 2) := by decide +kernel
theorem dX7_sizeForKinds_49 : decode cX7_sizeForKinds 49 = .ok (.ireturn, 1) := by decide +kernel
theorem dX7_labelSet_0 : decode cX7_labelSet 0 = .ok (.aload_n 0, 1) := by decide +kernel
theorem dX7_labelSet_1 : decode cX7_labelSet 1 = .ok (.iload_n 1, 1) := by decide +kernel
theorem dX7_labelSet_2 : decode cX7_labelSet 2 = .ok (.invokevirtual 137, 3) := by decide +kernel
theorem dX7_labelSet_5 : decode cX7_labelSet 5 = .ok (.iconst 0, 1) := by decide +kernel
theorem dX7_labelSet_6 : decode cX7_labelSet 6 = .ok (.istore_n 2, 1) := by decide +kernel
theorem dX7_labelSet_7 : decode cX7_labelSet 7 = .ok (.iconst 0, 1) := by decide +kernel
theorem dX7_labelSet_8 : decode cX7_labelSet 8 = .ok (.istore_n 3, 1) := by decide +kernel
theorem dX7_labelSet_9 : decode cX7_labelSet 9 = .ok (.iload_n 3, 1) := by decide +kernel
theorem dX7_labelSet_10 : decode cX7_labelSet 10 = .ok (.aload_n 0, 1) := by decide +kernel
theorem dX7_labelSet_11 : decode cX7_labelSet 11 = .ok (.getfield 103, 3) := by decide +kernel
theorem dX7_labelSet_14 : decode cX7_labelSet 14 = .ok (.if_icmp .ge 25, 3) := by decide +kernel
theorem dX7_labelSet_17 : decode cX7_labelSet 17 = .ok (.iload_n 2, 1) := by decide +kernel
theorem dX7_labelSet_18 : decode cX7_labelSet 18 = .ok (.iconst 1, 1) := by decide +kernel
theorem dX7_labelSet_19 : decode cX7_labelSet 19 = .ok (.aload_n 0, 1) := by decide +kernel
theorem dX7_labelSet_20 : decode cX7_labelSet 20 = .ok (.aload_n 0, 1) := by decide +kernel
theorem dX7_labelSet_21 : decode cX7_labelSet 21 = .ok (.getfield 29, 3) := by decide +kernel
theorem dX7_labelSet_24 : decode cX7_labelSet 24 = .ok (.iload_n 3, 1) := by decide +kernel
theorem dX7_labelSet_25 : decode cX7_labelSet 25 = .ok (.iaload, 1) := by decide +kernel
theorem dX7_labelSet_26 : decode cX7_labelSet 26 = .ok (.iconst 1, 1) := by decide +kernel
theorem dX7_labelSet_27 : decode cX7_labelSet 27 = .ok (.invokevirtual 58, 3) := by decide +kernel
theorem dX7_labelSet_30 : decode cX7_labelSet 30 = .ok (.ishl, 1) := by decide +kernel
theorem dX7_labelSet_31 : decode cX7_labelSet 31 = .ok (.ior, 1) := by decide +kernel
theorem dX7_labelSet_32 : decode cX7_labelSet 32 = .ok (.istore_n 2, 1) := by decide +kernel
theorem dX7_labelSet_33 : decode cX7_labelSet 33 = .ok (.iinc 3 1, 3) := by decide +kernel
theorem dX7_labelSet_36 : decode cX7_labelSet 36 = .ok (.goto (-27), 3) := by decide +kernel
theorem dX7_labelSet_39 : decode cX7_labelSet 39 = .ok (.iload_n 2, 1) := by decide +kernel
theorem dX7_labelSet_40 : decode cX7_labelSet 40 = .ok (.ireturn, 1) := by decide +kernel
theorem dX7_shared_0 : decode cX7_shared 0 = .ok (.iload_n 1, 1) := by decide +kernel
theorem dX7_shared_1 : decode cX7_shared 1 = .ok (.invokestatic 143, 3) := by decide +kernel
theorem dX7_shared_4 : decode cX7_shared 4 = .ok (.ifCond .eq 24, 3) := by decide +kernel
theorem dX7_shared_7 : decode cX7_shared 7 = .ok (.iload_n 2, 1) := by decide +kernel
theorem dX7_shared_8 : decode cX7_shared 8 = .ok (.invokestatic 143, 3) := by decide +kernel
theorem dX7_shared_11 : decode cX7_shared 11 = .ok (.ifCond .eq 17, 3) := by decide +kernel
theorem dX7_shared_14 : decode cX7_shared 14 = .ok (.aload_n 0, 1) := by decide +kernel
theorem dX7_shared_15 : decode cX7_shared 15 = .ok (.iload_n 1, 1) := by decide +kernel
theorem dX7_shared_16 : decode cX7_shared 16 = .ok (.invokevirtual 361, 3) := by decide +kernel
theorem dX7_shared_19 : decode cX7_shared 19 = .ok (.aload_n 0, 1) := by decide +kernel
theorem dX7_shared_20 : decode cX7_shared 20 = .ok (.iload_n 2, 1) := by decide +kernel
theorem dX7_shared_21 : decode cX7_shared 21 = .ok (.invokevirtual 361, 3) := by decide +kernel
theorem dX7_shared_24 : decode cX7_shared 24 = .ok (.iand, 1) := by decide +kernel
theorem dX7_shared_25 : decode cX7_shared 25 = .ok (.goto 4, 3) := by decide +kernel
theorem dX7_shared_28 : decode cX7_shared 28 = .ok (.iconst (-1), 1) := by decide +kernel
theorem dX7_shared_29 : decode cX7_shared 29 = .ok (.ireturn, 1) := by decide +kernel
theorem dX7_cameIn_0 : decode cX7_cameIn 0 = .ok (.iconst 0, 1) := by decide +kernel
theorem dX7_cameIn_1 : decode cX7_cameIn 1 = .ok (.istore_n 3, 1) := by decide +kernel
theorem dX7_cameIn_2 : decode cX7_cameIn 2 = .ok (.iconst 0, 1) := by decide +kernel
theorem dX7_cameIn_3 : decode cX7_cameIn 3 = .ok (.istore 4, 2) := by decide +kernel
theorem dX7_cameIn_5 : decode cX7_cameIn 5 = .ok (.iload 4, 2) := by decide +kernel
theorem dX7_cameIn_7 : decode cX7_cameIn 7 = .ok (.aload_n 0, 1) := by decide +kernel
theorem dX7_cameIn_8 : decode cX7_cameIn 8 = .ok (.getfield 7, 3) := by decide +kernel
theorem dX7_cameIn_11 : decode cX7_cameIn 11 = .ok (.iconst 2, 1) := by decide +kernel
theorem dX7_cameIn_12 : decode cX7_cameIn 12 = .ok (.iaload, 1) := by decide +kernel
theorem dX7_cameIn_13 : decode cX7_cameIn 13 = .ok (.if_icmp .ge 50, 3) := by decide +kernel
theorem dX7_cameIn_16 : decode cX7_cameIn 16 = .ok (.iload_n 3, 1) := by decide +kernel
theorem dX7_cameIn_17 : decode cX7_cameIn 17 = .ok (.aload_n 0, 1) := by decide +kernel
theorem dX7_cameIn_18 : decode cX7_cameIn 18 = .ok (.iload 4, 2) := by decide +kernel
theorem dX7_cameIn_20 : decode cX7_cameIn 20 = .ok (.invokevirtual 70, 3) := by decide +kernel
theorem dX7_cameIn_23 : decode cX7_cameIn 23 = .ok (.ifCond .ne 31, 3) := by decide +kernel
theorem dX7_cameIn_26 : decode cX7_cameIn 26 = .ok (.aload_n 0, 1) := by decide +kernel
theorem dX7_cameIn_27 : decode cX7_cameIn 27 = .ok (.iload 4, 2) := by decide +kernel
theorem dX7_cameIn_29 : decode cX7_cameIn 29 = .ok (.iconst 4, 1) := by decide +kernel
theorem dX7_cameIn_30 : decode cX7_cameIn 30 = .ok (.invokevirtual 58, 3) := by decide +kernel
theorem dX7_cameIn_33 : decode cX7_cameIn 33 = .ok (.iload_n 1, 1) := by decide +kernel
theorem dX7_cameIn_34 : decode cX7_cameIn 34 = .ok (.if_icmp .lt 20, 3) := by decide +kernel
theorem dX7_cameIn_37 : decode cX7_cameIn 37 = .ok (.aload_n 0, 1) := by decide +kernel
theorem dX7_cameIn_38 : decode cX7_cameIn 38 = .ok (.iload 4, 2) := by decide +kernel
theorem dX7_cameIn_40 : decode cX7_cameIn 40 = .ok (.iconst 4, 1) := by decide +kernel
theorem dX7_cameIn_41 : decode cX7_cameIn 41 = .ok (.invokevirtual 58, 3) := by decide +kernel
theorem dX7_cameIn_44 : decode cX7_cameIn 44 = .ok (.iload_n 1, 1) := by decide +kernel
theorem dX7_cameIn_45 : decode cX7_cameIn 45 = .ok (.iload_n 2, 1) := by decide +kernel
theorem dX7_cameIn_46 : decode cX7_cameIn 46 = .ok (.iadd, 1) := by decide +kernel
theorem dX7_cameIn_47 : decode cX7_cameIn 47 = .ok (.if_icmp .ge 7, 3) := by decide +kernel
theorem dX7_cameIn_50 : decode cX7_cameIn 50 = .ok (.iconst 1, 1) := by decide +kernel
theorem dX7_cameIn_51 : decode cX7_cameIn 51 = .ok (.goto 4, 3) := by decide +kernel
theorem dX7_cameIn_54 : decode cX7_cameIn 54 = .ok (.iconst 0, 1) := by decide +kernel
theorem dX7_cameIn_55 : decode cX7_cameIn 55 = .ok (.iadd, 1) := by decide +kernel
theorem dX7_cameIn_56 : decode cX7_cameIn 56 = .ok (.istore_n 3, 1) := by decide +kernel
theorem dX7_cameIn_57 : decode cX7_cameIn 57 = .ok (.iinc 4 1, 3) := by decide +kernel
theorem dX7_cameIn_60 : decode cX7_cameIn 60 = .ok (.goto (-55), 3) := by decide +kernel
theorem dX7_cameIn_63 : decode cX7_cameIn 63 = .ok (.iload_n 3, 1) := by decide +kernel
theorem dX7_cameIn_64 : decode cX7_cameIn 64 = .ok (.ireturn, 1) := by decide +kernel
theorem dX7_busiest_0 : decode cX7_busiest 0 = .ok (.iload_n 1, 1) := by decide +kernel
theorem dX7_busiest_1 : decode cX7_busiest 1 = .ok (.i2l, 1) := by decide +kernel
theorem dX7_busiest_2 : decode cX7_busiest 2 = .ok (.lconst 1, 1) := by decide +kernel
theorem dX7_busiest_3 : decode cX7_busiest 3 = .ok (.ldc2_w 181, 3) := by decide +kernel
theorem dX7_busiest_6 : decode cX7_busiest 6 = .ok (.invokestatic 54, 3) := by decide +kernel
theorem dX7_busiest_9 : decode cX7_busiest 9 = .ok (.ifCond .eq 13, 3) := by decide +kernel
theorem dX7_busiest_12 : decode cX7_busiest 12 = .ok (.iload_n 2, 1) := by decide +kernel
theorem dX7_busiest_13 : decode cX7_busiest 13 = .ok (.i2l, 1) := by decide +kernel
theorem dX7_busiest_14 : decode cX7_busiest 14 = .ok (.lconst 0, 1) := by decide +kernel
theorem dX7_busiest_15 : decode cX7_busiest 15 = .ok (.lconst 1, 1) := by decide +kernel
theorem dX7_busiest_16 : decode cX7_busiest 16 = .ok (.invokestatic 54, 3) := by decide +kernel
theorem dX7_busiest_19 : decode cX7_busiest 19 = .ok (.ifCond .ne 5, 3) := by decide +kernel
theorem dX7_busiest_22 : decode cX7_busiest 22 = .ok (.iconst (-1), 1) := by decide +kernel
theorem dX7_busiest_23 : decode cX7_busiest 23 = .ok (.ireturn, 1) := by decide +kernel
theorem dX7_busiest_24 : decode cX7_busiest 24 = .ok (.iconst 0, 1) := by decide +kernel
theorem dX7_busiest_25 : decode cX7_busiest 25 = .ok (.istore_n 3, 1) := by decide +kernel
theorem dX7_busiest_26 : decode cX7_busiest 26 = .ok (.bipush (-2), 2) := by decide +kernel
theorem dX7_busiest_28 : decode cX7_busiest 28 = .ok (.istore 4, 2) := by decide +kernel
theorem dX7_busiest_30 : decode cX7_busiest 30 = .ok (.iconst 0, 1) := by decide +kernel
theorem dX7_busiest_31 : decode cX7_busiest 31 = .ok (.istore 5, 2) := by decide +kernel
theorem dX7_busiest_33 : decode cX7_busiest 33 = .ok (.iload 5, 2) := by decide +kernel
theorem dX7_busiest_35 : decode cX7_busiest 35 = .ok (.aload_n 0, 1) := by decide +kernel
theorem dX7_busiest_36 : decode cX7_busiest 36 = .ok (.getfield 7, 3) := by decide +kernel
theorem dX7_busiest_39 : decode cX7_busiest 39 = .ok (.iconst 2, 1) := by decide +kernel
theorem dX7_busiest_40 : decode cX7_busiest 40 = .ok (.iaload, 1) := by decide +kernel
theorem dX7_busiest_41 : decode cX7_busiest 41 = .ok (.if_icmp .ge 57, 3) := by decide +kernel
theorem dX7_busiest_44 : decode cX7_busiest 44 = .ok (.aload_n 0, 1) := by decide +kernel
theorem dX7_busiest_45 : decode cX7_busiest 45 = .ok (.iload 5, 2) := by decide +kernel
theorem dX7_busiest_47 : decode cX7_busiest 47 = .ok (.invokevirtual 70, 3) := by decide +kernel
theorem dX7_busiest_50 : decode cX7_busiest 50 = .ok (.ifCond .eq 7, 3) := by decide +kernel
theorem dX7_busiest_53 : decode cX7_busiest 53 = .ok (.iconst 0, 1) := by decide +kernel
theorem dX7_busiest_54 : decode cX7_busiest 54 = .ok (.goto 15, 3) := by decide +kernel
theorem dX7_busiest_57 : decode cX7_busiest 57 = .ok (.aload_n 0, 1) := by decide +kernel
theorem dX7_busiest_58 : decode cX7_busiest 58 = .ok (.aload_n 0, 1) := by decide +kernel
theorem dX7_busiest_59 : decode cX7_busiest 59 = .ok (.iload 5, 2) := by decide +kernel
theorem dX7_busiest_61 : decode cX7_busiest 61 = .ok (.iconst 4, 1) := by decide +kernel
theorem dX7_busiest_62 : decode cX7_busiest 62 = .ok (.invokevirtual 58, 3) := by decide +kernel
theorem dX7_busiest_65 : decode cX7_busiest 65 = .ok (.iload_n 1, 1) := by decide +kernel
theorem dX7_busiest_66 : decode cX7_busiest 66 = .ok (.invokevirtual 364, 3) := by decide +kernel
theorem dX7_busiest_69 : decode cX7_busiest 69 = .ok (.istore 6, 2) := by decide +kernel
theorem dX7_busiest_71 : decode cX7_busiest 71 = .ok (.iload 6, 2) := by decide +kernel
theorem dX7_busiest_73 : decode cX7_busiest 73 = .ok (.iload_n 3, 1) := by decide +kernel
theorem dX7_busiest_74 : decode cX7_busiest 74 = .ok (.if_icmp .gt 6, 3) := by decide +kernel
theorem dX7_busiest_77 : decode cX7_busiest 77 = .ok (.goto 15, 3) := by decide +kernel
theorem dX7_busiest_80 : decode cX7_busiest 80 = .ok (.iload 6, 2) := by decide +kernel
theorem dX7_busiest_82 : decode cX7_busiest 82 = .ok (.istore_n 3, 1) := by decide +kernel
theorem dX7_busiest_83 : decode cX7_busiest 83 = .ok (.aload_n 0, 1) := by decide +kernel
theorem dX7_busiest_84 : decode cX7_busiest 84 = .ok (.iload 5, 2) := by decide +kernel
theorem dX7_busiest_86 : decode cX7_busiest 86 = .ok (.iconst 4, 1) := by decide +kernel
theorem dX7_busiest_87 : decode cX7_busiest 87 = .ok (.invokevirtual 58, 3) := by decide +kernel
theorem dX7_busiest_90 : decode cX7_busiest 90 = .ok (.istore 4, 2) := by decide +kernel
theorem dX7_busiest_92 : decode cX7_busiest 92 = .ok (.iinc 5 1, 3) := by decide +kernel
theorem dX7_busiest_95 : decode cX7_busiest 95 = .ok (.goto (-62), 3) := by decide +kernel
theorem dX7_busiest_98 : decode cX7_busiest 98 = .ok (.iload_n 2, 1) := by decide +kernel
theorem dX7_busiest_99 : decode cX7_busiest 99 = .ok (.ifCond .ne 7, 3) := by decide +kernel
theorem dX7_busiest_102 : decode cX7_busiest 102 = .ok (.iload_n 3, 1) := by decide +kernel
theorem dX7_busiest_103 : decode cX7_busiest 103 = .ok (.goto 5, 3) := by decide +kernel
theorem dX7_busiest_106 : decode cX7_busiest 106 = .ok (.iload 4, 2) := by decide +kernel
theorem dX7_busiest_108 : decode cX7_busiest 108 = .ok (.ireturn, 1) := by decide +kernel
theorem dX7_without_0 : decode cX7_without 0 = .ok (.aload_n 0, 1) := by decide +kernel
theorem dX7_without_1 : decode cX7_without 1 = .ok (.iload_n 1, 1) := by decide +kernel
theorem dX7_without_2 : decode cX7_without 2 = .ok (.invokevirtual 66, 3) := by decide +kernel
theorem dX7_without_5 : decode cX7_without 5 = .ok (.ifCond .eq 8, 3) := by decide +kernel
theorem dX7_without_8 : decode cX7_without 8 = .ok (.iload_n 2, 1) := by decide +kernel
theorem dX7_without_9 : decode cX7_without 9 = .ok (.iconst (-1), 1) := by decide +kernel
theorem dX7_without_10 : decode cX7_without 10 = .ok (.if_icmp .ge 5, 3) := by decide +kernel
theorem dX7_without_13 : decode cX7_without 13 = .ok (.iconst (-1), 1) := by decide +kernel
theorem dX7_without_14 : decode cX7_without 14 = .ok (.ireturn, 1) := by decide +kernel
theorem dX7_without_15 : decode cX7_without 15 = .ok (.aload_n 0, 1) := by decide +kernel
theorem dX7_without_16 : decode cX7_without 16 = .ok (.iload_n 1, 1) := by decide +kernel
theorem dX7_without_17 : decode cX7_without 17 = .ok (.invokevirtual 70, 3) := by decide +kernel
theorem dX7_without_20 : decode cX7_without 20 = .ok (.ifCond .eq 6, 3) := by decide +kernel
theorem dX7_without_23 : decode cX7_without 23 = .ok (.bipush (-2), 2) := by decide +kernel
theorem dX7_without_25 : decode cX7_without 25 = .ok (.ireturn, 1) := by decide +kernel
theorem dX7_without_26 : decode cX7_without 26 = .ok (.aload_n 0, 1) := by decide +kernel
theorem dX7_without_27 : decode cX7_without 27 = .ok (.iload_n 1, 1) := by decide +kernel
theorem dX7_without_28 : decode cX7_without 28 = .ok (.invokevirtual 62, 3) := by decide +kernel
theorem dX7_without_31 : decode cX7_without 31 = .ok (.istore_n 3, 1) := by decide +kernel
theorem dX7_without_32 : decode cX7_without 32 = .ok (.aload_n 0, 1) := by decide +kernel
theorem dX7_without_33 : decode cX7_without 33 = .ok (.iload_n 3, 1) := by decide +kernel
theorem dX7_without_34 : decode cX7_without 34 = .ok (.invokevirtual 128, 3) := by decide +kernel
theorem dX7_without_37 : decode cX7_without 37 = .ok (.aload_n 0, 1) := by decide +kernel
theorem dX7_without_38 : decode cX7_without 38 = .ok (.iload_n 1, 1) := by decide +kernel
theorem dX7_without_39 : decode cX7_without 39 = .ok (.invokevirtual 140, 3) := by decide +kernel
theorem dX7_without_42 : decode cX7_without 42 = .ok (.istore 4, 2) := by decide +kernel
theorem dX7_without_44 : decode cX7_without 44 = .ok (.iload 4, 2) := by decide +kernel
theorem dX7_without_46 : decode cX7_without 46 = .ok (.istore 5, 2) := by decide +kernel
theorem dX7_without_48 : decode cX7_without 48 = .ok (.iload 4, 2) := by decide +kernel
theorem dX7_without_50 : decode cX7_without 50 = .ok (.ifCond .lt 36, 3) := by decide +kernel
theorem dX7_without_53 : decode cX7_without 53 = .ok (.iload 5, 2) := by decide +kernel
theorem dX7_without_55 : decode cX7_without 55 = .ok (.iconst 1, 1) := by decide +kernel
theorem dX7_without_56 : decode cX7_without 56 = .ok (.iadd, 1) := by decide +kernel
theorem dX7_without_57 : decode cX7_without 57 = .ok (.aload_n 0, 1) := by decide +kernel
theorem dX7_without_58 : decode cX7_without 58 = .ok (.getfield 103, 3) := by decide +kernel
theorem dX7_without_61 : decode cX7_without 61 = .ok (.if_icmp .ge 25, 3) := by decide +kernel
theorem dX7_without_64 : decode cX7_without 64 = .ok (.aload_n 0, 1) := by decide +kernel
theorem dX7_without_65 : decode cX7_without 65 = .ok (.getfield 29, 3) := by decide +kernel
theorem dX7_without_68 : decode cX7_without 68 = .ok (.iload 5, 2) := by decide +kernel
theorem dX7_without_70 : decode cX7_without 70 = .ok (.aload_n 0, 1) := by decide +kernel
theorem dX7_without_71 : decode cX7_without 71 = .ok (.getfield 29, 3) := by decide +kernel
theorem dX7_without_74 : decode cX7_without 74 = .ok (.iload 5, 2) := by decide +kernel
theorem dX7_without_76 : decode cX7_without 76 = .ok (.iconst 1, 1) := by decide +kernel
theorem dX7_without_77 : decode cX7_without 77 = .ok (.iadd, 1) := by decide +kernel
theorem dX7_without_78 : decode cX7_without 78 = .ok (.iaload, 1) := by decide +kernel
theorem dX7_without_79 : decode cX7_without 79 = .ok (.iastore, 1) := by decide +kernel
theorem dX7_without_80 : decode cX7_without 80 = .ok (.iinc 5 1, 3) := by decide +kernel
theorem dX7_without_83 : decode cX7_without 83 = .ok (.goto (-35), 3) := by decide +kernel
theorem dX7_without_86 : decode cX7_without 86 = .ok (.aload_n 0, 1) := by decide +kernel
theorem dX7_without_87 : decode cX7_without 87 = .ok (.dup, 1) := by decide +kernel
theorem dX7_without_88 : decode cX7_without 88 = .ok (.getfield 103, 3) := by decide +kernel
theorem dX7_without_91 : decode cX7_without 91 = .ok (.iload 4, 2) := by decide +kernel
theorem dX7_without_93 : decode cX7_without 93 = .ok (.ifCond .lt 7, 3) := by decide +kernel
theorem dX7_without_96 : decode cX7_without 96 = .ok (.iconst 1, 1) := by decide +kernel
theorem dX7_without_97 : decode cX7_without 97 = .ok (.goto 4, 3) := by decide +kernel
theorem dX7_without_100 : decode cX7_without 100 = .ok (.iconst 0, 1) := by decide +kernel
theorem dX7_without_101 : decode cX7_without 101 = .ok (.isub, 1) := by decide +kernel
theorem dX7_without_102 : decode cX7_without 102 = .ok (.putfield 103, 3) := by decide +kernel
theorem dX7_without_105 : decode cX7_without 105 = .ok (.aload_n 0, 1) := by decide +kernel
theorem dX7_without_106 : decode cX7_without 106 = .ok (.aload_n 0, 1) := by decide +kernel
theorem dX7_without_107 : decode cX7_without 107 = .ok (.getfield 7, 3) := by decide +kernel
theorem dX7_without_110 : decode cX7_without 110 = .ok (.iconst 3, 1) := by decide +kernel
theorem dX7_without_111 : decode cX7_without 111 = .ok (.iload_n 3, 1) := by decide +kernel
theorem dX7_without_112 : decode cX7_without 112 = .ok (.iadd, 1) := by decide +kernel
theorem dX7_without_113 : decode cX7_without 113 = .ok (.iaload, 1) := by decide +kernel
theorem dX7_without_114 : decode cX7_without 114 = .ok (.invokevirtual 131, 3) := by decide +kernel
theorem dX7_without_117 : decode cX7_without 117 = .ok (.aload_n 0, 1) := by decide +kernel
theorem dX7_without_118 : decode cX7_without 118 = .ok (.iload_n 2, 1) := by decide +kernel
theorem dX7_without_119 : decode cX7_without 119 = .ok (.invokevirtual 146, 3) := by decide +kernel
theorem dX7_without_122 : decode cX7_without 122 = .ok (.ireturn, 1) := by decide +kernel
theorem dX7_nextLot_0 : decode cX7_nextLot 0 = .ok (.iload_n 1, 1) := by decide +kernel
theorem dX7_nextLot_1 : decode cX7_nextLot 1 = .ok (.i2l, 1) := by decide +kernel
theorem dX7_nextLot_2 : decode cX7_nextLot 2 = .ok (.lconst 0, 1) := by decide +kernel
theorem dX7_nextLot_3 : decode cX7_nextLot 3 = .ok (.ldc2_w 367, 3) := by decide +kernel
theorem dX7_nextLot_6 : decode cX7_nextLot 6 = .ok (.invokestatic 54, 3) := by decide +kernel
theorem dX7_nextLot_9 : decode cX7_nextLot 9 = .ok (.ifCond .ne 5, 3) := by decide +kernel
theorem dX7_nextLot_12 : decode cX7_nextLot 12 = .ok (.iconst (-1), 1) := by decide +kernel
theorem dX7_nextLot_13 : decode cX7_nextLot 13 = .ok (.ireturn, 1) := by decide +kernel
theorem dX7_nextLot_14 : decode cX7_nextLot 14 = .ok (.aload_n 0, 1) := by decide +kernel
theorem dX7_nextLot_15 : decode cX7_nextLot 15 = .ok (.getfield 7, 3) := by decide +kernel
theorem dX7_nextLot_18 : decode cX7_nextLot 18 = .ok (.iconst 1, 1) := by decide +kernel
theorem dX7_nextLot_19 : decode cX7_nextLot 19 = .ok (.iaload, 1) := by decide +kernel
theorem dX7_nextLot_20 : decode cX7_nextLot 20 = .ok (.istore_n 2, 1) := by decide +kernel
theorem dX7_nextLot_21 : decode cX7_nextLot 21 = .ok (.iconst 0, 1) := by decide +kernel
theorem dX7_nextLot_22 : decode cX7_nextLot 22 = .ok (.istore_n 3, 1) := by decide +kernel
theorem dX7_nextLot_23 : decode cX7_nextLot 23 = .ok (.iconst 0, 1) := by decide +kernel
theorem dX7_nextLot_24 : decode cX7_nextLot 24 = .ok (.istore 4, 2) := by decide +kernel
theorem dX7_nextLot_26 : decode cX7_nextLot 26 = .ok (.iload 4, 2) := by decide +kernel
theorem dX7_nextLot_28 : decode cX7_nextLot 28 = .ok (.iload_n 1, 1) := by decide +kernel
theorem dX7_nextLot_29 : decode cX7_nextLot 29 = .ok (.if_icmp .gt 18, 3) := by decide +kernel
theorem dX7_nextLot_32 : decode cX7_nextLot 32 = .ok (.aload_n 0, 1) := by decide +kernel
theorem dX7_nextLot_33 : decode cX7_nextLot 33 = .ok (.aload_n 0, 1) := by decide +kernel
theorem dX7_nextLot_34 : decode cX7_nextLot 34 = .ok (.getfield 7, 3) := by decide +kernel
theorem dX7_nextLot_37 : decode cX7_nextLot 37 = .ok (.invokevirtual 174, 3) := by decide +kernel
theorem dX7_nextLot_40 : decode cX7_nextLot 40 = .ok (.istore_n 3, 1) := by decide +kernel
theorem dX7_nextLot_41 : decode cX7_nextLot 41 = .ok (.iinc 4 1, 3) := by decide +kernel
theorem dX7_nextLot_44 : decode cX7_nextLot 44 = .ok (.goto (-18), 3) := by decide +kernel
theorem dX7_nextLot_47 : decode cX7_nextLot 47 = .ok (.aload_n 0, 1) := by decide +kernel
theorem dX7_nextLot_48 : decode cX7_nextLot 48 = .ok (.getfield 7, 3) := by decide +kernel
theorem dX7_nextLot_51 : decode cX7_nextLot 51 = .ok (.iconst 1, 1) := by decide +kernel
theorem dX7_nextLot_52 : decode cX7_nextLot 52 = .ok (.iload_n 2, 1) := by decide +kernel
theorem dX7_nextLot_53 : decode cX7_nextLot 53 = .ok (.iastore, 1) := by decide +kernel
theorem dX7_nextLot_54 : decode cX7_nextLot 54 = .ok (.iload_n 3, 1) := by decide +kernel
theorem dX7_nextLot_55 : decode cX7_nextLot 55 = .ok (.ireturn, 1) := by decide +kernel
theorem dX7_expired_0 : decode cX7_expired 0 = .ok (.iload_n 1, 1) := by decide +kernel
theorem dX7_expired_1 : decode cX7_expired 1 = .ok (.invokestatic 143, 3) := by decide +kernel
theorem dX7_expired_4 : decode cX7_expired 4 = .ok (.ifCond .eq 8, 3) := by decide +kernel
theorem dX7_expired_7 : decode cX7_expired 7 = .ok (.iload_n 2, 1) := by decide +kernel
theorem dX7_expired_8 : decode cX7_expired 8 = .ok (.iconst (-1), 1) := by decide +kernel
theorem dX7_expired_9 : decode cX7_expired 9 = .ok (.if_icmp .ge 5, 3) := by decide +kernel
theorem dX7_expired_12 : decode cX7_expired 12 = .ok (.iconst (-1), 1) := by decide +kernel
theorem dX7_expired_13 : decode cX7_expired 13 = .ok (.ireturn, 1) := by decide +kernel
theorem dX7_expired_14 : decode cX7_expired 14 = .ok (.aload_n 0, 1) := by decide +kernel
theorem dX7_expired_15 : decode cX7_expired 15 = .ok (.invokevirtual 118, 3) := by decide +kernel
theorem dX7_expired_18 : decode cX7_expired 18 = .ok (.iconst 0, 1) := by decide +kernel
theorem dX7_expired_19 : decode cX7_expired 19 = .ok (.istore_n 3, 1) := by decide +kernel
theorem dX7_expired_20 : decode cX7_expired 20 = .ok (.iload_n 3, 1) := by decide +kernel
theorem dX7_expired_21 : decode cX7_expired 21 = .ok (.aload_n 0, 1) := by decide +kernel
theorem dX7_expired_22 : decode cX7_expired 22 = .ok (.getfield 7, 3) := by decide +kernel
theorem dX7_expired_25 : decode cX7_expired 25 = .ok (.iconst 2, 1) := by decide +kernel
theorem dX7_expired_26 : decode cX7_expired 26 = .ok (.iaload, 1) := by decide +kernel
theorem dX7_expired_27 : decode cX7_expired 27 = .ok (.if_icmp .ge 31, 3) := by decide +kernel
theorem dX7_expired_30 : decode cX7_expired 30 = .ok (.aload_n 0, 1) := by decide +kernel
theorem dX7_expired_31 : decode cX7_expired 31 = .ok (.iload_n 3, 1) := by decide +kernel
theorem dX7_expired_32 : decode cX7_expired 32 = .ok (.invokevirtual 62, 3) := by decide +kernel
theorem dX7_expired_35 : decode cX7_expired 35 = .ok (.iload_n 1, 1) := by decide +kernel
theorem dX7_expired_36 : decode cX7_expired 36 = .ok (.if_icmp .ne 16, 3) := by decide +kernel
theorem dX7_expired_39 : decode cX7_expired 39 = .ok (.aload_n 0, 1) := by decide +kernel
theorem dX7_expired_40 : decode cX7_expired 40 = .ok (.iload_n 3, 1) := by decide +kernel
theorem dX7_expired_41 : decode cX7_expired 41 = .ok (.invokevirtual 355, 3) := by decide +kernel
theorem dX7_expired_44 : decode cX7_expired 44 = .ok (.ifCond .eq 8, 3) := by decide +kernel
theorem dX7_expired_47 : decode cX7_expired 47 = .ok (.aload_n 0, 1) := by decide +kernel
theorem dX7_expired_48 : decode cX7_expired 48 = .ok (.iload_n 3, 1) := by decide +kernel
theorem dX7_expired_49 : decode cX7_expired 49 = .ok (.invokevirtual 120, 3) := by decide +kernel
theorem dX7_expired_52 : decode cX7_expired 52 = .ok (.iinc 3 1, 3) := by decide +kernel
theorem dX7_expired_55 : decode cX7_expired 55 = .ok (.goto (-35), 3) := by decide +kernel
theorem dX7_expired_58 : decode cX7_expired 58 = .ok (.aload_n 0, 1) := by decide +kernel
theorem dX7_expired_59 : decode cX7_expired 59 = .ok (.iload_n 2, 1) := by decide +kernel
theorem dX7_expired_60 : decode cX7_expired 60 = .ok (.invokevirtual 146, 3) := by decide +kernel
theorem dX7_expired_63 : decode cX7_expired 63 = .ok (.ireturn, 1) := by decide +kernel
