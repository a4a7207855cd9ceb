theorem dX6_init_0 : decode cX6_init 0 = .ok (.aload_n 0, 1) := by decide +kernel
theorem dX6_init_1 : decode cX6_init 1 = .ok (.invokespecial 1, 3) := by decide +kernel
theorem dX6_init_4 : decode cX6_init 4 = .ok (.aload_n 0, 1) := by decide +kernel
theorem dX6_init_5 : decode cX6_init 5 = .ok (.new 7, 3) := by decide +kernel
theorem dX6_init_8 : decode cX6_init 8 = .ok (.dup, 1) := by decide +kernel
theorem dX6_init_9 : decode cX6_init 9 = .ok (.invokespecial 9, 3) := by decide +kernel
theorem dX6_init_12 : decode cX6_init 12 = .ok (.putfield 10, 3) := by decide +kernel
theorem dX6_init_15 : decode cX6_init 15 = .ok (.aload_n 0, 1) := by decide +kernel
theorem dX6_init_16 : decode cX6_init 16 = .ok (.new 16, 3) := by decide +kernel
theorem dX6_init_19 : decode cX6_init 19 = .ok (.dup, 1) := by decide +kernel
theorem dX6_init_20 : decode cX6_init 20 = .ok (.invokespecial 18, 3) := by decide +kernel
theorem dX6_init_23 : decode cX6_init 23 = .ok (.putfield 19, 3) := by decide +kernel
theorem dX6_init_26 : decode cX6_init 26 = .ok (.aload_n 0, 1) := by decide +kernel
theorem dX6_init_27 : decode cX6_init 27 = .ok (.new 23, 3) := by decide +kernel
theorem dX6_init_30 : decode cX6_init 30 = .ok (.dup, 1) := by decide +kernel
theorem dX6_init_31 : decode cX6_init 31 = .ok (.invokespecial 25, 3) := by decide +kernel
theorem dX6_init_34 : decode cX6_init 34 = .ok (.putfield 26, 3) := by decide +kernel
theorem dX6_init_37 : decode cX6_init 37 = .ok (.aload_n 0, 1) := by decide +kernel
theorem dX6_init_38 : decode cX6_init 38 = .ok (.iconst 2, 1) := by decide +kernel
theorem dX6_init_39 : decode cX6_init 39 = .ok (.anewarray 7, 3) := by decide +kernel
theorem dX6_init_42 : decode cX6_init 42 = .ok (.putfield 30, 3) := by decide +kernel
theorem dX6_init_45 : decode cX6_init 45 = .ok (.aload_n 0, 1) := by decide +kernel
theorem dX6_init_46 : decode cX6_init 46 = .ok (.new 34, 3) := by decide +kernel
theorem dX6_init_49 : decode cX6_init 49 = .ok (.dup, 1) := by decide +kernel
theorem dX6_init_50 : decode cX6_init 50 = .ok (.invokespecial 36, 3) := by decide +kernel
theorem dX6_init_53 : decode cX6_init 53 = .ok (.putfield 37, 3) := by decide +kernel
theorem dX6_init_56 : decode cX6_init 56 = .ok (.aload_n 0, 1) := by decide +kernel
theorem dX6_init_57 : decode cX6_init 57 = .ok (.new 34, 3) := by decide +kernel
theorem dX6_init_60 : decode cX6_init 60 = .ok (.dup, 1) := by decide +kernel
theorem dX6_init_61 : decode cX6_init 61 = .ok (.invokespecial 36, 3) := by decide +kernel
theorem dX6_init_64 : decode cX6_init 64 = .ok (.putfield 41, 3) := by decide +kernel
theorem dX6_init_67 : decode cX6_init 67 = .ok (.aload_n 0, 1) := by decide +kernel
theorem dX6_init_68 : decode cX6_init 68 = .ok (.new 44, 3) := by decide +kernel
theorem dX6_init_71 : decode cX6_init 71 = .ok (.dup, 1) := by decide +kernel
theorem dX6_init_72 : decode cX6_init 72 = .ok (.invokespecial 46, 3) := by decide +kernel
theorem dX6_init_75 : decode cX6_init 75 = .ok (.putfield 47, 3) := by decide +kernel
theorem dX6_init_78 : decode cX6_init 78 = .ok (.aload_n 0, 1) := by decide +kernel
theorem dX6_init_79 : decode cX6_init 79 = .ok (.iconst 0, 1) := by decide +kernel
theorem dX6_init_80 : decode cX6_init 80 = .ok (.putfield 51, 3) := by decide +kernel
theorem dX6_init_83 : decode cX6_init 83 = .ok (.iconst 0, 1) := by decide +kernel
theorem dX6_init_84 : decode cX6_init 84 = .ok (.istore_n 1, 1) := by decide +kernel
theorem dX6_init_85 : decode cX6_init 85 = .ok (.iload_n 1, 1) := by decide +kernel
theorem dX6_init_86 : decode cX6_init 86 = .ok (.iconst 2, 1) := by decide +kernel
theorem dX6_init_87 : decode cX6_init 87 = .ok (.if_icmp .ge 22, 3) := by decide +kernel
theorem dX6_init_90 : decode cX6_init 90 = .ok (.aload_n 0, 1) := by decide +kernel
theorem dX6_init_91 : decode cX6_init 91 = .ok (.getfield 30, 3) := by decide +kernel
theorem dX6_init_94 : decode cX6_init 94 = .ok (.iload_n 1, 1) := by decide +kernel
theorem dX6_init_95 : decode cX6_init 95 = .ok (.new 7, 3) := by decide +kernel
theorem dX6_init_98 : decode cX6_init 98 = .ok (.dup, 1) := by decide +kernel
theorem dX6_init_99 : decode cX6_init 99 = .ok (.invokespecial 9, 3) := by decide +kernel
theorem dX6_init_102 : decode cX6_init 102 = .ok (.aastore, 1) := by decide +kernel
theorem dX6_init_103 : decode cX6_init 103 = .ok (.iinc 1 1, 3) := by decide +kernel
theorem dX6_init_106 : decode cX6_init 106 = .ok (.goto (-21), 3) := by decide +kernel
theorem dX6_init_109 : decode cX6_init 109 = .ok (.return_, 1) := by decide +kernel
theorem dX6_feed_0 : decode cX6_feed 0 = .ok (.aload_n 0, 1) := by decide +kernel
theorem dX6_feed_1 : decode cX6_feed 1 = .ok (.getfield 26, 3) := by decide +kernel
theorem dX6_feed_4 : decode cX6_feed 4 = .ok (.getfield 55, 3) := by decide +kernel
theorem dX6_feed_7 : decode cX6_feed 7 = .ok (.sipush 380, 3) := by decide +kernel
theorem dX6_feed_10 : decode cX6_feed 10 = .ok (.if_icmp .le 5, 3) := by decide +kernel
theorem dX6_feed_13 : decode cX6_feed 13 = .ok (.iconst (-1), 1) := by decide +kernel
theorem dX6_feed_14 : decode cX6_feed 14 = .ok (.ireturn, 1) := by decide +kernel
theorem dX6_feed_15 : decode cX6_feed 15 = .ok (.aload_n 0, 1) := by decide +kernel
theorem dX6_feed_16 : decode cX6_feed 16 = .ok (.getfield 26, 3) := by decide +kernel
theorem dX6_feed_19 : decode cX6_feed 19 = .ok (.iload_n 1, 1) := by decide +kernel
theorem dX6_feed_20 : decode cX6_feed 20 = .ok (.invokevirtual 58, 3) := by decide +kernel
theorem dX6_feed_23 : decode cX6_feed 23 = .ok (.aload_n 0, 1) := by decide +kernel
theorem dX6_feed_24 : decode cX6_feed 24 = .ok (.getfield 26, 3) := by decide +kernel
theorem dX6_feed_27 : decode cX6_feed 27 = .ok (.iload_n 2, 1) := by decide +kernel
theorem dX6_feed_28 : decode cX6_feed 28 = .ok (.invokevirtual 58, 3) := by decide +kernel
theorem dX6_feed_31 : decode cX6_feed 31 = .ok (.aload_n 0, 1) := by decide +kernel
theorem dX6_feed_32 : decode cX6_feed 32 = .ok (.getfield 26, 3) := by decide +kernel
theorem dX6_feed_35 : decode cX6_feed 35 = .ok (.iload_n 3, 1) := by decide +kernel
theorem dX6_feed_36 : decode cX6_feed 36 = .ok (.invokevirtual 58, 3) := by decide +kernel
theorem dX6_feed_39 : decode cX6_feed 39 = .ok (.aload_n 0, 1) := by decide +kernel
theorem dX6_feed_40 : decode cX6_feed 40 = .ok (.getfield 26, 3) := by decide +kernel
theorem dX6_feed_43 : decode cX6_feed 43 = .ok (.iload 4, 2) := by decide +kernel
theorem dX6_feed_45 : decode cX6_feed 45 = .ok (.invokevirtual 58, 3) := by decide +kernel
theorem dX6_feed_48 : decode cX6_feed 48 = .ok (.aload_n 0, 1) := by decide +kernel
theorem dX6_feed_49 : decode cX6_feed 49 = .ok (.getfield 26, 3) := by decide +kernel
theorem dX6_feed_52 : decode cX6_feed 52 = .ok (.iload 5, 2) := by decide +kernel
theorem dX6_feed_54 : decode cX6_feed 54 = .ok (.invokevirtual 58, 3) := by decide +kernel
theorem dX6_feed_57 : decode cX6_feed 57 = .ok (.aload_n 0, 1) := by decide +kernel
theorem dX6_feed_58 : decode cX6_feed 58 = .ok (.getfield 26, 3) := by decide +kernel
theorem dX6_feed_61 : decode cX6_feed 61 = .ok (.getfield 55, 3) := by decide +kernel
theorem dX6_feed_64 : decode cX6_feed 64 = .ok (.ireturn, 1) := by decide +kernel
theorem dX6_end_0 : decode cX6_end 0 = .ok (.iload_n 1, 1) := by decide +kernel
theorem dX6_end_1 : decode cX6_end 1 = .ok (.iconst 0, 1) := by decide +kernel
theorem dX6_end_2 : decode cX6_end 2 = .ok (.aload_n 0, 1) := by decide +kernel
theorem dX6_end_3 : decode cX6_end 3 = .ok (.getfield 26, 3) := by decide +kernel
theorem dX6_end_6 : decode cX6_end 6 = .ok (.getfield 55, 3) := by decide +kernel
theorem dX6_end_9 : decode cX6_end 9 = .ok (.invokestatic 62, 3) := by decide +kernel
theorem dX6_end_12 : decode cX6_end 12 = .ok (.ifCond .ne 5, 3) := by decide +kernel
theorem dX6_end_15 : decode cX6_end 15 = .ok (.iconst (-1), 1) := by decide +kernel
theorem dX6_end_16 : decode cX6_end 16 = .ok (.ireturn, 1) := by decide +kernel
theorem dX6_end_17 : decode cX6_end 17 = .ok (.aload_n 0, 1) := by decide +kernel
theorem dX6_end_18 : decode cX6_end 18 = .ok (.getfield 26, 3) := by decide +kernel
theorem dX6_end_21 : decode cX6_end 21 = .ok (.iload_n 1, 1) := by decide +kernel
theorem dX6_end_22 : decode cX6_end 22 = .ok (.putfield 55, 3) := by decide +kernel
theorem dX6_end_25 : decode cX6_end 25 = .ok (.iload_n 1, 1) := by decide +kernel
theorem dX6_end_26 : decode cX6_end 26 = .ok (.ireturn, 1) := by decide +kernel
theorem dX6_tell_0 : decode cX6_tell 0 = .ok (.aload_n 0, 1) := by decide +kernel
theorem dX6_tell_1 : decode cX6_tell 1 = .ok (.getfield 26, 3) := by decide +kernel
theorem dX6_tell_4 : decode cX6_tell 4 = .ok (.invokevirtual 66, 3) := by decide +kernel
theorem dX6_tell_7 : decode cX6_tell 7 = .ok (.istore_n 1, 1) := by decide +kernel
theorem dX6_tell_8 : decode cX6_tell 8 = .ok (.aload_n 0, 1) := by decide +kernel
theorem dX6_tell_9 : decode cX6_tell 9 = .ok (.getfield 26, 3) := by decide +kernel
theorem dX6_tell_12 : decode cX6_tell 12 = .ok (.iconst 0, 1) := by decide +kernel
theorem dX6_tell_13 : decode cX6_tell 13 = .ok (.putfield 55, 3) := by decide +kernel
theorem dX6_tell_16 : decode cX6_tell 16 = .ok (.iload_n 1, 1) := by decide +kernel
theorem dX6_tell_17 : decode cX6_tell 17 = .ok (.iconst (-1), 1) := by decide +kernel
theorem dX6_tell_18 : decode cX6_tell 18 = .ok (.if_icmp .eq 8, 3) := by decide +kernel
theorem dX6_tell_21 : decode cX6_tell 21 = .ok (.bipush (-2), 2) := by decide +kernel
theorem dX6_tell_23 : decode cX6_tell 23 = .ok (.iload_n 1, 1) := by decide +kernel
theorem dX6_tell_24 : decode cX6_tell 24 = .ok (.isub, 1) := by decide +kernel
theorem dX6_tell_25 : decode cX6_tell 25 = .ok (.ireturn, 1) := by decide +kernel
theorem dX6_tell_26 : decode cX6_tell 26 = .ok (.aload_n 0, 1) := by decide +kernel
theorem dX6_tell_27 : decode cX6_tell 27 = .ok (.getfield 10, 3) := by decide +kernel
theorem dX6_tell_30 : decode cX6_tell 30 = .ok (.aload_n 0, 1) := by decide +kernel
theorem dX6_tell_31 : decode cX6_tell 31 = .ok (.getfield 26, 3) := by decide +kernel
theorem dX6_tell_34 : decode cX6_tell 34 = .ok (.getfield 70, 3) := by decide +kernel
theorem dX6_tell_37 : decode cX6_tell 37 = .ok (.invokevirtual 73, 3) := by decide +kernel
theorem dX6_tell_40 : decode cX6_tell 40 = .ok (.aload_n 0, 1) := by decide +kernel
theorem dX6_tell_41 : decode cX6_tell 41 = .ok (.getfield 10, 3) := by decide +kernel
theorem dX6_tell_44 : decode cX6_tell 44 = .ok (.invokevirtual 77, 3) := by decide +kernel
theorem dX6_tell_47 : decode cX6_tell 47 = .ok (.aload_n 0, 1) := by decide +kernel
theorem dX6_tell_48 : decode cX6_tell 48 = .ok (.getfield 19, 3) := by decide +kernel
theorem dX6_tell_51 : decode cX6_tell 51 = .ok (.invokevirtual 80, 3) := by decide +kernel
theorem dX6_tell_54 : decode cX6_tell 54 = .ok (.aload_n 0, 1) := by decide +kernel
theorem dX6_tell_55 : decode cX6_tell 55 = .ok (.getfield 10, 3) := by decide +kernel
theorem dX6_tell_58 : decode cX6_tell 58 = .ok (.getfield 83, 3) := by decide +kernel
theorem dX6_tell_61 : decode cX6_tell 61 = .ok (.ireturn, 1) := by decide +kernel
theorem dX6_come_0 : decode cX6_come 0 = .ok (.iload_n 1, 1) := by decide +kernel
theorem dX6_come_1 : decode cX6_come 1 = .ok (.invokestatic 86, 3) := by decide +kernel
theorem dX6_come_4 : decode cX6_come 4 = .ok (.ifCond .eq 17, 3) := by decide +kernel
theorem dX6_come_7 : decode cX6_come 7 = .ok (.iload_n 2, 1) := by decide +kernel
theorem dX6_come_8 : decode cX6_come 8 = .ok (.invokestatic 90, 3) := by decide +kernel
theorem dX6_come_11 : decode cX6_come 11 = .ok (.ifCond .eq 10, 3) := by decide +kernel
theorem dX6_come_14 : decode cX6_come 14 = .ok (.iload_n 3, 1) := by decide +kernel
theorem dX6_come_15 : decode cX6_come 15 = .ok (.invokestatic 93, 3) := by decide +kernel
theorem dX6_come_18 : decode cX6_come 18 = .ok (.ifCond .ne 5, 3) := by decide +kernel
theorem dX6_come_21 : decode cX6_come 21 = .ok (.iconst (-1), 1) := by decide +kernel
theorem dX6_come_22 : decode cX6_come 22 = .ok (.ireturn, 1) := by decide +kernel
theorem dX6_come_23 : decode cX6_come 23 = .ok (.aload_n 0, 1) := by decide +kernel
theorem dX6_come_24 : decode cX6_come 24 = .ok (.getfield 10, 3) := by decide +kernel
theorem dX6_come_27 : decode cX6_come 27 = .ok (.getfield 83, 3) := by decide +kernel
theorem dX6_come_30 : decode cX6_come 30 = .ok (.bipush 100, 2) := by decide +kernel
theorem dX6_come_32 : decode cX6_come 32 = .ok (.if_icmp .lt 6, 3) := by decide +kernel
theorem dX6_come_35 : decode cX6_come 35 = .ok (.bipush (-2), 2) := by decide +kernel
theorem dX6_come_37 : decode cX6_come 37 = .ok (.ireturn, 1) := by decide +kernel
theorem dX6_come_38 : decode cX6_come 38 = .ok (.aload_n 0, 1) := by decide +kernel
theorem dX6_come_39 : decode cX6_come 39 = .ok (.getfield 19, 3) := by decide +kernel
theorem dX6_come_42 : decode cX6_come 42 = .ok (.aload_n 0, 1) := by decide +kernel
theorem dX6_come_43 : decode cX6_come 43 = .ok (.getfield 10, 3) := by decide +kernel
theorem dX6_come_46 : decode cX6_come 46 = .ok (.invokevirtual 96, 3) := by decide +kernel
theorem dX6_come_49 : decode cX6_come 49 = .ok (.aload_n 0, 1) := by decide +kernel
theorem dX6_come_50 : decode cX6_come 50 = .ok (.getfield 10, 3) := by decide +kernel
theorem dX6_come_53 : decode cX6_come 53 = .ok (.iload_n 1, 1) := by decide +kernel
theorem dX6_come_54 : decode cX6_come 54 = .ok (.iload_n 2, 1) := by decide +kernel
theorem dX6_come_55 : decode cX6_come 55 = .ok (.iload_n 3, 1) := by decide +kernel
theorem dX6_come_56 : decode cX6_come 56 = .ok (.aload_n 0, 1) := by decide +kernel
theorem dX6_come_57 : decode cX6_come 57 = .ok (.getfield 10, 3) := by decide +kernel
theorem dX6_come_60 : decode cX6_come 60 = .ok (.invokevirtual 99, 3) := by decide +kernel
theorem dX6_come_63 : decode cX6_come 63 = .ok (.invokevirtual 102, 3) := by decide +kernel
theorem dX6_come_66 : decode cX6_come 66 = .ok (.ireturn, 1) := by decide +kernel
theorem dX6_put_0 : decode cX6_put 0 = .ok (.iload_n 1, 1) := by decide +kernel
theorem dX6_put_1 : decode cX6_put 1 = .ok (.invokestatic 86, 3) := by decide +kernel
theorem dX6_put_4 : decode cX6_put 4 = .ok (.ifCond .eq 25, 3) := by decide +kernel
theorem dX6_put_7 : decode cX6_put 7 = .ok (.iload_n 2, 1) := by decide +kernel
theorem dX6_put_8 : decode cX6_put 8 = .ok (.invokestatic 90, 3) := by decide +kernel
theorem dX6_put_11 : decode cX6_put 11 = .ok (.ifCond .eq 18, 3) := by decide +kernel
theorem dX6_put_14 : decode cX6_put 14 = .ok (.iload_n 3, 1) := by decide +kernel
theorem dX6_put_15 : decode cX6_put 15 = .ok (.invokestatic 93, 3) := by decide +kernel
theorem dX6_put_18 : decode cX6_put 18 = .ok (.ifCond .eq 11, 3) := by decide +kernel
theorem dX6_put_21 : decode cX6_put 21 = .ok (.iload 4, 2) := by decide +kernel
theorem dX6_put_23 : decode cX6_put 23 = .ok (.invokestatic 106, 3) := by decide +kernel
theorem dX6_put_26 : decode cX6_put 26 = .ok (.ifCond .ne 5, 3) := by decide +kernel
theorem dX6_put_29 : decode cX6_put 29 = .ok (.iconst (-1), 1) := by decide +kernel
theorem dX6_put_30 : decode cX6_put 30 = .ok (.ireturn, 1) := by decide +kernel
theorem dX6_put_31 : decode cX6_put 31 = .ok (.aload_n 0, 1) := by decide +kernel
theorem dX6_put_32 : decode cX6_put 32 = .ok (.getfield 10, 3) := by decide +kernel
theorem dX6_put_35 : decode cX6_put 35 = .ok (.getfield 83, 3) := by decide +kernel
theorem dX6_put_38 : decode cX6_put 38 = .ok (.bipush 100, 2) := by decide +kernel
theorem dX6_put_40 : decode cX6_put 40 = .ok (.if_icmp .lt 6, 3) := by decide +kernel
theorem dX6_put_43 : decode cX6_put 43 = .ok (.bipush (-2), 2) := by decide +kernel
theorem dX6_put_45 : decode cX6_put 45 = .ok (.ireturn, 1) := by decide +kernel
theorem dX6_put_46 : decode cX6_put 46 = .ok (.aload_n 0, 1) := by decide +kernel
theorem dX6_put_47 : decode cX6_put 47 = .ok (.getfield 19, 3) := by decide +kernel
theorem dX6_put_50 : decode cX6_put 50 = .ok (.aload_n 0, 1) := by decide +kernel
theorem dX6_put_51 : decode cX6_put 51 = .ok (.getfield 10, 3) := by decide +kernel
theorem dX6_put_54 : decode cX6_put 54 = .ok (.invokevirtual 96, 3) := by decide +kernel
theorem dX6_put_57 : decode cX6_put 57 = .ok (.aload_n 0, 1) := by decide +kernel
theorem dX6_put_58 : decode cX6_put 58 = .ok (.getfield 10, 3) := by decide +kernel
theorem dX6_put_61 : decode cX6_put 61 = .ok (.iload_n 1, 1) := by decide +kernel
theorem dX6_put_62 : decode cX6_put 62 = .ok (.iload_n 2, 1) := by decide +kernel
theorem dX6_put_63 : decode cX6_put 63 = .ok (.iload_n 3, 1) := by decide +kernel
theorem dX6_put_64 : decode cX6_put 64 = .ok (.iload 4, 2) := by decide +kernel
theorem dX6_put_66 : decode cX6_put 66 = .ok (.invokevirtual 102, 3) := by decide +kernel
theorem dX6_put_69 : decode cX6_put 69 = .ok (.ireturn, 1) := by decide +kernel
theorem dX6_pass_0 : decode cX6_pass 0 = .ok (.iload_n 1, 1) := by decide +kernel
theorem dX6_pass_1 : decode cX6_pass 1 = .ok (.iconst 1, 1) := by decide +kernel
theorem dX6_pass_2 : decode cX6_pass 2 = .ok (.sipush 9999, 3) := by decide +kernel
theorem dX6_pass_5 : decode cX6_pass 5 = .ok (.invokestatic 62, 3) := by decide +kernel
theorem dX6_pass_8 : decode cX6_pass 8 = .ok (.ifCond .ne 5, 3) := by decide +kernel
theorem dX6_pass_11 : decode cX6_pass 11 = .ok (.iconst (-1), 1) := by decide +kernel
theorem dX6_pass_12 : decode cX6_pass 12 = .ok (.ireturn, 1) := by decide +kernel
theorem dX6_pass_13 : decode cX6_pass 13 = .ok (.aload_n 0, 1) := by decide +kernel
theorem dX6_pass_14 : decode cX6_pass 14 = .ok (.getfield 10, 3) := by decide +kernel
theorem dX6_pass_17 : decode cX6_pass 17 = .ok (.getfield 109, 3) := by decide +kernel
theorem dX6_pass_20 : decode cX6_pass 20 = .ok (.iload_n 1, 1) := by decide +kernel
theorem dX6_pass_21 : decode cX6_pass 21 = .ok (.iadd, 1) := by decide +kernel
theorem dX6_pass_22 : decode cX6_pass 22 = .ok (.ldc 112, 2) := by decide +kernel
theorem dX6_pass_24 : decode cX6_pass 24 = .ok (.if_icmp .le 6, 3) := by decide +kernel
theorem dX6_pass_27 : decode cX6_pass 27 = .ok (.bipush (-2), 2) := by decide +kernel
theorem dX6_pass_29 : decode cX6_pass 29 = .ok (.ireturn, 1) := by decide +kernel
theorem dX6_pass_30 : decode cX6_pass 30 = .ok (.aload_n 0, 1) := by decide +kernel
theorem dX6_pass_31 : decode cX6_pass 31 = .ok (.getfield 19, 3) := by decide +kernel
theorem dX6_pass_34 : decode cX6_pass 34 = .ok (.aload_n 0, 1) := by decide +kernel
theorem dX6_pass_35 : decode cX6_pass 35 = .ok (.getfield 10, 3) := by decide +kernel
theorem dX6_pass_38 : decode cX6_pass 38 = .ok (.invokevirtual 96, 3) := by decide +kernel
theorem dX6_pass_41 : decode cX6_pass 41 = .ok (.aload_n 0, 1) := by decide +kernel
theorem dX6_pass_42 : decode cX6_pass 42 = .ok (.getfield 10, 3) := by decide +kernel
theorem dX6_pass_45 : decode cX6_pass 45 = .ok (.dup, 1) := by decide +kernel
theorem dX6_pass_46 : decode cX6_pass 46 = .ok (.getfield 109, 3) := by decide +kernel
theorem dX6_pass_49 : decode cX6_pass 49 = .ok (.iload_n 1, 1) := by decide +kernel
theorem dX6_pass_50 : decode cX6_pass 50 = .ok (.iadd, 1) := by decide +kernel
theorem dX6_pass_51 : decode cX6_pass 51 = .ok (.putfield 109, 3) := by decide +kernel
theorem dX6_pass_54 : decode cX6_pass 54 = .ok (.aload_n 0, 1) := by decide +kernel
theorem dX6_pass_55 : decode cX6_pass 55 = .ok (.getfield 10, 3) := by decide +kernel
theorem dX6_pass_58 : decode cX6_pass 58 = .ok (.getfield 109, 3) := by decide +kernel
theorem dX6_pass_61 : decode cX6_pass 61 = .ok (.ireturn, 1) := by decide +kernel
theorem dX6_size_0 : decode cX6_size 0 = .ok (.iload_n 1, 1) := by decide +kernel
theorem dX6_size_1 : decode cX6_size 1 = .ok (.invokestatic 86, 3) := by decide +kernel
theorem dX6_size_4 : decode cX6_size 4 = .ok (.ifCond .eq 13, 3) := by decide +kernel
theorem dX6_size_7 : decode cX6_size 7 = .ok (.iload_n 2, 1) := by decide +kernel
theorem dX6_size_8 : decode cX6_size 8 = .ok (.iconst 1, 1) := by decide +kernel
theorem dX6_size_9 : decode cX6_size 9 = .ok (.bipush 12, 2) := by decide +kernel
theorem dX6_size_11 : decode cX6_size 11 = .ok (.invokestatic 62, 3) := by decide +kernel
theorem dX6_size_14 : decode cX6_size 14 = .ok (.ifCond .ne 5, 3) := by decide +kernel
theorem dX6_size_17 : decode cX6_size 17 = .ok (.iconst (-1), 1) := by decide +kernel
theorem dX6_size_18 : decode cX6_size 18 = .ok (.ireturn, 1) := by decide +kernel
theorem dX6_size_19 : decode cX6_size 19 = .ok (.aload_n 0, 1) := by decide +kernel
theorem dX6_size_20 : decode cX6_size 20 = .ok (.getfield 10, 3) := by decide +kernel
theorem dX6_size_23 : decode cX6_size 23 = .ok (.getfield 113, 3) := by decide +kernel
theorem dX6_size_26 : decode cX6_size 26 = .ok (.iload_n 1, 1) := by decide +kernel
theorem dX6_size_27 : decode cX6_size 27 = .ok (.iaload, 1) := by decide +kernel
theorem dX6_size_28 : decode cX6_size 28 = .ok (.istore_n 3, 1) := by decide +kernel
theorem dX6_size_29 : decode cX6_size 29 = .ok (.iload_n 3, 1) := by decide +kernel
theorem dX6_size_30 : decode cX6_size 30 = .ok (.iload_n 2, 1) := by decide +kernel
theorem dX6_size_31 : decode cX6_size 31 = .ok (.if_icmp .ne 6, 3) := by decide +kernel
theorem dX6_size_34 : decode cX6_size 34 = .ok (.bipush (-2), 2) := by decide +kernel
theorem dX6_size_36 : decode cX6_size 36 = .ok (.ireturn, 1) := by decide +kernel
theorem dX6_size_37 : decode cX6_size 37 = .ok (.aload_n 0, 1) := by decide +kernel
theorem dX6_size_38 : decode cX6_size 38 = .ok (.getfield 19, 3) := by decide +kernel
theorem dX6_size_41 : decode cX6_size 41 = .ok (.aload_n 0, 1) := by decide +kernel
theorem dX6_size_42 : decode cX6_size 42 = .ok (.getfield 10, 3) := by decide +kernel
theorem dX6_size_45 : decode cX6_size 45 = .ok (.invokevirtual 96, 3) := by decide +kernel
theorem dX6_size_48 : decode cX6_size 48 = .ok (.aload_n 0, 1) := by decide +kernel
theorem dX6_size_49 : decode cX6_size 49 = .ok (.getfield 10, 3) := by decide +kernel
theorem dX6_size_52 : decode cX6_size 52 = .ok (.getfield 113, 3) := by decide +kernel
theorem dX6_size_55 : decode cX6_size 55 = .ok (.iload_n 1, 1) := by decide +kernel
theorem dX6_size_56 : decode cX6_size 56 = .ok (.iload_n 2, 1) := by decide +kernel
theorem dX6_size_57 : decode cX6_size 57 = .ok (.iastore, 1) := by decide +kernel
theorem dX6_size_58 : decode cX6_size 58 = .ok (.iload_n 3, 1) := by decide +kernel
theorem dX6_size_59 : decode cX6_size 59 = .ok (.ireturn, 1) := by decide +kernel
theorem dX6_window_0 : decode cX6_window 0 = .ok (.iload_n 1, 1) := by decide +kernel
theorem dX6_window_1 : decode cX6_window 1 = .ok (.invokestatic 86, 3) := by decide +kernel
theorem dX6_window_4 : decode cX6_window 4 = .ok (.ifCond .eq 14, 3) := by decide +kernel
theorem dX6_window_7 : decode cX6_window 7 = .ok (.iload_n 2, 1) := by decide +kernel
theorem dX6_window_8 : decode cX6_window 8 = .ok (.iconst 0, 1) := by decide +kernel
theorem dX6_window_9 : decode cX6_window 9 = .ok (.sipush 9999, 3) := by decide +kernel
theorem dX6_window_12 : decode cX6_window 12 = .ok (.invokestatic 62, 3) := by decide +kernel
theorem dX6_window_15 : decode cX6_window 15 = .ok (.ifCond .ne 5, 3) := by decide +kernel
theorem dX6_window_18 : decode cX6_window 18 = .ok (.iconst (-1), 1) := by decide +kernel
theorem dX6_window_19 : decode cX6_window 19 = .ok (.ireturn, 1) := by decide +kernel
theorem dX6_window_20 : decode cX6_window 20 = .ok (.aload_n 0, 1) := by decide +kernel
theorem dX6_window_21 : decode cX6_window 21 = .ok (.getfield 10, 3) := by decide +kernel
theorem dX6_window_24 : decode cX6_window 24 = .ok (.getfield 117, 3) := by decide +kernel
theorem dX6_window_27 : decode cX6_window 27 = .ok (.iload_n 1, 1) := by decide +kernel
theorem dX6_window_28 : decode cX6_window 28 = .ok (.iaload, 1) := by decide +kernel
theorem dX6_window_29 : decode cX6_window 29 = .ok (.istore_n 3, 1) := by decide +kernel
theorem dX6_window_30 : decode cX6_window 30 = .ok (.iload_n 3, 1) := by decide +kernel
theorem dX6_window_31 : decode cX6_window 31 = .ok (.iload_n 2, 1) := by decide +kernel
theorem dX6_window_32 : decode cX6_window 32 = .ok (.if_icmp .ne 6, 3) := by decide +kernel
theorem dX6_window_35 : decode cX6_window 35 = .ok (.bipush (-2), 2) := by decide +kernel
theorem dX6_window_37 : decode cX6_window 37 = .ok (.ireturn, 1) := by decide +kernel
theorem dX6_window_38 : decode cX6_window 38 = .ok (.aload_n 0, 1) := by decide +kernel
theorem dX6_window_39 : decode cX6_window 39 = .ok (.getfield 19, 3) := by decide +kernel
theorem dX6_window_42 : decode cX6_window 42 = .ok (.aload_n 0, 1) := by decide +kernel
theorem dX6_window_43 : decode cX6_window 43 = .ok (.getfield 10, 3) := by decide +kernel
theorem dX6_window_46 : decode cX6_window 46 = .ok (.invokevirtual 96, 3) := by decide +kernel
theorem dX6_window_49 : decode cX6_window 49 = .ok (.aload_n 0, 1) := by decide +kernel
theorem dX6_window_50 : decode cX6_window 50 = .ok (.getfield 10, 3) := by decide +kernel
theorem dX6_window_53 : decode cX6_window 53 = .ok (.getfield 117, 3) := by decide +kernel
theorem dX6_window_56 : decode cX6_window 56 = .ok (.iload_n 1, 1) := by decide +kernel
theorem dX6_window_57 : decode cX6_window 57 = .ok (.iload_n 2, 1) := by decide +kernel
theorem dX6_window_58 : decode cX6_window 58 = .ok (.iastore, 1) := by decide +kernel
theorem dX6_window_59 : decode cX6_window 59 = .ok (.iload_n 3, 1) := by decide +kernel
theorem dX6_window_60 : decode cX6_window 60 = .ok (.ireturn, 1) := by decide +kernel
theorem dX6_weigh_0 : decode cX6_weigh 0 = .ok (.aload_n 0, 1) := by decide +kernel
theorem dX6_weigh_1 : decode cX6_weigh 1 = .ok (.getfield 10, 3) := by decide +kernel
theorem dX6_weigh_4 : decode cX6_weigh 4 = .ok (.iload_n 1, 1) := by decide +kernel
theorem dX6_weigh_5 : decode cX6_weigh 5 = .ok (.invokevirtual 120, 3) := by decide +kernel
theorem dX6_weigh_8 : decode cX6_weigh 8 = .ok (.ifCond .eq 10, 3) := by decide +kernel
theorem dX6_weigh_11 : decode cX6_weigh 11 = .ok (.iload_n 2, 1) := by decide +kernel
theorem dX6_weigh_12 : decode cX6_weigh 12 = .ok (.invokestatic 93, 3) := by decide +kernel
theorem dX6_weigh_15 : decode cX6_weigh 15 = .ok (.ifCond .ne 5, 3) := by decide +kernel
theorem dX6_weigh_18 : decode cX6_weigh 18 = .ok (.iconst (-1), 1) := by decide +kernel
theorem dX6_weigh_19 : decode cX6_weigh 19 = .ok (.ireturn, 1) := by decide +kernel
theorem dX6_weigh_20 : decode cX6_weigh 20 = .ok (.aload_n 0, 1) := by decide +kernel
theorem dX6_weigh_21 : decode cX6_weigh 21 = .ok (.getfield 10, 3) := by decide +kernel
theorem dX6_weigh_24 : decode cX6_weigh 24 = .ok (.getfield 123, 3) := by decide +kernel
theorem dX6_weigh_27 : decode cX6_weigh 27 = .ok (.iload_n 1, 1) := by decide +kernel
theorem dX6_weigh_28 : decode cX6_weigh 28 = .ok (.iaload, 1) := by decide +kernel
theorem dX6_weigh_29 : decode cX6_weigh 29 = .ok (.istore_n 3, 1) := by decide +kernel
theorem dX6_weigh_30 : decode cX6_weigh 30 = .ok (.iload_n 3, 1) := by decide +kernel
theorem dX6_weigh_31 : decode cX6_weigh 31 = .ok (.iload_n 2, 1) := by decide +kernel
theorem dX6_weigh_32 : decode cX6_weigh 32 = .ok (.if_icmp .ne 6, 3) := by decide +kernel
theorem dX6_weigh_35 : decode cX6_weigh 35 = .ok (.bipush (-2), 2) := by decide +kernel
theorem dX6_weigh_37 : decode cX6_weigh 37 = .ok (.ireturn, 1) := by decide +kernel
theorem dX6_weigh_38 : decode cX6_weigh 38 = .ok (.aload_n 0, 1) := by decide +kernel
theorem dX6_weigh_39 : decode cX6_weigh 39 = .ok (.getfield 19, 3) := by decide +kernel
theorem dX6_weigh_42 : decode cX6_weigh 42 = .ok (.aload_n 0, 1) := by decide +kernel
theorem dX6_weigh_43 : decode cX6_weigh 43 = .ok (.getfield 10, 3) := by decide +kernel
theorem dX6_weigh_46 : decode cX6_weigh 46 = .ok (.invokevirtual 96, 3) := by decide +kernel
theorem dX6_weigh_49 : decode cX6_weigh 49 = .ok (.aload_n 0, 1) := by decide +kernel
theorem dX6_weigh_50 : decode cX6_weigh 50 = .ok (.getfield 10, 3) := by decide +kernel
theorem dX6_weigh_53 : decode cX6_weigh 53 = .ok (.getfield 123, 3) := by decide +kernel
theorem dX6_weigh_56 : decode cX6_weigh 56 = .ok (.iload_n 1, 1) := by decide +kernel
theorem dX6_weigh_57 : decode cX6_weigh 57 = .ok (.iload_n 2, 1) := by decide +kernel
theorem dX6_weigh_58 : decode cX6_weigh 58 = .ok (.iastore, 1) := by decide +kernel
theorem dX6_weigh_59 : decode cX6_weigh 59 = .ok (.aload_n 0, 1) := by decide +kernel
theorem dX6_weigh_60 : decode cX6_weigh 60 = .ok (.getfield 10, 3) := by decide +kernel
theorem dX6_weigh_63 : decode cX6_weigh 63 = .ok (.invokevirtual 77, 3) := by decide +kernel
theorem dX6_weigh_66 : decode cX6_weigh 66 = .ok (.iload_n 3, 1) := by decide +kernel
theorem dX6_weigh_67 : decode cX6_weigh 67 = .ok (.ireturn, 1) := by decide +kernel
theorem dX6_again_0 : decode cX6_again 0 = .ok (.aload_n 0, 1) := by decide +kernel
theorem dX6_again_1 : decode cX6_again 1 = .ok (.getfield 10, 3) := by decide +kernel
theorem dX6_again_4 : decode cX6_again 4 = .ok (.iload_n 1, 1) := by decide +kernel
theorem dX6_again_5 : decode cX6_again 5 = .ok (.invokevirtual 120, 3) := by decide +kernel
theorem dX6_again_8 : decode cX6_again 8 = .ok (.ifCond .ne 5, 3) := by decide +kernel
theorem dX6_again_11 : decode cX6_again 11 = .ok (.iconst (-1), 1) := by decide +kernel
theorem dX6_again_12 : decode cX6_again 12 = .ok (.ireturn, 1) := by decide +kernel
theorem dX6_again_13 : decode cX6_again 13 = .ok (.aload_n 0, 1) := by decide +kernel
theorem dX6_again_14 : decode cX6_again 14 = .ok (.getfield 19, 3) := by decide +kernel
theorem dX6_again_17 : decode cX6_again 17 = .ok (.aload_n 0, 1) := by decide +kernel
theorem dX6_again_18 : decode cX6_again 18 = .ok (.getfield 10, 3) := by decide +kernel
theorem dX6_again_21 : decode cX6_again 21 = .ok (.invokevirtual 96, 3) := by decide +kernel
theorem dX6_again_24 : decode cX6_again 24 = .ok (.aload_n 0, 1) := by decide +kernel
theorem dX6_again_25 : decode cX6_again 25 = .ok (.getfield 10, 3) := by decide +kernel
theorem dX6_again_28 : decode cX6_again 28 = .ok (.invokevirtual 99, 3) := by decide +kernel
theorem dX6_again_31 : decode cX6_again 31 = .ok (.istore_n 2, 1) := by decide +kernel
theorem dX6_again_32 : decode cX6_again 32 = .ok (.aload_n 0, 1) := by decide +kernel
theorem dX6_again_33 : decode cX6_again 33 = .ok (.getfield 10, 3) := by decide +kernel
theorem dX6_again_36 : decode cX6_again 36 = .ok (.getfield 126, 3) := by decide +kernel
theorem dX6_again_39 : decode cX6_again 39 = .ok (.iload_n 1, 1) := by decide +kernel
theorem dX6_again_40 : decode cX6_again 40 = .ok (.iload_n 2, 1) := by decide +kernel
theorem dX6_again_41 : decode cX6_again 41 = .ok (.iastore, 1) := by decide +kernel
theorem dX6_again_42 : decode cX6_again 42 = .ok (.aload_n 0, 1) := by decide +kernel
theorem dX6_again_43 : decode cX6_again 43 = .ok (.getfield 10, 3) := by decide +kernel
theorem dX6_again_46 : decode cX6_again 46 = .ok (.invokevirtual 77, 3) := by decide +kernel
theorem dX6_again_49 : decode cX6_again 49 = .ok (.iload_n 2, 1) := by decide +kernel
theorem dX6_again_50 : decode cX6_again 50 = .ok (.ireturn, 1) := by decide +kernel
theorem dX6_drop_0 : decode cX6_drop 0 = .ok (.aload_n 0, 1) := by decide +kernel
theorem dX6_drop_1 : decode cX6_drop 1 = .ok (.getfield 10, 3) := by decide +kernel
theorem dX6_drop_4 : decode cX6_drop 4 = .ok (.iload_n 1, 1) := by decide +kernel
theorem dX6_drop_5 : decode cX6_drop 5 = .ok (.invokevirtual 120, 3) := by decide +kernel
theorem dX6_drop_8 : decode cX6_drop 8 = .ok (.ifCond .ne 5, 3) := by decide +kernel
theorem dX6_drop_11 : decode cX6_drop 11 = .ok (.iconst (-1), 1) := by decide +kernel
theorem dX6_drop_12 : decode cX6_drop 12 = .ok (.ireturn, 1) := by decide +kernel
theorem dX6_drop_13 : decode cX6_drop 13 = .ok (.aload_n 0, 1) := by decide +kernel
theorem dX6_drop_14 : decode cX6_drop 14 = .ok (.getfield 19, 3) := by decide +kernel
theorem dX6_drop_17 : decode cX6_drop 17 = .ok (.aload_n 0, 1) := by decide +kernel
theorem dX6_drop_18 : decode cX6_drop 18 = .ok (.getfield 10, 3) := by decide +kernel
theorem dX6_drop_21 : decode cX6_drop 21 = .ok (.invokevirtual 96, 3) := by decide +kernel
theorem dX6_drop_24 : decode cX6_drop 24 = .ok (.aload_n 0, 1) := by decide +kernel
theorem dX6_drop_25 : decode cX6_drop 25 = .ok (.getfield 10, 3) := by decide +kernel
theorem dX6_drop_28 : decode cX6_drop 28 = .ok (.getfield 129, 3) := by decide +kernel
theorem dX6_drop_31 : decode cX6_drop 31 = .ok (.iload_n 1, 1) := by decide +kernel
theorem dX6_drop_32 : decode cX6_drop 32 = .ok (.iconst 1, 1) := by decide +kernel
theorem dX6_drop_33 : decode cX6_drop 33 = .ok (.bastore, 1) := by decide +kernel
theorem dX6_drop_34 : decode cX6_drop 34 = .ok (.aload_n 0, 1) := by decide +kernel
theorem dX6_drop_35 : decode cX6_drop 35 = .ok (.getfield 10, 3) := by decide +kernel
theorem dX6_drop_38 : decode cX6_drop 38 = .ok (.aload_n 0, 1) := by decide +kernel
theorem dX6_drop_39 : decode cX6_drop 39 = .ok (.getfield 10, 3) := by decide +kernel
theorem dX6_drop_42 : decode cX6_drop 42 = .ok (.getfield 133, 3) := by decide +kernel
theorem dX6_drop_45 : decode cX6_drop 45 = .ok (.iload_n 1, 1) := by decide +kernel
theorem dX6_drop_46 : decode cX6_drop 46 = .ok (.iaload, 1) := by decide +kernel
theorem dX6_drop_47 : decode cX6_drop 47 = .ok (.iconst (-1), 1) := by decide +kernel
theorem dX6_drop_48 : decode cX6_drop 48 = .ok (.invokevirtual 136, 3) := by decide +kernel
theorem dX6_drop_51 : decode cX6_drop 51 = .ok (.ireturn, 1) := by decide +kernel
theorem dX6_move_0 : decode cX6_move 0 = .ok (.aload_n 0, 1) := by decide +kernel
theorem dX6_move_1 : decode cX6_move 1 = .ok (.getfield 10, 3) := by decide +kernel
theorem dX6_move_4 : decode cX6_move 4 = .ok (.iload_n 1, 1) := by decide +kernel
theorem dX6_move_5 : decode cX6_move 5 = .ok (.invokevirtual 120, 3) := by decide +kernel
theorem dX6_move_8 : decode cX6_move 8 = .ok (.ifCond .eq 10, 3) := by decide +kernel
theorem dX6_move_11 : decode cX6_move 11 = .ok (.iload_n 2, 1) := by decide +kernel
theorem dX6_move_12 : decode cX6_move 12 = .ok (.invokestatic 86, 3) := by decide +kernel
theorem dX6_move_15 : decode cX6_move 15 = .ok (.ifCond .ne 5, 3) := by decide +kernel
theorem dX6_move_18 : decode cX6_move 18 = .ok (.iconst (-1), 1) := by decide +kernel
theorem dX6_move_19 : decode cX6_move 19 = .ok (.ireturn, 1) := by decide +kernel
theorem dX6_move_20 : decode cX6_move 20 = .ok (.aload_n 0, 1) := by decide +kernel
theorem dX6_move_21 : decode cX6_move 21 = .ok (.getfield 10, 3) := by decide +kernel
theorem dX6_move_24 : decode cX6_move 24 = .ok (.getfield 133, 3) := by decide +kernel
theorem dX6_move_27 : decode cX6_move 27 = .ok (.iload_n 1, 1) := by decide +kernel
theorem dX6_move_28 : decode cX6_move 28 = .ok (.iaload, 1) := by decide +kernel
theorem dX6_move_29 : decode cX6_move 29 = .ok (.istore_n 3, 1) := by decide +kernel
theorem dX6_move_30 : decode cX6_move 30 = .ok (.iload_n 3, 1) := by decide +kernel
theorem dX6_move_31 : decode cX6_move 31 = .ok (.iload_n 2, 1) := by decide +kernel
theorem dX6_move_32 : decode cX6_move 32 = .ok (.if_icmp .ne 6, 3) := by decide +kernel
theorem dX6_move_35 : decode cX6_move 35 = .ok (.bipush (-2), 2) := by decide +kernel
theorem dX6_move_37 : decode cX6_move 37 = .ok (.ireturn, 1) := by decide +kernel
theorem dX6_move_38 : decode cX6_move 38 = .ok (.aload_n 0, 1) := by decide +kernel
theorem dX6_move_39 : decode cX6_move 39 = .ok (.getfield 19, 3) := by decide +kernel
theorem dX6_move_42 : decode cX6_move 42 = .ok (.aload_n 0, 1) := by decide +kernel
theorem dX6_move_43 : decode cX6_move 43 = .ok (.getfield 10, 3) := by decide +kernel
theorem dX6_move_46 : decode cX6_move 46 = .ok (.invokevirtual 96, 3) := by decide +kernel
theorem dX6_move_49 : decode cX6_move 49 = .ok (.aload_n 0, 1) := by decide +kernel
theorem dX6_move_50 : decode cX6_move 50 = .ok (.getfield 10, 3) := by decide +kernel
theorem dX6_move_53 : decode cX6_move 53 = .ok (.getfield 133, 3) := by decide +kernel
theorem dX6_move_56 : decode cX6_move 56 = .ok (.iload_n 1, 1) := by decide +kernel
theorem dX6_move_57 : decode cX6_move 57 = .ok (.iload_n 2, 1) := by decide +kernel
theorem dX6_move_58 : decode cX6_move 58 = .ok (.iastore, 1) := by decide +kernel
theorem dX6_move_59 : decode cX6_move 59 = .ok (.iload_n 3, 1) := by decide +kernel
theorem dX6_move_60 : decode cX6_move 60 = .ok (.ireturn, 1) := by decide +kernel
theorem dX6_merge_0 : decode cX6_merge 0 = .ok (.iload_n 1, 1) := by decide +kernel
theorem dX6_merge_1 : decode cX6_merge 1 = .ok (.invokestatic 86, 3) := by decide +kernel
theorem dX6_merge_4 : decode cX6_merge 4 = .ok (.ifCond .eq 15, 3) := by decide +kernel
theorem dX6_merge_7 : decode cX6_merge 7 = .ok (.iload_n 2, 1) := by decide +kernel
theorem dX6_merge_8 : decode cX6_merge 8 = .ok (.invokestatic 86, 3) := by decide +kernel
theorem dX6_merge_11 : decode cX6_merge 11 = .ok (.ifCond .eq 8, 3) := by decide +kernel
theorem dX6_merge_14 : decode cX6_merge 14 = .ok (.iload_n 1, 1) := by decide +kernel
theorem dX6_merge_15 : decode cX6_merge 15 = .ok (.iload_n 2, 1) := by decide +kernel
theorem dX6_merge_16 : decode cX6_merge 16 = .ok (.if_icmp .ne 5, 3) := by decide +kernel
theorem dX6_merge_19 : decode cX6_merge 19 = .ok (.iconst (-1), 1) := by decide +kernel
theorem dX6_merge_20 : decode cX6_merge 20 = .ok (.ireturn, 1) := by decide +kernel
theorem dX6_merge_21 : decode cX6_merge 21 = .ok (.aload_n 0, 1) := by decide +kernel
theorem dX6_merge_22 : decode cX6_merge 22 = .ok (.iload_n 1, 1) := by decide +kernel
theorem dX6_merge_23 : decode cX6_merge 23 = .ok (.iconst (-1), 1) := by decide +kernel
theorem dX6_merge_24 : decode cX6_merge 24 = .ok (.iload_n 2, 1) := by decide +kernel
theorem dX6_merge_25 : decode cX6_merge 25 = .ok (.invokevirtual 140, 3) := by decide +kernel
theorem dX6_merge_28 : decode cX6_merge 28 = .ok (.ireturn, 1) := by decide +kernel
theorem dX6_rename_0 : decode cX6_rename 0 = .ok (.iload_n 1, 1) := by decide +kernel
theorem dX6_rename_1 : decode cX6_rename 1 = .ok (.invokestatic 90, 3) := by decide +kernel
theorem dX6_rename_4 : decode cX6_rename 4 = .ok (.ifCond .eq 15, 3) := by decide +kernel
theorem dX6_rename_7 : decode cX6_rename 7 = .ok (.iload_n 2, 1) := by decide +kernel
theorem dX6_rename_8 : decode cX6_rename 8 = .ok (.invokestatic 90, 3) := by decide +kernel
theorem dX6_rename_11 : decode cX6_rename 11 = .ok (.ifCond .eq 8, 3) := by decide +kernel
theorem dX6_rename_14 : decode cX6_rename 14 = .ok (.iload_n 1, 1) := by decide +kernel
theorem dX6_rename_15 : decode cX6_rename 15 = .ok (.iload_n 2, 1) := by decide +kernel
theorem dX6_rename_16 : decode cX6_rename 16 = .ok (.if_icmp .ne 5, 3) := by decide +kernel
theorem dX6_rename_19 : decode cX6_rename 19 = .ok (.iconst (-1), 1) := by decide +kernel
theorem dX6_rename_20 : decode cX6_rename 20 = .ok (.ireturn, 1) := by decide +kernel
theorem dX6_rename_21 : decode cX6_rename 21 = .ok (.aload_n 0, 1) := by decide +kernel
theorem dX6_rename_22 : decode cX6_rename 22 = .ok (.getfield 10, 3) := by decide +kernel
theorem dX6_rename_25 : decode cX6_rename 25 = .ok (.iconst (-1), 1) := by decide +kernel
theorem dX6_rename_26 : decode cX6_rename 26 = .ok (.iload_n 1, 1) := by decide +kernel
theorem dX6_rename_27 : decode cX6_rename 27 = .ok (.invokevirtual 136, 3) := by decide +kernel
theorem dX6_rename_30 : decode cX6_rename 30 = .ok (.istore_n 3, 1) := by decide +kernel
theorem dX6_rename_31 : decode cX6_rename 31 = .ok (.iload_n 3, 1) := by decide +kernel
theorem dX6_rename_32 : decode cX6_rename 32 = .ok (.ifCond .ne 6, 3) := by decide +kernel
theorem dX6_rename_35 : decode cX6_rename 35 = .ok (.bipush (-2), 2) := by decide +kernel
theorem dX6_rename_37 : decode cX6_rename 37 = .ok (.ireturn, 1) := by decide +kernel
theorem dX6_rename_38 : decode cX6_rename 38 = .ok (.aload_n 0, 1) := by decide +kernel
theorem dX6_rename_39 : decode cX6_rename 39 = .ok (.getfield 19, 3) := by decide +kernel
theorem dX6_rename_42 : decode cX6_rename 42 = .ok (.aload_n 0, 1) := by decide +kernel
theorem dX6_rename_43 : decode cX6_rename 43 = .ok (.getfield 10, 3) := by decide +kernel
theorem dX6_rename_46 : decode cX6_rename 46 = .ok (.invokevirtual 96, 3) := by decide +kernel
theorem dX6_rename_49 : decode cX6_rename 49 = .ok (.iconst 0, 1) := by decide +kernel
theorem dX6_rename_50 : decode cX6_rename 50 = .ok (.istore 4, 2) := by decide +kernel
theorem dX6_rename_52 : decode cX6_rename 52 = .ok (.iload 4, 2) := by decide +kernel
theorem dX6_rename_54 : decode cX6_rename 54 = .ok (.aload_n 0, 1) := by decide +kernel
theorem dX6_rename_55 : decode cX6_rename 55 = .ok (.getfield 10, 3) := by decide +kernel
theorem dX6_rename_58 : decode cX6_rename 58 = .ok (.getfield 83, 3) := by decide +kernel
theorem dX6_rename_61 : decode cX6_rename 61 = .ok (.if_icmp .ge 34, 3) := by decide +kernel
theorem dX6_rename_64 : decode cX6_rename 64 = .ok (.aload_n 0, 1) := by decide +kernel
theorem dX6_rename_65 : decode cX6_rename 65 = .ok (.getfield 10, 3) := by decide +kernel
theorem dX6_rename_68 : decode cX6_rename 68 = .ok (.iload 4, 2) := by decide +kernel
theorem dX6_rename_70 : decode cX6_rename 70 = .ok (.iconst (-1), 1) := by decide +kernel
theorem dX6_rename_71 : decode cX6_rename 71 = .ok (.iload_n 1, 1) := by decide +kernel
theorem dX6_rename_72 : decode cX6_rename 72 = .ok (.invokevirtual 144, 3) := by decide +kernel
theorem dX6_rename_75 : decode cX6_rename 75 = .ok (.ifCond .eq 14, 3) := by decide +kernel
theorem dX6_rename_78 : decode cX6_rename 78 = .ok (.aload_n 0, 1) := by decide +kernel
theorem dX6_rename_79 : decode cX6_rename 79 = .ok (.getfield 10, 3) := by decide +kernel
theorem dX6_rename_82 : decode cX6_rename 82 = .ok (.getfield 147, 3) := by decide +kernel
theorem dX6_rename_85 : decode cX6_rename 85 = .ok (.iload 4, 2) := by decide +kernel
theorem dX6_rename_87 : decode cX6_rename 87 = .ok (.iload_n 2, 1) := by decide +kernel
theorem dX6_rename_88 : decode cX6_rename 88 = .ok (.iastore, 1) := by decide +kernel
theorem dX6_rename_89 : decode cX6_rename 89 = .ok (.iinc 4 1, 3) := by decide +kernel
theorem dX6_rename_92 : decode cX6_rename 92 = .ok (.goto (-40), 3) := by decide +kernel
theorem dX6_rename_95 : decode cX6_rename 95 = .ok (.iload_n 3, 1) := by decide +kernel
theorem dX6_rename_96 : decode cX6_rename 96 = .ok (.ireturn, 1) := by decide +kernel
theorem dX6_thin_0 : decode cX6_thin 0 = .ok (.iload_n 1, 1) := by decide +kernel
theorem dX6_thin_1 : decode cX6_thin 1 = .ok (.invokestatic 86, 3) := by decide +kernel
theorem dX6_thin_4 : decode cX6_thin 4 = .ok (.ifCond .ne 5, 3) := by decide +kernel
theorem dX6_thin_7 : decode cX6_thin 7 = .ok (.iconst (-1), 1) := by decide +kernel
theorem dX6_thin_8 : decode cX6_thin 8 = .ok (.ireturn, 1) := by decide +kernel
theorem dX6_thin_9 : decode cX6_thin 9 = .ok (.aload_n 0, 1) := by decide +kernel
theorem dX6_thin_10 : decode cX6_thin 10 = .ok (.getfield 37, 3) := by decide +kernel
theorem dX6_thin_13 : decode cX6_thin 13 = .ok (.aload_n 0, 1) := by decide +kernel
theorem dX6_thin_14 : decode cX6_thin 14 = .ok (.getfield 10, 3) := by decide +kernel
theorem dX6_thin_17 : decode cX6_thin 17 = .ok (.iload_n 1, 1) := by decide +kernel
theorem dX6_thin_18 : decode cX6_thin 18 = .ok (.invokevirtual 150, 3) := by decide +kernel
theorem dX6_thin_21 : decode cX6_thin 21 = .ok (.aload_n 0, 1) := by decide +kernel
theorem dX6_thin_22 : decode cX6_thin 22 = .ok (.getfield 10, 3) := by decide +kernel
theorem dX6_thin_25 : decode cX6_thin 25 = .ok (.iload_n 1, 1) := by decide +kernel
theorem dX6_thin_26 : decode cX6_thin 26 = .ok (.iconst (-1), 1) := by decide +kernel
theorem dX6_thin_27 : decode cX6_thin 27 = .ok (.invokevirtual 136, 3) := by decide +kernel
theorem dX6_thin_30 : decode cX6_thin 30 = .ok (.aload_n 0, 1) := by decide +kernel
theorem dX6_thin_31 : decode cX6_thin 31 = .ok (.getfield 37, 3) := by decide +kernel
theorem dX6_thin_34 : decode cX6_thin 34 = .ok (.getfield 154, 3) := by decide +kernel
theorem dX6_thin_37 : decode cX6_thin 37 = .ok (.isub, 1) := by decide +kernel
theorem dX6_thin_38 : decode cX6_thin 38 = .ok (.istore_n 2, 1) := by decide +kernel
theorem dX6_thin_39 : decode cX6_thin 39 = .ok (.iload_n 2, 1) := by decide +kernel
theorem dX6_thin_40 : decode cX6_thin 40 = .ok (.ifCond .ne 6, 3) := by decide +kernel
theorem dX6_thin_43 : decode cX6_thin 43 = .ok (.bipush (-2), 2) := by decide +kernel
theorem dX6_thin_45 : decode cX6_thin 45 = .ok (.ireturn, 1) := by decide +kernel
theorem dX6_thin_46 : decode cX6_thin 46 = .ok (.aload_n 0, 1) := by decide +kernel
theorem dX6_thin_47 : decode cX6_thin 47 = .ok (.getfield 19, 3) := by decide +kernel
theorem dX6_thin_50 : decode cX6_thin 50 = .ok (.aload_n 0, 1) := by decide +kernel
theorem dX6_thin_51 : decode cX6_thin 51 = .ok (.getfield 10, 3) := by decide +kernel
theorem dX6_thin_54 : decode cX6_thin 54 = .ok (.invokevirtual 96, 3) := by decide +kernel
theorem dX6_thin_57 : decode cX6_thin 57 = .ok (.iconst 0, 1) := by decide +kernel
theorem dX6_thin_58 : decode cX6_thin 58 = .ok (.istore_n 3, 1) := by decide +kernel
theorem dX6_thin_59 : decode cX6_thin 59 = .ok (.iload_n 3, 1) := by decide +kernel
theorem dX6_thin_60 : decode cX6_thin 60 = .ok (.aload_n 0, 1) := by decide +kernel
theorem dX6_thin_61 : decode cX6_thin 61 = .ok (.getfield 10, 3) := by decide +kernel
theorem dX6_thin_64 : decode cX6_thin 64 = .ok (.getfield 83, 3) := by decide +kernel
theorem dX6_thin_67 : decode cX6_thin 67 = .ok (.if_icmp .ge 44, 3) := by decide +kernel
theorem dX6_thin_70 : decode cX6_thin 70 = .ok (.aload_n 0, 1) := by decide +kernel
theorem dX6_thin_71 : decode cX6_thin 71 = .ok (.getfield 10, 3) := by decide +kernel
theorem dX6_thin_74 : decode cX6_thin 74 = .ok (.iload_n 3, 1) := by decide +kernel
theorem dX6_thin_75 : decode cX6_thin 75 = .ok (.iload_n 1, 1) := by decide +kernel
theorem dX6_thin_76 : decode cX6_thin 76 = .ok (.iconst (-1), 1) := by decide +kernel
theorem dX6_thin_77 : decode cX6_thin 77 = .ok (.invokevirtual 144, 3) := by decide +kernel
theorem dX6_thin_80 : decode cX6_thin 80 = .ok (.ifCond .eq 25, 3) := by decide +kernel
theorem dX6_thin_83 : decode cX6_thin 83 = .ok (.aload_n 0, 1) := by decide +kernel
theorem dX6_thin_84 : decode cX6_thin 84 = .ok (.getfield 37, 3) := by decide +kernel
theorem dX6_thin_87 : decode cX6_thin 87 = .ok (.iload_n 3, 1) := by decide +kernel
theorem dX6_thin_88 : decode cX6_thin 88 = .ok (.invokevirtual 157, 3) := by decide +kernel
theorem dX6_thin_91 : decode cX6_thin 91 = .ok (.iconst (-1), 1) := by decide +kernel
theorem dX6_thin_92 : decode cX6_thin 92 = .ok (.if_icmp .ne 13, 3) := by decide +kernel
theorem dX6_thin_95 : decode cX6_thin 95 = .ok (.aload_n 0, 1) := by decide +kernel
theorem dX6_thin_96 : decode cX6_thin 96 = .ok (.getfield 10, 3) := by decide +kernel
theorem dX6_thin_99 : decode cX6_thin 99 = .ok (.getfield 129, 3) := by decide +kernel
theorem dX6_thin_102 : decode cX6_thin 102 = .ok (.iload_n 3, 1) := by decide +kernel
theorem dX6_thin_103 : decode cX6_thin 103 = .ok (.iconst 1, 1) := by decide +kernel
theorem dX6_thin_104 : decode cX6_thin 104 = .ok (.bastore, 1) := by decide +kernel
theorem dX6_thin_105 : decode cX6_thin 105 = .ok (.iinc 3 1, 3) := by decide +kernel
theorem dX6_thin_108 : decode cX6_thin 108 = .ok (.goto (-49), 3) := by decide +kernel
theorem dX6_thin_111 : decode cX6_thin 111 = .ok (.iload_n 2, 1) := by decide +kernel
theorem dX6_thin_112 : decode cX6_thin 112 = .ok (.ireturn, 1) := by decide +kernel
theorem dX6_swap_0 : decode cX6_swap 0 = .ok (.aload_n 0, 1) := by decide +kernel
theorem dX6_swap_1 : decode cX6_swap 1 = .ok (.getfield 10, 3) := by decide +kernel
theorem dX6_swap_4 : decode cX6_swap 4 = .ok (.iload_n 1, 1) := by decide +kernel
theorem dX6_swap_5 : decode cX6_swap 5 = .ok (.invokevirtual 120, 3) := by decide +kernel
theorem dX6_swap_8 : decode cX6_swap 8 = .ok (.ifCond .eq 19, 3) := by decide +kernel
theorem dX6_swap_11 : decode cX6_swap 11 = .ok (.aload_n 0, 1) := by decide +kernel
theorem dX6_swap_12 : decode cX6_swap 12 = .ok (.getfield 10, 3) := by decide +kernel
theorem dX6_swap_15 : decode cX6_swap 15 = .ok (.iload_n 2, 1) := by decide +kernel
theorem dX6_swap_16 : decode cX6_swap 16 = .ok (.invokevirtual 120, 3) := by decide +kernel
theorem dX6_swap_19 : decode cX6_swap 19 = .ok (.ifCond .eq 8, 3) := by decide +kernel
theorem dX6_swap_22 : decode cX6_swap 22 = .ok (.iload_n 1, 1) := by decide +kernel
theorem dX6_swap_23 : decode cX6_swap 23 = .ok (.iload_n 2, 1) := by decide +kernel
theorem dX6_swap_24 : decode cX6_swap 24 = .ok (.if_icmp .ne 5, 3) := by decide +kernel
theorem dX6_swap_27 : decode cX6_swap 27 = .ok (.iconst (-1), 1) := by decide +kernel
theorem dX6_swap_28 : decode cX6_swap 28 = .ok (.ireturn, 1) := by decide +kernel
theorem dX6_swap_29 : decode cX6_swap 29 = .ok (.aload_n 0, 1) := by decide +kernel
theorem dX6_swap_30 : decode cX6_swap 30 = .ok (.getfield 10, 3) := by decide +kernel
theorem dX6_swap_33 : decode cX6_swap 33 = .ok (.getfield 126, 3) := by decide +kernel
theorem dX6_swap_36 : decode cX6_swap 36 = .ok (.iload_n 1, 1) := by decide +kernel
theorem dX6_swap_37 : decode cX6_swap 37 = .ok (.iaload, 1) := by decide +kernel
theorem dX6_swap_38 : decode cX6_swap 38 = .ok (.istore_n 3, 1) := by decide +kernel
theorem dX6_swap_39 : decode cX6_swap 39 = .ok (.iload_n 3, 1) := by decide +kernel
theorem dX6_swap_40 : decode cX6_swap 40 = .ok (.aload_n 0, 1) := by decide +kernel
theorem dX6_swap_41 : decode cX6_swap 41 = .ok (.getfield 10, 3) := by decide +kernel
theorem dX6_swap_44 : decode cX6_swap 44 = .ok (.getfield 126, 3) := by decide +kernel
theorem dX6_swap_47 : decode cX6_swap 47 = .ok (.iload_n 2, 1) := by decide +kernel
theorem dX6_swap_48 : decode cX6_swap 48 = .ok (.iaload, 1) := by decide +kernel
theorem dX6_swap_49 : decode cX6_swap 49 = .ok (.if_icmp .ne 6, 3) := by decide +kernel
theorem dX6_swap_52 : decode cX6_swap 52 = .ok (.bipush (-2), 2) := by decide +kernel
theorem dX6_swap_54 : decode cX6_swap 54 = .ok (.ireturn, 1) := by decide +kernel
theorem dX6_swap_55 : decode cX6_swap 55 = .ok (.aload_n 0, 1) := by decide +kernel
theorem dX6_swap_56 : decode cX6_swap 56 = .ok (.getfield 19, 3) := by decide +kernel
theorem dX6_swap_59 : decode cX6_swap 59 = .ok (.aload_n 0, 1) := by decide +kernel
theorem dX6_swap_60 : decode cX6_swap 60 = .ok (.getfield 10, 3) := by decide +kernel
theorem dX6_swap_63 : decode cX6_swap 63 = .ok (.invokevirtual 96, 3) := by decide +kernel
theorem dX6_swap_66 : decode cX6_swap 66 = .ok (.aload_n 0, 1) := by decide +kernel
theorem dX6_swap_67 : decode cX6_swap 67 = .ok (.getfield 10, 3) := by decide +kernel
theorem dX6_swap_70 : decode cX6_swap 70 = .ok (.getfield 126, 3) := by decide +kernel
theorem dX6_swap_73 : decode cX6_swap 73 = .ok (.iload_n 1, 1) := by decide +kernel
theorem dX6_swap_74 : decode cX6_swap 74 = .ok (.aload_n 0, 1) := by decide +kernel
theorem dX6_swap_75 : decode cX6_swap 75 = .ok (.getfield 10, 3) := by decide +kernel
theorem dX6_swap_78 : decode cX6_swap 78 = .ok (.getfield 126, 3) := by decide +kernel
theorem dX6_swap_81 : decode cX6_swap 81 = .ok (.iload_n 2, 1) := by decide +kernel
theorem dX6_swap_82 : decode cX6_swap 82 = .ok (.iaload, 1) := by decide +kernel
theorem dX6_swap_83 : decode cX6_swap 83 = .ok (.iastore, 1) := by decide +kernel
theorem dX6_swap_84 : decode cX6_swap 84 = .ok (.aload_n 0, 1) := by decide +kernel
theorem dX6_swap_85 : decode cX6_swap 85 = .ok (.getfield 10, 3) := by decide +kernel
theorem dX6_swap_88 : decode cX6_swap 88 = .ok (.getfield 126, 3) := by decide +kernel
theorem dX6_swap_91 : decode cX6_swap 91 = .ok (.iload_n 2, 1) := by decide +kernel
theorem dX6_swap_92 : decode cX6_swap 92 = .ok (.iload_n 3, 1) := by decide +kernel
theorem dX6_swap_93 : decode cX6_swap 93 = .ok (.iastore, 1) := by decide +kernel
theorem dX6_swap_94 : decode cX6_swap 94 = .ok (.aload_n 0, 1) := by decide +kernel
theorem dX6_swap_95 : decode cX6_swap 95 = .ok (.getfield 10, 3) := by decide +kernel
theorem dX6_swap_98 : decode cX6_swap 98 = .ok (.invokevirtual 77, 3) := by decide +kernel
theorem dX6_swap_101 : decode cX6_swap 101 = .ok (.iconst 1, 1) := by decide +kernel
theorem dX6_swap_102 : decode cX6_swap 102 = .ok (.ireturn, 1) := by decide +kernel
theorem dX6_weighAll_0 : decode cX6_weighAll 0 = .ok (.iload_n 1, 1) := by decide +kernel
theorem dX6_weighAll_1 : decode cX6_weighAll 1 = .ok (.invokestatic 86, 3) := by decide +kernel
theorem dX6_weighAll_4 : decode cX6_weighAll 4 = .ok (.ifCond .eq 13, 3) := by decide +kernel
theorem dX6_weighAll_7 : decode cX6_weighAll 7 = .ok (.iload_n 2, 1) := by decide +kernel
theorem dX6_weighAll_8 : decode cX6_weighAll 8 = .ok (.iconst 2, 1) := by decide +kernel
theorem dX6_weighAll_9 : decode cX6_weighAll 9 = .ok (.bipush 20, 2) := by decide +kernel
theorem dX6_weighAll_11 : decode cX6_weighAll 11 = .ok (.invokestatic 62, 3) := by decide +kernel
theorem dX6_weighAll_14 : decode cX6_weighAll 14 = .ok (.ifCond .ne 5, 3) := by decide +kernel
theorem dX6_weighAll_17 : decode cX6_weighAll 17 = .ok (.iconst (-1), 1) := by decide +kernel
theorem dX6_weighAll_18 : decode cX6_weighAll 18 = .ok (.ireturn, 1) := by decide +kernel
theorem dX6_weighAll_19 : decode cX6_weighAll 19 = .ok (.iconst 0, 1) := by decide +kernel
theorem dX6_weighAll_20 : decode cX6_weighAll 20 = .ok (.istore_n 3, 1) := by decide +kernel
theorem dX6_weighAll_21 : decode cX6_weighAll 21 = .ok (.iconst 0, 1) := by decide +kernel
theorem dX6_weighAll_22 : decode cX6_weighAll 22 = .ok (.istore 4, 2) := by decide +kernel
theorem dX6_weighAll_24 : decode cX6_weighAll 24 = .ok (.iload 4, 2) := by decide +kernel
theorem dX6_weighAll_26 : decode cX6_weighAll 26 = .ok (.aload_n 0, 1) := by decide +kernel
theorem dX6_weighAll_27 : decode cX6_weighAll 27 = .ok (.getfield 10, 3) := by decide +kernel
theorem dX6_weighAll_30 : decode cX6_weighAll 30 = .ok (.getfield 83, 3) := by decide +kernel
theorem dX6_weighAll_33 : decode cX6_weighAll 33 = .ok (.if_icmp .ge 41, 3) := by decide +kernel
theorem dX6_weighAll_36 : decode cX6_weighAll 36 = .ok (.aload_n 0, 1) := by decide +kernel
theorem dX6_weighAll_37 : decode cX6_weighAll 37 = .ok (.getfield 10, 3) := by decide +kernel
theorem dX6_weighAll_40 : decode cX6_weighAll 40 = .ok (.iload 4, 2) := by decide +kernel
theorem dX6_weighAll_42 : decode cX6_weighAll 42 = .ok (.iload_n 1, 1) := by decide +kernel
theorem dX6_weighAll_43 : decode cX6_weighAll 43 = .ok (.iconst (-1), 1) := by decide +kernel
theorem dX6_weighAll_44 : decode cX6_weighAll 44 = .ok (.invokevirtual 144, 3) := by decide +kernel
theorem dX6_weighAll_47 : decode cX6_weighAll 47 = .ok (.ifCond .eq 21, 3) := by decide +kernel
theorem dX6_weighAll_50 : decode cX6_weighAll 50 = .ok (.aload_n 0, 1) := by decide +kernel
theorem dX6_weighAll_51 : decode cX6_weighAll 51 = .ok (.getfield 10, 3) := by decide +kernel
theorem dX6_weighAll_54 : decode cX6_weighAll 54 = .ok (.getfield 123, 3) := by decide +kernel
theorem dX6_weighAll_57 : decode cX6_weighAll 57 = .ok (.iload 4, 2) := by decide +kernel
theorem dX6_weighAll_59 : decode cX6_weighAll 59 = .ok (.iaload, 1) := by decide +kernel
theorem dX6_weighAll_60 : decode cX6_weighAll 60 = .ok (.bipush 20, 2) := by decide +kernel
theorem dX6_weighAll_62 : decode cX6_weighAll 62 = .ok (.if_icmp .ge 6, 3) := by decide +kernel
theorem dX6_weighAll_65 : decode cX6_weighAll 65 = .ok (.iinc 3 1, 3) := by decide +kernel
theorem dX6_weighAll_68 : decode cX6_weighAll 68 = .ok (.iinc 4 1, 3) := by decide +kernel
theorem dX6_weighAll_71 : decode cX6_weighAll 71 = .ok (.goto (-47), 3) := by decide +kernel
theorem dX6_weighAll_74 : decode cX6_weighAll 74 = .ok (.iload_n 3, 1) := by decide +kernel
theorem dX6_weighAll_75 : decode cX6_weighAll 75 = .ok (.ifCond .ne 6, 3) := by decide +kernel
theorem dX6_weighAll_78 : decode cX6_weighAll 78 = .ok (.bipush (-2), 2) := by decide +kernel
theorem dX6_weighAll_80 : decode cX6_weighAll 80 = .ok (.ireturn, 1) := by decide +kernel
theorem dX6_weighAll_81 : decode cX6_weighAll 81 = .ok (.aload_n 0, 1) := by decide +kernel
theorem dX6_weighAll_82 : decode cX6_weighAll 82 = .ok (.getfield 19, 3) := by decide +kernel
theorem dX6_weighAll_85 : decode cX6_weighAll 85 = .ok (.aload_n 0, 1) := by decide +kernel
theorem dX6_weighAll_86 : decode cX6_weighAll 86 = .ok (.getfield 10, 3) := by decide +kernel
theorem dX6_weighAll_89 : decode cX6_weighAll 89 = .ok (.invokevirtual 96, 3) := by decide +kernel
theorem dX6_weighAll_92 : decode cX6_weighAll 92 = .ok (.iconst 0, 1) := by decide +kernel
theorem dX6_weighAll_93 : decode cX6_weighAll 93 = .ok (.istore 4, 2) := by decide +kernel
theorem dX6_weighAll_95 : decode cX6_weighAll 95 = .ok (.iload 4, 2) := by decide +kernel
theorem dX6_weighAll_97 : decode cX6_weighAll 97 = .ok (.aload_n 0, 1) := by decide +kernel
theorem dX6_weighAll_98 : decode cX6_weighAll 98 = .ok (.getfield 10, 3) := by decide +kernel
theorem dX6_weighAll_101 : decode cX6_weighAll 101 = .ok (.getfield 83, 3) := by decide +kernel
theorem dX6_weighAll_104 : decode cX6_weighAll 104 = .ok (.if_icmp .ge 50, 3) := by decide +kernel
theorem dX6_weighAll_107 : decode cX6_weighAll 107 = .ok (.aload_n 0, 1) := by decide +kernel
theorem dX6_weighAll_108 : decode cX6_weighAll 108 = .ok (.getfield 10, 3) := by decide +kernel
theorem dX6_weighAll_111 : decode cX6_weighAll 111 = .ok (.iload 4, 2) := by decide +kernel
theorem dX6_weighAll_113 : decode cX6_weighAll 113 = .ok (.iload_n 1, 1) := by decide +kernel
theorem dX6_weighAll_114 : decode cX6_weighAll 114 = .ok (.iconst (-1), 1) := by decide +kernel
theorem dX6_weighAll_115 : decode cX6_weighAll 115 = .ok (.invokevirtual 144, 3) := by decide +kernel
theorem dX6_weighAll_118 : decode cX6_weighAll 118 = .ok (.ifCond .eq 30, 3) := by decide +kernel
theorem dX6_weighAll_121 : decode cX6_weighAll 121 = .ok (.aload_n 0, 1) := by decide +kernel
theorem dX6_weighAll_122 : decode cX6_weighAll 122 = .ok (.getfield 10, 3) := by decide +kernel
theorem dX6_weighAll_125 : decode cX6_weighAll 125 = .ok (.getfield 123, 3) := by decide +kernel
theorem dX6_weighAll_128 : decode cX6_weighAll 128 = .ok (.iload 4, 2) := by decide +kernel
theorem dX6_weighAll_130 : decode cX6_weighAll 130 = .ok (.aload_n 0, 1) := by decide +kernel
theorem dX6_weighAll_131 : decode cX6_weighAll 131 = .ok (.getfield 10, 3) := by decide +kernel
theorem dX6_weighAll_134 : decode cX6_weighAll 134 = .ok (.getfield 123, 3) := by decide +kernel
theorem dX6_weighAll_137 : decode cX6_weighAll 137 = .ok (.iload 4, 2) := by decide +kernel
theorem dX6_weighAll_139 : decode cX6_weighAll 139 = .ok (.iaload, 1) := by decide +kernel
theorem dX6_weighAll_140 : decode cX6_weighAll 140 = .ok (.iload_n 2, 1) := by decide +kernel
theorem dX6_weighAll_141 : decode cX6_weighAll 141 = .ok (.imul, 1) := by decide +kernel
theorem dX6_weighAll_142 : decode cX6_weighAll 142 = .ok (.bipush 20, 2) := by decide +kernel
theorem dX6_weighAll_144 : decode cX6_weighAll 144 = .ok (.invokestatic 161, 3) := by decide +kernel
theorem dX6_weighAll_147 : decode cX6_weighAll 147 = .ok (.iastore, 1) := by decide +kernel
theorem dX6_weighAll_148 : decode cX6_weighAll 148 = .ok (.iinc 4 1, 3) := by decide +kernel
theorem dX6_weighAll_151 : decode cX6_weighAll 151 = .ok (.goto (-56), 3) := by decide +kernel
theorem dX6_weighAll_154 : decode cX6_weighAll 154 = .ok (.aload_n 0, 1) := by decide +kernel
theorem dX6_weighAll_155 : decode cX6_weighAll 155 = .ok (.getfield 10, 3) := by decide +kernel
theorem dX6_weighAll_158 : decode cX6_weighAll 158 = .ok (.invokevirtual 77, 3) := by decide +kernel
theorem dX6_weighAll_161 : decode cX6_weighAll 161 = .ok (.iload_n 3, 1) := by decide +kernel
theorem dX6_weighAll_162 : decode cX6_weighAll 162 = .ok (.ireturn, 1) := by decide +kernel
theorem dX6_split_0 : decode cX6_split 0 = .ok (.iload_n 1, 1) := by decide +kernel
theorem dX6_split_1 : decode cX6_split 1 = .ok (.invokestatic 86, 3) := by decide +kernel
theorem dX6_split_4 : decode cX6_split 4 = .ok (.ifCond .eq 22, 3) := by decide +kernel
theorem dX6_split_7 : decode cX6_split 7 = .ok (.iload_n 2, 1) := by decide +kernel
theorem dX6_split_8 : decode cX6_split 8 = .ok (.invokestatic 90, 3) := by decide +kernel
theorem dX6_split_11 : decode cX6_split 11 = .ok (.ifCond .eq 15, 3) := by decide +kernel
theorem dX6_split_14 : decode cX6_split 14 = .ok (.iload_n 3, 1) := by decide +kernel
theorem dX6_split_15 : decode cX6_split 15 = .ok (.invokestatic 86, 3) := by decide +kernel
theorem dX6_split_18 : decode cX6_split 18 = .ok (.ifCond .eq 8, 3) := by decide +kernel
theorem dX6_split_21 : decode cX6_split 21 = .ok (.iload_n 1, 1) := by decide +kernel
theorem dX6_split_22 : decode cX6_split 22 = .ok (.iload_n 3, 1) := by decide +kernel
theorem dX6_split_23 : decode cX6_split 23 = .ok (.if_icmp .ne 5, 3) := by decide +kernel
theorem dX6_split_26 : decode cX6_split 26 = .ok (.iconst (-1), 1) := by decide +kernel
theorem dX6_split_27 : decode cX6_split 27 = .ok (.ireturn, 1) := by decide +kernel
theorem dX6_split_28 : decode cX6_split 28 = .ok (.aload_n 0, 1) := by decide +kernel
theorem dX6_split_29 : decode cX6_split 29 = .ok (.iload_n 1, 1) := by decide +kernel
theorem dX6_split_30 : decode cX6_split 30 = .ok (.iload_n 2, 1) := by decide +kernel
theorem dX6_split_31 : decode cX6_split 31 = .ok (.iload_n 3, 1) := by decide +kernel
theorem dX6_split_32 : decode cX6_split 32 = .ok (.invokevirtual 140, 3) := by decide +kernel
theorem dX6_split_35 : decode cX6_split 35 = .ok (.ireturn, 1) := by decide +kernel
theorem dX6_purge_0 : decode cX6_purge 0 = .ok (.aload_n 0, 1) := by decide +kernel
theorem dX6_purge_1 : decode cX6_purge 1 = .ok (.getfield 10, 3) := by decide +kernel
theorem dX6_purge_4 : decode cX6_purge 4 = .ok (.iconst (-1), 1) := by decide +kernel
theorem dX6_purge_5 : decode cX6_purge 5 = .ok (.iconst (-1), 1) := by decide +kernel
theorem dX6_purge_6 : decode cX6_purge 6 = .ok (.invokevirtual 136, 3) := by decide +kernel
theorem dX6_purge_9 : decode cX6_purge 9 = .ok (.aload_n 0, 1) := by decide +kernel
theorem dX6_purge_10 : decode cX6_purge 10 = .ok (.getfield 10, 3) := by decide +kernel
theorem dX6_purge_13 : decode cX6_purge 13 = .ok (.iconst (-1), 1) := by decide +kernel
theorem dX6_purge_14 : decode cX6_purge 14 = .ok (.iconst (-1), 1) := by decide +kernel
theorem dX6_purge_15 : decode cX6_purge 15 = .ok (.invokevirtual 166, 3) := by decide +kernel
theorem dX6_purge_18 : decode cX6_purge 18 = .ok (.isub, 1) := by decide +kernel
theorem dX6_purge_19 : decode cX6_purge 19 = .ok (.istore_n 1, 1) := by decide +kernel
theorem dX6_purge_20 : decode cX6_purge 20 = .ok (.iload_n 1, 1) := by decide +kernel
theorem dX6_purge_21 : decode cX6_purge 21 = .ok (.ifCond .ne 6, 3) := by decide +kernel
theorem dX6_purge_24 : decode cX6_purge 24 = .ok (.bipush (-2), 2) := by decide +kernel
theorem dX6_purge_26 : decode cX6_purge 26 = .ok (.ireturn, 1) := by decide +kernel
theorem dX6_purge_27 : decode cX6_purge 27 = .ok (.aload_n 0, 1) := by decide +kernel
theorem dX6_purge_28 : decode cX6_purge 28 = .ok (.getfield 19, 3) := by decide +kernel
theorem dX6_purge_31 : decode cX6_purge 31 = .ok (.aload_n 0, 1) := by decide +kernel
theorem dX6_purge_32 : decode cX6_purge 32 = .ok (.getfield 10, 3) := by decide +kernel
theorem dX6_purge_35 : decode cX6_purge 35 = .ok (.invokevirtual 96, 3) := by decide +kernel
theorem dX6_purge_38 : decode cX6_purge 38 = .ok (.iconst 0, 1) := by decide +kernel
theorem dX6_purge_39 : decode cX6_purge 39 = .ok (.istore_n 2, 1) := by decide +kernel
theorem dX6_purge_40 : decode cX6_purge 40 = .ok (.iload_n 2, 1) := by decide +kernel
theorem dX6_purge_41 : decode cX6_purge 41 = .ok (.aload_n 0, 1) := by decide +kernel
theorem dX6_purge_42 : decode cX6_purge 42 = .ok (.getfield 10, 3) := by decide +kernel
theorem dX6_purge_45 : decode cX6_purge 45 = .ok (.getfield 83, 3) := by decide +kernel
theorem dX6_purge_48 : decode cX6_purge 48 = .ok (.if_icmp .ge 30, 3) := by decide +kernel
theorem dX6_purge_51 : decode cX6_purge 51 = .ok (.aload_n 0, 1) := by decide +kernel
theorem dX6_purge_52 : decode cX6_purge 52 = .ok (.getfield 10, 3) := by decide +kernel
theorem dX6_purge_55 : decode cX6_purge 55 = .ok (.iload_n 2, 1) := by decide +kernel
theorem dX6_purge_56 : decode cX6_purge 56 = .ok (.invokevirtual 169, 3) := by decide +kernel
theorem dX6_purge_59 : decode cX6_purge 59 = .ok (.ifCond .ne 13, 3) := by decide +kernel
theorem dX6_purge_62 : decode cX6_purge 62 = .ok (.aload_n 0, 1) := by decide +kernel
theorem dX6_purge_63 : decode cX6_purge 63 = .ok (.getfield 10, 3) := by decide +kernel
theorem dX6_purge_66 : decode cX6_purge 66 = .ok (.getfield 129, 3) := by decide +kernel
theorem dX6_purge_69 : decode cX6_purge 69 = .ok (.iload_n 2, 1) := by decide +kernel
theorem dX6_purge_70 : decode cX6_purge 70 = .ok (.iconst 1, 1) := by decide +kernel
theorem dX6_purge_71 : decode cX6_purge 71 = .ok (.bastore, 1) := by decide +kernel
theorem dX6_purge_72 : decode cX6_purge 72 = .ok (.iinc 2 1, 3) := by decide +kernel
theorem dX6_purge_75 : decode cX6_purge 75 = .ok (.goto (-35), 3) := by decide +kernel
theorem dX6_purge_78 : decode cX6_purge 78 = .ok (.iload_n 1, 1) := by decide +kernel
theorem dX6_purge_79 : decode cX6_purge 79 = .ok (.ireturn, 1) := by decide +kernel
theorem dX6_seed_0 : decode cX6_seed 0 = .ok (.iload_n 1, 1) := by decide +kernel
theorem dX6_seed_1 : decode cX6_seed 1 = .ok (.iconst 0, 1) := by decide +kernel
theorem dX6_seed_2 : decode cX6_seed 2 = .ok (.ldc 172, 2) := by decide +kernel
theorem dX6_seed_4 : decode cX6_seed 4 = .ok (.invokestatic 62, 3) := by decide +kernel
theorem dX6_seed_7 : decode cX6_seed 7 = .ok (.ifCond .ne 5, 3) := by decide +kernel
theorem dX6_seed_10 : decode cX6_seed 10 = .ok (.iconst (-1), 1) := by decide +kernel
theorem dX6_seed_11 : decode cX6_seed 11 = .ok (.ireturn, 1) := by decide +kernel
theorem dX6_seed_12 : decode cX6_seed 12 = .ok (.aload_n 0, 1) := by decide +kernel
theorem dX6_seed_13 : decode cX6_seed 13 = .ok (.getfield 10, 3) := by decide +kernel
theorem dX6_seed_16 : decode cX6_seed 16 = .ok (.getfield 173, 3) := by decide +kernel
theorem dX6_seed_19 : decode cX6_seed 19 = .ok (.istore_n 2, 1) := by decide +kernel
theorem dX6_seed_20 : decode cX6_seed 20 = .ok (.iload_n 2, 1) := by decide +kernel
theorem dX6_seed_21 : decode cX6_seed 21 = .ok (.iload_n 1, 1) := by decide +kernel
theorem dX6_seed_22 : decode cX6_seed 22 = .ok (.if_icmp .ne 6, 3) := by decide +kernel
theorem dX6_seed_25 : decode cX6_seed 25 = .ok (.bipush (-2), 2) := by decide +kernel
theorem dX6_seed_27 : decode cX6_seed 27 = .ok (.ireturn, 1) := by decide +kernel
theorem dX6_seed_28 : decode cX6_seed 28 = .ok (.aload_n 0, 1) := by decide +kernel
theorem dX6_seed_29 : decode cX6_seed 29 = .ok (.getfield 19, 3) := by decide +kernel
theorem dX6_seed_32 : decode cX6_seed 32 = .ok (.aload_n 0, 1) := by decide +kernel
theorem dX6_seed_33 : decode cX6_seed 33 = .ok (.getfield 10, 3) := by decide +kernel
theorem dX6_seed_36 : decode cX6_seed 36 = .ok (.invokevirtual 96, 3) := by decide +kernel
theorem dX6_seed_39 : decode cX6_seed 39 = .ok (.aload_n 0, 1) := by decide +kernel
theorem dX6_seed_40 : decode cX6_seed 40 = .ok (.getfield 10, 3) := by decide +kernel
theorem dX6_seed_43 : decode cX6_seed 43 = .ok (.iload_n 1, 1) := by decide +kernel
theorem dX6_seed_44 : decode cX6_seed 44 = .ok (.putfield 173, 3) := by decide +kernel
theorem dX6_seed_47 : decode cX6_seed 47 = .ok (.iload_n 2, 1) := by decide +kernel
theorem dX6_seed_48 : decode cX6_seed 48 = .ok (.ireturn, 1) := by decide +kernel
theorem dX6_moveAll_0 : decode cX6_moveAll 0 = .ok (.aload_n 0, 1) := by decide +kernel
theorem dX6_moveAll_1 : decode cX6_moveAll 1 = .ok (.getfield 10, 3) := by decide +kernel
theorem dX6_moveAll_4 : decode cX6_moveAll 4 = .ok (.iload_n 1, 1) := by decide +kernel
theorem dX6_moveAll_5 : decode cX6_moveAll 5 = .ok (.iload_n 2, 1) := by decide +kernel
theorem dX6_moveAll_6 : decode cX6_moveAll 6 = .ok (.invokevirtual 136, 3) := by decide +kernel
theorem dX6_moveAll_9 : decode cX6_moveAll 9 = .ok (.istore 4, 2) := by decide +kernel
theorem dX6_moveAll_11 : decode cX6_moveAll 11 = .ok (.iload 4, 2) := by decide +kernel
theorem dX6_moveAll_13 : decode cX6_moveAll 13 = .ok (.ifCond .ne 6, 3) := by decide +kernel
theorem dX6_moveAll_16 : decode cX6_moveAll 16 = .ok (.bipush (-2), 2) := by decide +kernel
theorem dX6_moveAll_18 : decode cX6_moveAll 18 = .ok (.ireturn, 1) := by decide +kernel
theorem dX6_moveAll_19 : decode cX6_moveAll 19 = .ok (.aload_n 0, 1) := by decide +kernel
theorem dX6_moveAll_20 : decode cX6_moveAll 20 = .ok (.getfield 19, 3) := by decide +kernel
theorem dX6_moveAll_23 : decode cX6_moveAll 23 = .ok (.aload_n 0, 1) := by decide +kernel
theorem dX6_moveAll_24 : decode cX6_moveAll 24 = .ok (.getfield 10, 3) := by decide +kernel
theorem dX6_moveAll_27 : decode cX6_moveAll 27 = .ok (.invokevirtual 96, 3) := by decide +kernel
theorem dX6_moveAll_30 : decode cX6_moveAll 30 = .ok (.iconst 0, 1) := by decide +kernel
theorem dX6_moveAll_31 : decode cX6_moveAll 31 = .ok (.istore 5, 2) := by decide +kernel
theorem dX6_moveAll_33 : decode cX6_moveAll 33 = .ok (.iload 5, 2) := by decide +kernel
theorem dX6_moveAll_35 : decode cX6_moveAll 35 = .ok (.aload_n 0, 1) := by decide +kernel
theorem dX6_moveAll_36 : decode cX6_moveAll 36 = .ok (.getfield 10, 3) := by decide +kernel
theorem dX6_moveAll_39 : decode cX6_moveAll 39 = .ok (.getfield 83, 3) := by decide +kernel
theorem dX6_moveAll_42 : decode cX6_moveAll 42 = .ok (.if_icmp .ge 34, 3) := by decide +kernel
theorem dX6_moveAll_45 : decode cX6_moveAll 45 = .ok (.aload_n 0, 1) := by decide +kernel
theorem dX6_moveAll_46 : decode cX6_moveAll 46 = .ok (.getfield 10, 3) := by decide +kernel
theorem dX6_moveAll_49 : decode cX6_moveAll 49 = .ok (.iload 5, 2) := by decide +kernel
theorem dX6_moveAll_51 : decode cX6_moveAll 51 = .ok (.iload_n 1, 1) := by decide +kernel
theorem dX6_moveAll_52 : decode cX6_moveAll 52 = .ok (.iload_n 2, 1) := by decide +kernel
theorem dX6_moveAll_53 : decode cX6_moveAll 53 = .ok (.invokevirtual 144, 3) := by decide +kernel
theorem dX6_moveAll_56 : decode cX6_moveAll 56 = .ok (.ifCond .eq 14, 3) := by decide +kernel
theorem dX6_moveAll_59 : decode cX6_moveAll 59 = .ok (.aload_n 0, 1) := by decide +kernel
theorem dX6_moveAll_60 : decode cX6_moveAll 60 = .ok (.getfield 10, 3) := by decide +kernel
theorem dX6_moveAll_63 : decode cX6_moveAll 63 = .ok (.getfield 133, 3) := by decide +kernel
theorem dX6_moveAll_66 : decode cX6_moveAll 66 = .ok (.iload 5, 2) := by decide +kernel
theorem dX6_moveAll_68 : decode cX6_moveAll 68 = .ok (.iload_n 3, 1) := by decide +kernel
theorem dX6_moveAll_69 : decode cX6_moveAll 69 = .ok (.iastore, 1) := by decide +kernel
theorem dX6_moveAll_70 : decode cX6_moveAll 70 = .ok (.iinc 5 1, 3) := by decide +kernel
theorem dX6_moveAll_73 : decode cX6_moveAll 73 = .ok (.goto (-40), 3) := by decide +kernel
theorem dX6_moveAll_76 : decode cX6_moveAll 76 = .ok (.iload 4, 2) := by decide +kernel
theorem dX6_moveAll_78 : decode cX6_moveAll 78 = .ok (.ireturn, 1) := by decide +kernel
theorem dX6_undo_0 : decode cX6_undo 0 = .ok (.aload_n 0, 1) := by decide +kernel
theorem dX6_undo_1 : decode cX6_undo 1 = .ok (.getfield 19, 3) := by decide +kernel
theorem dX6_undo_4 : decode cX6_undo 4 = .ok (.aload_n 0, 1) := by decide +kernel
theorem dX6_undo_5 : decode cX6_undo 5 = .ok (.getfield 10, 3) := by decide +kernel
theorem dX6_undo_8 : decode cX6_undo 8 = .ok (.invokevirtual 176, 3) := by decide +kernel
theorem dX6_undo_11 : decode cX6_undo 11 = .ok (.ifCond .ne 5, 3) := by decide +kernel
theorem dX6_undo_14 : decode cX6_undo 14 = .ok (.iconst (-1), 1) := by decide +kernel
theorem dX6_undo_15 : decode cX6_undo 15 = .ok (.ireturn, 1) := by decide +kernel
theorem dX6_undo_16 : decode cX6_undo 16 = .ok (.aload_n 0, 1) := by decide +kernel
theorem dX6_undo_17 : decode cX6_undo 17 = .ok (.getfield 19, 3) := by decide +kernel
theorem dX6_undo_20 : decode cX6_undo 20 = .ok (.getfield 180, 3) := by decide +kernel
theorem dX6_undo_23 : decode cX6_undo 23 = .ok (.ireturn, 1) := by decide +kernel
theorem dX6_keep_0 : decode cX6_keep 0 = .ok (.iload_n 1, 1) := by decide +kernel
theorem dX6_keep_1 : decode cX6_keep 1 = .ok (.invokestatic 181, 3) := by decide +kernel
theorem dX6_keep_4 : decode cX6_keep 4 = .ok (.ifCond .ne 5, 3) := by decide +kernel
theorem dX6_keep_7 : decode cX6_keep 7 = .ok (.iconst (-1), 1) := by decide +kernel
theorem dX6_keep_8 : decode cX6_keep 8 = .ok (.ireturn, 1) := by decide +kernel
theorem dX6_keep_9 : decode cX6_keep 9 = .ok (.aload_n 0, 1) := by decide +kernel
theorem dX6_keep_10 : decode cX6_keep 10 = .ok (.getfield 30, 3) := by decide +kernel
theorem dX6_keep_13 : decode cX6_keep 13 = .ok (.iload_n 1, 1) := by decide +kernel
theorem dX6_keep_14 : decode cX6_keep 14 = .ok (.aaload, 1) := by decide +kernel
theorem dX6_keep_15 : decode cX6_keep 15 = .ok (.aload_n 0, 1) := by decide +kernel
theorem dX6_keep_16 : decode cX6_keep 16 = .ok (.getfield 10, 3) := by decide +kernel
theorem dX6_keep_19 : decode cX6_keep 19 = .ok (.invokevirtual 73, 3) := by decide +kernel
theorem dX6_keep_22 : decode cX6_keep 22 = .ok (.aload_n 0, 1) := by decide +kernel
theorem dX6_keep_23 : decode cX6_keep 23 = .ok (.dup, 1) := by decide +kernel
theorem dX6_keep_24 : decode cX6_keep 24 = .ok (.getfield 51, 3) := by decide +kernel
theorem dX6_keep_27 : decode cX6_keep 27 = .ok (.iconst 1, 1) := by decide +kernel
theorem dX6_keep_28 : decode cX6_keep 28 = .ok (.iload_n 1, 1) := by decide +kernel
theorem dX6_keep_29 : decode cX6_keep 29 = .ok (.ishl, 1) := by decide +kernel
theorem dX6_keep_30 : decode cX6_keep 30 = .ok (.ior, 1) := by decide +kernel
theorem dX6_keep_31 : decode cX6_keep 31 = .ok (.putfield 51, 3) := by decide +kernel
theorem dX6_keep_34 : decode cX6_keep 34 = .ok (.aload_n 0, 1) := by decide +kernel
theorem dX6_keep_35 : decode cX6_keep 35 = .ok (.getfield 10, 3) := by decide +kernel
theorem dX6_keep_38 : decode cX6_keep 38 = .ok (.getfield 83, 3) := by decide +kernel
theorem dX6_keep_41 : decode cX6_keep 41 = .ok (.ireturn, 1) := by decide +kernel
theorem dX6_back_0 : decode cX6_back 0 = .ok (.iload_n 1, 1) := by decide +kernel
theorem dX6_back_1 : decode cX6_back 1 = .ok (.invokestatic 181, 3) := by decide +kernel
theorem dX6_back_4 : decode cX6_back 4 = .ok (.ifCond .ne 5, 3) := by decide +kernel
theorem dX6_back_7 : decode cX6_back 7 = .ok (.iconst (-1), 1) := by decide +kernel
theorem dX6_back_8 : decode cX6_back 8 = .ok (.ireturn, 1) := by decide +kernel
theorem dX6_back_9 : decode cX6_back 9 = .ok (.aload_n 0, 1) := by decide +kernel
theorem dX6_back_10 : decode cX6_back 10 = .ok (.iload_n 1, 1) := by decide +kernel
theorem dX6_back_11 : decode cX6_back 11 = .ok (.invokevirtual 184, 3) := by decide +kernel
theorem dX6_back_14 : decode cX6_back 14 = .ok (.ifCond .ne 6, 3) := by decide +kernel
theorem dX6_back_17 : decode cX6_back 17 = .ok (.bipush (-2), 2) := by decide +kernel
theorem dX6_back_19 : decode cX6_back 19 = .ok (.ireturn, 1) := by decide +kernel
theorem dX6_back_20 : decode cX6_back 20 = .ok (.aload_n 0, 1) := by decide +kernel
theorem dX6_back_21 : decode cX6_back 21 = .ok (.getfield 10, 3) := by decide +kernel
theorem dX6_back_24 : decode cX6_back 24 = .ok (.aload_n 0, 1) := by decide +kernel
theorem dX6_back_25 : decode cX6_back 25 = .ok (.getfield 30, 3) := by decide +kernel
theorem dX6_back_28 : decode cX6_back 28 = .ok (.iload_n 1, 1) := by decide +kernel
theorem dX6_back_29 : decode cX6_back 29 = .ok (.aaload, 1) := by decide +kernel
theorem dX6_back_30 : decode cX6_back 30 = .ok (.invokevirtual 73, 3) := by decide +kernel
theorem dX6_back_33 : decode cX6_back 33 = .ok (.aload_n 0, 1) := by decide +kernel
theorem dX6_back_34 : decode cX6_back 34 = .ok (.getfield 19, 3) := by decide +kernel
theorem dX6_back_37 : decode cX6_back 37 = .ok (.invokevirtual 80, 3) := by decide +kernel
theorem dX6_back_40 : decode cX6_back 40 = .ok (.aload_n 0, 1) := by decide +kernel
theorem dX6_back_41 : decode cX6_back 41 = .ok (.getfield 10, 3) := by decide +kernel
theorem dX6_back_44 : decode cX6_back 44 = .ok (.getfield 83, 3) := by decide +kernel
theorem dX6_back_47 : decode cX6_back 47 = .ok (.ireturn, 1) := by decide +kernel
theorem dX6_of_0 : decode cX6_of 0 = .ok (.aload_n 0, 1) := by decide +kernel
theorem dX6_of_1 : decode cX6_of 1 = .ok (.getfield 10, 3) := by decide +kernel
theorem dX6_of_4 : decode cX6_of 4 = .ok (.iload_n 1, 1) := by decide +kernel
theorem dX6_of_5 : decode cX6_of 5 = .ok (.invokevirtual 187, 3) := by decide +kernel
theorem dX6_of_8 : decode cX6_of 8 = .ok (.ifCond .ne 5, 3) := by decide +kernel
theorem dX6_of_11 : decode cX6_of 11 = .ok (.iconst (-1), 1) := by decide +kernel
theorem dX6_of_12 : decode cX6_of 12 = .ok (.ireturn, 1) := by decide +kernel
theorem dX6_of_13 : decode cX6_of 13 = .ok (.iload_n 2, 1) := by decide +kernel
theorem dX6_of_14 : decode cX6_of 14 = .ok (.tableswitch 114 0 7 #[46, 56, 66, 76, 86, 96, 102, 108], 46) := by decide +kernel
theorem dX6_of_60 : decode cX6_of 60 = .ok (.aload_n 0, 1) := by decide +kernel
theorem dX6_of_61 : decode cX6_of 61 = .ok (.getfield 10, 3) := by decide +kernel
theorem dX6_of_64 : decode cX6_of 64 = .ok (.getfield 133, 3) := by decide +kernel
theorem dX6_of_67 : decode cX6_of 67 = .ok (.iload_n 1, 1) := by decide +kernel
theorem dX6_of_68 : decode cX6_of 68 = .ok (.iaload, 1) := by decide +kernel
theorem dX6_of_69 : decode cX6_of 69 = .ok (.ireturn, 1) := by decide +kernel
theorem dX6_of_70 : decode cX6_of 70 = .ok (.aload_n 0, 1) := by decide +kernel
theorem dX6_of_71 : decode cX6_of 71 = .ok (.getfield 10, 3) := by decide +kernel
theorem dX6_of_74 : decode cX6_of 74 = .ok (.getfield 147, 3) := by decide +kernel
theorem dX6_of_77 : decode cX6_of 77 = .ok (.iload_n 1, 1) := by decide +kernel
theorem dX6_of_78 : decode cX6_of 78 = .ok (.iaload, 1) := by decide +kernel
theorem dX6_of_79 : decode cX6_of 79 = .ok (.ireturn, 1) := by decide +kernel
theorem dX6_of_80 : decode cX6_of 80 = .ok (.aload_n 0, 1) := by decide +kernel
theorem dX6_of_81 : decode cX6_of 81 = .ok (.getfield 10, 3) := by decide +kernel
theorem dX6_of_84 : decode cX6_of 84 = .ok (.getfield 123, 3) := by decide +kernel
theorem dX6_of_87 : decode cX6_of 87 = .ok (.iload_n 1, 1) := by decide +kernel
theorem dX6_of_88 : decode cX6_of 88 = .ok (.iaload, 1) := by decide +kernel
theorem dX6_of_89 : decode cX6_of 89 = .ok (.ireturn, 1) := by decide +kernel
theorem dX6_of_90 : decode cX6_of 90 = .ok (.aload_n 0, 1) := by decide +kernel
theorem dX6_of_91 : decode cX6_of 91 = .ok (.getfield 10, 3) := by decide +kernel
theorem dX6_of_94 : decode cX6_of 94 = .ok (.getfield 126, 3) := by decide +kernel
theorem dX6_of_97 : decode cX6_of 97 = .ok (.iload_n 1, 1) := by decide +kernel
theorem dX6_of_98 : decode cX6_of 98 = .ok (.iaload, 1) := by decide +kernel
theorem dX6_of_99 : decode cX6_of 99 = .ok (.ireturn, 1) := by decide +kernel
theorem dX6_of_100 : decode cX6_of 100 = .ok (.aload_n 0, 1) := by decide +kernel
theorem dX6_of_101 : decode cX6_of 101 = .ok (.getfield 10, 3) := by decide +kernel
theorem dX6_of_104 : decode cX6_of 104 = .ok (.getfield 190, 3) := by decide +kernel
theorem dX6_of_107 : decode cX6_of 107 = .ok (.iload_n 1, 1) := by decide +kernel
theorem dX6_of_108 : decode cX6_of 108 = .ok (.iaload, 1) := by decide +kernel
theorem dX6_of_109 : decode cX6_of 109 = .ok (.ireturn, 1) := by decide +kernel
theorem dX6_of_110 : decode cX6_of 110 = .ok (.aload_n 0, 1) := by decide +kernel
theorem dX6_of_111 : decode cX6_of 111 = .ok (.iload_n 1, 1) := by decide +kernel
theorem dX6_of_112 : decode cX6_of 112 = .ok (.invokevirtual 193, 3) := by decide +kernel
theorem dX6_of_115 : decode cX6_of 115 = .ok (.ireturn, 1) := by decide +kernel
theorem dX6_of_116 : decode cX6_of 116 = .ok (.aload_n 0, 1) := by decide +kernel
theorem dX6_of_117 : decode cX6_of 117 = .ok (.iload_n 1, 1) := by decide +kernel
theorem dX6_of_118 : decode cX6_of 118 = .ok (.invokevirtual 196, 3) := by decide +kernel
theorem dX6_of_121 : decode cX6_of 121 = .ok (.ireturn, 1) := by decide +kernel
theorem dX6_of_122 : decode cX6_of 122 = .ok (.aload_n 0, 1) := by decide +kernel
theorem dX6_of_123 : decode cX6_of 123 = .ok (.iload_n 1, 1) := by decide +kernel
theorem dX6_of_124 : decode cX6_of 124 = .ok (.invokevirtual 199, 3) := by decide +kernel
theorem dX6_of_127 : decode cX6_of 127 = .ok (.ireturn, 1) := by decide +kernel
theorem dX6_of_128 : decode cX6_of 128 = .ok (.iconst (-1), 1) := by decide +kernel
theorem dX6_of_129 : decode cX6_of 129 = .ok (.ireturn, 1) := by decide +kernel
theorem dX6_order_0 : decode cX6_order 0 = .ok (.aload_n 0, 1) := by decide +kernel
theorem dX6_order_1 : decode cX6_order 1 = .ok (.getfield 10, 3) := by decide +kernel
theorem dX6_order_4 : decode cX6_order 4 = .ok (.iload_n 1, 1) := by decide +kernel
theorem dX6_order_5 : decode cX6_order 5 = .ok (.invokevirtual 187, 3) := by decide +kernel
theorem dX6_order_8 : decode cX6_order 8 = .ok (.ifCond .eq 14, 3) := by decide +kernel
theorem dX6_order_11 : decode cX6_order 11 = .ok (.aload_n 0, 1) := by decide +kernel
theorem dX6_order_12 : decode cX6_order 12 = .ok (.getfield 10, 3) := by decide +kernel
theorem dX6_order_15 : decode cX6_order 15 = .ok (.iload_n 2, 1) := by decide +kernel
theorem dX6_order_16 : decode cX6_order 16 = .ok (.invokevirtual 187, 3) := by decide +kernel
theorem dX6_order_19 : decode cX6_order 19 = .ok (.ifCond .ne 5, 3) := by decide +kernel
theorem dX6_order_22 : decode cX6_order 22 = .ok (.iconst (-1), 1) := by decide +kernel
theorem dX6_order_23 : decode cX6_order 23 = .ok (.ireturn, 1) := by decide +kernel
theorem dX6_order_24 : decode cX6_order 24 = .ok (.aload_n 0, 1) := by decide +kernel
theorem dX6_order_25 : decode cX6_order 25 = .ok (.getfield 10, 3) := by decide +kernel
theorem dX6_order_28 : decode cX6_order 28 = .ok (.iload_n 1, 1) := by decide +kernel
theorem dX6_order_29 : decode cX6_order 29 = .ok (.iload_n 2, 1) := by decide +kernel
theorem dX6_order_30 : decode cX6_order 30 = .ok (.invokevirtual 202, 3) := by decide +kernel
theorem dX6_order_33 : decode cX6_order 33 = .ok (.istore_n 3, 1) := by decide +kernel
theorem dX6_order_34 : decode cX6_order 34 = .ok (.iload_n 3, 1) := by decide +kernel
theorem dX6_order_35 : decode cX6_order 35 = .ok (.ifCond .ne 5, 3) := by decide +kernel
theorem dX6_order_38 : decode cX6_order 38 = .ok (.iconst 0, 1) := by decide +kernel
theorem dX6_order_39 : decode cX6_order 39 = .ok (.ireturn, 1) := by decide +kernel
theorem dX6_order_40 : decode cX6_order 40 = .ok (.iload_n 3, 1) := by decide +kernel
theorem dX6_order_41 : decode cX6_order 41 = .ok (.ifCond .le 7, 3) := by decide +kernel
theorem dX6_order_44 : decode cX6_order 44 = .ok (.iconst 1, 1) := by decide +kernel
theorem dX6_order_45 : decode cX6_order 45 = .ok (.goto 4, 3) := by decide +kernel
theorem dX6_order_48 : decode cX6_order 48 = .ok (.iconst 2, 1) := by decide +kernel
theorem dX6_order_49 : decode cX6_order 49 = .ok (.ireturn, 1) := by decide +kernel
theorem dX6_part_0 : decode cX6_part 0 = .ok (.aload_n 0, 1) := by decide +kernel
theorem dX6_part_1 : decode cX6_part 1 = .ok (.getfield 10, 3) := by decide +kernel
theorem dX6_part_4 : decode cX6_part 4 = .ok (.iload_n 1, 1) := by decide +kernel
theorem dX6_part_5 : decode cX6_part 5 = .ok (.invokevirtual 187, 3) := by decide +kernel
theorem dX6_part_8 : decode cX6_part 8 = .ok (.ifCond .eq 14, 3) := by decide +kernel
theorem dX6_part_11 : decode cX6_part 11 = .ok (.iload_n 2, 1) := by decide +kernel
theorem dX6_part_12 : decode cX6_part 12 = .ok (.iconst 1, 1) := by decide +kernel
theorem dX6_part_13 : decode cX6_part 13 = .ok (.sipush 1000, 3) := by decide +kernel
theorem dX6_part_16 : decode cX6_part 16 = .ok (.invokestatic 62, 3) := by decide +kernel
theorem dX6_part_19 : decode cX6_part 19 = .ok (.ifCond .ne 5, 3) := by decide +kernel
theorem dX6_part_22 : decode cX6_part 22 = .ok (.iconst (-1), 1) := by decide +kernel
theorem dX6_part_23 : decode cX6_part 23 = .ok (.ireturn, 1) := by decide +kernel
theorem dX6_part_24 : decode cX6_part 24 = .ok (.iconst 0, 1) := by decide +kernel
theorem dX6_part_25 : decode cX6_part 25 = .ok (.istore_n 3, 1) := by decide +kernel
theorem dX6_part_26 : decode cX6_part 26 = .ok (.sipush 512, 3) := by decide +kernel
theorem dX6_part_29 : decode cX6_part 29 = .ok (.istore 4, 2) := by decide +kernel
theorem dX6_part_31 : decode cX6_part 31 = .ok (.iload 4, 2) := by decide +kernel
theorem dX6_part_33 : decode cX6_part 33 = .ok (.ifCond .le 41, 3) := by decide +kernel
theorem dX6_part_36 : decode cX6_part 36 = .ok (.iload_n 3, 1) := by decide +kernel
theorem dX6_part_37 : decode cX6_part 37 = .ok (.iload 4, 2) := by decide +kernel
theorem dX6_part_39 : decode cX6_part 39 = .ok (.iadd, 1) := by decide +kernel
theorem dX6_part_40 : decode cX6_part 40 = .ok (.iload_n 2, 1) := by decide +kernel
theorem dX6_part_41 : decode cX6_part 41 = .ok (.if_icmp .gt 24, 3) := by decide +kernel
theorem dX6_part_44 : decode cX6_part 44 = .ok (.aload_n 0, 1) := by decide +kernel
theorem dX6_part_45 : decode cX6_part 45 = .ok (.getfield 10, 3) := by decide +kernel
theorem dX6_part_48 : decode cX6_part 48 = .ok (.iload_n 3, 1) := by decide +kernel
theorem dX6_part_49 : decode cX6_part 49 = .ok (.iload 4, 2) := by decide +kernel
theorem dX6_part_51 : decode cX6_part 51 = .ok (.iadd, 1) := by decide +kernel
theorem dX6_part_52 : decode cX6_part 52 = .ok (.iload_n 2, 1) := by decide +kernel
theorem dX6_part_53 : decode cX6_part 53 = .ok (.iload_n 1, 1) := by decide +kernel
theorem dX6_part_54 : decode cX6_part 54 = .ok (.invokevirtual 205, 3) := by decide +kernel
theorem dX6_part_57 : decode cX6_part 57 = .ok (.ifCond .eq 8, 3) := by decide +kernel
theorem dX6_part_60 : decode cX6_part 60 = .ok (.iload_n 3, 1) := by decide +kernel
theorem dX6_part_61 : decode cX6_part 61 = .ok (.iload 4, 2) := by decide +kernel
theorem dX6_part_63 : decode cX6_part 63 = .ok (.iadd, 1) := by decide +kernel
theorem dX6_part_64 : decode cX6_part 64 = .ok (.istore_n 3, 1) := by decide +kernel
theorem dX6_part_65 : decode cX6_part 65 = .ok (.iload 4, 2) := by decide +kernel
theorem dX6_part_67 : decode cX6_part 67 = .ok (.iconst 1, 1) := by decide +kernel
theorem dX6_part_68 : decode cX6_part 68 = .ok (.ishr, 1) := by decide +kernel
theorem dX6_part_69 : decode cX6_part 69 = .ok (.istore 4, 2) := by decide +kernel
theorem dX6_part_71 : decode cX6_part 71 = .ok (.goto (-40), 3) := by decide +kernel
theorem dX6_part_74 : decode cX6_part 74 = .ok (.iload_n 3, 1) := by decide +kernel
theorem dX6_part_75 : decode cX6_part 75 = .ok (.ireturn, 1) := by decide +kernel
theorem dX6_lifeOf_0 : decode cX6_lifeOf 0 = .ok (.aload_n 0, 1) := by decide +kernel
theorem dX6_lifeOf_1 : decode cX6_lifeOf 1 = .ok (.getfield 10, 3) := by decide +kernel
theorem dX6_lifeOf_4 : decode cX6_lifeOf 4 = .ok (.iload_n 1, 1) := by decide +kernel
theorem dX6_lifeOf_5 : decode cX6_lifeOf 5 = .ok (.invokevirtual 169, 3) := by decide +kernel
theorem dX6_lifeOf_8 : decode cX6_lifeOf 8 = .ok (.ifCond .eq 5, 3) := by decide +kernel
theorem dX6_lifeOf_11 : decode cX6_lifeOf 11 = .ok (.iconst 2, 1) := by decide +kernel
theorem dX6_lifeOf_12 : decode cX6_lifeOf 12 = .ok (.ireturn, 1) := by decide +kernel
theorem dX6_lifeOf_13 : decode cX6_lifeOf 13 = .ok (.aload_n 0, 1) := by decide +kernel
theorem dX6_lifeOf_14 : decode cX6_lifeOf 14 = .ok (.getfield 10, 3) := by decide +kernel
theorem dX6_lifeOf_17 : decode cX6_lifeOf 17 = .ok (.getfield 129, 3) := by decide +kernel
theorem dX6_lifeOf_20 : decode cX6_lifeOf 20 = .ok (.iload_n 1, 1) := by decide +kernel
theorem dX6_lifeOf_21 : decode cX6_lifeOf 21 = .ok (.baload, 1) := by decide +kernel
theorem dX6_lifeOf_22 : decode cX6_lifeOf 22 = .ok (.ifCond .eq 7, 3) := by decide +kernel
theorem dX6_lifeOf_25 : decode cX6_lifeOf 25 = .ok (.iconst 0, 1) := by decide +kernel
theorem dX6_lifeOf_26 : decode cX6_lifeOf 26 = .ok (.goto 4, 3) := by decide +kernel
theorem dX6_lifeOf_29 : decode cX6_lifeOf 29 = .ok (.iconst 1, 1) := by decide +kernel
theorem dX6_lifeOf_30 : decode cX6_lifeOf 30 = .ok (.ireturn, 1) := by decide +kernel
theorem dX6_aheadInSample_0 : decode cX6_aheadInSample 0 = .ok (.aload_n 0, 1) := by decide +kernel
theorem dX6_aheadInSample_1 : decode cX6_aheadInSample 1 = .ok (.getfield 37, 3) := by decide +kernel
theorem dX6_aheadInSample_4 : decode cX6_aheadInSample 4 = .ok (.aload_n 0, 1) := by decide +kernel
theorem dX6_aheadInSample_5 : decode cX6_aheadInSample 5 = .ok (.getfield 10, 3) := by decide +kernel
theorem dX6_aheadInSample_8 : decode cX6_aheadInSample 8 = .ok (.aload_n 0, 1) := by decide +kernel
theorem dX6_aheadInSample_9 : decode cX6_aheadInSample 9 = .ok (.getfield 10, 3) := by decide +kernel
theorem dX6_aheadInSample_12 : decode cX6_aheadInSample 12 = .ok (.getfield 133, 3) := by decide +kernel
theorem dX6_aheadInSample_15 : decode cX6_aheadInSample 15 = .ok (.iload_n 1, 1) := by decide +kernel
theorem dX6_aheadInSample_16 : decode cX6_aheadInSample 16 = .ok (.iaload, 1) := by decide +kernel
theorem dX6_aheadInSample_17 : decode cX6_aheadInSample 17 = .ok (.invokevirtual 150, 3) := by decide +kernel
theorem dX6_aheadInSample_20 : decode cX6_aheadInSample 20 = .ok (.aload_n 0, 1) := by decide +kernel
theorem dX6_aheadInSample_21 : decode cX6_aheadInSample 21 = .ok (.getfield 37, 3) := by decide +kernel
theorem dX6_aheadInSample_24 : decode cX6_aheadInSample 24 = .ok (.iload_n 1, 1) := by decide +kernel
theorem dX6_aheadInSample_25 : decode cX6_aheadInSample 25 = .ok (.invokevirtual 157, 3) := by decide +kernel
theorem dX6_aheadInSample_28 : decode cX6_aheadInSample 28 = .ok (.istore_n 2, 1) := by decide +kernel
theorem dX6_aheadInSample_29 : decode cX6_aheadInSample 29 = .ok (.iload_n 2, 1) := by decide +kernel
theorem dX6_aheadInSample_30 : decode cX6_aheadInSample 30 = .ok (.iconst (-1), 1) := by decide +kernel
theorem dX6_aheadInSample_31 : decode cX6_aheadInSample 31 = .ok (.if_icmp .ne 8, 3) := by decide +kernel
theorem dX6_aheadInSample_34 : decode cX6_aheadInSample 34 = .ok (.bipush (-2), 2) := by decide +kernel
theorem dX6_aheadInSample_36 : decode cX6_aheadInSample 36 = .ok (.goto 4, 3) := by decide +kernel
theorem dX6_aheadInSample_39 : decode cX6_aheadInSample 39 = .ok (.iload_n 2, 1) := by decide +kernel
theorem dX6_aheadInSample_40 : decode cX6_aheadInSample 40 = .ok (.ireturn, 1) := by decide +kernel
theorem dX6_aheadOfAlive_0 : decode cX6_aheadOfAlive 0 = .ok (.aload_n 0, 1) := by decide +kernel
theorem dX6_aheadOfAlive_1 : decode cX6_aheadOfAlive 1 = .ok (.getfield 37, 3) := by decide +kernel
theorem dX6_aheadOfAlive_4 : decode cX6_aheadOfAlive 4 = .ok (.aload_n 0, 1) := by decide +kernel
theorem dX6_aheadOfAlive_5 : decode cX6_aheadOfAlive 5 = .ok (.getfield 10, 3) := by decide +kernel
theorem dX6_aheadOfAlive_8 : decode cX6_aheadOfAlive 8 = .ok (.aload_n 0, 1) := by decide +kernel
theorem dX6_aheadOfAlive_9 : decode cX6_aheadOfAlive 9 = .ok (.getfield 10, 3) := by decide +kernel
theorem dX6_aheadOfAlive_12 : decode cX6_aheadOfAlive 12 = .ok (.getfield 133, 3) := by decide +kernel
theorem dX6_aheadOfAlive_15 : decode cX6_aheadOfAlive 15 = .ok (.iload_n 1, 1) := by decide +kernel
theorem dX6_aheadOfAlive_16 : decode cX6_aheadOfAlive 16 = .ok (.iaload, 1) := by decide +kernel
theorem dX6_aheadOfAlive_17 : decode cX6_aheadOfAlive 17 = .ok (.invokevirtual 208, 3) := by decide +kernel
theorem dX6_aheadOfAlive_20 : decode cX6_aheadOfAlive 20 = .ok (.aload_n 0, 1) := by decide +kernel
theorem dX6_aheadOfAlive_21 : decode cX6_aheadOfAlive 21 = .ok (.getfield 37, 3) := by decide +kernel
theorem dX6_aheadOfAlive_24 : decode cX6_aheadOfAlive 24 = .ok (.bipush 100, 2) := by decide +kernel
theorem dX6_aheadOfAlive_26 : decode cX6_aheadOfAlive 26 = .ok (.putfield 211, 3) := by decide +kernel
theorem dX6_aheadOfAlive_29 : decode cX6_aheadOfAlive 29 = .ok (.aload_n 0, 1) := by decide +kernel
theorem dX6_aheadOfAlive_30 : decode cX6_aheadOfAlive 30 = .ok (.getfield 37, 3) := by decide +kernel
theorem dX6_aheadOfAlive_33 : decode cX6_aheadOfAlive 33 = .ok (.aload_n 0, 1) := by decide +kernel
theorem dX6_aheadOfAlive_34 : decode cX6_aheadOfAlive 34 = .ok (.getfield 10, 3) := by decide +kernel
theorem dX6_aheadOfAlive_37 : decode cX6_aheadOfAlive 37 = .ok (.invokevirtual 214, 3) := by decide +kernel
theorem dX6_aheadOfAlive_40 : decode cX6_aheadOfAlive 40 = .ok (.aload_n 0, 1) := by decide +kernel
theorem dX6_aheadOfAlive_41 : decode cX6_aheadOfAlive 41 = .ok (.getfield 37, 3) := by decide +kernel
theorem dX6_aheadOfAlive_44 : decode cX6_aheadOfAlive 44 = .ok (.iload_n 1, 1) := by decide +kernel
theorem dX6_aheadOfAlive_45 : decode cX6_aheadOfAlive 45 = .ok (.invokevirtual 157, 3) := by decide +kernel
theorem dX6_aheadOfAlive_48 : decode cX6_aheadOfAlive 48 = .ok (.istore_n 2, 1) := by decide +kernel
theorem dX6_aheadOfAlive_49 : decode cX6_aheadOfAlive 49 = .ok (.iload_n 2, 1) := by decide +kernel
theorem dX6_aheadOfAlive_50 : decode cX6_aheadOfAlive 50 = .ok (.iconst (-1), 1) := by decide +kernel
theorem dX6_aheadOfAlive_51 : decode cX6_aheadOfAlive 51 = .ok (.if_icmp .ne 8, 3) := by decide +kernel
theorem dX6_aheadOfAlive_54 : decode cX6_aheadOfAlive 54 = .ok (.bipush (-2), 2) := by decide +kernel
theorem dX6_aheadOfAlive_56 : decode cX6_aheadOfAlive 56 = .ok (.goto 4, 3) := by decide +kernel
theorem dX6_aheadOfAlive_59 : decode cX6_aheadOfAlive 59 = .ok (.iload_n 2, 1) := by decide +kernel
theorem dX6_aheadOfAlive_60 : decode cX6_aheadOfAlive 60 = .ok (.ireturn, 1) := by decide +kernel
theorem dX6_sample_0 : decode cX6_sample 0 = .ok (.iload_n 1, 1) := by decide +kernel
theorem dX6_sample_1 : decode cX6_sample 1 = .ok (.invokestatic 86, 3) := by decide +kernel
theorem dX6_sample_4 : decode cX6_sample 4 = .ok (.ifCond .eq 8, 3) := by decide +kernel
theorem dX6_sample_7 : decode cX6_sample 7 = .ok (.iload_n 2, 1) := by decide +kernel
theorem dX6_sample_8 : decode cX6_sample 8 = .ok (.iconst (-1), 1) := by decide +kernel
theorem dX6_sample_9 : decode cX6_sample 9 = .ok (.if_icmp .ge 5, 3) := by decide +kernel
theorem dX6_sample_12 : decode cX6_sample 12 = .ok (.iconst (-1), 1) := by decide +kernel
theorem dX6_sample_13 : decode cX6_sample 13 = .ok (.ireturn, 1) := by decide +kernel
theorem dX6_sample_14 : decode cX6_sample 14 = .ok (.aload_n 0, 1) := by decide +kernel
theorem dX6_sample_15 : decode cX6_sample 15 = .ok (.getfield 37, 3) := by decide +kernel
theorem dX6_sample_18 : decode cX6_sample 18 = .ok (.aload_n 0, 1) := by decide +kernel
theorem dX6_sample_19 : decode cX6_sample 19 = .ok (.getfield 10, 3) := by decide +kernel
theorem dX6_sample_22 : decode cX6_sample 22 = .ok (.iload_n 1, 1) := by decide +kernel
theorem dX6_sample_23 : decode cX6_sample 23 = .ok (.invokevirtual 150, 3) := by decide +kernel
theorem dX6_sample_26 : decode cX6_sample 26 = .ok (.aload_n 0, 1) := by decide +kernel
theorem dX6_sample_27 : decode cX6_sample 27 = .ok (.getfield 37, 3) := by decide +kernel
theorem dX6_sample_30 : decode cX6_sample 30 = .ok (.iload_n 2, 1) := by decide +kernel
theorem dX6_sample_31 : decode cX6_sample 31 = .ok (.invokevirtual 217, 3) := by decide +kernel
theorem dX6_sample_34 : decode cX6_sample 34 = .ok (.ireturn, 1) := by decide +kernel
theorem dX6_merged_0 : decode cX6_merged 0 = .ok (.iload_n 1, 1) := by decide +kernel
theorem dX6_merged_1 : decode cX6_merged 1 = .ok (.invokestatic 220, 3) := by decide +kernel
theorem dX6_merged_4 : decode cX6_merged 4 = .ok (.ifCond .eq 18, 3) := by decide +kernel
theorem dX6_merged_7 : decode cX6_merged 7 = .ok (.iload_n 2, 1) := by decide +kernel
theorem dX6_merged_8 : decode cX6_merged 8 = .ok (.iconst 1, 1) := by decide +kernel
theorem dX6_merged_9 : decode cX6_merged 9 = .ok (.bipush 24, 2) := by decide +kernel
theorem dX6_merged_11 : decode cX6_merged 11 = .ok (.invokestatic 62, 3) := by decide +kernel
theorem dX6_merged_14 : decode cX6_merged 14 = .ok (.ifCond .eq 8, 3) := by decide +kernel
theorem dX6_merged_17 : decode cX6_merged 17 = .ok (.iload_n 3, 1) := by decide +kernel
theorem dX6_merged_18 : decode cX6_merged 18 = .ok (.iconst (-1), 1) := by decide +kernel
theorem dX6_merged_19 : decode cX6_merged 19 = .ok (.if_icmp .ge 5, 3) := by decide +kernel
theorem dX6_merged_22 : decode cX6_merged 22 = .ok (.iconst (-1), 1) := by decide +kernel
theorem dX6_merged_23 : decode cX6_merged 23 = .ok (.ireturn, 1) := by decide +kernel
theorem dX6_merged_24 : decode cX6_merged 24 = .ok (.aload_n 0, 1) := by decide +kernel
theorem dX6_merged_25 : decode cX6_merged 25 = .ok (.iload_n 1, 1) := by decide +kernel
theorem dX6_merged_26 : decode cX6_merged 26 = .ok (.iload_n 2, 1) := by decide +kernel
theorem dX6_merged_27 : decode cX6_merged 27 = .ok (.invokevirtual 223, 3) := by decide +kernel
theorem dX6_merged_30 : decode cX6_merged 30 = .ok (.aload_n 0, 1) := by decide +kernel
theorem dX6_merged_31 : decode cX6_merged 31 = .ok (.getfield 37, 3) := by decide +kernel
theorem dX6_merged_34 : decode cX6_merged 34 = .ok (.iload_n 3, 1) := by decide +kernel
theorem dX6_merged_35 : decode cX6_merged 35 = .ok (.invokevirtual 217, 3) := by decide +kernel
theorem dX6_merged_38 : decode cX6_merged 38 = .ok (.ireturn, 1) := by decide +kernel
theorem dX6_partOf_0 : decode cX6_partOf 0 = .ok (.iload_n 1, 1) := by decide +kernel
theorem dX6_partOf_1 : decode cX6_partOf 1 = .ok (.invokestatic 220, 3) := by decide +kernel
theorem dX6_partOf_4 : decode cX6_partOf 4 = .ok (.ifCond .eq 20, 3) := by decide +kernel
theorem dX6_partOf_7 : decode cX6_partOf 7 = .ok (.iload_n 2, 1) := by decide +kernel
theorem dX6_partOf_8 : decode cX6_partOf 8 = .ok (.iconst 1, 1) := by decide +kernel
theorem dX6_partOf_9 : decode cX6_partOf 9 = .ok (.bipush 24, 2) := by decide +kernel
theorem dX6_partOf_11 : decode cX6_partOf 11 = .ok (.invokestatic 62, 3) := by decide +kernel
theorem dX6_partOf_14 : decode cX6_partOf 14 = .ok (.ifCond .eq 10, 3) := by decide +kernel
theorem dX6_partOf_17 : decode cX6_partOf 17 = .ok (.iload_n 3, 1) := by decide +kernel
theorem dX6_partOf_18 : decode cX6_partOf 18 = .ok (.invokestatic 86, 3) := by decide +kernel
theorem dX6_partOf_21 : decode cX6_partOf 21 = .ok (.ifCond .ne 5, 3) := by decide +kernel
theorem dX6_partOf_24 : decode cX6_partOf 24 = .ok (.iconst (-1), 1) := by decide +kernel
theorem dX6_partOf_25 : decode cX6_partOf 25 = .ok (.ireturn, 1) := by decide +kernel
theorem dX6_partOf_26 : decode cX6_partOf 26 = .ok (.aload_n 0, 1) := by decide +kernel
theorem dX6_partOf_27 : decode cX6_partOf 27 = .ok (.iload_n 1, 1) := by decide +kernel
theorem dX6_partOf_28 : decode cX6_partOf 28 = .ok (.iload_n 2, 1) := by decide +kernel
theorem dX6_partOf_29 : decode cX6_partOf 29 = .ok (.invokevirtual 223, 3) := by decide +kernel
theorem dX6_partOf_32 : decode cX6_partOf 32 = .ok (.iconst 0, 1) := by decide +kernel
theorem dX6_partOf_33 : decode cX6_partOf 33 = .ok (.istore 4, 2) := by decide +kernel
theorem dX6_partOf_35 : decode cX6_partOf 35 = .ok (.iconst 0, 1) := by decide +kernel
theorem dX6_partOf_36 : decode cX6_partOf 36 = .ok (.istore 5, 2) := by decide +kernel
theorem dX6_partOf_38 : decode cX6_partOf 38 = .ok (.iload 5, 2) := by decide +kernel
theorem dX6_partOf_40 : decode cX6_partOf 40 = .ok (.aload_n 0, 1) := by decide +kernel
theorem dX6_partOf_41 : decode cX6_partOf 41 = .ok (.getfield 37, 3) := by decide +kernel
theorem dX6_partOf_44 : decode cX6_partOf 44 = .ok (.getfield 154, 3) := by decide +kernel
theorem dX6_partOf_47 : decode cX6_partOf 47 = .ok (.if_icmp .ge 34, 3) := by decide +kernel
theorem dX6_partOf_50 : decode cX6_partOf 50 = .ok (.aload_n 0, 1) := by decide +kernel
theorem dX6_partOf_51 : decode cX6_partOf 51 = .ok (.getfield 10, 3) := by decide +kernel
theorem dX6_partOf_54 : decode cX6_partOf 54 = .ok (.getfield 133, 3) := by decide +kernel
theorem dX6_partOf_57 : decode cX6_partOf 57 = .ok (.aload_n 0, 1) := by decide +kernel
theorem dX6_partOf_58 : decode cX6_partOf 58 = .ok (.getfield 37, 3) := by decide +kernel
theorem dX6_partOf_61 : decode cX6_partOf 61 = .ok (.getfield 227, 3) := by decide +kernel
theorem dX6_partOf_64 : decode cX6_partOf 64 = .ok (.iload 5, 2) := by decide +kernel
theorem dX6_partOf_66 : decode cX6_partOf 66 = .ok (.iaload, 1) := by decide +kernel
theorem dX6_partOf_67 : decode cX6_partOf 67 = .ok (.iaload, 1) := by decide +kernel
theorem dX6_partOf_68 : decode cX6_partOf 68 = .ok (.iload_n 3, 1) := by decide +kernel
theorem dX6_partOf_69 : decode cX6_partOf 69 = .ok (.if_icmp .ne 6, 3) := by decide +kernel
theorem dX6_partOf_72 : decode cX6_partOf 72 = .ok (.iinc 4 1, 3) := by decide +kernel
theorem dX6_partOf_75 : decode cX6_partOf 75 = .ok (.iinc 5 1, 3) := by decide +kernel
theorem dX6_partOf_78 : decode cX6_partOf 78 = .ok (.goto (-40), 3) := by decide +kernel
theorem dX6_partOf_81 : decode cX6_partOf 81 = .ok (.iload 4, 2) := by decide +kernel
theorem dX6_partOf_83 : decode cX6_partOf 83 = .ok (.ireturn, 1) := by decide +kernel
theorem dX6_capped_0 : decode cX6_capped 0 = .ok (.iload_n 1, 1) := by decide +kernel
theorem dX6_capped_1 : decode cX6_capped 1 = .ok (.invokestatic 86, 3) := by decide +kernel
theorem dX6_capped_4 : decode cX6_capped 4 = .ok (.ifCond .eq 18, 3) := by decide +kernel
theorem dX6_capped_7 : decode cX6_capped 7 = .ok (.iload_n 2, 1) := by decide +kernel
theorem dX6_capped_8 : decode cX6_capped 8 = .ok (.iconst 1, 1) := by decide +kernel
theorem dX6_capped_9 : decode cX6_capped 9 = .ok (.bipush 12, 2) := by decide +kernel
theorem dX6_capped_11 : decode cX6_capped 11 = .ok (.invokestatic 62, 3) := by decide +kernel
theorem dX6_capped_14 : decode cX6_capped 14 = .ok (.ifCond .eq 8, 3) := by decide +kernel
theorem dX6_capped_17 : decode cX6_capped 17 = .ok (.iload_n 3, 1) := by decide +kernel
theorem dX6_capped_18 : decode cX6_capped 18 = .ok (.iconst (-1), 1) := by decide +kernel
theorem dX6_capped_19 : decode cX6_capped 19 = .ok (.if_icmp .ge 5, 3) := by decide +kernel
theorem dX6_capped_22 : decode cX6_capped 22 = .ok (.iconst (-1), 1) := by decide +kernel
theorem dX6_capped_23 : decode cX6_capped 23 = .ok (.ireturn, 1) := by decide +kernel
theorem dX6_capped_24 : decode cX6_capped 24 = .ok (.aload_n 0, 1) := by decide +kernel
theorem dX6_capped_25 : decode cX6_capped 25 = .ok (.getfield 37, 3) := by decide +kernel
theorem dX6_capped_28 : decode cX6_capped 28 = .ok (.aload_n 0, 1) := by decide +kernel
theorem dX6_capped_29 : decode cX6_capped 29 = .ok (.getfield 10, 3) := by decide +kernel
theorem dX6_capped_32 : decode cX6_capped 32 = .ok (.iload_n 1, 1) := by decide +kernel
theorem dX6_capped_33 : decode cX6_capped 33 = .ok (.invokevirtual 208, 3) := by decide +kernel
theorem dX6_capped_36 : decode cX6_capped 36 = .ok (.aload_n 0, 1) := by decide +kernel
theorem dX6_capped_37 : decode cX6_capped 37 = .ok (.getfield 37, 3) := by decide +kernel
theorem dX6_capped_40 : decode cX6_capped 40 = .ok (.iload_n 2, 1) := by decide +kernel
theorem dX6_capped_41 : decode cX6_capped 41 = .ok (.putfield 230, 3) := by decide +kernel
theorem dX6_capped_44 : decode cX6_capped 44 = .ok (.aload_n 0, 1) := by decide +kernel
theorem dX6_capped_45 : decode cX6_capped 45 = .ok (.getfield 37, 3) := by decide +kernel
theorem dX6_capped_48 : decode cX6_capped 48 = .ok (.aload_n 0, 1) := by decide +kernel
theorem dX6_capped_49 : decode cX6_capped 49 = .ok (.getfield 10, 3) := by decide +kernel
theorem dX6_capped_52 : decode cX6_capped 52 = .ok (.invokevirtual 214, 3) := by decide +kernel
theorem dX6_capped_55 : decode cX6_capped 55 = .ok (.aload_n 0, 1) := by decide +kernel
theorem dX6_capped_56 : decode cX6_capped 56 = .ok (.getfield 37, 3) := by decide +kernel
theorem dX6_capped_59 : decode cX6_capped 59 = .ok (.iload_n 3, 1) := by decide +kernel
theorem dX6_capped_60 : decode cX6_capped 60 = .ok (.invokevirtual 217, 3) := by decide +kernel
theorem dX6_capped_63 : decode cX6_capped 63 = .ok (.ireturn, 1) := by decide +kernel
theorem dX6_last_0 : decode cX6_last 0 = .ok (.iload_n 1, 1) := by decide +kernel
theorem dX6_last_1 : decode cX6_last 1 = .ok (.invokestatic 86, 3) := by decide +kernel
theorem dX6_last_4 : decode cX6_last 4 = .ok (.ifCond .ne 5, 3) := by decide +kernel
theorem dX6_last_7 : decode cX6_last 7 = .ok (.iconst (-1), 1) := by decide +kernel
theorem dX6_last_8 : decode cX6_last 8 = .ok (.ireturn, 1) := by decide +kernel
theorem dX6_last_9 : decode cX6_last 9 = .ok (.aload_n 0, 1) := by decide +kernel
theorem dX6_last_10 : decode cX6_last 10 = .ok (.iload_n 1, 1) := by decide +kernel
theorem dX6_last_11 : decode cX6_last 11 = .ok (.invokevirtual 233, 3) := by decide +kernel
theorem dX6_last_14 : decode cX6_last 14 = .ok (.ireturn, 1) := by decide +kernel
theorem dX6_takeMerged_0 : decode cX6_takeMerged 0 = .ok (.aload_n 0, 1) := by decide +kernel
theorem dX6_takeMerged_1 : decode cX6_takeMerged 1 = .ok (.getfield 37, 3) := by decide +kernel
theorem dX6_takeMerged_4 : decode cX6_takeMerged 4 = .ok (.aload_n 0, 1) := by decide +kernel
theorem dX6_takeMerged_5 : decode cX6_takeMerged 5 = .ok (.getfield 10, 3) := by decide +kernel
theorem dX6_takeMerged_8 : decode cX6_takeMerged 8 = .ok (.iconst 0, 1) := by decide +kernel
theorem dX6_takeMerged_9 : decode cX6_takeMerged 9 = .ok (.invokevirtual 208, 3) := by decide +kernel
theorem dX6_takeMerged_12 : decode cX6_takeMerged 12 = .ok (.aload_n 0, 1) := by decide +kernel
theorem dX6_takeMerged_13 : decode cX6_takeMerged 13 = .ok (.getfield 37, 3) := by decide +kernel
theorem dX6_takeMerged_16 : decode cX6_takeMerged 16 = .ok (.iload_n 1, 1) := by decide +kernel
theorem dX6_takeMerged_17 : decode cX6_takeMerged 17 = .ok (.putfield 236, 3) := by decide +kernel
theorem dX6_takeMerged_20 : decode cX6_takeMerged 20 = .ok (.aload_n 0, 1) := by decide +kernel
theorem dX6_takeMerged_21 : decode cX6_takeMerged 21 = .ok (.getfield 37, 3) := by decide +kernel
theorem dX6_takeMerged_24 : decode cX6_takeMerged 24 = .ok (.iload_n 2, 1) := by decide +kernel
theorem dX6_takeMerged_25 : decode cX6_takeMerged 25 = .ok (.putfield 211, 3) := by decide +kernel
theorem dX6_takeMerged_28 : decode cX6_takeMerged 28 = .ok (.aload_n 0, 1) := by decide +kernel
theorem dX6_takeMerged_29 : decode cX6_takeMerged 29 = .ok (.getfield 37, 3) := by decide +kernel
theorem dX6_takeMerged_32 : decode cX6_takeMerged 32 = .ok (.aload_n 0, 1) := by decide +kernel
theorem dX6_takeMerged_33 : decode cX6_takeMerged 33 = .ok (.getfield 10, 3) := by decide +kernel
theorem dX6_takeMerged_36 : decode cX6_takeMerged 36 = .ok (.invokevirtual 214, 3) := by decide +kernel
theorem dX6_takeMerged_39 : decode cX6_takeMerged 39 = .ok (.return_, 1) := by decide +kernel
theorem dX6_lastOfFull_0 : decode cX6_lastOfFull 0 = .ok (.aload_n 0, 1) := by decide +kernel
theorem dX6_lastOfFull_1 : decode cX6_lastOfFull 1 = .ok (.getfield 37, 3) := by decide +kernel
theorem dX6_lastOfFull_4 : decode cX6_lastOfFull 4 = .ok (.aload_n 0, 1) := by decide +kernel
theorem dX6_lastOfFull_5 : decode cX6_lastOfFull 5 = .ok (.getfield 10, 3) := by decide +kernel
theorem dX6_lastOfFull_8 : decode cX6_lastOfFull 8 = .ok (.iload_n 1, 1) := by decide +kernel
theorem dX6_lastOfFull_9 : decode cX6_lastOfFull 9 = .ok (.invokevirtual 150, 3) := by decide +kernel
theorem dX6_lastOfFull_12 : decode cX6_lastOfFull 12 = .ok (.aload_n 0, 1) := by decide +kernel
theorem dX6_lastOfFull_13 : decode cX6_lastOfFull 13 = .ok (.getfield 37, 3) := by decide +kernel
theorem dX6_lastOfFull_16 : decode cX6_lastOfFull 16 = .ok (.getfield 154, 3) := by decide +kernel
theorem dX6_lastOfFull_19 : decode cX6_lastOfFull 19 = .ok (.aload_n 0, 1) := by decide +kernel
theorem dX6_lastOfFull_20 : decode cX6_lastOfFull 20 = .ok (.getfield 37, 3) := by decide +kernel
theorem dX6_lastOfFull_23 : decode cX6_lastOfFull 23 = .ok (.getfield 211, 3) := by decide +kernel
theorem dX6_lastOfFull_26 : decode cX6_lastOfFull 26 = .ok (.if_icmp .ge 6, 3) := by decide +kernel
theorem dX6_lastOfFull_29 : decode cX6_lastOfFull 29 = .ok (.bipush (-2), 2) := by decide +kernel
theorem dX6_lastOfFull_31 : decode cX6_lastOfFull 31 = .ok (.ireturn, 1) := by decide +kernel
theorem dX6_lastOfFull_32 : decode cX6_lastOfFull 32 = .ok (.aload_n 0, 1) := by decide +kernel
theorem dX6_lastOfFull_33 : decode cX6_lastOfFull 33 = .ok (.getfield 37, 3) := by decide +kernel
theorem dX6_lastOfFull_36 : decode cX6_lastOfFull 36 = .ok (.invokevirtual 239, 3) := by decide +kernel
theorem dX6_lastOfFull_39 : decode cX6_lastOfFull 39 = .ok (.ireturn, 1) := by decide +kernel
theorem dX6_needs_0 : decode cX6_needs 0 = .ok (.iload_n 1, 1) := by decide +kernel
theorem dX6_needs_1 : decode cX6_needs 1 = .ok (.invokestatic 86, 3) := by decide +kernel
theorem dX6_needs_4 : decode cX6_needs 4 = .ok (.ifCond .eq 10, 3) := by decide +kernel
theorem dX6_needs_7 : decode cX6_needs 7 = .ok (.iload_n 2, 1) := by decide +kernel
theorem dX6_needs_8 : decode cX6_needs 8 = .ok (.invokestatic 93, 3) := by decide +kernel
theorem dX6_needs_11 : decode cX6_needs 11 = .ok (.ifCond .ne 5, 3) := by decide +kernel
theorem dX6_needs_14 : decode cX6_needs 14 = .ok (.iconst (-1), 1) := by decide +kernel
theorem dX6_needs_15 : decode cX6_needs 15 = .ok (.ireturn, 1) := by decide +kernel
theorem dX6_needs_16 : decode cX6_needs 16 = .ok (.aload_n 0, 1) := by decide +kernel
theorem dX6_needs_17 : decode cX6_needs 17 = .ok (.iload_n 1, 1) := by decide +kernel
theorem dX6_needs_18 : decode cX6_needs 18 = .ok (.iload_n 2, 1) := by decide +kernel
theorem dX6_needs_19 : decode cX6_needs 19 = .ok (.invokevirtual 242, 3) := by decide +kernel
theorem dX6_needs_22 : decode cX6_needs 22 = .ok (.istore_n 3, 1) := by decide +kernel
theorem dX6_needs_23 : decode cX6_needs 23 = .ok (.iload_n 3, 1) := by decide +kernel
theorem dX6_needs_24 : decode cX6_needs 24 = .ok (.sipush 1023, 3) := by decide +kernel
theorem dX6_needs_27 : decode cX6_needs 27 = .ok (.if_icmp .le 8, 3) := by decide +kernel
theorem dX6_needs_30 : decode cX6_needs 30 = .ok (.bipush (-2), 2) := by decide +kernel
theorem dX6_needs_32 : decode cX6_needs 32 = .ok (.goto 4, 3) := by decide +kernel
theorem dX6_needs_35 : decode cX6_needs 35 = .ok (.iload_n 3, 1) := by decide +kernel
theorem dX6_needs_36 : decode cX6_needs 36 = .ok (.ireturn, 1) := by decide +kernel
theorem dX6_heavy_0 : decode cX6_heavy 0 = .ok (.iload_n 1, 1) := by decide +kernel
theorem dX6_heavy_1 : decode cX6_heavy 1 = .ok (.invokestatic 86, 3) := by decide +kernel
theorem dX6_heavy_4 : decode cX6_heavy 4 = .ok (.ifCond .eq 10, 3) := by decide +kernel
theorem dX6_heavy_7 : decode cX6_heavy 7 = .ok (.iload_n 2, 1) := by decide +kernel
theorem dX6_heavy_8 : decode cX6_heavy 8 = .ok (.invokestatic 106, 3) := by decide +kernel
theorem dX6_heavy_11 : decode cX6_heavy 11 = .ok (.ifCond .ne 5, 3) := by decide +kernel
theorem dX6_heavy_14 : decode cX6_heavy 14 = .ok (.iconst (-1), 1) := by decide +kernel
theorem dX6_heavy_15 : decode cX6_heavy 15 = .ok (.ireturn, 1) := by decide +kernel
theorem dX6_heavy_16 : decode cX6_heavy 16 = .ok (.aload_n 0, 1) := by decide +kernel
theorem dX6_heavy_17 : decode cX6_heavy 17 = .ok (.iload_n 1, 1) := by decide +kernel
theorem dX6_heavy_18 : decode cX6_heavy 18 = .ok (.invokevirtual 233, 3) := by decide +kernel
theorem dX6_heavy_21 : decode cX6_heavy 21 = .ok (.istore_n 3, 1) := by decide +kernel
theorem dX6_heavy_22 : decode cX6_heavy 22 = .ok (.iconst 1, 1) := by decide +kernel
theorem dX6_heavy_23 : decode cX6_heavy 23 = .ok (.istore 4, 2) := by decide +kernel
theorem dX6_heavy_25 : decode cX6_heavy 25 = .ok (.iload 4, 2) := by decide +kernel
theorem dX6_heavy_27 : decode cX6_heavy 27 = .ok (.bipush 20, 2) := by decide +kernel
theorem dX6_heavy_29 : decode cX6_heavy 29 = .ok (.if_icmp .gt 32, 3) := by decide +kernel
theorem dX6_heavy_32 : decode cX6_heavy 32 = .ok (.iload_n 3, 1) := by decide +kernel
theorem dX6_heavy_33 : decode cX6_heavy 33 = .ok (.bipush (-2), 2) := by decide +kernel
theorem dX6_heavy_35 : decode cX6_heavy 35 = .ok (.if_icmp .eq 17, 3) := by decide +kernel
theorem dX6_heavy_38 : decode cX6_heavy 38 = .ok (.aload_n 0, 1) := by decide +kernel
theorem dX6_heavy_39 : decode cX6_heavy 39 = .ok (.getfield 10, 3) := by decide +kernel
theorem dX6_heavy_42 : decode cX6_heavy 42 = .ok (.iload_n 2, 1) := by decide +kernel
theorem dX6_heavy_43 : decode cX6_heavy 43 = .ok (.iload 4, 2) := by decide +kernel
theorem dX6_heavy_45 : decode cX6_heavy 45 = .ok (.iload_n 3, 1) := by decide +kernel
theorem dX6_heavy_46 : decode cX6_heavy 46 = .ok (.invokevirtual 245, 3) := by decide +kernel
theorem dX6_heavy_49 : decode cX6_heavy 49 = .ok (.ifCond .le 6, 3) := by decide +kernel
theorem dX6_heavy_52 : decode cX6_heavy 52 = .ok (.iload 4, 2) := by decide +kernel
theorem dX6_heavy_54 : decode cX6_heavy 54 = .ok (.ireturn, 1) := by decide +kernel
theorem dX6_heavy_55 : decode cX6_heavy 55 = .ok (.iinc 4 1, 3) := by decide +kernel
theorem dX6_heavy_58 : decode cX6_heavy 58 = .ok (.goto (-33), 3) := by decide +kernel
theorem dX6_heavy_61 : decode cX6_heavy 61 = .ok (.bipush (-2), 2) := by decide +kernel
theorem dX6_heavy_63 : decode cX6_heavy 63 = .ok (.ireturn, 1) := by decide +kernel
theorem dX6_skip_0 : decode cX6_skip 0 = .ok (.iload_n 1, 1) := by decide +kernel
theorem dX6_skip_1 : decode cX6_skip 1 = .ok (.invokestatic 86, 3) := by decide +kernel
theorem dX6_skip_4 : decode cX6_skip 4 = .ok (.ifCond .eq 10, 3) := by decide +kernel
theorem dX6_skip_7 : decode cX6_skip 7 = .ok (.iload_n 2, 1) := by decide +kernel
theorem dX6_skip_8 : decode cX6_skip 8 = .ok (.invokestatic 93, 3) := by decide +kernel
theorem dX6_skip_11 : decode cX6_skip 11 = .ok (.ifCond .ne 5, 3) := by decide +kernel
theorem dX6_skip_14 : decode cX6_skip 14 = .ok (.iconst (-1), 1) := by decide +kernel
theorem dX6_skip_15 : decode cX6_skip 15 = .ok (.ireturn, 1) := by decide +kernel
theorem dX6_skip_16 : decode cX6_skip 16 = .ok (.aload_n 0, 1) := by decide +kernel
theorem dX6_skip_17 : decode cX6_skip 17 = .ok (.iload_n 1, 1) := by decide +kernel
theorem dX6_skip_18 : decode cX6_skip 18 = .ok (.iload_n 2, 1) := by decide +kernel
theorem dX6_skip_19 : decode cX6_skip 19 = .ok (.invokevirtual 242, 3) := by decide +kernel
theorem dX6_skip_22 : decode cX6_skip 22 = .ok (.istore_n 3, 1) := by decide +kernel
theorem dX6_skip_23 : decode cX6_skip 23 = .ok (.aload_n 0, 1) := by decide +kernel
theorem dX6_skip_24 : decode cX6_skip 24 = .ok (.getfield 10, 3) := by decide +kernel
theorem dX6_skip_27 : decode cX6_skip 27 = .ok (.getfield 173, 3) := by decide +kernel
theorem dX6_skip_30 : decode cX6_skip 30 = .ok (.istore 4, 2) := by decide +kernel
theorem dX6_skip_32 : decode cX6_skip 32 = .ok (.iconst 0, 1) := by decide +kernel
theorem dX6_skip_33 : decode cX6_skip 33 = .ok (.istore 5, 2) := by decide +kernel
theorem dX6_skip_35 : decode cX6_skip 35 = .ok (.iload 5, 2) := by decide +kernel
theorem dX6_skip_37 : decode cX6_skip 37 = .ok (.sipush 1000, 3) := by decide +kernel
theorem dX6_skip_40 : decode cX6_skip 40 = .ok (.if_icmp .ge 28, 3) := by decide +kernel
theorem dX6_skip_43 : decode cX6_skip 43 = .ok (.iload 4, 2) := by decide +kernel
theorem dX6_skip_45 : decode cX6_skip 45 = .ok (.invokestatic 248, 3) := by decide +kernel
theorem dX6_skip_48 : decode cX6_skip 48 = .ok (.istore 4, 2) := by decide +kernel
theorem dX6_skip_50 : decode cX6_skip 50 = .ok (.iload 4, 2) := by decide +kernel
theorem dX6_skip_52 : decode cX6_skip 52 = .ok (.invokestatic 251, 3) := by decide +kernel
theorem dX6_skip_55 : decode cX6_skip 55 = .ok (.iload_n 3, 1) := by decide +kernel
theorem dX6_skip_56 : decode cX6_skip 56 = .ok (.if_icmp .lt 6, 3) := by decide +kernel
theorem dX6_skip_59 : decode cX6_skip 59 = .ok (.iload 5, 2) := by decide +kernel
theorem dX6_skip_61 : decode cX6_skip 61 = .ok (.ireturn, 1) := by decide +kernel
theorem dX6_skip_62 : decode cX6_skip 62 = .ok (.iinc 5 1, 3) := by decide +kernel
theorem dX6_skip_65 : decode cX6_skip 65 = .ok (.goto (-30), 3) := by decide +kernel
theorem dX6_skip_68 : decode cX6_skip 68 = .ok (.bipush (-2), 2) := by decide +kernel
theorem dX6_skip_70 : decode cX6_skip 70 = .ok (.ireturn, 1) := by decide +kernel
theorem dX6_lots_0 : decode cX6_lots 0 = .ok (.aload_n 0, 1) := by decide +kernel
theorem dX6_lots_1 : decode cX6_lots 1 = .ok (.getfield 10, 3) := by decide +kernel
theorem dX6_lots_4 : decode cX6_lots 4 = .ok (.iload_n 1, 1) := by decide +kernel
theorem dX6_lots_5 : decode cX6_lots 5 = .ok (.invokevirtual 187, 3) := by decide +kernel
theorem dX6_lots_8 : decode cX6_lots 8 = .ok (.ifCond .eq 10, 3) := by decide +kernel
theorem dX6_lots_11 : decode cX6_lots 11 = .ok (.iload_n 2, 1) := by decide +kernel
theorem dX6_lots_12 : decode cX6_lots 12 = .ok (.invokestatic 93, 3) := by decide +kernel
theorem dX6_lots_15 : decode cX6_lots 15 = .ok (.ifCond .ne 5, 3) := by decide +kernel
theorem dX6_lots_18 : decode cX6_lots 18 = .ok (.iconst (-1), 1) := by decide +kernel
theorem dX6_lots_19 : decode cX6_lots 19 = .ok (.ireturn, 1) := by decide +kernel
theorem dX6_lots_20 : decode cX6_lots 20 = .ok (.aload_n 0, 1) := by decide +kernel
theorem dX6_lots_21 : decode cX6_lots 21 = .ok (.getfield 10, 3) := by decide +kernel
theorem dX6_lots_24 : decode cX6_lots 24 = .ok (.getfield 129, 3) := by decide +kernel
theorem dX6_lots_27 : decode cX6_lots 27 = .ok (.iload_n 1, 1) := by decide +kernel
theorem dX6_lots_28 : decode cX6_lots 28 = .ok (.baload, 1) := by decide +kernel
theorem dX6_lots_29 : decode cX6_lots 29 = .ok (.ifCond .eq 6, 3) := by decide +kernel
theorem dX6_lots_32 : decode cX6_lots 32 = .ok (.bipush (-2), 2) := by decide +kernel
theorem dX6_lots_34 : decode cX6_lots 34 = .ok (.ireturn, 1) := by decide +kernel
theorem dX6_lots_35 : decode cX6_lots 35 = .ok (.sipush 1024, 3) := by decide +kernel
theorem dX6_lots_38 : decode cX6_lots 38 = .ok (.aload_n 0, 1) := by decide +kernel
theorem dX6_lots_39 : decode cX6_lots 39 = .ok (.iload_n 2, 1) := by decide +kernel
theorem dX6_lots_40 : decode cX6_lots 40 = .ok (.iload_n 1, 1) := by decide +kernel
theorem dX6_lots_41 : decode cX6_lots 41 = .ok (.invokevirtual 254, 3) := by decide +kernel
theorem dX6_lots_44 : decode cX6_lots 44 = .ok (.isub, 1) := by decide +kernel
theorem dX6_lots_45 : decode cX6_lots 45 = .ok (.ireturn, 1) := by decide +kernel
theorem dX6_nextLot_0 : decode cX6_nextLot 0 = .ok (.iload_n 1, 1) := by decide +kernel
theorem dX6_nextLot_1 : decode cX6_nextLot 1 = .ok (.iconst 0, 1) := by decide +kernel
theorem dX6_nextLot_2 : decode cX6_nextLot 2 = .ok (.sipush 999, 3) := by decide +kernel
theorem dX6_nextLot_5 : decode cX6_nextLot 5 = .ok (.invokestatic 62, 3) := by decide +kernel
theorem dX6_nextLot_8 : decode cX6_nextLot 8 = .ok (.ifCond .ne 5, 3) := by decide +kernel
theorem dX6_nextLot_11 : decode cX6_nextLot 11 = .ok (.iconst (-1), 1) := by decide +kernel
theorem dX6_nextLot_12 : decode cX6_nextLot 12 = .ok (.ireturn, 1) := by decide +kernel
theorem dX6_nextLot_13 : decode cX6_nextLot 13 = .ok (.aload_n 0, 1) := by decide +kernel
theorem dX6_nextLot_14 : decode cX6_nextLot 14 = .ok (.getfield 10, 3) := by decide +kernel
theorem dX6_nextLot_17 : decode cX6_nextLot 17 = .ok (.getfield 173, 3) := by decide +kernel
theorem dX6_nextLot_20 : decode cX6_nextLot 20 = .ok (.istore_n 2, 1) := by decide +kernel
theorem dX6_nextLot_21 : decode cX6_nextLot 21 = .ok (.iconst 0, 1) := by decide +kernel
theorem dX6_nextLot_22 : decode cX6_nextLot 22 = .ok (.istore_n 3, 1) := by decide +kernel
theorem dX6_nextLot_23 : decode cX6_nextLot 23 = .ok (.iload_n 3, 1) := by decide +kernel
theorem dX6_nextLot_24 : decode cX6_nextLot 24 = .ok (.iload_n 1, 1) := by decide +kernel
theorem dX6_nextLot_25 : decode cX6_nextLot 25 = .ok (.if_icmp .gt 14, 3) := by decide +kernel
theorem dX6_nextLot_28 : decode cX6_nextLot 28 = .ok (.iload_n 2, 1) := by decide +kernel
theorem dX6_nextLot_29 : decode cX6_nextLot 29 = .ok (.invokestatic 248, 3) := by decide +kernel
theorem dX6_nextLot_32 : decode cX6_nextLot 32 = .ok (.istore_n 2, 1) := by decide +kernel
theorem dX6_nextLot_33 : decode cX6_nextLot 33 = .ok (.iinc 3 1, 3) := by decide +kernel
theorem dX6_nextLot_36 : decode cX6_nextLot 36 = .ok (.goto (-13), 3) := by decide +kernel
theorem dX6_nextLot_39 : decode cX6_nextLot 39 = .ok (.iload_n 2, 1) := by decide +kernel
theorem dX6_nextLot_40 : decode cX6_nextLot 40 = .ok (.invokestatic 251, 3) := by decide +kernel
theorem dX6_nextLot_43 : decode cX6_nextLot 43 = .ok (.ireturn, 1) := by decide +kernel
theorem dX6_leastLotForSample_0 : decode cX6_leastLotForSample 0 = .ok (.aload_n 0, 1) := by decide +kernel
theorem dX6_leastLotForSample_1 : decode cX6_leastLotForSample 1 = .ok (.iload_n 1, 1) := by decide +kernel
theorem dX6_leastLotForSample_2 : decode cX6_leastLotForSample 2 = .ok (.invokevirtual 233, 3) := by decide +kernel
theorem dX6_leastLotForSample_5 : decode cX6_leastLotForSample 5 = .ok (.istore_n 3, 1) := by decide +kernel
theorem dX6_leastLotForSample_6 : decode cX6_leastLotForSample 6 = .ok (.iload_n 3, 1) := by decide +kernel
theorem dX6_leastLotForSample_7 : decode cX6_leastLotForSample 7 = .ok (.bipush (-2), 2) := by decide +kernel
theorem dX6_leastLotForSample_9 : decode cX6_leastLotForSample 9 = .ok (.if_icmp .ne 7, 3) := by decide +kernel
theorem dX6_leastLotForSample_12 : decode cX6_leastLotForSample 12 = .ok (.iconst 1, 1) := by decide +kernel
theorem dX6_leastLotForSample_13 : decode cX6_leastLotForSample 13 = .ok (.goto 9, 3) := by decide +kernel
theorem dX6_leastLotForSample_16 : decode cX6_leastLotForSample 16 = .ok (.aload_n 0, 1) := by decide +kernel
theorem dX6_leastLotForSample_17 : decode cX6_leastLotForSample 17 = .ok (.iload_n 2, 1) := by decide +kernel
theorem dX6_leastLotForSample_18 : decode cX6_leastLotForSample 18 = .ok (.iload_n 3, 1) := by decide +kernel
theorem dX6_leastLotForSample_19 : decode cX6_leastLotForSample 19 = .ok (.invokevirtual 254, 3) := by decide +kernel
theorem dX6_leastLotForSample_22 : decode cX6_leastLotForSample 22 = .ok (.ireturn, 1) := by decide +kernel
theorem dX6_leastLotAhead_0 : decode cX6_leastLotAhead 0 = .ok (.iconst 0, 1) := by decide +kernel
theorem dX6_leastLotAhead_1 : decode cX6_leastLotAhead 1 = .ok (.istore_n 3, 1) := by decide +kernel
theorem dX6_leastLotAhead_2 : decode cX6_leastLotAhead 2 = .ok (.sipush 512, 3) := by decide +kernel
theorem dX6_leastLotAhead_5 : decode cX6_leastLotAhead 5 = .ok (.istore 4, 2) := by decide +kernel
theorem dX6_leastLotAhead_7 : decode cX6_leastLotAhead 7 = .ok (.iload 4, 2) := by decide +kernel
theorem dX6_leastLotAhead_9 : decode cX6_leastLotAhead 9 = .ok (.ifCond .le 43, 3) := by decide +kernel
theorem dX6_leastLotAhead_12 : decode cX6_leastLotAhead 12 = .ok (.iload_n 3, 1) := by decide +kernel
theorem dX6_leastLotAhead_13 : decode cX6_leastLotAhead 13 = .ok (.iload 4, 2) := by decide +kernel
theorem dX6_leastLotAhead_15 : decode cX6_leastLotAhead 15 = .ok (.iadd, 1) := by decide +kernel
theorem dX6_leastLotAhead_16 : decode cX6_leastLotAhead 16 = .ok (.sipush 1023, 3) := by decide +kernel
theorem dX6_leastLotAhead_19 : decode cX6_leastLotAhead 19 = .ok (.if_icmp .gt 24, 3) := by decide +kernel
theorem dX6_leastLotAhead_22 : decode cX6_leastLotAhead 22 = .ok (.aload_n 0, 1) := by decide +kernel
theorem dX6_leastLotAhead_23 : decode cX6_leastLotAhead 23 = .ok (.getfield 10, 3) := by decide +kernel
theorem dX6_leastLotAhead_26 : decode cX6_leastLotAhead 26 = .ok (.iload_n 3, 1) := by decide +kernel
theorem dX6_leastLotAhead_27 : decode cX6_leastLotAhead 27 = .ok (.iload 4, 2) := by decide +kernel
theorem dX6_leastLotAhead_29 : decode cX6_leastLotAhead 29 = .ok (.iadd, 1) := by decide +kernel
theorem dX6_leastLotAhead_30 : decode cX6_leastLotAhead 30 = .ok (.iload_n 1, 1) := by decide +kernel
theorem dX6_leastLotAhead_31 : decode cX6_leastLotAhead 31 = .ok (.iload_n 2, 1) := by decide +kernel
theorem dX6_leastLotAhead_32 : decode cX6_leastLotAhead 32 = .ok (.invokevirtual 245, 3) := by decide +kernel
theorem dX6_leastLotAhead_35 : decode cX6_leastLotAhead 35 = .ok (.ifCond .gt 8, 3) := by decide +kernel
theorem dX6_leastLotAhead_38 : decode cX6_leastLotAhead 38 = .ok (.iload_n 3, 1) := by decide +kernel
theorem dX6_leastLotAhead_39 : decode cX6_leastLotAhead 39 = .ok (.iload 4, 2) := by decide +kernel
theorem dX6_leastLotAhead_41 : decode cX6_leastLotAhead 41 = .ok (.iadd, 1) := by decide +kernel
theorem dX6_leastLotAhead_42 : decode cX6_leastLotAhead 42 = .ok (.istore_n 3, 1) := by decide +kernel
theorem dX6_leastLotAhead_43 : decode cX6_leastLotAhead 43 = .ok (.iload 4, 2) := by decide +kernel
theorem dX6_leastLotAhead_45 : decode cX6_leastLotAhead 45 = .ok (.iconst 1, 1) := by decide +kernel
theorem dX6_leastLotAhead_46 : decode cX6_leastLotAhead 46 = .ok (.ishr, 1) := by decide +kernel
theorem dX6_leastLotAhead_47 : decode cX6_leastLotAhead 47 = .ok (.istore 4, 2) := by decide +kernel
theorem dX6_leastLotAhead_49 : decode cX6_leastLotAhead 49 = .ok (.goto (-42), 3) := by decide +kernel
theorem dX6_leastLotAhead_52 : decode cX6_leastLotAhead 52 = .ok (.iload_n 3, 1) := by decide +kernel
theorem dX6_leastLotAhead_53 : decode cX6_leastLotAhead 53 = .ok (.iconst 1, 1) := by decide +kernel
theorem dX6_leastLotAhead_54 : decode cX6_leastLotAhead 54 = .ok (.iadd, 1) := by decide +kernel
theorem dX6_leastLotAhead_55 : decode cX6_leastLotAhead 55 = .ok (.ireturn, 1) := by decide +kernel
theorem dX6_kinds_0 : decode cX6_kinds 0 = .ok (.iload_n 1, 1) := by decide +kernel
theorem dX6_kinds_1 : decode cX6_kinds 1 = .ok (.invokestatic 86, 3) := by decide +kernel
theorem dX6_kinds_4 : decode cX6_kinds 4 = .ok (.ifCond .eq 13, 3) := by decide +kernel
theorem dX6_kinds_7 : decode cX6_kinds 7 = .ok (.iload_n 2, 1) := by decide +kernel
theorem dX6_kinds_8 : decode cX6_kinds 8 = .ok (.iconst 1, 1) := by decide +kernel
theorem dX6_kinds_9 : decode cX6_kinds 9 = .ok (.bipush 12, 2) := by decide +kernel
theorem dX6_kinds_11 : decode cX6_kinds 11 = .ok (.invokestatic 62, 3) := by decide +kernel
theorem dX6_kinds_14 : decode cX6_kinds 14 = .ok (.ifCond .ne 5, 3) := by decide +kernel
theorem dX6_kinds_17 : decode cX6_kinds 17 = .ok (.iconst (-1), 1) := by decide +kernel
theorem dX6_kinds_18 : decode cX6_kinds 18 = .ok (.ireturn, 1) := by decide +kernel
theorem dX6_kinds_19 : decode cX6_kinds 19 = .ok (.aload_n 0, 1) := by decide +kernel
theorem dX6_kinds_20 : decode cX6_kinds 20 = .ok (.iload_n 1, 1) := by decide +kernel
theorem dX6_kinds_21 : decode cX6_kinds 21 = .ok (.iload_n 2, 1) := by decide +kernel
theorem dX6_kinds_22 : decode cX6_kinds 22 = .ok (.invokevirtual 257, 3) := by decide +kernel
theorem dX6_kinds_25 : decode cX6_kinds 25 = .ok (.ireturn, 1) := by decide +kernel
theorem dX6_sizeForKinds_0 : decode cX6_sizeForKinds 0 = .ok (.iload_n 1, 1) := by decide +kernel
theorem dX6_sizeForKinds_1 : decode cX6_sizeForKinds 1 = .ok (.invokestatic 86, 3) := by decide +kernel
theorem dX6_sizeForKinds_4 : decode cX6_sizeForKinds 4 = .ok (.ifCond .eq 13, 3) := by decide +kernel
theorem dX6_sizeForKinds_7 : decode cX6_sizeForKinds 7 = .ok (.iload_n 2, 1) := by decide +kernel
theorem dX6_sizeForKinds_8 : decode cX6_sizeForKinds 8 = .ok (.iconst 1, 1) := by decide +kernel
theorem dX6_sizeForKinds_9 : decode cX6_sizeForKinds 9 = .ok (.bipush 12, 2) := by decide +kernel
theorem dX6_sizeForKinds_11 : decode cX6_sizeForKinds 11 = .ok (.invokestatic 62, 3) := by decide +kernel
theorem dX6_sizeForKinds_14 : decode cX6_sizeForKinds 14 = .ok (.ifCond .ne 5, 3) := by decide +kernel
theorem dX6_sizeForKinds_17 : decode cX6_sizeForKinds 17 = .ok (.iconst (-1), 1) := by decide +kernel
theorem dX6_sizeForKinds_18 : decode cX6_sizeForKinds 18 = .ok (.ireturn, 1) := by decide +kernel
theorem dX6_sizeForKinds_19 : decode cX6_sizeForKinds 19 = .ok (.iconst 1, 1) := by decide +kernel
theorem dX6_sizeForKinds_20 : decode cX6_sizeForKinds 20 = .ok (.istore_n 3, 1) := by decide +kernel
theorem dX6_sizeForKinds_21 : decode cX6_sizeForKinds 21 = .ok (.iload_n 3, 1) := by decide +kernel
theorem dX6_sizeForKinds_22 : decode cX6_sizeForKinds 22 = .ok (.bipush 12, 2) := by decide +kernel
theorem dX6_sizeForKinds_24 : decode cX6_sizeForKinds 24 = .ok (.if_icmp .gt 21, 3) := by decide +kernel
theorem dX6_sizeForKinds_27 : decode cX6_sizeForKinds 27 = .ok (.aload_n 0, 1) := by decide +kernel
theorem dX6_sizeForKinds_28 : decode cX6_sizeForKinds 28 = .ok (.iload_n 1, 1) := by decide +kernel
theorem dX6_sizeForKinds_29 : decode cX6_sizeForKinds 29 = .ok (.iload_n 3, 1) := by decide +kernel
theorem dX6_sizeForKinds_30 : decode cX6_sizeForKinds 30 = .ok (.invokevirtual 257, 3) := by decide +kernel
theorem dX6_sizeForKinds_33 : decode cX6_sizeForKinds 33 = .ok (.iload_n 2, 1) := by decide +kernel
theorem dX6_sizeForKinds_34 : decode cX6_sizeForKinds 34 = .ok (.if_icmp .lt 5, 3) := by decide +kernel
theorem dX6_sizeForKinds_37 : decode cX6_sizeForKinds 37 = .ok (.iload_n 3, 1) := by decide +kernel
theorem dX6_sizeForKinds_38 : decode cX6_sizeForKinds 38 = .ok (.ireturn, 1) := by decide +kernel
theorem dX6_sizeForKinds_39 : decode cX6_sizeForKinds 39 = .ok (.iinc 3 1, 3) := by decide +kernel
theorem dX6_sizeForKinds_42 : decode cX6_sizeForKinds 42 = .ok (.goto (-21), 3) := by decide +kernel
theorem dX6_sizeForKinds_45 : decode cX6_sizeForKinds 45 = .ok (.bipush (-2), 2) := by decide +kernel
theorem dX6_sizeForKinds_47 : decode cX6_sizeForKinds 47 = .ok (.ireturn, 1) := by decide +kernel
theorem dX6_shared_0 : decode cX6_shared 0 = .ok (.iload_n 1, 1) := by decide +kernel
theorem dX6_shared_1 : decode cX6_shared 1 = .ok (.invokestatic 86, 3) := by decide +kernel
theorem dX6_shared_4 : decode cX6_shared 4 = .ok (.ifCond .eq 10, 3) := by decide +kernel
theorem dX6_shared_7 : decode cX6_shared 7 = .ok (.iload_n 2, 1) := by decide +kernel
theorem dX6_shared_8 : decode cX6_shared 8 = .ok (.invokestatic 86, 3) := by decide +kernel
theorem dX6_shared_11 : decode cX6_shared 11 = .ok (.ifCond .ne 5, 3) := by decide +kernel
theorem dX6_shared_14 : decode cX6_shared 14 = .ok (.iconst (-1), 1) := by decide +kernel
theorem dX6_shared_15 : decode cX6_shared 15 = .ok (.ireturn, 1) := by decide +kernel
theorem dX6_shared_16 : decode cX6_shared 16 = .ok (.aload_n 0, 1) := by decide +kernel
theorem dX6_shared_17 : decode cX6_shared 17 = .ok (.getfield 37, 3) := by decide +kernel
theorem dX6_shared_20 : decode cX6_shared 20 = .ok (.aload_n 0, 1) := by decide +kernel
theorem dX6_shared_21 : decode cX6_shared 21 = .ok (.getfield 10, 3) := by decide +kernel
theorem dX6_shared_24 : decode cX6_shared 24 = .ok (.iload_n 1, 1) := by decide +kernel
theorem dX6_shared_25 : decode cX6_shared 25 = .ok (.invokevirtual 150, 3) := by decide +kernel
theorem dX6_shared_28 : decode cX6_shared 28 = .ok (.aload_n 0, 1) := by decide +kernel
theorem dX6_shared_29 : decode cX6_shared 29 = .ok (.getfield 41, 3) := by decide +kernel
theorem dX6_shared_32 : decode cX6_shared 32 = .ok (.aload_n 0, 1) := by decide +kernel
theorem dX6_shared_33 : decode cX6_shared 33 = .ok (.getfield 10, 3) := by decide +kernel
theorem dX6_shared_36 : decode cX6_shared 36 = .ok (.iload_n 2, 1) := by decide +kernel
theorem dX6_shared_37 : decode cX6_shared 37 = .ok (.invokevirtual 150, 3) := by decide +kernel
theorem dX6_shared_40 : decode cX6_shared 40 = .ok (.iconst 0, 1) := by decide +kernel
theorem dX6_shared_41 : decode cX6_shared 41 = .ok (.istore_n 3, 1) := by decide +kernel
theorem dX6_shared_42 : decode cX6_shared 42 = .ok (.iconst 0, 1) := by decide +kernel
theorem dX6_shared_43 : decode cX6_shared 43 = .ok (.istore 4, 2) := by decide +kernel
theorem dX6_shared_45 : decode cX6_shared 45 = .ok (.iload 4, 2) := by decide +kernel
theorem dX6_shared_47 : decode cX6_shared 47 = .ok (.bipush 26, 2) := by decide +kernel
theorem dX6_shared_49 : decode cX6_shared 49 = .ok (.if_icmp .ge 42, 3) := by decide +kernel
theorem dX6_shared_52 : decode cX6_shared 52 = .ok (.aload_n 0, 1) := by decide +kernel
theorem dX6_shared_53 : decode cX6_shared 53 = .ok (.getfield 37, 3) := by decide +kernel
theorem dX6_shared_56 : decode cX6_shared 56 = .ok (.getfield 260, 3) := by decide +kernel
theorem dX6_shared_59 : decode cX6_shared 59 = .ok (.iload 4, 2) := by decide +kernel
theorem dX6_shared_61 : decode cX6_shared 61 = .ok (.iaload, 1) := by decide +kernel
theorem dX6_shared_62 : decode cX6_shared 62 = .ok (.ifCond .le 23, 3) := by decide +kernel
theorem dX6_shared_65 : decode cX6_shared 65 = .ok (.aload_n 0, 1) := by decide +kernel
theorem dX6_shared_66 : decode cX6_shared 66 = .ok (.getfield 41, 3) := by decide +kernel
theorem dX6_shared_69 : decode cX6_shared 69 = .ok (.getfield 260, 3) := by decide +kernel
theorem dX6_shared_72 : decode cX6_shared 72 = .ok (.iload 4, 2) := by decide +kernel
theorem dX6_shared_74 : decode cX6_shared 74 = .ok (.iaload, 1) := by decide +kernel
theorem dX6_shared_75 : decode cX6_shared 75 = .ok (.ifCond .le 10, 3) := by decide +kernel
theorem dX6_shared_78 : decode cX6_shared 78 = .ok (.iload_n 3, 1) := by decide +kernel
theorem dX6_shared_79 : decode cX6_shared 79 = .ok (.iconst 1, 1) := by decide +kernel
theorem dX6_shared_80 : decode cX6_shared 80 = .ok (.iload 4, 2) := by decide +kernel
theorem dX6_shared_82 : decode cX6_shared 82 = .ok (.ishl, 1) := by decide +kernel
theorem dX6_shared_83 : decode cX6_shared 83 = .ok (.ior, 1) := by decide +kernel
theorem dX6_shared_84 : decode cX6_shared 84 = .ok (.istore_n 3, 1) := by decide +kernel
theorem dX6_shared_85 : decode cX6_shared 85 = .ok (.iinc 4 1, 3) := by decide +kernel
theorem dX6_shared_88 : decode cX6_shared 88 = .ok (.goto (-43), 3) := by decide +kernel
theorem dX6_shared_91 : decode cX6_shared 91 = .ok (.iload_n 3, 1) := by decide +kernel
theorem dX6_shared_92 : decode cX6_shared 92 = .ok (.ireturn, 1) := by decide +kernel
theorem dX6_kindsBySize_0 : decode cX6_kindsBySize 0 = .ok (.aload_n 0, 1) := by decide +kernel
theorem dX6_kindsBySize_1 : decode cX6_kindsBySize 1 = .ok (.getfield 37, 3) := by decide +kernel
theorem dX6_kindsBySize_4 : decode cX6_kindsBySize 4 = .ok (.aload_n 0, 1) := by decide +kernel
theorem dX6_kindsBySize_5 : decode cX6_kindsBySize 5 = .ok (.getfield 10, 3) := by decide +kernel
theorem dX6_kindsBySize_8 : decode cX6_kindsBySize 8 = .ok (.iload_n 1, 1) := by decide +kernel
theorem dX6_kindsBySize_9 : decode cX6_kindsBySize 9 = .ok (.invokevirtual 208, 3) := by decide +kernel
theorem dX6_kindsBySize_12 : decode cX6_kindsBySize 12 = .ok (.aload_n 0, 1) := by decide +kernel
theorem dX6_kindsBySize_13 : decode cX6_kindsBySize 13 = .ok (.getfield 37, 3) := by decide +kernel
theorem dX6_kindsBySize_16 : decode cX6_kindsBySize 16 = .ok (.iload_n 2, 1) := by decide +kernel
theorem dX6_kindsBySize_17 : decode cX6_kindsBySize 17 = .ok (.putfield 211, 3) := by decide +kernel
theorem dX6_kindsBySize_20 : decode cX6_kindsBySize 20 = .ok (.aload_n 0, 1) := by decide +kernel
theorem dX6_kindsBySize_21 : decode cX6_kindsBySize 21 = .ok (.getfield 37, 3) := by decide +kernel
theorem dX6_kindsBySize_24 : decode cX6_kindsBySize 24 = .ok (.aload_n 0, 1) := by decide +kernel
theorem dX6_kindsBySize_25 : decode cX6_kindsBySize 25 = .ok (.getfield 10, 3) := by decide +kernel
theorem dX6_kindsBySize_28 : decode cX6_kindsBySize 28 = .ok (.invokevirtual 214, 3) := by decide +kernel
theorem dX6_kindsBySize_31 : decode cX6_kindsBySize 31 = .ok (.iconst 0, 1) := by decide +kernel
theorem dX6_kindsBySize_32 : decode cX6_kindsBySize 32 = .ok (.istore_n 3, 1) := by decide +kernel
theorem dX6_kindsBySize_33 : decode cX6_kindsBySize 33 = .ok (.iconst 0, 1) := by decide +kernel
theorem dX6_kindsBySize_34 : decode cX6_kindsBySize 34 = .ok (.istore 4, 2) := by decide +kernel
theorem dX6_kindsBySize_36 : decode cX6_kindsBySize 36 = .ok (.iload 4, 2) := by decide +kernel
theorem dX6_kindsBySize_38 : decode cX6_kindsBySize 38 = .ok (.bipush 26, 2) := by decide +kernel
theorem dX6_kindsBySize_40 : decode cX6_kindsBySize 40 = .ok (.if_icmp .ge 25, 3) := by decide +kernel
theorem dX6_kindsBySize_43 : decode cX6_kindsBySize 43 = .ok (.aload_n 0, 1) := by decide +kernel
theorem dX6_kindsBySize_44 : decode cX6_kindsBySize 44 = .ok (.getfield 37, 3) := by decide +kernel
theorem dX6_kindsBySize_47 : decode cX6_kindsBySize 47 = .ok (.getfield 260, 3) := by decide +kernel
theorem dX6_kindsBySize_50 : decode cX6_kindsBySize 50 = .ok (.iload 4, 2) := by decide +kernel
theorem dX6_kindsBySize_52 : decode cX6_kindsBySize 52 = .ok (.iaload, 1) := by decide +kernel
theorem dX6_kindsBySize_53 : decode cX6_kindsBySize 53 = .ok (.ifCond .le 6, 3) := by decide +kernel
theorem dX6_kindsBySize_56 : decode cX6_kindsBySize 56 = .ok (.iinc 3 1, 3) := by decide +kernel
theorem dX6_kindsBySize_59 : decode cX6_kindsBySize 59 = .ok (.iinc 4 1, 3) := by decide +kernel
theorem dX6_kindsBySize_62 : decode cX6_kindsBySize 62 = .ok (.goto (-26), 3) := by decide +kernel
theorem dX6_kindsBySize_65 : decode cX6_kindsBySize 65 = .ok (.iload_n 3, 1) := by decide +kernel
theorem dX6_kindsBySize_66 : decode cX6_kindsBySize 66 = .ok (.ireturn, 1) := by decide +kernel
theorem dX6_without_0 : decode cX6_without 0 = .ok (.aload_n 0, 1) := by decide +kernel
theorem dX6_without_1 : decode cX6_without 1 = .ok (.getfield 10, 3) := by decide +kernel
theorem dX6_without_4 : decode cX6_without 4 = .ok (.iload_n 1, 1) := by decide +kernel
theorem dX6_without_5 : decode cX6_without 5 = .ok (.invokevirtual 187, 3) := by decide +kernel
theorem dX6_without_8 : decode cX6_without 8 = .ok (.ifCond .eq 8, 3) := by decide +kernel
theorem dX6_without_11 : decode cX6_without 11 = .ok (.iload_n 2, 1) := by decide +kernel
theorem dX6_without_12 : decode cX6_without 12 = .ok (.iconst (-1), 1) := by decide +kernel
theorem dX6_without_13 : decode cX6_without 13 = .ok (.if_icmp .ge 5, 3) := by decide +kernel
theorem dX6_without_16 : decode cX6_without 16 = .ok (.iconst (-1), 1) := by decide +kernel
theorem dX6_without_17 : decode cX6_without 17 = .ok (.ireturn, 1) := by decide +kernel
theorem dX6_without_18 : decode cX6_without 18 = .ok (.aload_n 0, 1) := by decide +kernel
theorem dX6_without_19 : decode cX6_without 19 = .ok (.getfield 10, 3) := by decide +kernel
theorem dX6_without_22 : decode cX6_without 22 = .ok (.getfield 129, 3) := by decide +kernel
theorem dX6_without_25 : decode cX6_without 25 = .ok (.iload_n 1, 1) := by decide +kernel
theorem dX6_without_26 : decode cX6_without 26 = .ok (.baload, 1) := by decide +kernel
theorem dX6_without_27 : decode cX6_without 27 = .ok (.ifCond .eq 6, 3) := by decide +kernel
theorem dX6_without_30 : decode cX6_without 30 = .ok (.bipush (-2), 2) := by decide +kernel
theorem dX6_without_32 : decode cX6_without 32 = .ok (.ireturn, 1) := by decide +kernel
theorem dX6_without_33 : decode cX6_without 33 = .ok (.aload_n 0, 1) := by decide +kernel
theorem dX6_without_34 : decode cX6_without 34 = .ok (.iload_n 1, 1) := by decide +kernel
theorem dX6_without_35 : decode cX6_without 35 = .ok (.invokevirtual 263, 3) := by decide +kernel
theorem dX6_without_38 : decode cX6_without 38 = .ok (.aload_n 0, 1) := by decide +kernel
theorem dX6_without_39 : decode cX6_without 39 = .ok (.getfield 37, 3) := by decide +kernel
theorem dX6_without_42 : decode cX6_without 42 = .ok (.iload_n 2, 1) := by decide +kernel
theorem dX6_without_43 : decode cX6_without 43 = .ok (.invokevirtual 217, 3) := by decide +kernel
theorem dX6_without_46 : decode cX6_without 46 = .ok (.ireturn, 1) := by decide +kernel
theorem dX6_expired_0 : decode cX6_expired 0 = .ok (.iload_n 1, 1) := by decide +kernel
theorem dX6_expired_1 : decode cX6_expired 1 = .ok (.invokestatic 86, 3) := by decide +kernel
theorem dX6_expired_4 : decode cX6_expired 4 = .ok (.ifCond .eq 8, 3) := by decide +kernel
theorem dX6_expired_7 : decode cX6_expired 7 = .ok (.iload_n 2, 1) := by decide +kernel
theorem dX6_expired_8 : decode cX6_expired 8 = .ok (.iconst (-1), 1) := by decide +kernel
theorem dX6_expired_9 : decode cX6_expired 9 = .ok (.if_icmp .ge 5, 3) := by decide +kernel
theorem dX6_expired_12 : decode cX6_expired 12 = .ok (.iconst (-1), 1) := by decide +kernel
theorem dX6_expired_13 : decode cX6_expired 13 = .ok (.ireturn, 1) := by decide +kernel
theorem dX6_expired_14 : decode cX6_expired 14 = .ok (.iconst 0, 1) := by decide +kernel
theorem dX6_expired_15 : decode cX6_expired 15 = .ok (.istore_n 3, 1) := by decide +kernel
theorem dX6_expired_16 : decode cX6_expired 16 = .ok (.iconst 0, 1) := by decide +kernel
theorem dX6_expired_17 : decode cX6_expired 17 = .ok (.istore 4, 2) := by decide +kernel
theorem dX6_expired_19 : decode cX6_expired 19 = .ok (.iload 4, 2) := by decide +kernel
theorem dX6_expired_21 : decode cX6_expired 21 = .ok (.aload_n 0, 1) := by decide +kernel
theorem dX6_expired_22 : decode cX6_expired 22 = .ok (.getfield 10, 3) := by decide +kernel
theorem dX6_expired_25 : decode cX6_expired 25 = .ok (.getfield 83, 3) := by decide +kernel
theorem dX6_expired_28 : decode cX6_expired 28 = .ok (.if_icmp .ge 46, 3) := by decide +kernel
theorem dX6_expired_31 : decode cX6_expired 31 = .ok (.aload_n 0, 1) := by decide +kernel
theorem dX6_expired_32 : decode cX6_expired 32 = .ok (.getfield 10, 3) := by decide +kernel
theorem dX6_expired_35 : decode cX6_expired 35 = .ok (.iload 4, 2) := by decide +kernel
theorem dX6_expired_37 : decode cX6_expired 37 = .ok (.iload_n 1, 1) := by decide +kernel
theorem dX6_expired_38 : decode cX6_expired 38 = .ok (.iconst (-1), 1) := by decide +kernel
theorem dX6_expired_39 : decode cX6_expired 39 = .ok (.invokevirtual 144, 3) := by decide +kernel
theorem dX6_expired_42 : decode cX6_expired 42 = .ok (.ifCond .eq 26, 3) := by decide +kernel
theorem dX6_expired_45 : decode cX6_expired 45 = .ok (.aload_n 0, 1) := by decide +kernel
theorem dX6_expired_46 : decode cX6_expired 46 = .ok (.getfield 10, 3) := by decide +kernel
theorem dX6_expired_49 : decode cX6_expired 49 = .ok (.iload 4, 2) := by decide +kernel
theorem dX6_expired_51 : decode cX6_expired 51 = .ok (.invokevirtual 169, 3) := by decide +kernel
theorem dX6_expired_54 : decode cX6_expired 54 = .ok (.ifCond .ne 14, 3) := by decide +kernel
theorem dX6_expired_57 : decode cX6_expired 57 = .ok (.iload_n 3, 1) := by decide +kernel
theorem dX6_expired_58 : decode cX6_expired 58 = .ok (.iload_n 2, 1) := by decide +kernel
theorem dX6_expired_59 : decode cX6_expired 59 = .ok (.if_icmp .ne 6, 3) := by decide +kernel
theorem dX6_expired_62 : decode cX6_expired 62 = .ok (.iload 4, 2) := by decide +kernel
theorem dX6_expired_64 : decode cX6_expired 64 = .ok (.ireturn, 1) := by decide +kernel
theorem dX6_expired_65 : decode cX6_expired 65 = .ok (.iinc 3 1, 3) := by decide +kernel
theorem dX6_expired_68 : decode cX6_expired 68 = .ok (.iinc 4 1, 3) := by decide +kernel
theorem dX6_expired_71 : decode cX6_expired 71 = .ok (.goto (-52), 3) := by decide +kernel
theorem dX6_expired_74 : decode cX6_expired 74 = .ok (.iload_n 2, 1) := by decide +kernel
theorem dX6_expired_75 : decode cX6_expired 75 = .ok (.iconst (-1), 1) := by decide +kernel
theorem dX6_expired_76 : decode cX6_expired 76 = .ok (.if_icmp .ne 7, 3) := by decide +kernel
theorem dX6_expired_79 : decode cX6_expired 79 = .ok (.iload_n 3, 1) := by decide +kernel
theorem dX6_expired_80 : decode cX6_expired 80 = .ok (.goto 5, 3) := by decide +kernel
theorem dX6_expired_83 : decode cX6_expired 83 = .ok (.bipush (-2), 2) := by decide +kernel
theorem dX6_expired_85 : decode cX6_expired 85 = .ok (.ireturn, 1) := by decide +kernel
theorem dX6_busiest_0 : decode cX6_busiest 0 = .ok (.iload_n 1, 1) := by decide +kernel
theorem dX6_busiest_1 : decode cX6_busiest 1 = .ok (.iconst 1, 1) := by decide +kernel
theorem dX6_busiest_2 : decode cX6_busiest 2 = .ok (.sipush 9999, 3) := by decide +kernel
theorem dX6_busiest_5 : decode cX6_busiest 5 = .ok (.invokestatic 62, 3) := by decide +kernel
theorem dX6_busiest_8 : decode cX6_busiest 8 = .ok (.ifCond .eq 12, 3) := by decide +kernel
theorem dX6_busiest_11 : decode cX6_busiest 11 = .ok (.iload_n 2, 1) := by decide +kernel
theorem dX6_busiest_12 : decode cX6_busiest 12 = .ok (.iconst 0, 1) := by decide +kernel
theorem dX6_busiest_13 : decode cX6_busiest 13 = .ok (.iconst 1, 1) := by decide +kernel
theorem dX6_busiest_14 : decode cX6_busiest 14 = .ok (.invokestatic 62, 3) := by decide +kernel
theorem dX6_busiest_17 : decode cX6_busiest 17 = .ok (.ifCond .ne 5, 3) := by decide +kernel
theorem dX6_busiest_20 : decode cX6_busiest 20 = .ok (.iconst (-1), 1) := by decide +kernel
theorem dX6_busiest_21 : decode cX6_busiest 21 = .ok (.ireturn, 1) := by decide +kernel
theorem dX6_busiest_22 : decode cX6_busiest 22 = .ok (.iconst 0, 1) := by decide +kernel
theorem dX6_busiest_23 : decode cX6_busiest 23 = .ok (.istore_n 3, 1) := by decide +kernel
theorem dX6_busiest_24 : decode cX6_busiest 24 = .ok (.bipush (-2), 2) := by decide +kernel
theorem dX6_busiest_26 : decode cX6_busiest 26 = .ok (.istore 4, 2) := by decide +kernel
theorem dX6_busiest_28 : decode cX6_busiest 28 = .ok (.iconst 0, 1) := by decide +kernel
theorem dX6_busiest_29 : decode cX6_busiest 29 = .ok (.istore 5, 2) := by decide +kernel
theorem dX6_busiest_31 : decode cX6_busiest 31 = .ok (.iload 5, 2) := by decide +kernel
theorem dX6_busiest_33 : decode cX6_busiest 33 = .ok (.aload_n 0, 1) := by decide +kernel
theorem dX6_busiest_34 : decode cX6_busiest 34 = .ok (.getfield 10, 3) := by decide +kernel
theorem dX6_busiest_37 : decode cX6_busiest 37 = .ok (.getfield 83, 3) := by decide +kernel
theorem dX6_busiest_40 : decode cX6_busiest 40 = .ok (.if_icmp .ge 64, 3) := by decide +kernel
theorem dX6_busiest_43 : decode cX6_busiest 43 = .ok (.aload_n 0, 1) := by decide +kernel
theorem dX6_busiest_44 : decode cX6_busiest 44 = .ok (.getfield 10, 3) := by decide +kernel
theorem dX6_busiest_47 : decode cX6_busiest 47 = .ok (.getfield 190, 3) := by decide +kernel
theorem dX6_busiest_50 : decode cX6_busiest 50 = .ok (.iload 5, 2) := by decide +kernel
theorem dX6_busiest_52 : decode cX6_busiest 52 = .ok (.iaload, 1) := by decide +kernel
theorem dX6_busiest_53 : decode cX6_busiest 53 = .ok (.istore 6, 2) := by decide +kernel
theorem dX6_busiest_55 : decode cX6_busiest 55 = .ok (.aload_n 0, 1) := by decide +kernel
theorem dX6_busiest_56 : decode cX6_busiest 56 = .ok (.getfield 10, 3) := by decide +kernel
theorem dX6_busiest_59 : decode cX6_busiest 59 = .ok (.iload 6, 2) := by decide +kernel
theorem dX6_busiest_61 : decode cX6_busiest 61 = .ok (.iload 6, 2) := by decide +kernel
theorem dX6_busiest_63 : decode cX6_busiest 63 = .ok (.iload_n 1, 1) := by decide +kernel
theorem dX6_busiest_64 : decode cX6_busiest 64 = .ok (.iadd, 1) := by decide +kernel
theorem dX6_busiest_65 : decode cX6_busiest 65 = .ok (.iconst 1, 1) := by decide +kernel
theorem dX6_busiest_66 : decode cX6_busiest 66 = .ok (.isub, 1) := by decide +kernel
theorem dX6_busiest_67 : decode cX6_busiest 67 = .ok (.invokevirtual 266, 3) := by decide +kernel
theorem dX6_busiest_70 : decode cX6_busiest 70 = .ok (.istore 7, 2) := by decide +kernel
theorem dX6_busiest_72 : decode cX6_busiest 72 = .ok (.aload_n 0, 1) := by decide +kernel
theorem dX6_busiest_73 : decode cX6_busiest 73 = .ok (.getfield 10, 3) := by decide +kernel
theorem dX6_busiest_76 : decode cX6_busiest 76 = .ok (.getfield 129, 3) := by decide +kernel
theorem dX6_busiest_79 : decode cX6_busiest 79 = .ok (.iload 5, 2) := by decide +kernel
theorem dX6_busiest_81 : decode cX6_busiest 81 = .ok (.baload, 1) := by decide +kernel
theorem dX6_busiest_82 : decode cX6_busiest 82 = .ok (.ifCond .ne 16, 3) := by decide +kernel
theorem dX6_busiest_85 : decode cX6_busiest 85 = .ok (.iload 7, 2) := by decide +kernel
theorem dX6_busiest_87 : decode cX6_busiest 87 = .ok (.iload_n 3, 1) := by decide +kernel
theorem dX6_busiest_88 : decode cX6_busiest 88 = .ok (.if_icmp .le 10, 3) := by decide +kernel
theorem dX6_busiest_91 : decode cX6_busiest 91 = .ok (.iload 7, 2) := by decide +kernel
theorem dX6_busiest_93 : decode cX6_busiest 93 = .ok (.istore_n 3, 1) := by decide +kernel
theorem dX6_busiest_94 : decode cX6_busiest 94 = .ok (.iload 6, 2) := by decide +kernel
theorem dX6_busiest_96 : decode cX6_busiest 96 = .ok (.istore 4, 2) := by decide +kernel
theorem dX6_busiest_98 : decode cX6_busiest 98 = .ok (.iinc 5 1, 3) := by decide +kernel
theorem dX6_busiest_101 : decode cX6_busiest 101 = .ok (.goto (-70), 3) := by decide +kernel
theorem dX6_busiest_104 : decode cX6_busiest 104 = .ok (.iload_n 2, 1) := by decide +kernel
theorem dX6_busiest_105 : decode cX6_busiest 105 = .ok (.ifCond .ne 7, 3) := by decide +kernel
theorem dX6_busiest_108 : decode cX6_busiest 108 = .ok (.iload_n 3, 1) := by decide +kernel
theorem dX6_busiest_109 : decode cX6_busiest 109 = .ok (.goto 5, 3) := by decide +kernel
theorem dX6_busiest_112 : decode cX6_busiest 112 = .ok (.iload 4, 2) := by decide +kernel
theorem dX6_busiest_114 : decode cX6_busiest 114 = .ok (.ireturn, 1) := by decide +kernel
theorem dX6_weightFor_0 : decode cX6_weightFor 0 = .ok (.aload_n 0, 1) := by decide +kernel
theorem dX6_weightFor_1 : decode cX6_weightFor 1 = .ok (.getfield 10, 3) := by decide +kernel
theorem dX6_weightFor_4 : decode cX6_weightFor 4 = .ok (.iload_n 1, 1) := by decide +kernel
theorem dX6_weightFor_5 : decode cX6_weightFor 5 = .ok (.invokevirtual 187, 3) := by decide +kernel
theorem dX6_weightFor_8 : decode cX6_weightFor 8 = .ok (.ifCond .ne 5, 3) := by decide +kernel
theorem dX6_weightFor_11 : decode cX6_weightFor 11 = .ok (.iconst (-1), 1) := by decide +kernel
theorem dX6_weightFor_12 : decode cX6_weightFor 12 = .ok (.ireturn, 1) := by decide +kernel
theorem dX6_weightFor_13 : decode cX6_weightFor 13 = .ok (.aload_n 0, 1) := by decide +kernel
theorem dX6_weightFor_14 : decode cX6_weightFor 14 = .ok (.getfield 10, 3) := by decide +kernel
theorem dX6_weightFor_17 : decode cX6_weightFor 17 = .ok (.iload_n 1, 1) := by decide +kernel
theorem dX6_weightFor_18 : decode cX6_weightFor 18 = .ok (.invokevirtual 169, 3) := by decide +kernel
theorem dX6_weightFor_21 : decode cX6_weightFor 21 = .ok (.ifCond .ne 6, 3) := by decide +kernel
theorem dX6_weightFor_24 : decode cX6_weightFor 24 = .ok (.bipush (-2), 2) := by decide +kernel
theorem dX6_weightFor_26 : decode cX6_weightFor 26 = .ok (.ireturn, 1) := by decide +kernel
theorem dX6_weightFor_27 : decode cX6_weightFor 27 = .ok (.aload_n 0, 1) := by decide +kernel
theorem dX6_weightFor_28 : decode cX6_weightFor 28 = .ok (.iload_n 1, 1) := by decide +kernel
theorem dX6_weightFor_29 : decode cX6_weightFor 29 = .ok (.invokevirtual 263, 3) := by decide +kernel
theorem dX6_weightFor_32 : decode cX6_weightFor 32 = .ok (.iconst 1, 1) := by decide +kernel
theorem dX6_weightFor_33 : decode cX6_weightFor 33 = .ok (.istore_n 2, 1) := by decide +kernel
theorem dX6_weightFor_34 : decode cX6_weightFor 34 = .ok (.iload_n 2, 1) := by decide +kernel
theorem dX6_weightFor_35 : decode cX6_weightFor 35 = .ok (.bipush 20, 2) := by decide +kernel
theorem dX6_weightFor_37 : decode cX6_weightFor 37 = .ok (.if_icmp .gt 47, 3) := by decide +kernel
theorem dX6_weightFor_40 : decode cX6_weightFor 40 = .ok (.aload_n 0, 1) := by decide +kernel
theorem dX6_weightFor_41 : decode cX6_weightFor 41 = .ok (.getfield 37, 3) := by decide +kernel
theorem dX6_weightFor_44 : decode cX6_weightFor 44 = .ok (.getfield 154, 3) := by decide +kernel
theorem dX6_weightFor_47 : decode cX6_weightFor 47 = .ok (.aload_n 0, 1) := by decide +kernel
theorem dX6_weightFor_48 : decode cX6_weightFor 48 = .ok (.getfield 37, 3) := by decide +kernel
theorem dX6_weightFor_51 : decode cX6_weightFor 51 = .ok (.getfield 211, 3) := by decide +kernel
theorem dX6_weightFor_54 : decode cX6_weightFor 54 = .ok (.if_icmp .lt 22, 3) := by decide +kernel
theorem dX6_weightFor_57 : decode cX6_weightFor 57 = .ok (.aload_n 0, 1) := by decide +kernel
theorem dX6_weightFor_58 : decode cX6_weightFor 58 = .ok (.getfield 10, 3) := by decide +kernel
theorem dX6_weightFor_61 : decode cX6_weightFor 61 = .ok (.iload_n 1, 1) := by decide +kernel
theorem dX6_weightFor_62 : decode cX6_weightFor 62 = .ok (.iload_n 2, 1) := by decide +kernel
theorem dX6_weightFor_63 : decode cX6_weightFor 63 = .ok (.aload_n 0, 1) := by decide +kernel
theorem dX6_weightFor_64 : decode cX6_weightFor 64 = .ok (.getfield 37, 3) := by decide +kernel
theorem dX6_weightFor_67 : decode cX6_weightFor 67 = .ok (.invokevirtual 239, 3) := by decide +kernel
theorem dX6_weightFor_70 : decode cX6_weightFor 70 = .ok (.invokevirtual 269, 3) := by decide +kernel
theorem dX6_weightFor_73 : decode cX6_weightFor 73 = .ok (.ifCond .eq 5, 3) := by decide +kernel
theorem dX6_weightFor_76 : decode cX6_weightFor 76 = .ok (.iload_n 2, 1) := by decide +kernel
theorem dX6_weightFor_77 : decode cX6_weightFor 77 = .ok (.ireturn, 1) := by decide +kernel
theorem dX6_weightFor_78 : decode cX6_weightFor 78 = .ok (.iinc 2 1, 3) := by decide +kernel
theorem dX6_weightFor_81 : decode cX6_weightFor 81 = .ok (.goto (-47), 3) := by decide +kernel
theorem dX6_weightFor_84 : decode cX6_weightFor 84 = .ok (.bipush (-2), 2) := by decide +kernel
theorem dX6_weightFor_86 : decode cX6_weightFor 86 = .ok (.ireturn, 1) := by decide +kernel
theorem dX6_sizeFor_0 : decode cX6_sizeFor 0 = .ok (.aload_n 0, 1) := by decide +kernel
theorem dX6_sizeFor_1 : decode cX6_sizeFor 1 = .ok (.getfield 10, 3) := by decide +kernel
theorem dX6_sizeFor_4 : decode cX6_sizeFor 4 = .ok (.iload_n 1, 1) := by decide +kernel
theorem dX6_sizeFor_5 : decode cX6_sizeFor 5 = .ok (.invokevirtual 187, 3) := by decide +kernel
theorem dX6_sizeFor_8 : decode cX6_sizeFor 8 = .ok (.ifCond .ne 5, 3) := by decide +kernel
theorem dX6_sizeFor_11 : decode cX6_sizeFor 11 = .ok (.iconst (-1), 1) := by decide +kernel
theorem dX6_sizeFor_12 : decode cX6_sizeFor 12 = .ok (.ireturn, 1) := by decide +kernel
theorem dX6_sizeFor_13 : decode cX6_sizeFor 13 = .ok (.aload_n 0, 1) := by decide +kernel
theorem dX6_sizeFor_14 : decode cX6_sizeFor 14 = .ok (.iload_n 1, 1) := by decide +kernel
theorem dX6_sizeFor_15 : decode cX6_sizeFor 15 = .ok (.invokevirtual 199, 3) := by decide +kernel
theorem dX6_sizeFor_18 : decode cX6_sizeFor 18 = .ok (.istore_n 2, 1) := by decide +kernel
theorem dX6_sizeFor_19 : decode cX6_sizeFor 19 = .ok (.iload_n 2, 1) := by decide +kernel
theorem dX6_sizeFor_20 : decode cX6_sizeFor 20 = .ok (.bipush (-2), 2) := by decide +kernel
theorem dX6_sizeFor_22 : decode cX6_sizeFor 22 = .ok (.if_icmp .eq 9, 3) := by decide +kernel
theorem dX6_sizeFor_25 : decode cX6_sizeFor 25 = .ok (.iload_n 2, 1) := by decide +kernel
theorem dX6_sizeFor_26 : decode cX6_sizeFor 26 = .ok (.bipush 12, 2) := by decide +kernel
theorem dX6_sizeFor_28 : decode cX6_sizeFor 28 = .ok (.if_icmp .lt 8, 3) := by decide +kernel
theorem dX6_sizeFor_31 : decode cX6_sizeFor 31 = .ok (.bipush (-2), 2) := by decide +kernel
theorem dX6_sizeFor_33 : decode cX6_sizeFor 33 = .ok (.goto 6, 3) := by decide +kernel
theorem dX6_sizeFor_36 : decode cX6_sizeFor 36 = .ok (.iload_n 2, 1) := by decide +kernel
theorem dX6_sizeFor_37 : decode cX6_sizeFor 37 = .ok (.iconst 1, 1) := by decide +kernel
theorem dX6_sizeFor_38 : decode cX6_sizeFor 38 = .ok (.iadd, 1) := by decide +kernel
theorem dX6_sizeFor_39 : decode cX6_sizeFor 39 = .ok (.ireturn, 1) := by decide +kernel
theorem dX6_windowFor_0 : decode cX6_windowFor 0 = .ok (.aload_n 0, 1) := by decide +kernel
theorem dX6_windowFor_1 : decode cX6_windowFor 1 = .ok (.getfield 10, 3) := by decide +kernel
theorem dX6_windowFor_4 : decode cX6_windowFor 4 = .ok (.iload_n 1, 1) := by decide +kernel
theorem dX6_windowFor_5 : decode cX6_windowFor 5 = .ok (.invokevirtual 187, 3) := by decide +kernel
theorem dX6_windowFor_8 : decode cX6_windowFor 8 = .ok (.ifCond .ne 5, 3) := by decide +kernel
theorem dX6_windowFor_11 : decode cX6_windowFor 11 = .ok (.iconst (-1), 1) := by decide +kernel
theorem dX6_windowFor_12 : decode cX6_windowFor 12 = .ok (.ireturn, 1) := by decide +kernel
theorem dX6_windowFor_13 : decode cX6_windowFor 13 = .ok (.aload_n 0, 1) := by decide +kernel
theorem dX6_windowFor_14 : decode cX6_windowFor 14 = .ok (.getfield 10, 3) := by decide +kernel
theorem dX6_windowFor_17 : decode cX6_windowFor 17 = .ok (.getfield 129, 3) := by decide +kernel
theorem dX6_windowFor_20 : decode cX6_windowFor 20 = .ok (.iload_n 1, 1) := by decide +kernel
theorem dX6_windowFor_21 : decode cX6_windowFor 21 = .ok (.baload, 1) := by decide +kernel
theorem dX6_windowFor_22 : decode cX6_windowFor 22 = .ok (.ifCond .eq 6, 3) := by decide +kernel
theorem dX6_windowFor_25 : decode cX6_windowFor 25 = .ok (.bipush (-2), 2) := by decide +kernel
theorem dX6_windowFor_27 : decode cX6_windowFor 27 = .ok (.ireturn, 1) := by decide +kernel
theorem dX6_windowFor_28 : decode cX6_windowFor 28 = .ok (.aload_n 0, 1) := by decide +kernel
theorem dX6_windowFor_29 : decode cX6_windowFor 29 = .ok (.iload_n 1, 1) := by decide +kernel
theorem dX6_windowFor_30 : decode cX6_windowFor 30 = .ok (.invokevirtual 272, 3) := by decide +kernel
theorem dX6_windowFor_33 : decode cX6_windowFor 33 = .ok (.istore_n 2, 1) := by decide +kernel
theorem dX6_windowFor_34 : decode cX6_windowFor 34 = .ok (.iload_n 2, 1) := by decide +kernel
theorem dX6_windowFor_35 : decode cX6_windowFor 35 = .ok (.iconst (-1), 1) := by decide +kernel
theorem dX6_windowFor_36 : decode cX6_windowFor 36 = .ok (.if_icmp .ne 9, 3) := by decide +kernel
theorem dX6_windowFor_39 : decode cX6_windowFor 39 = .ok (.sipush 9999, 3) := by decide +kernel
theorem dX6_windowFor_42 : decode cX6_windowFor 42 = .ok (.goto 18, 3) := by decide +kernel
theorem dX6_windowFor_45 : decode cX6_windowFor 45 = .ok (.aload_n 0, 1) := by decide +kernel
theorem dX6_windowFor_46 : decode cX6_windowFor 46 = .ok (.getfield 10, 3) := by decide +kernel
theorem dX6_windowFor_49 : decode cX6_windowFor 49 = .ok (.getfield 109, 3) := by decide +kernel
theorem dX6_windowFor_52 : decode cX6_windowFor 52 = .ok (.iload_n 2, 1) := by decide +kernel
theorem dX6_windowFor_53 : decode cX6_windowFor 53 = .ok (.isub, 1) := by decide +kernel
theorem dX6_windowFor_54 : decode cX6_windowFor 54 = .ok (.sipush 9999, 3) := by decide +kernel
theorem dX6_windowFor_57 : decode cX6_windowFor 57 = .ok (.invokestatic 161, 3) := by decide +kernel
theorem dX6_windowFor_60 : decode cX6_windowFor 60 = .ok (.istore_n 3, 1) := by decide +kernel
theorem dX6_windowFor_61 : decode cX6_windowFor 61 = .ok (.aload_n 0, 1) := by decide +kernel
theorem dX6_windowFor_62 : decode cX6_windowFor 62 = .ok (.getfield 10, 3) := by decide +kernel
theorem dX6_windowFor_65 : decode cX6_windowFor 65 = .ok (.getfield 190, 3) := by decide +kernel
theorem dX6_windowFor_68 : decode cX6_windowFor 68 = .ok (.iload_n 1, 1) := by decide +kernel
theorem dX6_windowFor_69 : decode cX6_windowFor 69 = .ok (.iaload, 1) := by decide +kernel
theorem dX6_windowFor_70 : decode cX6_windowFor 70 = .ok (.aload_n 0, 1) := by decide +kernel
theorem dX6_windowFor_71 : decode cX6_windowFor 71 = .ok (.getfield 10, 3) := by decide +kernel
theorem dX6_windowFor_74 : decode cX6_windowFor 74 = .ok (.getfield 109, 3) := by decide +kernel
theorem dX6_windowFor_77 : decode cX6_windowFor 77 = .ok (.iload_n 3, 1) := by decide +kernel
theorem dX6_windowFor_78 : decode cX6_windowFor 78 = .ok (.isub, 1) := by decide +kernel
theorem dX6_windowFor_79 : decode cX6_windowFor 79 = .ok (.if_icmp .le 7, 3) := by decide +kernel
theorem dX6_windowFor_82 : decode cX6_windowFor 82 = .ok (.iload_n 3, 1) := by decide +kernel
theorem dX6_windowFor_83 : decode cX6_windowFor 83 = .ok (.goto 5, 3) := by decide +kernel
theorem dX6_windowFor_86 : decode cX6_windowFor 86 = .ok (.bipush (-2), 2) := by decide +kernel
theorem dX6_windowFor_88 : decode cX6_windowFor 88 = .ok (.ireturn, 1) := by decide +kernel
theorem dX6_later_0 : decode cX6_later 0 = .ok (.iload_n 1, 1) := by decide +kernel
theorem dX6_later_1 : decode cX6_later 1 = .ok (.invokestatic 86, 3) := by decide +kernel
theorem dX6_later_4 : decode cX6_later 4 = .ok (.ifCond .eq 19, 3) := by decide +kernel
theorem dX6_later_7 : decode cX6_later 7 = .ok (.iload_n 2, 1) := by decide +kernel
theorem dX6_later_8 : decode cX6_later 8 = .ok (.iconst 0, 1) := by decide +kernel
theorem dX6_later_9 : decode cX6_later 9 = .ok (.sipush 9999, 3) := by decide +kernel
theorem dX6_later_12 : decode cX6_later 12 = .ok (.invokestatic 62, 3) := by decide +kernel
theorem dX6_later_15 : decode cX6_later 15 = .ok (.ifCond .eq 8, 3) := by decide +kernel
theorem dX6_later_18 : decode cX6_later 18 = .ok (.iload_n 3, 1) := by decide +kernel
theorem dX6_later_19 : decode cX6_later 19 = .ok (.iconst (-1), 1) := by decide +kernel
theorem dX6_later_20 : decode cX6_later 20 = .ok (.if_icmp .ge 5, 3) := by decide +kernel
theorem dX6_later_23 : decode cX6_later 23 = .ok (.iconst (-1), 1) := by decide +kernel
theorem dX6_later_24 : decode cX6_later 24 = .ok (.ireturn, 1) := by decide +kernel
theorem dX6_later_25 : decode cX6_later 25 = .ok (.aload_n 0, 1) := by decide +kernel
theorem dX6_later_26 : decode cX6_later 26 = .ok (.getfield 37, 3) := by decide +kernel
theorem dX6_later_29 : decode cX6_later 29 = .ok (.aload_n 0, 1) := by decide +kernel
theorem dX6_later_30 : decode cX6_later 30 = .ok (.getfield 10, 3) := by decide +kernel
theorem dX6_later_33 : decode cX6_later 33 = .ok (.iload_n 1, 1) := by decide +kernel
theorem dX6_later_34 : decode cX6_later 34 = .ok (.invokevirtual 208, 3) := by decide +kernel
theorem dX6_later_37 : decode cX6_later 37 = .ok (.aload_n 0, 1) := by decide +kernel
theorem dX6_later_38 : decode cX6_later 38 = .ok (.getfield 37, 3) := by decide +kernel
theorem dX6_later_41 : decode cX6_later 41 = .ok (.aload_n 0, 1) := by decide +kernel
theorem dX6_later_42 : decode cX6_later 42 = .ok (.getfield 10, 3) := by decide +kernel
theorem dX6_later_45 : decode cX6_later 45 = .ok (.getfield 109, 3) := by decide +kernel
theorem dX6_later_48 : decode cX6_later 48 = .ok (.iload_n 2, 1) := by decide +kernel
theorem dX6_later_49 : decode cX6_later 49 = .ok (.iadd, 1) := by decide +kernel
theorem dX6_later_50 : decode cX6_later 50 = .ok (.putfield 275, 3) := by decide +kernel
theorem dX6_later_53 : decode cX6_later 53 = .ok (.aload_n 0, 1) := by decide +kernel
theorem dX6_later_54 : decode cX6_later 54 = .ok (.getfield 37, 3) := by decide +kernel
theorem dX6_later_57 : decode cX6_later 57 = .ok (.aload_n 0, 1) := by decide +kernel
theorem dX6_later_58 : decode cX6_later 58 = .ok (.getfield 10, 3) := by decide +kernel
theorem dX6_later_61 : decode cX6_later 61 = .ok (.invokevirtual 214, 3) := by decide +kernel
theorem dX6_later_64 : decode cX6_later 64 = .ok (.aload_n 0, 1) := by decide +kernel
theorem dX6_later_65 : decode cX6_later 65 = .ok (.getfield 37, 3) := by decide +kernel
theorem dX6_later_68 : decode cX6_later 68 = .ok (.iload_n 3, 1) := by decide +kernel
theorem dX6_later_69 : decode cX6_later 69 = .ok (.invokevirtual 217, 3) := by decide +kernel
theorem dX6_later_72 : decode cX6_later 72 = .ok (.ireturn, 1) := by decide +kernel
theorem dX6_enters_0 : decode cX6_enters 0 = .ok (.aload_n 0, 1) := by decide +kernel
theorem dX6_enters_1 : decode cX6_enters 1 = .ok (.getfield 10, 3) := by decide +kernel
theorem dX6_enters_4 : decode cX6_enters 4 = .ok (.iload_n 1, 1) := by decide +kernel
theorem dX6_enters_5 : decode cX6_enters 5 = .ok (.invokevirtual 187, 3) := by decide +kernel
theorem dX6_enters_8 : decode cX6_enters 8 = .ok (.ifCond .ne 5, 3) := by decide +kernel
theorem dX6_enters_11 : decode cX6_enters 11 = .ok (.iconst (-1), 1) := by decide +kernel
theorem dX6_enters_12 : decode cX6_enters 12 = .ok (.ireturn, 1) := by decide +kernel
theorem dX6_enters_13 : decode cX6_enters 13 = .ok (.aload_n 0, 1) := by decide +kernel
theorem dX6_enters_14 : decode cX6_enters 14 = .ok (.getfield 10, 3) := by decide +kernel
theorem dX6_enters_17 : decode cX6_enters 17 = .ok (.iload_n 1, 1) := by decide +kernel
theorem dX6_enters_18 : decode cX6_enters 18 = .ok (.invokevirtual 169, 3) := by decide +kernel
theorem dX6_enters_21 : decode cX6_enters 21 = .ok (.ifCond .ne 6, 3) := by decide +kernel
theorem dX6_enters_24 : decode cX6_enters 24 = .ok (.bipush (-2), 2) := by decide +kernel
theorem dX6_enters_26 : decode cX6_enters 26 = .ok (.ireturn, 1) := by decide +kernel
theorem dX6_enters_27 : decode cX6_enters 27 = .ok (.aload_n 0, 1) := by decide +kernel
theorem dX6_enters_28 : decode cX6_enters 28 = .ok (.iload_n 1, 1) := by decide +kernel
theorem dX6_enters_29 : decode cX6_enters 29 = .ok (.invokevirtual 272, 3) := by decide +kernel
theorem dX6_enters_32 : decode cX6_enters 32 = .ok (.istore_n 2, 1) := by decide +kernel
theorem dX6_enters_33 : decode cX6_enters 33 = .ok (.aload_n 0, 1) := by decide +kernel
theorem dX6_enters_34 : decode cX6_enters 34 = .ok (.getfield 10, 3) := by decide +kernel
theorem dX6_enters_37 : decode cX6_enters 37 = .ok (.getfield 117, 3) := by decide +kernel
theorem dX6_enters_40 : decode cX6_enters 40 = .ok (.aload_n 0, 1) := by decide +kernel
theorem dX6_enters_41 : decode cX6_enters 41 = .ok (.getfield 10, 3) := by decide +kernel
theorem dX6_enters_44 : decode cX6_enters 44 = .ok (.getfield 133, 3) := by decide +kernel
theorem dX6_enters_47 : decode cX6_enters 47 = .ok (.iload_n 1, 1) := by decide +kernel
theorem dX6_enters_48 : decode cX6_enters 48 = .ok (.iaload, 1) := by decide +kernel
theorem dX6_enters_49 : decode cX6_enters 49 = .ok (.iaload, 1) := by decide +kernel
theorem dX6_enters_50 : decode cX6_enters 50 = .ok (.istore_n 3, 1) := by decide +kernel
theorem dX6_enters_51 : decode cX6_enters 51 = .ok (.iload_n 2, 1) := by decide +kernel
theorem dX6_enters_52 : decode cX6_enters 52 = .ok (.iconst (-1), 1) := by decide +kernel
theorem dX6_enters_53 : decode cX6_enters 53 = .ok (.if_icmp .eq 20, 3) := by decide +kernel
theorem dX6_enters_56 : decode cX6_enters 56 = .ok (.iload_n 3, 1) := by decide +kernel
theorem dX6_enters_57 : decode cX6_enters 57 = .ok (.ifCond .le 18, 3) := by decide +kernel
theorem dX6_enters_60 : decode cX6_enters 60 = .ok (.iload_n 2, 1) := by decide +kernel
theorem dX6_enters_61 : decode cX6_enters 61 = .ok (.aload_n 0, 1) := by decide +kernel
theorem dX6_enters_62 : decode cX6_enters 62 = .ok (.getfield 10, 3) := by decide +kernel
theorem dX6_enters_65 : decode cX6_enters 65 = .ok (.getfield 109, 3) := by decide +kernel
theorem dX6_enters_68 : decode cX6_enters 68 = .ok (.iload_n 3, 1) := by decide +kernel
theorem dX6_enters_69 : decode cX6_enters 69 = .ok (.isub, 1) := by decide +kernel
theorem dX6_enters_70 : decode cX6_enters 70 = .ok (.if_icmp .gt 5, 3) := by decide +kernel
theorem dX6_enters_73 : decode cX6_enters 73 = .ok (.iconst 0, 1) := by decide +kernel
theorem dX6_enters_74 : decode cX6_enters 74 = .ok (.ireturn, 1) := by decide +kernel
theorem dX6_enters_75 : decode cX6_enters 75 = .ok (.iload_n 3, 1) := by decide +kernel
theorem dX6_enters_76 : decode cX6_enters 76 = .ok (.ifCond .le 30, 3) := by decide +kernel
theorem dX6_enters_79 : decode cX6_enters 79 = .ok (.aload_n 0, 1) := by decide +kernel
theorem dX6_enters_80 : decode cX6_enters 80 = .ok (.getfield 10, 3) := by decide +kernel
theorem dX6_enters_83 : decode cX6_enters 83 = .ok (.getfield 190, 3) := by decide +kernel
theorem dX6_enters_86 : decode cX6_enters 86 = .ok (.iload_n 1, 1) := by decide +kernel
theorem dX6_enters_87 : decode cX6_enters 87 = .ok (.iaload, 1) := by decide +kernel
theorem dX6_enters_88 : decode cX6_enters 88 = .ok (.iload_n 2, 1) := by decide +kernel
theorem dX6_enters_89 : decode cX6_enters 89 = .ok (.if_icmp .le 17, 3) := by decide +kernel
theorem dX6_enters_92 : decode cX6_enters 92 = .ok (.iload_n 2, 1) := by decide +kernel
theorem dX6_enters_93 : decode cX6_enters 93 = .ok (.iload_n 3, 1) := by decide +kernel
theorem dX6_enters_94 : decode cX6_enters 94 = .ok (.iadd, 1) := by decide +kernel
theorem dX6_enters_95 : decode cX6_enters 95 = .ok (.aload_n 0, 1) := by decide +kernel
theorem dX6_enters_96 : decode cX6_enters 96 = .ok (.getfield 10, 3) := by decide +kernel
theorem dX6_enters_99 : decode cX6_enters 99 = .ok (.getfield 109, 3) := by decide +kernel
theorem dX6_enters_102 : decode cX6_enters 102 = .ok (.isub, 1) := by decide +kernel
theorem dX6_enters_103 : decode cX6_enters 103 = .ok (.goto 5, 3) := by decide +kernel
theorem dX6_enters_106 : decode cX6_enters 106 = .ok (.bipush (-2), 2) := by decide +kernel
theorem dX6_enters_108 : decode cX6_enters 108 = .ok (.ireturn, 1) := by decide +kernel
theorem dX6_changes_0 : decode cX6_changes 0 = .ok (.iload_n 1, 1) := by decide +kernel
theorem dX6_changes_1 : decode cX6_changes 1 = .ok (.invokestatic 86, 3) := by decide +kernel
theorem dX6_changes_4 : decode cX6_changes 4 = .ok (.ifCond .ne 5, 3) := by decide +kernel
theorem dX6_changes_7 : decode cX6_changes 7 = .ok (.iconst (-1), 1) := by decide +kernel
theorem dX6_changes_8 : decode cX6_changes 8 = .ok (.ireturn, 1) := by decide +kernel
theorem dX6_changes_9 : decode cX6_changes 9 = .ok (.aload_n 0, 1) := by decide +kernel
theorem dX6_changes_10 : decode cX6_changes 10 = .ok (.getfield 10, 3) := by decide +kernel
theorem dX6_changes_13 : decode cX6_changes 13 = .ok (.getfield 117, 3) := by decide +kernel
theorem dX6_changes_16 : decode cX6_changes 16 = .ok (.iload_n 1, 1) := by decide +kernel
theorem dX6_changes_17 : decode cX6_changes 17 = .ok (.iaload, 1) := by decide +kernel
theorem dX6_changes_18 : decode cX6_changes 18 = .ok (.istore_n 2, 1) := by decide +kernel
theorem dX6_changes_19 : decode cX6_changes 19 = .ok (.aload_n 0, 1) := by decide +kernel
theorem dX6_changes_20 : decode cX6_changes 20 = .ok (.getfield 37, 3) := by decide +kernel
theorem dX6_changes_23 : decode cX6_changes 23 = .ok (.aload_n 0, 1) := by decide +kernel
theorem dX6_changes_24 : decode cX6_changes 24 = .ok (.getfield 10, 3) := by decide +kernel
theorem dX6_changes_27 : decode cX6_changes 27 = .ok (.iload_n 1, 1) := by decide +kernel
theorem dX6_changes_28 : decode cX6_changes 28 = .ok (.invokevirtual 150, 3) := by decide +kernel
theorem dX6_changes_31 : decode cX6_changes 31 = .ok (.iload_n 2, 1) := by decide +kernel
theorem dX6_changes_32 : decode cX6_changes 32 = .ok (.ifCond .eq 13, 3) := by decide +kernel
theorem dX6_changes_35 : decode cX6_changes 35 = .ok (.aload_n 0, 1) := by decide +kernel
theorem dX6_changes_36 : decode cX6_changes 36 = .ok (.getfield 37, 3) := by decide +kernel
theorem dX6_changes_39 : decode cX6_changes 39 = .ok (.getfield 154, 3) := by decide +kernel
theorem dX6_changes_42 : decode cX6_changes 42 = .ok (.ifCond .ne 6, 3) := by decide +kernel
theorem dX6_changes_45 : decode cX6_changes 45 = .ok (.bipush (-2), 2) := by decide +kernel
theorem dX6_changes_47 : decode cX6_changes 47 = .ok (.ireturn, 1) := by decide +kernel
theorem dX6_changes_48 : decode cX6_changes 48 = .ok (.ldc 112, 2) := by decide +kernel
theorem dX6_changes_50 : decode cX6_changes 50 = .ok (.istore_n 3, 1) := by decide +kernel
theorem dX6_changes_51 : decode cX6_changes 51 = .ok (.iconst 0, 1) := by decide +kernel
theorem dX6_changes_52 : decode cX6_changes 52 = .ok (.istore 4, 2) := by decide +kernel
theorem dX6_changes_54 : decode cX6_changes 54 = .ok (.iload 4, 2) := by decide +kernel
theorem dX6_changes_56 : decode cX6_changes 56 = .ok (.aload_n 0, 1) := by decide +kernel
theorem dX6_changes_57 : decode cX6_changes 57 = .ok (.getfield 37, 3) := by decide +kernel
theorem dX6_changes_60 : decode cX6_changes 60 = .ok (.getfield 154, 3) := by decide +kernel
theorem dX6_changes_63 : decode cX6_changes 63 = .ok (.if_icmp .ge 32, 3) := by decide +kernel
theorem dX6_changes_66 : decode cX6_changes 66 = .ok (.iload_n 3, 1) := by decide +kernel
theorem dX6_changes_67 : decode cX6_changes 67 = .ok (.aload_n 0, 1) := by decide +kernel
theorem dX6_changes_68 : decode cX6_changes 68 = .ok (.getfield 10, 3) := by decide +kernel
theorem dX6_changes_71 : decode cX6_changes 71 = .ok (.getfield 190, 3) := by decide +kernel
theorem dX6_changes_74 : decode cX6_changes 74 = .ok (.aload_n 0, 1) := by decide +kernel
theorem dX6_changes_75 : decode cX6_changes 75 = .ok (.getfield 37, 3) := by decide +kernel
theorem dX6_changes_78 : decode cX6_changes 78 = .ok (.getfield 227, 3) := by decide +kernel
theorem dX6_changes_81 : decode cX6_changes 81 = .ok (.iload 4, 2) := by decide +kernel
theorem dX6_changes_83 : decode cX6_changes 83 = .ok (.iaload, 1) := by decide +kernel
theorem dX6_changes_84 : decode cX6_changes 84 = .ok (.iaload, 1) := by decide +kernel
theorem dX6_changes_85 : decode cX6_changes 85 = .ok (.invokestatic 161, 3) := by decide +kernel
theorem dX6_changes_88 : decode cX6_changes 88 = .ok (.istore_n 3, 1) := by decide +kernel
theorem dX6_changes_89 : decode cX6_changes 89 = .ok (.iinc 4 1, 3) := by decide +kernel
theorem dX6_changes_92 : decode cX6_changes 92 = .ok (.goto (-38), 3) := by decide +kernel
theorem dX6_changes_95 : decode cX6_changes 95 = .ok (.iload_n 3, 1) := by decide +kernel
theorem dX6_changes_96 : decode cX6_changes 96 = .ok (.iload_n 2, 1) := by decide +kernel
theorem dX6_changes_97 : decode cX6_changes 97 = .ok (.iadd, 1) := by decide +kernel
theorem dX6_changes_98 : decode cX6_changes 98 = .ok (.aload_n 0, 1) := by decide +kernel
theorem dX6_changes_99 : decode cX6_changes 99 = .ok (.getfield 10, 3) := by decide +kernel
theorem dX6_changes_102 : decode cX6_changes 102 = .ok (.getfield 109, 3) := by decide +kernel
theorem dX6_changes_105 : decode cX6_changes 105 = .ok (.isub, 1) := by decide +kernel
theorem dX6_changes_106 : decode cX6_changes 106 = .ok (.ireturn, 1) := by decide +kernel
theorem dX6_takeWithout_0 : decode cX6_takeWithout 0 = .ok (.aload_n 0, 1) := by decide +kernel
theorem dX6_takeWithout_1 : decode cX6_takeWithout 1 = .ok (.getfield 37, 3) := by decide +kernel
theorem dX6_takeWithout_4 : decode cX6_takeWithout 4 = .ok (.aload_n 0, 1) := by decide +kernel
theorem dX6_takeWithout_5 : decode cX6_takeWithout 5 = .ok (.getfield 10, 3) := by decide +kernel
theorem dX6_takeWithout_8 : decode cX6_takeWithout 8 = .ok (.aload_n 0, 1) := by decide +kernel
theorem dX6_takeWithout_9 : decode cX6_takeWithout 9 = .ok (.getfield 10, 3) := by decide +kernel
theorem dX6_takeWithout_12 : decode cX6_takeWithout 12 = .ok (.getfield 133, 3) := by decide +kernel
theorem dX6_takeWithout_15 : decode cX6_takeWithout 15 = .ok (.iload_n 1, 1) := by decide +kernel
theorem dX6_takeWithout_16 : decode cX6_takeWithout 16 = .ok (.iaload, 1) := by decide +kernel
theorem dX6_takeWithout_17 : decode cX6_takeWithout 17 = .ok (.invokevirtual 208, 3) := by decide +kernel
theorem dX6_takeWithout_20 : decode cX6_takeWithout 20 = .ok (.aload_n 0, 1) := by decide +kernel
theorem dX6_takeWithout_21 : decode cX6_takeWithout 21 = .ok (.getfield 37, 3) := by decide +kernel
theorem dX6_takeWithout_24 : decode cX6_takeWithout 24 = .ok (.iload_n 1, 1) := by decide +kernel
theorem dX6_takeWithout_25 : decode cX6_takeWithout 25 = .ok (.putfield 276, 3) := by decide +kernel
theorem dX6_takeWithout_28 : decode cX6_takeWithout 28 = .ok (.aload_n 0, 1) := by decide +kernel
theorem dX6_takeWithout_29 : decode cX6_takeWithout 29 = .ok (.getfield 37, 3) := by decide +kernel
theorem dX6_takeWithout_32 : decode cX6_takeWithout 32 = .ok (.aload_n 0, 1) := by decide +kernel
theorem dX6_takeWithout_33 : decode cX6_takeWithout 33 = .ok (.getfield 10, 3) := by decide +kernel
theorem dX6_takeWithout_36 : decode cX6_takeWithout 36 = .ok (.invokevirtual 214, 3) := by decide +kernel
theorem dX6_takeWithout_39 : decode cX6_takeWithout 39 = .ok (.return_, 1) := by decide +kernel
theorem dX6_rivalTime_0 : decode cX6_rivalTime 0 = .ok (.aload_n 0, 1) := by decide +kernel
theorem dX6_rivalTime_1 : decode cX6_rivalTime 1 = .ok (.getfield 10, 3) := by decide +kernel
theorem dX6_rivalTime_4 : decode cX6_rivalTime 4 = .ok (.getfield 133, 3) := by decide +kernel
theorem dX6_rivalTime_7 : decode cX6_rivalTime 7 = .ok (.iload_n 1, 1) := by decide +kernel
theorem dX6_rivalTime_8 : decode cX6_rivalTime 8 = .ok (.iaload, 1) := by decide +kernel
theorem dX6_rivalTime_9 : decode cX6_rivalTime 9 = .ok (.istore_n 2, 1) := by decide +kernel
theorem dX6_rivalTime_10 : decode cX6_rivalTime 10 = .ok (.iconst 0, 1) := by decide +kernel
theorem dX6_rivalTime_11 : decode cX6_rivalTime 11 = .ok (.istore_n 3, 1) := by decide +kernel
theorem dX6_rivalTime_12 : decode cX6_rivalTime 12 = .ok (.aload_n 0, 1) := by decide +kernel
theorem dX6_rivalTime_13 : decode cX6_rivalTime 13 = .ok (.getfield 10, 3) := by decide +kernel
theorem dX6_rivalTime_16 : decode cX6_rivalTime 16 = .ok (.getfield 83, 3) := by decide +kernel
theorem dX6_rivalTime_19 : decode cX6_rivalTime 19 = .ok (.iconst 1, 1) := by decide +kernel
theorem dX6_rivalTime_20 : decode cX6_rivalTime 20 = .ok (.isub, 1) := by decide +kernel
theorem dX6_rivalTime_21 : decode cX6_rivalTime 21 = .ok (.istore 4, 2) := by decide +kernel
theorem dX6_rivalTime_23 : decode cX6_rivalTime 23 = .ok (.iload 4, 2) := by decide +kernel
theorem dX6_rivalTime_25 : decode cX6_rivalTime 25 = .ok (.ifCond .lt 69, 3) := by decide +kernel
theorem dX6_rivalTime_28 : decode cX6_rivalTime 28 = .ok (.iload 4, 2) := by decide +kernel
theorem dX6_rivalTime_30 : decode cX6_rivalTime 30 = .ok (.iload_n 1, 1) := by decide +kernel
theorem dX6_rivalTime_31 : decode cX6_rivalTime 31 = .ok (.if_icmp .eq 57, 3) := by decide +kernel
theorem dX6_rivalTime_34 : decode cX6_rivalTime 34 = .ok (.aload_n 0, 1) := by decide +kernel
theorem dX6_rivalTime_35 : decode cX6_rivalTime 35 = .ok (.getfield 10, 3) := by decide +kernel
theorem dX6_rivalTime_38 : decode cX6_rivalTime 38 = .ok (.iload 4, 2) := by decide +kernel
theorem dX6_rivalTime_40 : decode cX6_rivalTime 40 = .ok (.iload_n 2, 1) := by decide +kernel
theorem dX6_rivalTime_41 : decode cX6_rivalTime 41 = .ok (.iconst (-1), 1) := by decide +kernel
theorem dX6_rivalTime_42 : decode cX6_rivalTime 42 = .ok (.invokevirtual 144, 3) := by decide +kernel
theorem dX6_rivalTime_45 : decode cX6_rivalTime 45 = .ok (.ifCond .eq 43, 3) := by decide +kernel
theorem dX6_rivalTime_48 : decode cX6_rivalTime 48 = .ok (.aload_n 0, 1) := by decide +kernel
theorem dX6_rivalTime_49 : decode cX6_rivalTime 49 = .ok (.getfield 10, 3) := by decide +kernel
theorem dX6_rivalTime_52 : decode cX6_rivalTime 52 = .ok (.iload 4, 2) := by decide +kernel
theorem dX6_rivalTime_54 : decode cX6_rivalTime 54 = .ok (.iload_n 1, 1) := by decide +kernel
theorem dX6_rivalTime_55 : decode cX6_rivalTime 55 = .ok (.invokevirtual 279, 3) := by decide +kernel
theorem dX6_rivalTime_58 : decode cX6_rivalTime 58 = .ok (.ifCond .eq 30, 3) := by decide +kernel
theorem dX6_rivalTime_61 : decode cX6_rivalTime 61 = .ok (.iinc 3 1, 3) := by decide +kernel
theorem dX6_rivalTime_64 : decode cX6_rivalTime 64 = .ok (.iload_n 3, 1) := by decide +kernel
theorem dX6_rivalTime_65 : decode cX6_rivalTime 65 = .ok (.aload_n 0, 1) := by decide +kernel
theorem dX6_rivalTime_66 : decode cX6_rivalTime 66 = .ok (.getfield 10, 3) := by decide +kernel
theorem dX6_rivalTime_69 : decode cX6_rivalTime 69 = .ok (.getfield 113, 3) := by decide +kernel
theorem dX6_rivalTime_72 : decode cX6_rivalTime 72 = .ok (.iload_n 2, 1) := by decide +kernel
theorem dX6_rivalTime_73 : decode cX6_rivalTime 73 = .ok (.iaload, 1) := by decide +kernel
theorem dX6_rivalTime_74 : decode cX6_rivalTime 74 = .ok (.if_icmp .ne 14, 3) := by decide +kernel
theorem dX6_rivalTime_77 : decode cX6_rivalTime 77 = .ok (.aload_n 0, 1) := by decide +kernel
theorem dX6_rivalTime_78 : decode cX6_rivalTime 78 = .ok (.getfield 10, 3) := by decide +kernel
theorem dX6_rivalTime_81 : decode cX6_rivalTime 81 = .ok (.getfield 190, 3) := by decide +kernel
theorem dX6_rivalTime_84 : decode cX6_rivalTime 84 = .ok (.iload 4, 2) := by decide +kernel
theorem dX6_rivalTime_86 : decode cX6_rivalTime 86 = .ok (.iaload, 1) := by decide +kernel
theorem dX6_rivalTime_87 : decode cX6_rivalTime 87 = .ok (.ireturn, 1) := by decide +kernel
theorem dX6_rivalTime_88 : decode cX6_rivalTime 88 = .ok (.iinc 4 (-1), 3) := by decide +kernel
theorem dX6_rivalTime_91 : decode cX6_rivalTime 91 = .ok (.goto (-68), 3) := by decide +kernel
theorem dX6_rivalTime_94 : decode cX6_rivalTime 94 = .ok (.iconst (-1), 1) := by decide +kernel
theorem dX6_rivalTime_95 : decode cX6_rivalTime 95 = .ok (.ireturn, 1) := by decide +kernel
theorem dX6_then_0 : decode cX6_then 0 = .ok (.aload_n 0, 1) := by decide +kernel
theorem dX6_then_1 : decode cX6_then 1 = .ok (.getfield 10, 3) := by decide +kernel
theorem dX6_then_4 : decode cX6_then 4 = .ok (.iload_n 1, 1) := by decide +kernel
theorem dX6_then_5 : decode cX6_then 5 = .ok (.invokevirtual 187, 3) := by decide +kernel
theorem dX6_then_8 : decode cX6_then 8 = .ok (.ifCond .eq 8, 3) := by decide +kernel
theorem dX6_then_11 : decode cX6_then 11 = .ok (.iload_n 2, 1) := by decide +kernel
theorem dX6_then_12 : decode cX6_then 12 = .ok (.iconst (-1), 1) := by decide +kernel
theorem dX6_then_13 : decode cX6_then 13 = .ok (.if_icmp .ge 5, 3) := by decide +kernel
theorem dX6_then_16 : decode cX6_then 16 = .ok (.iconst (-1), 1) := by decide +kernel
theorem dX6_then_17 : decode cX6_then 17 = .ok (.ireturn, 1) := by decide +kernel
theorem dX6_then_18 : decode cX6_then 18 = .ok (.aload_n 0, 1) := by decide +kernel
theorem dX6_then_19 : decode cX6_then 19 = .ok (.getfield 10, 3) := by decide +kernel
theorem dX6_then_22 : decode cX6_then 22 = .ok (.getfield 129, 3) := by decide +kernel
theorem dX6_then_25 : decode cX6_then 25 = .ok (.iload_n 1, 1) := by decide +kernel
theorem dX6_then_26 : decode cX6_then 26 = .ok (.baload, 1) := by decide +kernel
theorem dX6_then_27 : decode cX6_then 27 = .ok (.ifCond .eq 6, 3) := by decide +kernel
theorem dX6_then_30 : decode cX6_then 30 = .ok (.bipush (-2), 2) := by decide +kernel
theorem dX6_then_32 : decode cX6_then 32 = .ok (.ireturn, 1) := by decide +kernel
theorem dX6_then_33 : decode cX6_then 33 = .ok (.aload_n 0, 1) := by decide +kernel
theorem dX6_then_34 : decode cX6_then 34 = .ok (.iload_n 1, 1) := by decide +kernel
theorem dX6_then_35 : decode cX6_then 35 = .ok (.invokevirtual 283, 3) := by decide +kernel
theorem dX6_then_38 : decode cX6_then 38 = .ok (.aload_n 0, 1) := by decide +kernel
theorem dX6_then_39 : decode cX6_then 39 = .ok (.getfield 37, 3) := by decide +kernel
theorem dX6_then_42 : decode cX6_then 42 = .ok (.aload_n 0, 1) := by decide +kernel
theorem dX6_then_43 : decode cX6_then 43 = .ok (.getfield 10, 3) := by decide +kernel
theorem dX6_then_46 : decode cX6_then 46 = .ok (.invokevirtual 214, 3) := by decide +kernel
theorem dX6_then_49 : decode cX6_then 49 = .ok (.aload_n 0, 1) := by decide +kernel
theorem dX6_then_50 : decode cX6_then 50 = .ok (.getfield 37, 3) := by decide +kernel
theorem dX6_then_53 : decode cX6_then 53 = .ok (.iload_n 2, 1) := by decide +kernel
theorem dX6_then_54 : decode cX6_then 54 = .ok (.invokevirtual 217, 3) := by decide +kernel
theorem dX6_then_57 : decode cX6_then 57 = .ok (.ireturn, 1) := by decide +kernel
theorem dX6_played_0 : decode cX6_played 0 = .ok (.iload_n 1, 1) := by decide +kernel
theorem dX6_played_1 : decode cX6_played 1 = .ok (.invokestatic 86, 3) := by decide +kernel
theorem dX6_played_4 : decode cX6_played 4 = .ok (.ifCond .eq 12, 3) := by decide +kernel
theorem dX6_played_7 : decode cX6_played 7 = .ok (.iload_n 2, 1) := by decide +kernel
theorem dX6_played_8 : decode cX6_played 8 = .ok (.iconst 0, 1) := by decide +kernel
theorem dX6_played_9 : decode cX6_played 9 = .ok (.iconst 1, 1) := by decide +kernel
theorem dX6_played_10 : decode cX6_played 10 = .ok (.invokestatic 62, 3) := by decide +kernel
theorem dX6_played_13 : decode cX6_played 13 = .ok (.ifCond .ne 5, 3) := by decide +kernel
theorem dX6_played_16 : decode cX6_played 16 = .ok (.iconst (-1), 1) := by decide +kernel
theorem dX6_played_17 : decode cX6_played 17 = .ok (.ireturn, 1) := by decide +kernel
theorem dX6_played_18 : decode cX6_played 18 = .ok (.iconst 0, 1) := by decide +kernel
theorem dX6_played_19 : decode cX6_played 19 = .ok (.istore_n 3, 1) := by decide +kernel
theorem dX6_played_20 : decode cX6_played 20 = .ok (.iconst 0, 1) := by decide +kernel
theorem dX6_played_21 : decode cX6_played 21 = .ok (.istore 4, 2) := by decide +kernel
theorem dX6_played_23 : decode cX6_played 23 = .ok (.iload 4, 2) := by decide +kernel
theorem dX6_played_25 : decode cX6_played 25 = .ok (.aload_n 0, 1) := by decide +kernel
theorem dX6_played_26 : decode cX6_played 26 = .ok (.getfield 10, 3) := by decide +kernel
theorem dX6_played_29 : decode cX6_played 29 = .ok (.getfield 83, 3) := by decide +kernel
theorem dX6_played_32 : decode cX6_played 32 = .ok (.if_icmp .ge 50, 3) := by decide +kernel
theorem dX6_played_35 : decode cX6_played 35 = .ok (.aload_n 0, 1) := by decide +kernel
theorem dX6_played_36 : decode cX6_played 36 = .ok (.getfield 10, 3) := by decide +kernel
theorem dX6_played_39 : decode cX6_played 39 = .ok (.iload 4, 2) := by decide +kernel
theorem dX6_played_41 : decode cX6_played 41 = .ok (.iload_n 1, 1) := by decide +kernel
theorem dX6_played_42 : decode cX6_played 42 = .ok (.iconst (-1), 1) := by decide +kernel
theorem dX6_played_43 : decode cX6_played 43 = .ok (.invokevirtual 144, 3) := by decide +kernel
theorem dX6_played_46 : decode cX6_played 46 = .ok (.ifCond .eq 30, 3) := by decide +kernel
theorem dX6_played_49 : decode cX6_played 49 = .ok (.aload_n 0, 1) := by decide +kernel
theorem dX6_played_50 : decode cX6_played 50 = .ok (.iload 4, 2) := by decide +kernel
theorem dX6_played_52 : decode cX6_played 52 = .ok (.invokevirtual 286, 3) := by decide +kernel
theorem dX6_played_55 : decode cX6_played 55 = .ok (.istore 5, 2) := by decide +kernel
theorem dX6_played_57 : decode cX6_played 57 = .ok (.iload 5, 2) := by decide +kernel
theorem dX6_played_59 : decode cX6_played 59 = .ok (.ifCond .ge 14, 3) := by decide +kernel
theorem dX6_played_62 : decode cX6_played 62 = .ok (.iload_n 2, 1) := by decide +kernel
theorem dX6_played_63 : decode cX6_played 63 = .ok (.ifCond .ne 13, 3) := by decide +kernel
theorem dX6_played_66 : decode cX6_played 66 = .ok (.iload 5, 2) := by decide +kernel
theorem dX6_played_68 : decode cX6_played 68 = .ok (.bipush (-2), 2) := by decide +kernel
theorem dX6_played_70 : decode cX6_played 70 = .ok (.if_icmp .ne 6, 3) := by decide +kernel
theorem dX6_played_73 : decode cX6_played 73 = .ok (.iinc 3 1, 3) := by decide +kernel
theorem dX6_played_76 : decode cX6_played 76 = .ok (.iinc 4 1, 3) := by decide +kernel
theorem dX6_played_79 : decode cX6_played 79 = .ok (.goto (-56), 3) := by decide +kernel
theorem dX6_played_82 : decode cX6_played 82 = .ok (.iload_n 3, 1) := by decide +kernel
theorem dX6_played_83 : decode cX6_played 83 = .ok (.ireturn, 1) := by decide +kernel
theorem dX6_outBy_0 : decode cX6_outBy 0 = .ok (.aload_n 0, 1) := by decide +kernel
theorem dX6_outBy_1 : decode cX6_outBy 1 = .ok (.getfield 10, 3) := by decide +kernel
theorem dX6_outBy_4 : decode cX6_outBy 4 = .ok (.iload_n 1, 1) := by decide +kernel
theorem dX6_outBy_5 : decode cX6_outBy 5 = .ok (.invokevirtual 187, 3) := by decide +kernel
theorem dX6_outBy_8 : decode cX6_outBy 8 = .ok (.ifCond .ne 5, 3) := by decide +kernel
theorem dX6_outBy_11 : decode cX6_outBy 11 = .ok (.iconst (-1), 1) := by decide +kernel
theorem dX6_outBy_12 : decode cX6_outBy 12 = .ok (.ireturn, 1) := by decide +kernel
theorem dX6_outBy_13 : decode cX6_outBy 13 = .ok (.aload_n 0, 1) := by decide +kernel
theorem dX6_outBy_14 : decode cX6_outBy 14 = .ok (.getfield 10, 3) := by decide +kernel
theorem dX6_outBy_17 : decode cX6_outBy 17 = .ok (.getfield 129, 3) := by decide +kernel
theorem dX6_outBy_20 : decode cX6_outBy 20 = .ok (.iload_n 1, 1) := by decide +kernel
theorem dX6_outBy_21 : decode cX6_outBy 21 = .ok (.baload, 1) := by decide +kernel
theorem dX6_outBy_22 : decode cX6_outBy 22 = .ok (.ifCond .eq 6, 3) := by decide +kernel
theorem dX6_outBy_25 : decode cX6_outBy 25 = .ok (.bipush (-2), 2) := by decide +kernel
theorem dX6_outBy_27 : decode cX6_outBy 27 = .ok (.ireturn, 1) := by decide +kernel
theorem dX6_outBy_28 : decode cX6_outBy 28 = .ok (.iload_n 1, 1) := by decide +kernel
theorem dX6_outBy_29 : decode cX6_outBy 29 = .ok (.iconst 1, 1) := by decide +kernel
theorem dX6_outBy_30 : decode cX6_outBy 30 = .ok (.iadd, 1) := by decide +kernel
theorem dX6_outBy_31 : decode cX6_outBy 31 = .ok (.istore_n 2, 1) := by decide +kernel
theorem dX6_outBy_32 : decode cX6_outBy 32 = .ok (.iload_n 2, 1) := by decide +kernel
theorem dX6_outBy_33 : decode cX6_outBy 33 = .ok (.aload_n 0, 1) := by decide +kernel
theorem dX6_outBy_34 : decode cX6_outBy 34 = .ok (.getfield 10, 3) := by decide +kernel
theorem dX6_outBy_37 : decode cX6_outBy 37 = .ok (.getfield 83, 3) := by decide +kernel
theorem dX6_outBy_40 : decode cX6_outBy 40 = .ok (.if_icmp .ge 41, 3) := by decide +kernel
theorem dX6_outBy_43 : decode cX6_outBy 43 = .ok (.aload_n 0, 1) := by decide +kernel
theorem dX6_outBy_44 : decode cX6_outBy 44 = .ok (.getfield 10, 3) := by decide +kernel
theorem dX6_outBy_47 : decode cX6_outBy 47 = .ok (.iload_n 2, 1) := by decide +kernel
theorem dX6_outBy_48 : decode cX6_outBy 48 = .ok (.aload_n 0, 1) := by decide +kernel
theorem dX6_outBy_49 : decode cX6_outBy 49 = .ok (.getfield 10, 3) := by decide +kernel
theorem dX6_outBy_52 : decode cX6_outBy 52 = .ok (.getfield 133, 3) := by decide +kernel
theorem dX6_outBy_55 : decode cX6_outBy 55 = .ok (.iload_n 1, 1) := by decide +kernel
theorem dX6_outBy_56 : decode cX6_outBy 56 = .ok (.iaload, 1) := by decide +kernel
theorem dX6_outBy_57 : decode cX6_outBy 57 = .ok (.iconst (-1), 1) := by decide +kernel
theorem dX6_outBy_58 : decode cX6_outBy 58 = .ok (.invokevirtual 144, 3) := by decide +kernel
theorem dX6_outBy_61 : decode cX6_outBy 61 = .ok (.ifCond .eq 14, 3) := by decide +kernel
theorem dX6_outBy_64 : decode cX6_outBy 64 = .ok (.aload_n 0, 1) := by decide +kernel
theorem dX6_outBy_65 : decode cX6_outBy 65 = .ok (.iload_n 2, 1) := by decide +kernel
theorem dX6_outBy_66 : decode cX6_outBy 66 = .ok (.invokevirtual 286, 3) := by decide +kernel
theorem dX6_outBy_69 : decode cX6_outBy 69 = .ok (.iload_n 1, 1) := by decide +kernel
theorem dX6_outBy_70 : decode cX6_outBy 70 = .ok (.if_icmp .ne 5, 3) := by decide +kernel
theorem dX6_outBy_73 : decode cX6_outBy 73 = .ok (.iload_n 2, 1) := by decide +kernel
theorem dX6_outBy_74 : decode cX6_outBy 74 = .ok (.ireturn, 1) := by decide +kernel
theorem dX6_outBy_75 : decode cX6_outBy 75 = .ok (.iinc 2 1, 3) := by decide +kernel
theorem dX6_outBy_78 : decode cX6_outBy 78 = .ok (.goto (-46), 3) := by decide +kernel
theorem dX6_outBy_81 : decode cX6_outBy 81 = .ok (.bipush (-2), 2) := by decide +kernel
theorem dX6_outBy_83 : decode cX6_outBy 83 = .ok (.ireturn, 1) := by decide +kernel
theorem dX6_askThen_0 : decode cX6_askThen 0 = .ok (.aload_n 0, 1) := by decide +kernel
theorem dX6_askThen_1 : decode cX6_askThen 1 = .ok (.getfield 37, 3) := by decide +kernel
theorem dX6_askThen_4 : decode cX6_askThen 4 = .ok (.aload_n 0, 1) := by decide +kernel
theorem dX6_askThen_5 : decode cX6_askThen 5 = .ok (.getfield 10, 3) := by decide +kernel
theorem dX6_askThen_8 : decode cX6_askThen 8 = .ok (.aload_n 0, 1) := by decide +kernel
theorem dX6_askThen_9 : decode cX6_askThen 9 = .ok (.getfield 10, 3) := by decide +kernel
theorem dX6_askThen_12 : decode cX6_askThen 12 = .ok (.getfield 133, 3) := by decide +kernel
theorem dX6_askThen_15 : decode cX6_askThen 15 = .ok (.iload_n 1, 1) := by decide +kernel
theorem dX6_askThen_16 : decode cX6_askThen 16 = .ok (.iaload, 1) := by decide +kernel
theorem dX6_askThen_17 : decode cX6_askThen 17 = .ok (.invokevirtual 208, 3) := by decide +kernel
theorem dX6_askThen_20 : decode cX6_askThen 20 = .ok (.aload_n 0, 1) := by decide +kernel
theorem dX6_askThen_21 : decode cX6_askThen 21 = .ok (.getfield 37, 3) := by decide +kernel
theorem dX6_askThen_24 : decode cX6_askThen 24 = .ok (.iload_n 1, 1) := by decide +kernel
theorem dX6_askThen_25 : decode cX6_askThen 25 = .ok (.putfield 289, 3) := by decide +kernel
theorem dX6_askThen_28 : decode cX6_askThen 28 = .ok (.aload_n 0, 1) := by decide +kernel
theorem dX6_askThen_29 : decode cX6_askThen 29 = .ok (.getfield 37, 3) := by decide +kernel
theorem dX6_askThen_32 : decode cX6_askThen 32 = .ok (.aload_n 0, 1) := by decide +kernel
theorem dX6_askThen_33 : decode cX6_askThen 33 = .ok (.getfield 10, 3) := by decide +kernel
theorem dX6_askThen_36 : decode cX6_askThen 36 = .ok (.getfield 190, 3) := by decide +kernel
theorem dX6_askThen_39 : decode cX6_askThen 39 = .ok (.iload_n 1, 1) := by decide +kernel
theorem dX6_askThen_40 : decode cX6_askThen 40 = .ok (.iaload, 1) := by decide +kernel
theorem dX6_askThen_41 : decode cX6_askThen 41 = .ok (.putfield 275, 3) := by decide +kernel
theorem dX6_askThen_44 : decode cX6_askThen 44 = .ok (.return_, 1) := by decide +kernel
theorem dX6_putOutBy_0 : decode cX6_putOutBy 0 = .ok (.aload_n 0, 1) := by decide +kernel
theorem dX6_putOutBy_1 : decode cX6_putOutBy 1 = .ok (.iload_n 1, 1) := by decide +kernel
theorem dX6_putOutBy_2 : decode cX6_putOutBy 2 = .ok (.invokevirtual 283, 3) := by decide +kernel
theorem dX6_putOutBy_5 : decode cX6_putOutBy 5 = .ok (.aload_n 0, 1) := by decide +kernel
theorem dX6_putOutBy_6 : decode cX6_putOutBy 6 = .ok (.getfield 37, 3) := by decide +kernel
theorem dX6_putOutBy_9 : decode cX6_putOutBy 9 = .ok (.iload_n 1, 1) := by decide +kernel
theorem dX6_putOutBy_10 : decode cX6_putOutBy 10 = .ok (.putfield 276, 3) := by decide +kernel
theorem dX6_putOutBy_13 : decode cX6_putOutBy 13 = .ok (.aload_n 0, 1) := by decide +kernel
theorem dX6_putOutBy_14 : decode cX6_putOutBy 14 = .ok (.getfield 37, 3) := by decide +kernel
theorem dX6_putOutBy_17 : decode cX6_putOutBy 17 = .ok (.aload_n 0, 1) := by decide +kernel
theorem dX6_putOutBy_18 : decode cX6_putOutBy 18 = .ok (.getfield 10, 3) := by decide +kernel
theorem dX6_putOutBy_21 : decode cX6_putOutBy 21 = .ok (.invokevirtual 214, 3) := by decide +kernel
theorem dX6_putOutBy_24 : decode cX6_putOutBy 24 = .ok (.aload_n 0, 1) := by decide +kernel
theorem dX6_putOutBy_25 : decode cX6_putOutBy 25 = .ok (.getfield 37, 3) := by decide +kernel
theorem dX6_putOutBy_28 : decode cX6_putOutBy 28 = .ok (.getfield 154, 3) := by decide +kernel
theorem dX6_putOutBy_31 : decode cX6_putOutBy 31 = .ok (.aload_n 0, 1) := by decide +kernel
theorem dX6_putOutBy_32 : decode cX6_putOutBy 32 = .ok (.getfield 37, 3) := by decide +kernel
theorem dX6_putOutBy_35 : decode cX6_putOutBy 35 = .ok (.getfield 211, 3) := by decide +kernel
theorem dX6_putOutBy_38 : decode cX6_putOutBy 38 = .ok (.if_icmp .ge 6, 3) := by decide +kernel
theorem dX6_putOutBy_41 : decode cX6_putOutBy 41 = .ok (.bipush (-2), 2) := by decide +kernel
theorem dX6_putOutBy_43 : decode cX6_putOutBy 43 = .ok (.ireturn, 1) := by decide +kernel
theorem dX6_putOutBy_44 : decode cX6_putOutBy 44 = .ok (.aload_n 0, 1) := by decide +kernel
theorem dX6_putOutBy_45 : decode cX6_putOutBy 45 = .ok (.getfield 37, 3) := by decide +kernel
theorem dX6_putOutBy_48 : decode cX6_putOutBy 48 = .ok (.invokevirtual 239, 3) := by decide +kernel
theorem dX6_putOutBy_51 : decode cX6_putOutBy 51 = .ok (.istore_n 2, 1) := by decide +kernel
theorem dX6_putOutBy_52 : decode cX6_putOutBy 52 = .ok (.aload_n 0, 1) := by decide +kernel
theorem dX6_putOutBy_53 : decode cX6_putOutBy 53 = .ok (.getfield 10, 3) := by decide +kernel
theorem dX6_putOutBy_56 : decode cX6_putOutBy 56 = .ok (.iload_n 1, 1) := by decide +kernel
theorem dX6_putOutBy_57 : decode cX6_putOutBy 57 = .ok (.iload_n 2, 1) := by decide +kernel
theorem dX6_putOutBy_58 : decode cX6_putOutBy 58 = .ok (.invokevirtual 279, 3) := by decide +kernel
theorem dX6_putOutBy_61 : decode cX6_putOutBy 61 = .ok (.ifCond .eq 7, 3) := by decide +kernel
theorem dX6_putOutBy_64 : decode cX6_putOutBy 64 = .ok (.iload_n 2, 1) := by decide +kernel
theorem dX6_putOutBy_65 : decode cX6_putOutBy 65 = .ok (.goto 4, 3) := by decide +kernel
theorem dX6_putOutBy_68 : decode cX6_putOutBy 68 = .ok (.iconst (-1), 1) := by decide +kernel
theorem dX6_putOutBy_69 : decode cX6_putOutBy 69 = .ok (.ireturn, 1) := by decide +kernel
theorem dX6_labels_0 : decode cX6_labels 0 = .ok (.iload_n 1, 1) := by decide +kernel
theorem dX6_labels_1 : decode cX6_labels 1 = .ok (.invokestatic 86, 3) := by decide +kernel
theorem dX6_labels_4 : decode cX6_labels 4 = .ok (.ifCond .eq 10, 3) := by decide +kernel
theorem dX6_labels_7 : decode cX6_labels 7 = .ok (.iload_n 2, 1) := by decide +kernel
theorem dX6_labels_8 : decode cX6_labels 8 = .ok (.invokestatic 90, 3) := by decide +kernel
theorem dX6_labels_11 : decode cX6_labels 11 = .ok (.ifCond .ne 5, 3) := by decide +kernel
theorem dX6_labels_14 : decode cX6_labels 14 = .ok (.iconst (-1), 1) := by decide +kernel
theorem dX6_labels_15 : decode cX6_labels 15 = .ok (.ireturn, 1) := by decide +kernel
theorem dX6_labels_16 : decode cX6_labels 16 = .ok (.iload_n 3, 1) := by decide +kernel
theorem dX6_labels_17 : decode cX6_labels 17 = .ok (.tableswitch 83 0 3 #[31, 41, 51, 73], 31) := by decide +kernel
theorem dX6_labels_48 : decode cX6_labels 48 = .ok (.aload_n 0, 1) := by decide +kernel
theorem dX6_labels_49 : decode cX6_labels 49 = .ok (.getfield 10, 3) := by decide +kernel
theorem dX6_labels_52 : decode cX6_labels 52 = .ok (.iload_n 1, 1) := by decide +kernel
theorem dX6_labels_53 : decode cX6_labels 53 = .ok (.iload_n 2, 1) := by decide +kernel
theorem dX6_labels_54 : decode cX6_labels 54 = .ok (.invokevirtual 166, 3) := by decide +kernel
theorem dX6_labels_57 : decode cX6_labels 57 = .ok (.ireturn, 1) := by decide +kernel
theorem dX6_labels_58 : decode cX6_labels 58 = .ok (.aload_n 0, 1) := by decide +kernel
theorem dX6_labels_59 : decode cX6_labels 59 = .ok (.getfield 10, 3) := by decide +kernel
theorem dX6_labels_62 : decode cX6_labels 62 = .ok (.iload_n 1, 1) := by decide +kernel
theorem dX6_labels_63 : decode cX6_labels 63 = .ok (.iload_n 2, 1) := by decide +kernel
theorem dX6_labels_64 : decode cX6_labels 64 = .ok (.invokevirtual 292, 3) := by decide +kernel
theorem dX6_labels_67 : decode cX6_labels 67 = .ok (.ireturn, 1) := by decide +kernel
theorem dX6_labels_68 : decode cX6_labels 68 = .ok (.aload_n 0, 1) := by decide +kernel
theorem dX6_labels_69 : decode cX6_labels 69 = .ok (.getfield 37, 3) := by decide +kernel
theorem dX6_labels_72 : decode cX6_labels 72 = .ok (.aload_n 0, 1) := by decide +kernel
theorem dX6_labels_73 : decode cX6_labels 73 = .ok (.getfield 10, 3) := by decide +kernel
theorem dX6_labels_76 : decode cX6_labels 76 = .ok (.iload_n 1, 1) := by decide +kernel
theorem dX6_labels_77 : decode cX6_labels 77 = .ok (.invokevirtual 150, 3) := by decide +kernel
theorem dX6_labels_80 : decode cX6_labels 80 = .ok (.aload_n 0, 1) := by decide +kernel
theorem dX6_labels_81 : decode cX6_labels 81 = .ok (.getfield 37, 3) := by decide +kernel
theorem dX6_labels_84 : decode cX6_labels 84 = .ok (.getfield 260, 3) := by decide +kernel
theorem dX6_labels_87 : decode cX6_labels 87 = .ok (.iload_n 2, 1) := by decide +kernel
theorem dX6_labels_88 : decode cX6_labels 88 = .ok (.iaload, 1) := by decide +kernel
theorem dX6_labels_89 : decode cX6_labels 89 = .ok (.ireturn, 1) := by decide +kernel
theorem dX6_labels_90 : decode cX6_labels 90 = .ok (.aload_n 0, 1) := by decide +kernel
theorem dX6_labels_91 : decode cX6_labels 91 = .ok (.getfield 10, 3) := by decide +kernel
theorem dX6_labels_94 : decode cX6_labels 94 = .ok (.iload_n 1, 1) := by decide +kernel
theorem dX6_labels_95 : decode cX6_labels 95 = .ok (.iload_n 2, 1) := by decide +kernel
theorem dX6_labels_96 : decode cX6_labels 96 = .ok (.invokevirtual 136, 3) := by decide +kernel
theorem dX6_labels_99 : decode cX6_labels 99 = .ok (.ireturn, 1) := by decide +kernel
theorem dX6_labels_100 : decode cX6_labels 100 = .ok (.iconst (-1), 1) := by decide +kernel
theorem dX6_labels_101 : decode cX6_labels 101 = .ok (.ireturn, 1) := by decide +kernel
theorem dX6_total_0 : decode cX6_total 0 = .ok (.iload_n 1, 1) := by decide +kernel
theorem dX6_total_1 : decode cX6_total 1 = .ok (.invokestatic 86, 3) := by decide +kernel
theorem dX6_total_4 : decode cX6_total 4 = .ok (.ifCond .ne 5, 3) := by decide +kernel
theorem dX6_total_7 : decode cX6_total 7 = .ok (.iconst (-1), 1) := by decide +kernel
theorem dX6_total_8 : decode cX6_total 8 = .ok (.ireturn, 1) := by decide +kernel
theorem dX6_total_9 : decode cX6_total 9 = .ok (.iload_n 2, 1) := by decide +kernel
theorem dX6_total_10 : decode cX6_total 10 = .ok (.tableswitch 94 0 5 #[38, 48, 58, 64, 74, 84], 38) := by decide +kernel
theorem dX6_total_48 : decode cX6_total 48 = .ok (.aload_n 0, 1) := by decide +kernel
theorem dX6_total_49 : decode cX6_total 49 = .ok (.getfield 10, 3) := by decide +kernel
theorem dX6_total_52 : decode cX6_total 52 = .ok (.iload_n 1, 1) := by decide +kernel
theorem dX6_total_53 : decode cX6_total 53 = .ok (.iconst (-1), 1) := by decide +kernel
theorem dX6_total_54 : decode cX6_total 54 = .ok (.invokevirtual 166, 3) := by decide +kernel
theorem dX6_total_57 : decode cX6_total 57 = .ok (.ireturn, 1) := by decide +kernel
theorem dX6_total_58 : decode cX6_total 58 = .ok (.aload_n 0, 1) := by decide +kernel
theorem dX6_total_59 : decode cX6_total 59 = .ok (.getfield 10, 3) := by decide +kernel
theorem dX6_total_62 : decode cX6_total 62 = .ok (.iload_n 1, 1) := by decide +kernel
theorem dX6_total_63 : decode cX6_total 63 = .ok (.iconst (-1), 1) := by decide +kernel
theorem dX6_total_64 : decode cX6_total 64 = .ok (.invokevirtual 292, 3) := by decide +kernel
theorem dX6_total_67 : decode cX6_total 67 = .ok (.ireturn, 1) := by decide +kernel
theorem dX6_total_68 : decode cX6_total 68 = .ok (.aload_n 0, 1) := by decide +kernel
theorem dX6_total_69 : decode cX6_total 69 = .ok (.iload_n 1, 1) := by decide +kernel
theorem dX6_total_70 : decode cX6_total 70 = .ok (.invokevirtual 295, 3) := by decide +kernel
theorem dX6_total_73 : decode cX6_total 73 = .ok (.ireturn, 1) := by decide +kernel
theorem dX6_total_74 : decode cX6_total 74 = .ok (.aload_n 0, 1) := by decide +kernel
theorem dX6_total_75 : decode cX6_total 75 = .ok (.getfield 10, 3) := by decide +kernel
theorem dX6_total_78 : decode cX6_total 78 = .ok (.iload_n 1, 1) := by decide +kernel
theorem dX6_total_79 : decode cX6_total 79 = .ok (.iconst (-1), 1) := by decide +kernel
theorem dX6_total_80 : decode cX6_total 80 = .ok (.invokevirtual 136, 3) := by decide +kernel
theorem dX6_total_83 : decode cX6_total 83 = .ok (.ireturn, 1) := by decide +kernel
theorem dX6_total_84 : decode cX6_total 84 = .ok (.aload_n 0, 1) := by decide +kernel
theorem dX6_total_85 : decode cX6_total 85 = .ok (.getfield 10, 3) := by decide +kernel
theorem dX6_total_88 : decode cX6_total 88 = .ok (.getfield 113, 3) := by decide +kernel
theorem dX6_total_91 : decode cX6_total 91 = .ok (.iload_n 1, 1) := by decide +kernel
theorem dX6_total_92 : decode cX6_total 92 = .ok (.iaload, 1) := by decide +kernel
theorem dX6_total_93 : decode cX6_total 93 = .ok (.ireturn, 1) := by decide +kernel
theorem dX6_total_94 : decode cX6_total 94 = .ok (.aload_n 0, 1) := by decide +kernel
theorem dX6_total_95 : decode cX6_total 95 = .ok (.getfield 10, 3) := by decide +kernel
theorem dX6_total_98 : decode cX6_total 98 = .ok (.getfield 117, 3) := by decide +kernel
theorem dX6_total_101 : decode cX6_total 101 = .ok (.iload_n 1, 1) := by decide +kernel
theorem dX6_total_102 : decode cX6_total 102 = .ok (.iaload, 1) := by decide +kernel
theorem dX6_total_103 : decode cX6_total 103 = .ok (.ireturn, 1) := by decide +kernel
theorem dX6_total_104 : decode cX6_total 104 = .ok (.iconst (-1), 1) := by decide +kernel
theorem dX6_total_105 : decode cX6_total 105 = .ok (.ireturn, 1) := by decide +kernel
theorem dX6_mode_0 : decode cX6_mode 0 = .ok (.iload_n 1, 1) := by decide +kernel
theorem dX6_mode_1 : decode cX6_mode 1 = .ok (.invokestatic 86, 3) := by decide +kernel
theorem dX6_mode_4 : decode cX6_mode 4 = .ok (.ifCond .ne 5, 3) := by decide +kernel
theorem dX6_mode_7 : decode cX6_mode 7 = .ok (.iconst (-1), 1) := by decide +kernel
theorem dX6_mode_8 : decode cX6_mode 8 = .ok (.ireturn, 1) := by decide +kernel
theorem dX6_mode_9 : decode cX6_mode 9 = .ok (.aload_n 0, 1) := by decide +kernel
theorem dX6_mode_10 : decode cX6_mode 10 = .ok (.getfield 37, 3) := by decide +kernel
theorem dX6_mode_13 : decode cX6_mode 13 = .ok (.aload_n 0, 1) := by decide +kernel
theorem dX6_mode_14 : decode cX6_mode 14 = .ok (.getfield 10, 3) := by decide +kernel
theorem dX6_mode_17 : decode cX6_mode 17 = .ok (.iload_n 1, 1) := by decide +kernel
theorem dX6_mode_18 : decode cX6_mode 18 = .ok (.invokevirtual 150, 3) := by decide +kernel
theorem dX6_mode_21 : decode cX6_mode 21 = .ok (.iconst 0, 1) := by decide +kernel
theorem dX6_mode_22 : decode cX6_mode 22 = .ok (.istore_n 2, 1) := by decide +kernel
theorem dX6_mode_23 : decode cX6_mode 23 = .ok (.bipush (-2), 2) := by decide +kernel
theorem dX6_mode_25 : decode cX6_mode 25 = .ok (.istore_n 3, 1) := by decide +kernel
theorem dX6_mode_26 : decode cX6_mode 26 = .ok (.iconst 0, 1) := by decide +kernel
theorem dX6_mode_27 : decode cX6_mode 27 = .ok (.istore 4, 2) := by decide +kernel
theorem dX6_mode_29 : decode cX6_mode 29 = .ok (.iload 4, 2) := by decide +kernel
theorem dX6_mode_31 : decode cX6_mode 31 = .ok (.bipush 26, 2) := by decide +kernel
theorem dX6_mode_33 : decode cX6_mode 33 = .ok (.if_icmp .ge 37, 3) := by decide +kernel
theorem dX6_mode_36 : decode cX6_mode 36 = .ok (.aload_n 0, 1) := by decide +kernel
theorem dX6_mode_37 : decode cX6_mode 37 = .ok (.getfield 37, 3) := by decide +kernel
theorem dX6_mode_40 : decode cX6_mode 40 = .ok (.getfield 260, 3) := by decide +kernel
theorem dX6_mode_43 : decode cX6_mode 43 = .ok (.iload 4, 2) := by decide +kernel
theorem dX6_mode_45 : decode cX6_mode 45 = .ok (.iaload, 1) := by decide +kernel
theorem dX6_mode_46 : decode cX6_mode 46 = .ok (.iload_n 2, 1) := by decide +kernel
theorem dX6_mode_47 : decode cX6_mode 47 = .ok (.if_icmp .le 17, 3) := by decide +kernel
theorem dX6_mode_50 : decode cX6_mode 50 = .ok (.aload_n 0, 1) := by decide +kernel
theorem dX6_mode_51 : decode cX6_mode 51 = .ok (.getfield 37, 3) := by decide +kernel
theorem dX6_mode_54 : decode cX6_mode 54 = .ok (.getfield 260, 3) := by decide +kernel
theorem dX6_mode_57 : decode cX6_mode 57 = .ok (.iload 4, 2) := by decide +kernel
theorem dX6_mode_59 : decode cX6_mode 59 = .ok (.iaload, 1) := by decide +kernel
theorem dX6_mode_60 : decode cX6_mode 60 = .ok (.istore_n 2, 1) := by decide +kernel
theorem dX6_mode_61 : decode cX6_mode 61 = .ok (.iload 4, 2) := by decide +kernel
theorem dX6_mode_63 : decode cX6_mode 63 = .ok (.istore_n 3, 1) := by decide +kernel
theorem dX6_mode_64 : decode cX6_mode 64 = .ok (.iinc 4 1, 3) := by decide +kernel
theorem dX6_mode_67 : decode cX6_mode 67 = .ok (.goto (-38), 3) := by decide +kernel
theorem dX6_mode_70 : decode cX6_mode 70 = .ok (.iload_n 3, 1) := by decide +kernel
theorem dX6_mode_71 : decode cX6_mode 71 = .ok (.ireturn, 1) := by decide +kernel
theorem dX6_unlike_0 : decode cX6_unlike 0 = .ok (.iload_n 1, 1) := by decide +kernel
theorem dX6_unlike_1 : decode cX6_unlike 1 = .ok (.invokestatic 86, 3) := by decide +kernel
theorem dX6_unlike_4 : decode cX6_unlike 4 = .ok (.ifCond .eq 10, 3) := by decide +kernel
theorem dX6_unlike_7 : decode cX6_unlike 7 = .ok (.iload_n 2, 1) := by decide +kernel
theorem dX6_unlike_8 : decode cX6_unlike 8 = .ok (.invokestatic 86, 3) := by decide +kernel
theorem dX6_unlike_11 : decode cX6_unlike 11 = .ok (.ifCond .ne 5, 3) := by decide +kernel
theorem dX6_unlike_14 : decode cX6_unlike 14 = .ok (.iconst (-1), 1) := by decide +kernel
theorem dX6_unlike_15 : decode cX6_unlike 15 = .ok (.ireturn, 1) := by decide +kernel
theorem dX6_unlike_16 : decode cX6_unlike 16 = .ok (.aload_n 0, 1) := by decide +kernel
theorem dX6_unlike_17 : decode cX6_unlike 17 = .ok (.getfield 37, 3) := by decide +kernel
theorem dX6_unlike_20 : decode cX6_unlike 20 = .ok (.aload_n 0, 1) := by decide +kernel
theorem dX6_unlike_21 : decode cX6_unlike 21 = .ok (.getfield 10, 3) := by decide +kernel
theorem dX6_unlike_24 : decode cX6_unlike 24 = .ok (.iload_n 1, 1) := by decide +kernel
theorem dX6_unlike_25 : decode cX6_unlike 25 = .ok (.invokevirtual 150, 3) := by decide +kernel
theorem dX6_unlike_28 : decode cX6_unlike 28 = .ok (.aload_n 0, 1) := by decide +kernel
theorem dX6_unlike_29 : decode cX6_unlike 29 = .ok (.getfield 41, 3) := by decide +kernel
theorem dX6_unlike_32 : decode cX6_unlike 32 = .ok (.aload_n 0, 1) := by decide +kernel
theorem dX6_unlike_33 : decode cX6_unlike 33 = .ok (.getfield 10, 3) := by decide +kernel
theorem dX6_unlike_36 : decode cX6_unlike 36 = .ok (.iload_n 2, 1) := by decide +kernel
theorem dX6_unlike_37 : decode cX6_unlike 37 = .ok (.invokevirtual 150, 3) := by decide +kernel
theorem dX6_unlike_40 : decode cX6_unlike 40 = .ok (.iconst 0, 1) := by decide +kernel
theorem dX6_unlike_41 : decode cX6_unlike 41 = .ok (.istore_n 3, 1) := by decide +kernel
theorem dX6_unlike_42 : decode cX6_unlike 42 = .ok (.iconst 0, 1) := by decide +kernel
theorem dX6_unlike_43 : decode cX6_unlike 43 = .ok (.istore 4, 2) := by decide +kernel
theorem dX6_unlike_45 : decode cX6_unlike 45 = .ok (.iload 4, 2) := by decide +kernel
theorem dX6_unlike_47 : decode cX6_unlike 47 = .ok (.bipush 26, 2) := by decide +kernel
theorem dX6_unlike_49 : decode cX6_unlike 49 = .ok (.if_icmp .ge 36, 3) := by decide +kernel
theorem dX6_unlike_52 : decode cX6_unlike 52 = .ok (.iload_n 3, 1) := by decide +kernel
theorem dX6_unlike_53 : decode cX6_unlike 53 = .ok (.aload_n 0, 1) := by decide +kernel
theorem dX6_unlike_54 : decode cX6_unlike 54 = .ok (.getfield 37, 3) := by decide +kernel
theorem dX6_unlike_57 : decode cX6_unlike 57 = .ok (.getfield 260, 3) := by decide +kernel
theorem dX6_unlike_60 : decode cX6_unlike 60 = .ok (.iload 4, 2) := by decide +kernel
theorem dX6_unlike_62 : decode cX6_unlike 62 = .ok (.iaload, 1) := by decide +kernel
theorem dX6_unlike_63 : decode cX6_unlike 63 = .ok (.aload_n 0, 1) := by decide +kernel
theorem dX6_unlike_64 : decode cX6_unlike 64 = .ok (.getfield 41, 3) := by decide +kernel
theorem dX6_unlike_67 : decode cX6_unlike 67 = .ok (.getfield 260, 3) := by decide +kernel
theorem dX6_unlike_70 : decode cX6_unlike 70 = .ok (.iload 4, 2) := by decide +kernel
theorem dX6_unlike_72 : decode cX6_unlike 72 = .ok (.iaload, 1) := by decide +kernel
theorem dX6_unlike_73 : decode cX6_unlike 73 = .ok (.isub, 1) := by decide +kernel
theorem dX6_unlike_74 : decode cX6_unlike 74 = .ok (.invokestatic 298, 3) := by decide +kernel
theorem dX6_unlike_77 : decode cX6_unlike 77 = .ok (.iadd, 1) := by decide +kernel
theorem dX6_unlike_78 : decode cX6_unlike 78 = .ok (.istore_n 3, 1) := by decide +kernel
theorem dX6_unlike_79 : decode cX6_unlike 79 = .ok (.iinc 4 1, 3) := by decide +kernel
theorem dX6_unlike_82 : decode cX6_unlike 82 = .ok (.goto (-37), 3) := by decide +kernel
theorem dX6_unlike_85 : decode cX6_unlike 85 = .ok (.iload_n 3, 1) := by decide +kernel
theorem dX6_unlike_86 : decode cX6_unlike 86 = .ok (.ireturn, 1) := by decide +kernel
theorem dX6_same_0 : decode cX6_same 0 = .ok (.iload_n 1, 1) := by decide +kernel
theorem dX6_same_1 : decode cX6_same 1 = .ok (.invokestatic 181, 3) := by decide +kernel
theorem dX6_same_4 : decode cX6_same 4 = .ok (.ifCond .eq 10, 3) := by decide +kernel
theorem dX6_same_7 : decode cX6_same 7 = .ok (.iload_n 2, 1) := by decide +kernel
theorem dX6_same_8 : decode cX6_same 8 = .ok (.invokestatic 86, 3) := by decide +kernel
theorem dX6_same_11 : decode cX6_same 11 = .ok (.ifCond .ne 5, 3) := by decide +kernel
theorem dX6_same_14 : decode cX6_same 14 = .ok (.iconst (-1), 1) := by decide +kernel
theorem dX6_same_15 : decode cX6_same 15 = .ok (.ireturn, 1) := by decide +kernel
theorem dX6_same_16 : decode cX6_same 16 = .ok (.aload_n 0, 1) := by decide +kernel
theorem dX6_same_17 : decode cX6_same 17 = .ok (.iload_n 1, 1) := by decide +kernel
theorem dX6_same_18 : decode cX6_same 18 = .ok (.invokevirtual 184, 3) := by decide +kernel
theorem dX6_same_21 : decode cX6_same 21 = .ok (.ifCond .ne 6, 3) := by decide +kernel
theorem dX6_same_24 : decode cX6_same 24 = .ok (.bipush (-2), 2) := by decide +kernel
theorem dX6_same_26 : decode cX6_same 26 = .ok (.ireturn, 1) := by decide +kernel
theorem dX6_same_27 : decode cX6_same 27 = .ok (.aload_n 0, 1) := by decide +kernel
theorem dX6_same_28 : decode cX6_same 28 = .ok (.getfield 37, 3) := by decide +kernel
theorem dX6_same_31 : decode cX6_same 31 = .ok (.aload_n 0, 1) := by decide +kernel
theorem dX6_same_32 : decode cX6_same 32 = .ok (.getfield 10, 3) := by decide +kernel
theorem dX6_same_35 : decode cX6_same 35 = .ok (.iload_n 2, 1) := by decide +kernel
theorem dX6_same_36 : decode cX6_same 36 = .ok (.invokevirtual 150, 3) := by decide +kernel
theorem dX6_same_39 : decode cX6_same 39 = .ok (.aload_n 0, 1) := by decide +kernel
theorem dX6_same_40 : decode cX6_same 40 = .ok (.getfield 41, 3) := by decide +kernel
theorem dX6_same_43 : decode cX6_same 43 = .ok (.aload_n 0, 1) := by decide +kernel
theorem dX6_same_44 : decode cX6_same 44 = .ok (.getfield 30, 3) := by decide +kernel
theorem dX6_same_47 : decode cX6_same 47 = .ok (.iload_n 1, 1) := by decide +kernel
theorem dX6_same_48 : decode cX6_same 48 = .ok (.aaload, 1) := by decide +kernel
theorem dX6_same_49 : decode cX6_same 49 = .ok (.iload_n 2, 1) := by decide +kernel
theorem dX6_same_50 : decode cX6_same 50 = .ok (.invokevirtual 150, 3) := by decide +kernel
theorem dX6_same_53 : decode cX6_same 53 = .ok (.aload_n 0, 1) := by decide +kernel
theorem dX6_same_54 : decode cX6_same 54 = .ok (.getfield 37, 3) := by decide +kernel
theorem dX6_same_57 : decode cX6_same 57 = .ok (.aload_n 0, 1) := by decide +kernel
theorem dX6_same_58 : decode cX6_same 58 = .ok (.getfield 41, 3) := by decide +kernel
theorem dX6_same_61 : decode cX6_same 61 = .ok (.invokevirtual 301, 3) := by decide +kernel
theorem dX6_same_64 : decode cX6_same 64 = .ok (.ifCond .eq 7, 3) := by decide +kernel
theorem dX6_same_67 : decode cX6_same 67 = .ok (.iconst 1, 1) := by decide +kernel
theorem dX6_same_68 : decode cX6_same 68 = .ok (.goto 4, 3) := by decide +kernel
theorem dX6_same_71 : decode cX6_same 71 = .ok (.iconst 0, 1) := by decide +kernel
theorem dX6_same_72 : decode cX6_same 72 = .ok (.ireturn, 1) := by decide +kernel
theorem dX6_told_0 : decode cX6_told 0 = .ok (.iload_n 1, 1) := by decide +kernel
theorem dX6_told_1 : decode cX6_told 1 = .ok (.iconst (-1), 1) := by decide +kernel
theorem dX6_told_2 : decode cX6_told 2 = .ok (.if_icmp .ge 5, 3) := by decide +kernel
theorem dX6_told_5 : decode cX6_told 5 = .ok (.iconst (-1), 1) := by decide +kernel
theorem dX6_told_6 : decode cX6_told 6 = .ok (.ireturn, 1) := by decide +kernel
theorem dX6_told_7 : decode cX6_told 7 = .ok (.aload_n 0, 1) := by decide +kernel
theorem dX6_told_8 : decode cX6_told 8 = .ok (.getfield 47, 3) := by decide +kernel
theorem dX6_told_11 : decode cX6_told 11 = .ok (.aload_n 0, 1) := by decide +kernel
theorem dX6_told_12 : decode cX6_told 12 = .ok (.getfield 10, 3) := by decide +kernel
theorem dX6_told_15 : decode cX6_told 15 = .ok (.iload_n 1, 1) := by decide +kernel
theorem dX6_told_16 : decode cX6_told 16 = .ok (.invokevirtual 305, 3) := by decide +kernel
theorem dX6_told_19 : decode cX6_told 19 = .ok (.ireturn, 1) := by decide +kernel
theorem dX6_digest_0 : decode cX6_digest 0 = .ok (.ldc2_w 308, 3) := by decide +kernel
theorem dX6_digest_3 : decode cX6_digest 3 = .ok (.lstore_n 1, 1) := by decide +kernel
theorem dX6_digest_4 : decode cX6_digest 4 = .ok (.iconst 0, 1) := by decide +kernel
theorem dX6_digest_5 : decode cX6_digest 5 = .ok (.istore_n 3, 1) := by decide +kernel
theorem dX6_digest_6 : decode cX6_digest 6 = .ok (.iload_n 3, 1) := by decide +kernel
theorem dX6_digest_7 : decode cX6_digest 7 = .ok (.aload_n 0, 1) := by decide +kernel
theorem dX6_digest_8 : decode cX6_digest 8 = .ok (.getfield 10, 3) := by decide +kernel
theorem dX6_digest_11 : decode cX6_digest 11 = .ok (.getfield 83, 3) := by decide +kernel
theorem dX6_digest_14 : decode cX6_digest 14 = .ok (.if_icmp .ge 110, 3) := by decide +kernel
theorem dX6_digest_17 : decode cX6_digest 17 = .ok (.ldc2_w 310, 3) := by decide +kernel
theorem dX6_digest_20 : decode cX6_digest 20 = .ok (.lload_n 1, 1) := by decide +kernel
theorem dX6_digest_21 : decode cX6_digest 21 = .ok (.lmul, 1) := by decide +kernel
theorem dX6_digest_22 : decode cX6_digest 22 = .ok (.aload_n 0, 1) := by decide +kernel
theorem dX6_digest_23 : decode cX6_digest 23 = .ok (.getfield 10, 3) := by decide +kernel
theorem dX6_digest_26 : decode cX6_digest 26 = .ok (.getfield 129, 3) := by decide +kernel
theorem dX6_digest_29 : decode cX6_digest 29 = .ok (.iload_n 3, 1) := by decide +kernel
theorem dX6_digest_30 : decode cX6_digest 30 = .ok (.baload, 1) := by decide +kernel
theorem dX6_digest_31 : decode cX6_digest 31 = .ok (.ifCond .eq 7, 3) := by decide +kernel
theorem dX6_digest_34 : decode cX6_digest 34 = .ok (.iconst 4, 1) := by decide +kernel
theorem dX6_digest_35 : decode cX6_digest 35 = .ok (.goto 12, 3) := by decide +kernel
theorem dX6_digest_38 : decode cX6_digest 38 = .ok (.aload_n 0, 1) := by decide +kernel
theorem dX6_digest_39 : decode cX6_digest 39 = .ok (.getfield 10, 3) := by decide +kernel
theorem dX6_digest_42 : decode cX6_digest 42 = .ok (.getfield 133, 3) := by decide +kernel
theorem dX6_digest_45 : decode cX6_digest 45 = .ok (.iload_n 3, 1) := by decide +kernel
theorem dX6_digest_46 : decode cX6_digest 46 = .ok (.iaload, 1) := by decide +kernel
theorem dX6_digest_47 : decode cX6_digest 47 = .ok (.i2l, 1) := by decide +kernel
theorem dX6_digest_48 : decode cX6_digest 48 = .ok (.ladd, 1) := by decide +kernel
theorem dX6_digest_49 : decode cX6_digest 49 = .ok (.lstore_n 1, 1) := by decide +kernel
theorem dX6_digest_50 : decode cX6_digest 50 = .ok (.ldc2_w 310, 3) := by decide +kernel
theorem dX6_digest_53 : decode cX6_digest 53 = .ok (.lload_n 1, 1) := by decide +kernel
theorem dX6_digest_54 : decode cX6_digest 54 = .ok (.lmul, 1) := by decide +kernel
theorem dX6_digest_55 : decode cX6_digest 55 = .ok (.aload_n 0, 1) := by decide +kernel
theorem dX6_digest_56 : decode cX6_digest 56 = .ok (.getfield 10, 3) := by decide +kernel
theorem dX6_digest_59 : decode cX6_digest 59 = .ok (.getfield 147, 3) := by decide +kernel
theorem dX6_digest_62 : decode cX6_digest 62 = .ok (.iload_n 3, 1) := by decide +kernel
theorem dX6_digest_63 : decode cX6_digest 63 = .ok (.iaload, 1) := by decide +kernel
theorem dX6_digest_64 : decode cX6_digest 64 = .ok (.i2l, 1) := by decide +kernel
theorem dX6_digest_65 : decode cX6_digest 65 = .ok (.ladd, 1) := by decide +kernel
theorem dX6_digest_66 : decode cX6_digest 66 = .ok (.lstore_n 1, 1) := by decide +kernel
theorem dX6_digest_67 : decode cX6_digest 67 = .ok (.ldc2_w 310, 3) := by decide +kernel
theorem dX6_digest_70 : decode cX6_digest 70 = .ok (.lload_n 1, 1) := by decide +kernel
theorem dX6_digest_71 : decode cX6_digest 71 = .ok (.lmul, 1) := by decide +kernel
theorem dX6_digest_72 : decode cX6_digest 72 = .ok (.aload_n 0, 1) := by decide +kernel
theorem dX6_digest_73 : decode cX6_digest 73 = .ok (.getfield 10, 3) := by decide +kernel
theorem dX6_digest_76 : decode cX6_digest 76 = .ok (.getfield 123, 3) := by decide +kernel
theorem dX6_digest_79 : decode cX6_digest 79 = .ok (.iload_n 3, 1) := by decide +kernel
theorem dX6_digest_80 : decode cX6_digest 80 = .ok (.iaload, 1) := by decide +kernel
theorem dX6_digest_81 : decode cX6_digest 81 = .ok (.i2l, 1) := by decide +kernel
theorem dX6_digest_82 : decode cX6_digest 82 = .ok (.ladd, 1) := by decide +kernel
theorem dX6_digest_83 : decode cX6_digest 83 = .ok (.lstore_n 1, 1) := by decide +kernel
theorem dX6_digest_84 : decode cX6_digest 84 = .ok (.ldc2_w 310, 3) := by decide +kernel
theorem dX6_digest_87 : decode cX6_digest 87 = .ok (.lload_n 1, 1) := by decide +kernel
theorem dX6_digest_88 : decode cX6_digest 88 = .ok (.lmul, 1) := by decide +kernel
theorem dX6_digest_89 : decode cX6_digest 89 = .ok (.aload_n 0, 1) := by decide +kernel
theorem dX6_digest_90 : decode cX6_digest 90 = .ok (.getfield 10, 3) := by decide +kernel
theorem dX6_digest_93 : decode cX6_digest 93 = .ok (.getfield 126, 3) := by decide +kernel
theorem dX6_digest_96 : decode cX6_digest 96 = .ok (.iload_n 3, 1) := by decide +kernel
theorem dX6_digest_97 : decode cX6_digest 97 = .ok (.iaload, 1) := by decide +kernel
theorem dX6_digest_98 : decode cX6_digest 98 = .ok (.i2l, 1) := by decide +kernel
theorem dX6_digest_99 : decode cX6_digest 99 = .ok (.ladd, 1) := by decide +kernel
theorem dX6_digest_100 : decode cX6_digest 100 = .ok (.lstore_n 1, 1) := by decide +kernel
theorem dX6_digest_101 : decode cX6_digest 101 = .ok (.ldc2_w 310, 3) := by decide +kernel
theorem dX6_digest_104 : decode cX6_digest 104 = .ok (.lload_n 1, 1) := by decide +kernel
theorem dX6_digest_105 : decode cX6_digest 105 = .ok (.lmul, 1) := by decide +kernel
theorem dX6_digest_106 : decode cX6_digest 106 = .ok (.aload_n 0, 1) := by decide +kernel
theorem dX6_digest_107 : decode cX6_digest 107 = .ok (.getfield 10, 3) := by decide +kernel
theorem dX6_digest_110 : decode cX6_digest 110 = .ok (.getfield 190, 3) := by decide +kernel
theorem dX6_digest_113 : decode cX6_digest 113 = .ok (.iload_n 3, 1) := by decide +kernel
theorem dX6_digest_114 : decode cX6_digest 114 = .ok (.iaload, 1) := by decide +kernel
theorem dX6_digest_115 : decode cX6_digest 115 = .ok (.i2l, 1) := by decide +kernel
theorem dX6_digest_116 : decode cX6_digest 116 = .ok (.ladd, 1) := by decide +kernel
theorem dX6_digest_117 : decode cX6_digest 117 = .ok (.lstore_n 1, 1) := by decide +kernel
theorem dX6_digest_118 : decode cX6_digest 118 = .ok (.iinc 3 1, 3) := by decide +kernel
theorem dX6_digest_121 : decode cX6_digest 121 = .ok (.goto (-115), 3) := by decide +kernel
theorem dX6_digest_124 : decode cX6_digest 124 = .ok (.lload_n 1, 1) := by decide +kernel
theorem dX6_digest_125 : decode cX6_digest 125 = .ok (.lreturn, 1) := by decide +kernel
theorem dX6_count_0 : decode cX6_count 0 = .ok (.iload_n 1, 1) := by decide +kernel
theorem dX6_count_1 : decode cX6_count 1 = .ok (.tableswitch 112 0 7 #[47, 55, 65, 73, 81, 89, 97, 102], 47) := by decide +kernel
theorem dX6_count_48 : decode cX6_count 48 = .ok (.aload_n 0, 1) := by decide +kernel
theorem dX6_count_49 : decode cX6_count 49 = .ok (.getfield 10, 3) := by decide +kernel
theorem dX6_count_52 : decode cX6_count 52 = .ok (.getfield 83, 3) := by decide +kernel
theorem dX6_count_55 : decode cX6_count 55 = .ok (.ireturn, 1) := by decide +kernel
theorem dX6_count_56 : decode cX6_count 56 = .ok (.aload_n 0, 1) := by decide +kernel
theorem dX6_count_57 : decode cX6_count 57 = .ok (.getfield 10, 3) := by decide +kernel
theorem dX6_count_60 : decode cX6_count 60 = .ok (.iconst (-1), 1) := by decide +kernel
theorem dX6_count_61 : decode cX6_count 61 = .ok (.iconst (-1), 1) := by decide +kernel
theorem dX6_count_62 : decode cX6_count 62 = .ok (.invokevirtual 136, 3) := by decide +kernel
theorem dX6_count_65 : decode cX6_count 65 = .ok (.ireturn, 1) := by decide +kernel
theorem dX6_count_66 : decode cX6_count 66 = .ok (.aload_n 0, 1) := by decide +kernel
theorem dX6_count_67 : decode cX6_count 67 = .ok (.getfield 10, 3) := by decide +kernel
theorem dX6_count_70 : decode cX6_count 70 = .ok (.getfield 109, 3) := by decide +kernel
theorem dX6_count_73 : decode cX6_count 73 = .ok (.ireturn, 1) := by decide +kernel
theorem dX6_count_74 : decode cX6_count 74 = .ok (.aload_n 0, 1) := by decide +kernel
theorem dX6_count_75 : decode cX6_count 75 = .ok (.getfield 10, 3) := by decide +kernel
theorem dX6_count_78 : decode cX6_count 78 = .ok (.getfield 173, 3) := by decide +kernel
theorem dX6_count_81 : decode cX6_count 81 = .ok (.ireturn, 1) := by decide +kernel
theorem dX6_count_82 : decode cX6_count 82 = .ok (.aload_n 0, 1) := by decide +kernel
theorem dX6_count_83 : decode cX6_count 83 = .ok (.getfield 19, 3) := by decide +kernel
theorem dX6_count_86 : decode cX6_count 86 = .ok (.getfield 180, 3) := by decide +kernel
theorem dX6_count_89 : decode cX6_count 89 = .ok (.ireturn, 1) := by decide +kernel
theorem dX6_count_90 : decode cX6_count 90 = .ok (.aload_n 0, 1) := by decide +kernel
theorem dX6_count_91 : decode cX6_count 91 = .ok (.getfield 26, 3) := by decide +kernel
theorem dX6_count_94 : decode cX6_count 94 = .ok (.getfield 55, 3) := by decide +kernel
theorem dX6_count_97 : decode cX6_count 97 = .ok (.ireturn, 1) := by decide +kernel
theorem dX6_count_98 : decode cX6_count 98 = .ok (.aload_n 0, 1) := by decide +kernel
theorem dX6_count_99 : decode cX6_count 99 = .ok (.getfield 51, 3) := by decide +kernel
theorem dX6_count_102 : decode cX6_count 102 = .ok (.ireturn, 1) := by decide +kernel
theorem dX6_count_103 : decode cX6_count 103 = .ok (.aload_n 0, 1) := by decide +kernel
theorem dX6_count_104 : decode cX6_count 104 = .ok (.getfield 10, 3) := by decide +kernel
theorem dX6_count_107 : decode cX6_count 107 = .ok (.iconst (-1), 1) := by decide +kernel
theorem dX6_count_108 : decode cX6_count 108 = .ok (.iconst (-1), 1) := by decide +kernel
theorem dX6_count_109 : decode cX6_count 109 = .ok (.invokevirtual 166, 3) := by decide +kernel
theorem dX6_count_112 : decode cX6_count 112 = .ok (.ireturn, 1) := by decide +kernel
theorem dX6_count_113 : decode cX6_count 113 = .ok (.iconst (-1), 1) := by decide +kernel
theorem dX6_count_114 : decode cX6_count 114 = .ok (.ireturn, 1) := by decide +kernel
theorem dX6_weightOfSample_0 : decode cX6_weightOfSample 0 = .ok (.aload_n 0, 1) := by decide +kernel
theorem dX6_weightOfSample_1 : decode cX6_weightOfSample 1 = .ok (.getfield 37, 3) := by decide +kernel
theorem dX6_weightOfSample_4 : decode cX6_weightOfSample 4 = .ok (.aload_n 0, 1) := by decide +kernel
theorem dX6_weightOfSample_5 : decode cX6_weightOfSample 5 = .ok (.getfield 10, 3) := by decide +kernel
theorem dX6_weightOfSample_8 : decode cX6_weightOfSample 8 = .ok (.iload_n 1, 1) := by decide +kernel
theorem dX6_weightOfSample_9 : decode cX6_weightOfSample 9 = .ok (.invokevirtual 150, 3) := by decide +kernel
theorem dX6_weightOfSample_12 : decode cX6_weightOfSample 12 = .ok (.iconst 0, 1) := by decide +kernel
theorem dX6_weightOfSample_13 : decode cX6_weightOfSample 13 = .ok (.istore_n 2, 1) := by decide +kernel
theorem dX6_weightOfSample_14 : decode cX6_weightOfSample 14 = .ok (.iconst 0, 1) := by decide +kernel
theorem dX6_weightOfSample_15 : decode cX6_weightOfSample 15 = .ok (.istore_n 3, 1) := by decide +kernel
theorem dX6_weightOfSample_16 : decode cX6_weightOfSample 16 = .ok (.iload_n 3, 1) := by decide +kernel
theorem dX6_weightOfSample_17 : decode cX6_weightOfSample 17 = .ok (.aload_n 0, 1) := by decide +kernel
theorem dX6_weightOfSample_18 : decode cX6_weightOfSample 18 = .ok (.getfield 37, 3) := by decide +kernel
theorem dX6_weightOfSample_21 : decode cX6_weightOfSample 21 = .ok (.getfield 154, 3) := by decide +kernel
theorem dX6_weightOfSample_24 : decode cX6_weightOfSample 24 = .ok (.if_icmp .ge 29, 3) := by decide +kernel
theorem dX6_weightOfSample_27 : decode cX6_weightOfSample 27 = .ok (.iload_n 2, 1) := by decide +kernel
theorem dX6_weightOfSample_28 : decode cX6_weightOfSample 28 = .ok (.aload_n 0, 1) := by decide +kernel
theorem dX6_weightOfSample_29 : decode cX6_weightOfSample 29 = .ok (.getfield 10, 3) := by decide +kernel
theorem dX6_weightOfSample_32 : decode cX6_weightOfSample 32 = .ok (.getfield 123, 3) := by decide +kernel
theorem dX6_weightOfSample_35 : decode cX6_weightOfSample 35 = .ok (.aload_n 0, 1) := by decide +kernel
theorem dX6_weightOfSample_36 : decode cX6_weightOfSample 36 = .ok (.getfield 37, 3) := by decide +kernel
theorem dX6_weightOfSample_39 : decode cX6_weightOfSample 39 = .ok (.getfield 227, 3) := by decide +kernel
theorem dX6_weightOfSample_42 : decode cX6_weightOfSample 42 = .ok (.iload_n 3, 1) := by decide +kernel
theorem dX6_weightOfSample_43 : decode cX6_weightOfSample 43 = .ok (.iaload, 1) := by decide +kernel
theorem dX6_weightOfSample_44 : decode cX6_weightOfSample 44 = .ok (.iaload, 1) := by decide +kernel
theorem dX6_weightOfSample_45 : decode cX6_weightOfSample 45 = .ok (.iadd, 1) := by decide +kernel
theorem dX6_weightOfSample_46 : decode cX6_weightOfSample 46 = .ok (.istore_n 2, 1) := by decide +kernel
theorem dX6_weightOfSample_47 : decode cX6_weightOfSample 47 = .ok (.iinc 3 1, 3) := by decide +kernel
theorem dX6_weightOfSample_50 : decode cX6_weightOfSample 50 = .ok (.goto (-34), 3) := by decide +kernel
theorem dX6_weightOfSample_53 : decode cX6_weightOfSample 53 = .ok (.iload_n 2, 1) := by decide +kernel
theorem dX6_weightOfSample_54 : decode cX6_weightOfSample 54 = .ok (.ireturn, 1) := by decide +kernel
theorem dX6_isWithin_0 : decode cX6_isWithin 0 = .ok (.iload_n 0, 1) := by decide +kernel
theorem dX6_isWithin_1 : decode cX6_isWithin 1 = .ok (.iload_n 1, 1) := by decide +kernel
theorem dX6_isWithin_2 : decode cX6_isWithin 2 = .ok (.if_icmp .lt 12, 3) := by decide +kernel
theorem dX6_isWithin_5 : decode cX6_isWithin 5 = .ok (.iload_n 0, 1) := by decide +kernel
theorem dX6_isWithin_6 : decode cX6_isWithin 6 = .ok (.iload_n 2, 1) := by decide +kernel
theorem dX6_isWithin_7 : decode cX6_isWithin 7 = .ok (.if_icmp .gt 7, 3) := by decide +kernel
theorem dX6_isWithin_10 : decode cX6_isWithin 10 = .ok (.iconst 1, 1) := by decide +kernel
theorem dX6_isWithin_11 : decode cX6_isWithin 11 = .ok (.goto 4, 3) := by decide +kernel
theorem dX6_isWithin_14 : decode cX6_isWithin 14 = .ok (.iconst 0, 1) := by decide +kernel
theorem dX6_isWithin_15 : decode cX6_isWithin 15 = .ok (.ireturn, 1) := by decide +kernel
theorem dX6_isShard_0 : decode cX6_isShard 0 = .ok (.iload_n 0, 1) := by decide +kernel
theorem dX6_isShard_1 : decode cX6_isShard 1 = .ok (.iconst 0, 1) := by decide +kernel
theorem dX6_isShard_2 : decode cX6_isShard 2 = .ok (.iconst 3, 1) := by decide +kernel
theorem dX6_isShard_3 : decode cX6_isShard 3 = .ok (.invokestatic 62, 3) := by decide +kernel
theorem dX6_isShard_6 : decode cX6_isShard 6 = .ok (.ireturn, 1) := by decide +kernel
theorem dX6_isSet_0 : decode cX6_isSet 0 = .ok (.iload_n 0, 1) := by decide +kernel
theorem dX6_isSet_1 : decode cX6_isSet 1 = .ok (.iconst 1, 1) := by decide +kernel
theorem dX6_isSet_2 : decode cX6_isSet 2 = .ok (.bipush 15, 2) := by decide +kernel
theorem dX6_isSet_4 : decode cX6_isSet 4 = .ok (.invokestatic 62, 3) := by decide +kernel
theorem dX6_isSet_7 : decode cX6_isSet 7 = .ok (.ireturn, 1) := by decide +kernel
theorem dX6_isLabel_0 : decode cX6_isLabel 0 = .ok (.iload_n 0, 1) := by decide +kernel
theorem dX6_isLabel_1 : decode cX6_isLabel 1 = .ok (.iconst 0, 1) := by decide +kernel
theorem dX6_isLabel_2 : decode cX6_isLabel 2 = .ok (.bipush 25, 2) := by decide +kernel
theorem dX6_isLabel_4 : decode cX6_isLabel 4 = .ok (.invokestatic 62, 3) := by decide +kernel
theorem dX6_isLabel_7 : decode cX6_isLabel 7 = .ok (.ireturn, 1) := by decide +kernel
theorem dX6_isWeight_0 : decode cX6_isWeight 0 = .ok (.iload_n 0, 1) := by decide +kernel
theorem dX6_isWeight_1 : decode cX6_isWeight 1 = .ok (.iconst 1, 1) := by decide +kernel
theorem dX6_isWeight_2 : decode cX6_isWeight 2 = .ok (.bipush 20, 2) := by decide +kernel
theorem dX6_isWeight_4 : decode cX6_isWeight 4 = .ok (.invokestatic 62, 3) := by decide +kernel
theorem dX6_isWeight_7 : decode cX6_isWeight 7 = .ok (.ireturn, 1) := by decide +kernel
theorem dX6_isLot_0 : decode cX6_isLot 0 = .ok (.iload_n 0, 1) := by decide +kernel
theorem dX6_isLot_1 : decode cX6_isLot 1 = .ok (.iconst 1, 1) := by decide +kernel
theorem dX6_isLot_2 : decode cX6_isLot 2 = .ok (.sipush 1023, 3) := by decide +kernel
theorem dX6_isLot_5 : decode cX6_isLot 5 = .ok (.invokestatic 62, 3) := by decide +kernel
theorem dX6_isLot_8 : decode cX6_isLot 8 = .ok (.ireturn, 1) := by decide +kernel
theorem dX6_isShelf_0 : decode cX6_isShelf 0 = .ok (.iload_n 0, 1) := by decide +kernel
theorem dX6_isShelf_1 : decode cX6_isShelf 1 = .ok (.iconst 0, 1) := by decide +kernel
theorem dX6_isShelf_2 : decode cX6_isShelf 2 = .ok (.iconst 1, 1) := by decide +kernel
theorem dX6_isShelf_3 : decode cX6_isShelf 3 = .ok (.invokestatic 62, 3) := by decide +kernel
theorem dX6_isShelf_6 : decode cX6_isShelf 6 = .ok (.ireturn, 1) := by decide +kernel
theorem dX6_isKept_0 : decode cX6_isKept 0 = .ok (.aload_n 0, 1) := by decide +kernel
theorem dX6_isKept_1 : decode cX6_isKept 1 = .ok (.getfield 51, 3) := by decide +kernel
theorem dX6_isKept_4 : decode cX6_isKept 4 = .ok (.iload_n 1, 1) := by decide +kernel
theorem dX6_isKept_5 : decode cX6_isKept 5 = .ok (.ishr, 1) := by decide +kernel
theorem dX6_isKept_6 : decode cX6_isKept 6 = .ok (.iconst 1, 1) := by decide +kernel
theorem dX6_isKept_7 : decode cX6_isKept 7 = .ok (.iand, 1) := by decide +kernel
theorem dX6_isKept_8 : decode cX6_isKept 8 = .ok (.iconst 1, 1) := by decide +kernel
theorem dX6_isKept_9 : decode cX6_isKept 9 = .ok (.if_icmp .ne 7, 3) := by decide +kernel
theorem dX6_isKept_12 : decode cX6_isKept 12 = .ok (.iconst 1, 1) := by decide +kernel
theorem dX6_isKept_13 : decode cX6_isKept 13 = .ok (.goto 4, 3) := by decide +kernel
theorem dX6_isKept_16 : decode cX6_isKept 16 = .ok (.iconst 0, 1) := by decide +kernel
theorem dX6_isKept_17 : decode cX6_isKept 17 = .ok (.ireturn, 1) := by decide +kernel
theorem dX6_seedOfNextLot_0 : decode cX6_seedOfNextLot 0 = .ok (.iload_n 0, 1) := by decide +kernel
theorem dX6_seedOfNextLot_1 : decode cX6_seedOfNextLot 1 = .ok (.istore_n 1, 1) := by decide +kernel
theorem dX6_seedOfNextLot_2 : decode cX6_seedOfNextLot 2 = .ok (.iconst 0, 1) := by decide +kernel
theorem dX6_seedOfNextLot_3 : decode cX6_seedOfNextLot 3 = .ok (.istore_n 2, 1) := by decide +kernel
theorem dX6_seedOfNextLot_4 : decode cX6_seedOfNextLot 4 = .ok (.iload_n 2, 1) := by decide +kernel
theorem dX6_seedOfNextLot_5 : decode cX6_seedOfNextLot 5 = .ok (.ldc 172, 2) := by decide +kernel
theorem dX6_seedOfNextLot_7 : decode cX6_seedOfNextLot 7 = .ok (.if_icmp .gt 32, 3) := by decide +kernel
theorem dX6_seedOfNextLot_10 : decode cX6_seedOfNextLot 10 = .ok (.sipush 25173, 3) := by decide +kernel
theorem dX6_seedOfNextLot_13 : decode cX6_seedOfNextLot 13 = .ok (.iload_n 1, 1) := by decide +kernel
theorem dX6_seedOfNextLot_14 : decode cX6_seedOfNextLot 14 = .ok (.imul, 1) := by decide +kernel
theorem dX6_seedOfNextLot_15 : decode cX6_seedOfNextLot 15 = .ok (.sipush 13849, 3) := by decide +kernel
theorem dX6_seedOfNextLot_18 : decode cX6_seedOfNextLot 18 = .ok (.iadd, 1) := by decide +kernel
theorem dX6_seedOfNextLot_19 : decode cX6_seedOfNextLot 19 = .ok (.ldc 172, 2) := by decide +kernel
theorem dX6_seedOfNextLot_21 : decode cX6_seedOfNextLot 21 = .ok (.iand, 1) := by decide +kernel
theorem dX6_seedOfNextLot_22 : decode cX6_seedOfNextLot 22 = .ok (.istore_n 1, 1) := by decide +kernel
theorem dX6_seedOfNextLot_23 : decode cX6_seedOfNextLot 23 = .ok (.iload_n 1, 1) := by decide +kernel
theorem dX6_seedOfNextLot_24 : decode cX6_seedOfNextLot 24 = .ok (.invokestatic 251, 3) := by decide +kernel
theorem dX6_seedOfNextLot_27 : decode cX6_seedOfNextLot 27 = .ok (.ifCond .le 6, 3) := by decide +kernel
theorem dX6_seedOfNextLot_30 : decode cX6_seedOfNextLot 30 = .ok (.goto 9, 3) := by decide +kernel
theorem dX6_seedOfNextLot_33 : decode cX6_seedOfNextLot 33 = .ok (.iinc 2 1, 3) := by decide +kernel
theorem dX6_seedOfNextLot_36 : decode cX6_seedOfNextLot 36 = .ok (.goto (-32), 3) := by decide +kernel
theorem dX6_seedOfNextLot_39 : decode cX6_seedOfNextLot 39 = .ok (.iload_n 1, 1) := by decide +kernel
theorem dX6_seedOfNextLot_40 : decode cX6_seedOfNextLot 40 = .ok (.ireturn, 1) := by decide +kernel
theorem dX6_lotOfSeed_0 : decode cX6_lotOfSeed 0 = .ok (.iload_n 0, 1) := by decide +kernel
theorem dX6_lotOfSeed_1 : decode cX6_lotOfSeed 1 = .ok (.bipush 6, 2) := by decide +kernel
theorem dX6_lotOfSeed_3 : decode cX6_lotOfSeed 3 = .ok (.ishr, 1) := by decide +kernel
theorem dX6_lotOfSeed_4 : decode cX6_lotOfSeed 4 = .ok (.ireturn, 1) := by decide +kernel
