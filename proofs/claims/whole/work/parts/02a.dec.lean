theorem dX0_init_0 : decode cX0_init 0 = .ok (.aload_n 0, 1) := by decide +kernel
theorem dX0_init_1 : decode cX0_init 1 = .ok (.invokespecial 3, 3) := by decide +kernel
theorem dX0_init_4 : decode cX0_init 4 = .ok (.aload_n 0, 1) := by decide +kernel
theorem dX0_init_5 : decode cX0_init 5 = .ok (.bipush 10, 2) := by decide +kernel
theorem dX0_init_7 : decode cX0_init 7 = .ok (.anewarray 9, 3) := by decide +kernel
theorem dX0_init_10 : decode cX0_init 10 = .ok (.putfield 11, 3) := by decide +kernel
theorem dX0_init_13 : decode cX0_init 13 = .ok (.aload_n 0, 1) := by decide +kernel
theorem dX0_init_14 : decode cX0_init 14 = .ok (.iconst 0, 1) := by decide +kernel
theorem dX0_init_15 : decode cX0_init 15 = .ok (.putfield 17, 3) := by decide +kernel
theorem dX0_init_18 : decode cX0_init 18 = .ok (.aload_n 0, 1) := by decide +kernel
theorem dX0_init_19 : decode cX0_init 19 = .ok (.iconst 0, 1) := by decide +kernel
theorem dX0_init_20 : decode cX0_init 20 = .ok (.putfield 21, 3) := by decide +kernel
theorem dX0_init_23 : decode cX0_init 23 = .ok (.iconst 0, 1) := by decide +kernel
theorem dX0_init_24 : decode cX0_init 24 = .ok (.istore_n 1, 1) := by decide +kernel
theorem dX0_init_25 : decode cX0_init 25 = .ok (.iload_n 1, 1) := by decide +kernel
theorem dX0_init_26 : decode cX0_init 26 = .ok (.bipush 10, 2) := by decide +kernel
theorem dX0_init_28 : decode cX0_init 28 = .ok (.if_icmp .ge 22, 3) := by decide +kernel
theorem dX0_init_31 : decode cX0_init 31 = .ok (.aload_n 0, 1) := by decide +kernel
theorem dX0_init_32 : decode cX0_init 32 = .ok (.getfield 11, 3) := by decide +kernel
theorem dX0_init_35 : decode cX0_init 35 = .ok (.iload_n 1, 1) := by decide +kernel
theorem dX0_init_36 : decode cX0_init 36 = .ok (.new 9, 3) := by decide +kernel
theorem dX0_init_39 : decode cX0_init 39 = .ok (.dup, 1) := by decide +kernel
theorem dX0_init_40 : decode cX0_init 40 = .ok (.invokespecial 24, 3) := by decide +kernel
theorem dX0_init_43 : decode cX0_init 43 = .ok (.aastore, 1) := by decide +kernel
theorem dX0_init_44 : decode cX0_init 44 = .ok (.iinc 1 1, 3) := by decide +kernel
theorem dX0_init_47 : decode cX0_init 47 = .ok (.goto (-22), 3) := by decide +kernel
theorem dX0_init_50 : decode cX0_init 50 = .ok (.return_, 1) := by decide +kernel
theorem dX0_add_0 : decode cX0_add 0 = .ok (.aload_n 0, 1) := by decide +kernel
theorem dX0_add_1 : decode cX0_add 1 = .ok (.getfield 11, 3) := by decide +kernel
theorem dX0_add_4 : decode cX0_add 4 = .ok (.aload_n 0, 1) := by decide +kernel
theorem dX0_add_5 : decode cX0_add 5 = .ok (.getfield 17, 3) := by decide +kernel
theorem dX0_add_8 : decode cX0_add 8 = .ok (.aaload, 1) := by decide +kernel
theorem dX0_add_9 : decode cX0_add 9 = .ok (.aload_n 1, 1) := by decide +kernel
theorem dX0_add_10 : decode cX0_add 10 = .ok (.invokevirtual 25, 3) := by decide +kernel
theorem dX0_add_13 : decode cX0_add 13 = .ok (.aload_n 0, 1) := by decide +kernel
theorem dX0_add_14 : decode cX0_add 14 = .ok (.aload_n 0, 1) := by decide +kernel
theorem dX0_add_15 : decode cX0_add 15 = .ok (.getfield 17, 3) := by decide +kernel
theorem dX0_add_18 : decode cX0_add 18 = .ok (.iconst 1, 1) := by decide +kernel
theorem dX0_add_19 : decode cX0_add 19 = .ok (.iadd, 1) := by decide +kernel
theorem dX0_add_20 : decode cX0_add 20 = .ok (.bipush 10, 2) := by decide +kernel
theorem dX0_add_22 : decode cX0_add 22 = .ok (.if_icmp .ge 12, 3) := by decide +kernel
theorem dX0_add_25 : decode cX0_add 25 = .ok (.aload_n 0, 1) := by decide +kernel
theorem dX0_add_26 : decode cX0_add 26 = .ok (.getfield 17, 3) := by decide +kernel
theorem dX0_add_29 : decode cX0_add 29 = .ok (.iconst 1, 1) := by decide +kernel
theorem dX0_add_30 : decode cX0_add 30 = .ok (.iadd, 1) := by decide +kernel
theorem dX0_add_31 : decode cX0_add 31 = .ok (.goto 4, 3) := by decide +kernel
theorem dX0_add_34 : decode cX0_add 34 = .ok (.iconst 0, 1) := by decide +kernel
theorem dX0_add_35 : decode cX0_add 35 = .ok (.putfield 17, 3) := by decide +kernel
theorem dX0_add_38 : decode cX0_add 38 = .ok (.aload_n 0, 1) := by decide +kernel
theorem dX0_add_39 : decode cX0_add 39 = .ok (.aload_n 0, 1) := by decide +kernel
theorem dX0_add_40 : decode cX0_add 40 = .ok (.getfield 21, 3) := by decide +kernel
theorem dX0_add_43 : decode cX0_add 43 = .ok (.iconst 1, 1) := by decide +kernel
theorem dX0_add_44 : decode cX0_add 44 = .ok (.iadd, 1) := by decide +kernel
theorem dX0_add_45 : decode cX0_add 45 = .ok (.bipush 10, 2) := by decide +kernel
theorem dX0_add_47 : decode cX0_add 47 = .ok (.invokestatic 29, 3) := by decide +kernel
theorem dX0_add_50 : decode cX0_add 50 = .ok (.putfield 21, 3) := by decide +kernel
theorem dX0_add_53 : decode cX0_add 53 = .ok (.return_, 1) := by decide +kernel
theorem dX0_restore_0 : decode cX0_restore 0 = .ok (.aload_n 0, 1) := by decide +kernel
theorem dX0_restore_1 : decode cX0_restore 1 = .ok (.getfield 21, 3) := by decide +kernel
theorem dX0_restore_4 : decode cX0_restore 4 = .ok (.ifCond .ne 5, 3) := by decide +kernel
theorem dX0_restore_7 : decode cX0_restore 7 = .ok (.iconst 0, 1) := by decide +kernel
theorem dX0_restore_8 : decode cX0_restore 8 = .ok (.ireturn, 1) := by decide +kernel
theorem dX0_restore_9 : decode cX0_restore 9 = .ok (.aload_n 0, 1) := by decide +kernel
theorem dX0_restore_10 : decode cX0_restore 10 = .ok (.aload_n 0, 1) := by decide +kernel
theorem dX0_restore_11 : decode cX0_restore 11 = .ok (.getfield 17, 3) := by decide +kernel
theorem dX0_restore_14 : decode cX0_restore 14 = .ok (.ifCond .le 12, 3) := by decide +kernel
theorem dX0_restore_17 : decode cX0_restore 17 = .ok (.aload_n 0, 1) := by decide +kernel
theorem dX0_restore_18 : decode cX0_restore 18 = .ok (.getfield 17, 3) := by decide +kernel
theorem dX0_restore_21 : decode cX0_restore 21 = .ok (.iconst 1, 1) := by decide +kernel
theorem dX0_restore_22 : decode cX0_restore 22 = .ok (.isub, 1) := by decide +kernel
theorem dX0_restore_23 : decode cX0_restore 23 = .ok (.goto 5, 3) := by decide +kernel
theorem dX0_restore_26 : decode cX0_restore 26 = .ok (.bipush 9, 2) := by decide +kernel
theorem dX0_restore_28 : decode cX0_restore 28 = .ok (.putfield 17, 3) := by decide +kernel
theorem dX0_restore_31 : decode cX0_restore 31 = .ok (.aload_n 0, 1) := by decide +kernel
theorem dX0_restore_32 : decode cX0_restore 32 = .ok (.dup, 1) := by decide +kernel
theorem dX0_restore_33 : decode cX0_restore 33 = .ok (.getfield 21, 3) := by decide +kernel
theorem dX0_restore_36 : decode cX0_restore 36 = .ok (.iconst 1, 1) := by decide +kernel
theorem dX0_restore_37 : decode cX0_restore 37 = .ok (.isub, 1) := by decide +kernel
theorem dX0_restore_38 : decode cX0_restore 38 = .ok (.putfield 21, 3) := by decide +kernel
theorem dX0_restore_41 : decode cX0_restore 41 = .ok (.aload_n 1, 1) := by decide +kernel
theorem dX0_restore_42 : decode cX0_restore 42 = .ok (.aload_n 0, 1) := by decide +kernel
theorem dX0_restore_43 : decode cX0_restore 43 = .ok (.getfield 11, 3) := by decide +kernel
theorem dX0_restore_46 : decode cX0_restore 46 = .ok (.aload_n 0, 1) := by decide +kernel
theorem dX0_restore_47 : decode cX0_restore 47 = .ok (.getfield 17, 3) := by decide +kernel
theorem dX0_restore_50 : decode cX0_restore 50 = .ok (.aaload, 1) := by decide +kernel
theorem dX0_restore_51 : decode cX0_restore 51 = .ok (.invokevirtual 25, 3) := by decide +kernel
theorem dX0_restore_54 : decode cX0_restore 54 = .ok (.iconst 1, 1) := by decide +kernel
theorem dX0_restore_55 : decode cX0_restore 55 = .ok (.ireturn, 1) := by decide +kernel
theorem dX0_clear_0 : decode cX0_clear 0 = .ok (.aload_n 0, 1) := by decide +kernel
theorem dX0_clear_1 : decode cX0_clear 1 = .ok (.iconst 0, 1) := by decide +kernel
theorem dX0_clear_2 : decode cX0_clear 2 = .ok (.putfield 21, 3) := by decide +kernel
theorem dX0_clear_5 : decode cX0_clear 5 = .ok (.return_, 1) := by decide +kernel
theorem dX1_init_0 : decode cX1_init 0 = .ok (.aload_n 0, 1) := by decide +kernel
theorem dX1_init_1 : decode cX1_init 1 = .ok (.invokespecial 5, 3) := by decide +kernel
theorem dX1_init_4 : decode cX1_init 4 = .ok (.aload_n 0, 1) := by decide +kernel
theorem dX1_init_5 : decode cX1_init 5 = .ok (.iconst 5, 1) := by decide +kernel
theorem dX1_init_6 : decode cX1_init 6 = .ok (.newarray .long, 2) := by decide +kernel
theorem dX1_init_8 : decode cX1_init 8 = .ok (.putfield 11, 3) := by decide +kernel
theorem dX1_init_11 : decode cX1_init 11 = .ok (.aload_n 0, 1) := by decide +kernel
theorem dX1_init_12 : decode cX1_init 12 = .ok (.iconst 5, 1) := by decide +kernel
theorem dX1_init_13 : decode cX1_init 13 = .ok (.newarray .long, 2) := by decide +kernel
theorem dX1_init_15 : decode cX1_init 15 = .ok (.putfield 15, 3) := by decide +kernel
theorem dX1_init_18 : decode cX1_init 18 = .ok (.return_, 1) := by decide +kernel
theorem dX1_compare_0 : decode cX1_compare 0 = .ok (.iload_n 2, 1) := by decide +kernel
theorem dX1_compare_1 : decode cX1_compare 1 = .ok (.iload 4, 2) := by decide +kernel
theorem dX1_compare_3 : decode cX1_compare 3 = .ok (.if_icmp .ne 9, 3) := by decide +kernel
theorem dX1_compare_6 : decode cX1_compare 6 = .ok (.iload_n 1, 1) := by decide +kernel
theorem dX1_compare_7 : decode cX1_compare 7 = .ok (.iload_n 3, 1) := by decide +kernel
theorem dX1_compare_8 : decode cX1_compare 8 = .ok (.invokestatic 18, 3) := by decide +kernel
theorem dX1_compare_11 : decode cX1_compare 11 = .ok (.ireturn, 1) := by decide +kernel
theorem dX1_compare_12 : decode cX1_compare 12 = .ok (.iload_n 1, 1) := by decide +kernel
theorem dX1_compare_13 : decode cX1_compare 13 = .ok (.iload_n 3, 1) := by decide +kernel
theorem dX1_compare_14 : decode cX1_compare 14 = .ok (.if_icmp .eq 27, 3) := by decide +kernel
theorem dX1_compare_17 : decode cX1_compare 17 = .ok (.iload_n 1, 1) := by decide +kernel
theorem dX1_compare_18 : decode cX1_compare 18 = .ok (.iload_n 3, 1) := by decide +kernel
theorem dX1_compare_19 : decode cX1_compare 19 = .ok (.if_icmp .le 7, 3) := by decide +kernel
theorem dX1_compare_22 : decode cX1_compare 22 = .ok (.iconst 1, 1) := by decide +kernel
theorem dX1_compare_23 : decode cX1_compare 23 = .ok (.goto 4, 3) := by decide +kernel
theorem dX1_compare_26 : decode cX1_compare 26 = .ok (.iconst 0, 1) := by decide +kernel
theorem dX1_compare_27 : decode cX1_compare 27 = .ok (.iload_n 2, 1) := by decide +kernel
theorem dX1_compare_28 : decode cX1_compare 28 = .ok (.iload 4, 2) := by decide +kernel
theorem dX1_compare_30 : decode cX1_compare 30 = .ok (.if_icmp .le 7, 3) := by decide +kernel
theorem dX1_compare_33 : decode cX1_compare 33 = .ok (.iconst 1, 1) := by decide +kernel
theorem dX1_compare_34 : decode cX1_compare 34 = .ok (.goto 4, 3) := by decide +kernel
theorem dX1_compare_37 : decode cX1_compare 37 = .ok (.iconst 0, 1) := by decide +kernel
theorem dX1_compare_38 : decode cX1_compare 38 = .ok (.if_icmp .ne 10, 3) := by decide +kernel
theorem dX1_compare_41 : decode cX1_compare 41 = .ok (.iload_n 2, 1) := by decide +kernel
theorem dX1_compare_42 : decode cX1_compare 42 = .ok (.iload 4, 2) := by decide +kernel
theorem dX1_compare_44 : decode cX1_compare 44 = .ok (.invokestatic 18, 3) := by decide +kernel
theorem dX1_compare_47 : decode cX1_compare 47 = .ok (.ireturn, 1) := by decide +kernel
theorem dX1_compare_48 : decode cX1_compare 48 = .ok (.iload_n 2, 1) := by decide +kernel
theorem dX1_compare_49 : decode cX1_compare 49 = .ok (.iload 4, 2) := by decide +kernel
theorem dX1_compare_51 : decode cX1_compare 51 = .ok (.invokestatic 24, 3) := by decide +kernel
theorem dX1_compare_54 : decode cX1_compare 54 = .ok (.istore 5, 2) := by decide +kernel
theorem dX1_compare_56 : decode cX1_compare 56 = .ok (.aload_n 0, 1) := by decide +kernel
theorem dX1_compare_57 : decode cX1_compare 57 = .ok (.getfield 11, 3) := by decide +kernel
theorem dX1_compare_60 : decode cX1_compare 60 = .ok (.invokestatic 29, 3) := by decide +kernel
theorem dX1_compare_63 : decode cX1_compare 63 = .ok (.aload_n 0, 1) := by decide +kernel
theorem dX1_compare_64 : decode cX1_compare 64 = .ok (.getfield 11, 3) := by decide +kernel
theorem dX1_compare_67 : decode cX1_compare 67 = .ok (.iload_n 1, 1) := by decide +kernel
theorem dX1_compare_68 : decode cX1_compare 68 = .ok (.iload 4, 2) := by decide +kernel
theorem dX1_compare_70 : decode cX1_compare 70 = .ok (.invokestatic 33, 3) := by decide +kernel
theorem dX1_compare_73 : decode cX1_compare 73 = .ok (.aload_n 0, 1) := by decide +kernel
theorem dX1_compare_74 : decode cX1_compare 74 = .ok (.getfield 11, 3) := by decide +kernel
theorem dX1_compare_77 : decode cX1_compare 77 = .ok (.sipush 1024, 3) := by decide +kernel
theorem dX1_compare_80 : decode cX1_compare 80 = .ok (.iload_n 2, 1) := by decide +kernel
theorem dX1_compare_81 : decode cX1_compare 81 = .ok (.iload 5, 2) := by decide +kernel
theorem dX1_compare_83 : decode cX1_compare 83 = .ok (.isub, 1) := by decide +kernel
theorem dX1_compare_84 : decode cX1_compare 84 = .ok (.invokestatic 33, 3) := by decide +kernel
theorem dX1_compare_87 : decode cX1_compare 87 = .ok (.aload_n 0, 1) := by decide +kernel
theorem dX1_compare_88 : decode cX1_compare 88 = .ok (.getfield 15, 3) := by decide +kernel
theorem dX1_compare_91 : decode cX1_compare 91 = .ok (.invokestatic 29, 3) := by decide +kernel
theorem dX1_compare_94 : decode cX1_compare 94 = .ok (.aload_n 0, 1) := by decide +kernel
theorem dX1_compare_95 : decode cX1_compare 95 = .ok (.getfield 15, 3) := by decide +kernel
theorem dX1_compare_98 : decode cX1_compare 98 = .ok (.iload_n 3, 1) := by decide +kernel
theorem dX1_compare_99 : decode cX1_compare 99 = .ok (.iload_n 2, 1) := by decide +kernel
theorem dX1_compare_100 : decode cX1_compare 100 = .ok (.invokestatic 33, 3) := by decide +kernel
theorem dX1_compare_103 : decode cX1_compare 103 = .ok (.aload_n 0, 1) := by decide +kernel
theorem dX1_compare_104 : decode cX1_compare 104 = .ok (.getfield 15, 3) := by decide +kernel
theorem dX1_compare_107 : decode cX1_compare 107 = .ok (.sipush 1024, 3) := by decide +kernel
theorem dX1_compare_110 : decode cX1_compare 110 = .ok (.iload 4, 2) := by decide +kernel
theorem dX1_compare_112 : decode cX1_compare 112 = .ok (.iload 5, 2) := by decide +kernel
theorem dX1_compare_114 : decode cX1_compare 114 = .ok (.isub, 1) := by decide +kernel
theorem dX1_compare_115 : decode cX1_compare 115 = .ok (.invokestatic 33, 3) := by decide +kernel
theorem dX1_compare_118 : decode cX1_compare 118 = .ok (.aload_n 0, 1) := by decide +kernel
theorem dX1_compare_119 : decode cX1_compare 119 = .ok (.invokevirtual 37, 3) := by decide +kernel
theorem dX1_compare_122 : decode cX1_compare 122 = .ok (.ireturn, 1) := by decide +kernel
theorem dX1_isPart_0 : decode cX1_isPart 0 = .ok (.aload_n 0, 1) := by decide +kernel
theorem dX1_isPart_1 : decode cX1_isPart 1 = .ok (.getfield 11, 3) := by decide +kernel
theorem dX1_isPart_4 : decode cX1_isPart 4 = .ok (.invokestatic 29, 3) := by decide +kernel
theorem dX1_isPart_7 : decode cX1_isPart 7 = .ok (.aload_n 0, 1) := by decide +kernel
theorem dX1_isPart_8 : decode cX1_isPart 8 = .ok (.getfield 11, 3) := by decide +kernel
theorem dX1_isPart_11 : decode cX1_isPart 11 = .ok (.iload_n 1, 1) := by decide +kernel
theorem dX1_isPart_12 : decode cX1_isPart 12 = .ok (.iload 4, 2) := by decide +kernel
theorem dX1_isPart_14 : decode cX1_isPart 14 = .ok (.invokestatic 33, 3) := by decide +kernel
theorem dX1_isPart_17 : decode cX1_isPart 17 = .ok (.aload_n 0, 1) := by decide +kernel
theorem dX1_isPart_18 : decode cX1_isPart 18 = .ok (.getfield 11, 3) := by decide +kernel
theorem dX1_isPart_21 : decode cX1_isPart 21 = .ok (.sipush 1024, 3) := by decide +kernel
theorem dX1_isPart_24 : decode cX1_isPart 24 = .ok (.iconst 1, 1) := by decide +kernel
theorem dX1_isPart_25 : decode cX1_isPart 25 = .ok (.invokestatic 33, 3) := by decide +kernel
theorem dX1_isPart_28 : decode cX1_isPart 28 = .ok (.aload_n 0, 1) := by decide +kernel
theorem dX1_isPart_29 : decode cX1_isPart 29 = .ok (.getfield 15, 3) := by decide +kernel
theorem dX1_isPart_32 : decode cX1_isPart 32 = .ok (.invokestatic 29, 3) := by decide +kernel
theorem dX1_isPart_35 : decode cX1_isPart 35 = .ok (.aload_n 0, 1) := by decide +kernel
theorem dX1_isPart_36 : decode cX1_isPart 36 = .ok (.getfield 15, 3) := by decide +kernel
theorem dX1_isPart_39 : decode cX1_isPart 39 = .ok (.iload_n 2, 1) := by decide +kernel
theorem dX1_isPart_40 : decode cX1_isPart 40 = .ok (.iload 4, 2) := by decide +kernel
theorem dX1_isPart_42 : decode cX1_isPart 42 = .ok (.invokestatic 33, 3) := by decide +kernel
theorem dX1_isPart_45 : decode cX1_isPart 45 = .ok (.aload_n 0, 1) := by decide +kernel
theorem dX1_isPart_46 : decode cX1_isPart 46 = .ok (.getfield 15, 3) := by decide +kernel
theorem dX1_isPart_49 : decode cX1_isPart 49 = .ok (.iload_n 3, 1) := by decide +kernel
theorem dX1_isPart_50 : decode cX1_isPart 50 = .ok (.iconst 1, 1) := by decide +kernel
theorem dX1_isPart_51 : decode cX1_isPart 51 = .ok (.invokestatic 33, 3) := by decide +kernel
theorem dX1_isPart_54 : decode cX1_isPart 54 = .ok (.aload_n 0, 1) := by decide +kernel
theorem dX1_isPart_55 : decode cX1_isPart 55 = .ok (.invokevirtual 37, 3) := by decide +kernel
theorem dX1_isPart_58 : decode cX1_isPart 58 = .ok (.ifCond .gt 7, 3) := by decide +kernel
theorem dX1_isPart_61 : decode cX1_isPart 61 = .ok (.iconst 1, 1) := by decide +kernel
theorem dX1_isPart_62 : decode cX1_isPart 62 = .ok (.goto 4, 3) := by decide +kernel
theorem dX1_isPart_65 : decode cX1_isPart 65 = .ok (.iconst 0, 1) := by decide +kernel
theorem dX1_isPart_66 : decode cX1_isPart 66 = .ok (.ireturn, 1) := by decide +kernel
theorem dX1_setToOne_0 : decode cX1_setToOne 0 = .ok (.iconst 0, 1) := by decide +kernel
theorem dX1_setToOne_1 : decode cX1_setToOne 1 = .ok (.istore_n 1, 1) := by decide +kernel
theorem dX1_setToOne_2 : decode cX1_setToOne 2 = .ok (.iload_n 1, 1) := by decide +kernel
theorem dX1_setToOne_3 : decode cX1_setToOne 3 = .ok (.aload_n 0, 1) := by decide +kernel
theorem dX1_setToOne_4 : decode cX1_setToOne 4 = .ok (.arraylength, 1) := by decide +kernel
theorem dX1_setToOne_5 : decode cX1_setToOne 5 = .ok (.if_icmp .ge 21, 3) := by decide +kernel
theorem dX1_setToOne_8 : decode cX1_setToOne 8 = .ok (.aload_n 0, 1) := by decide +kernel
theorem dX1_setToOne_9 : decode cX1_setToOne 9 = .ok (.iload_n 1, 1) := by decide +kernel
theorem dX1_setToOne_10 : decode cX1_setToOne 10 = .ok (.iload_n 1, 1) := by decide +kernel
theorem dX1_setToOne_11 : decode cX1_setToOne 11 = .ok (.ifCond .ne 7, 3) := by decide +kernel
theorem dX1_setToOne_14 : decode cX1_setToOne 14 = .ok (.lconst 1, 1) := by decide +kernel
theorem dX1_setToOne_15 : decode cX1_setToOne 15 = .ok (.goto 4, 3) := by decide +kernel
theorem dX1_setToOne_18 : decode cX1_setToOne 18 = .ok (.lconst 0, 1) := by decide +kernel
theorem dX1_setToOne_19 : decode cX1_setToOne 19 = .ok (.lastore, 1) := by decide +kernel
theorem dX1_setToOne_20 : decode cX1_setToOne 20 = .ok (.iinc 1 1, 3) := by decide +kernel
theorem dX1_setToOne_23 : decode cX1_setToOne 23 = .ok (.goto (-21), 3) := by decide +kernel
theorem dX1_setToOne_26 : decode cX1_setToOne 26 = .ok (.return_, 1) := by decide +kernel
theorem dX1_multiply_0 : decode cX1_multiply 0 = .ok (.iconst 0, 1) := by decide +kernel
theorem dX1_multiply_1 : decode cX1_multiply 1 = .ok (.istore_n 3, 1) := by decide +kernel
theorem dX1_multiply_2 : decode cX1_multiply 2 = .ok (.iload_n 3, 1) := by decide +kernel
theorem dX1_multiply_3 : decode cX1_multiply 3 = .ok (.iload_n 2, 1) := by decide +kernel
theorem dX1_multiply_4 : decode cX1_multiply 4 = .ok (.if_icmp .ge 57, 3) := by decide +kernel
theorem dX1_multiply_7 : decode cX1_multiply 7 = .ok (.lconst 0, 1) := by decide +kernel
theorem dX1_multiply_8 : decode cX1_multiply 8 = .ok (.lstore 4, 2) := by decide +kernel
theorem dX1_multiply_10 : decode cX1_multiply 10 = .ok (.iconst 0, 1) := by decide +kernel
theorem dX1_multiply_11 : decode cX1_multiply 11 = .ok (.istore 6, 2) := by decide +kernel
theorem dX1_multiply_13 : decode cX1_multiply 13 = .ok (.iload 6, 2) := by decide +kernel
theorem dX1_multiply_15 : decode cX1_multiply 15 = .ok (.aload_n 0, 1) := by decide +kernel
theorem dX1_multiply_16 : decode cX1_multiply 16 = .ok (.arraylength, 1) := by decide +kernel
theorem dX1_multiply_17 : decode cX1_multiply 17 = .ok (.if_icmp .ge 38, 3) := by decide +kernel
theorem dX1_multiply_20 : decode cX1_multiply 20 = .ok (.aload_n 0, 1) := by decide +kernel
theorem dX1_multiply_21 : decode cX1_multiply 21 = .ok (.iload 6, 2) := by decide +kernel
theorem dX1_multiply_23 : decode cX1_multiply 23 = .ok (.laload, 1) := by decide +kernel
theorem dX1_multiply_24 : decode cX1_multiply 24 = .ok (.iload_n 1, 1) := by decide +kernel
theorem dX1_multiply_25 : decode cX1_multiply 25 = .ok (.i2l, 1) := by decide +kernel
theorem dX1_multiply_26 : decode cX1_multiply 26 = .ok (.lmul, 1) := by decide +kernel
theorem dX1_multiply_27 : decode cX1_multiply 27 = .ok (.lload 4, 2) := by decide +kernel
theorem dX1_multiply_29 : decode cX1_multiply 29 = .ok (.ladd, 1) := by decide +kernel
theorem dX1_multiply_30 : decode cX1_multiply 30 = .ok (.lstore 7, 2) := by decide +kernel
theorem dX1_multiply_32 : decode cX1_multiply 32 = .ok (.aload_n 0, 1) := by decide +kernel
theorem dX1_multiply_33 : decode cX1_multiply 33 = .ok (.iload 6, 2) := by decide +kernel
theorem dX1_multiply_35 : decode cX1_multiply 35 = .ok (.lload 7, 2) := by decide +kernel
theorem dX1_multiply_37 : decode cX1_multiply 37 = .ok (.ldc2_w 41, 3) := by decide +kernel
theorem dX1_multiply_40 : decode cX1_multiply 40 = .ok (.land, 1) := by decide +kernel
theorem dX1_multiply_41 : decode cX1_multiply 41 = .ok (.lastore, 1) := by decide +kernel
theorem dX1_multiply_42 : decode cX1_multiply 42 = .ok (.lload 7, 2) := by decide +kernel
theorem dX1_multiply_44 : decode cX1_multiply 44 = .ok (.bipush 50, 2) := by decide +kernel
theorem dX1_multiply_46 : decode cX1_multiply 46 = .ok (.lshr, 1) := by decide +kernel
theorem dX1_multiply_47 : decode cX1_multiply 47 = .ok (.lstore 4, 2) := by decide +kernel
theorem dX1_multiply_49 : decode cX1_multiply 49 = .ok (.iinc 6 1, 3) := by decide +kernel
theorem dX1_multiply_52 : decode cX1_multiply 52 = .ok (.goto (-39), 3) := by decide +kernel
theorem dX1_multiply_55 : decode cX1_multiply 55 = .ok (.iinc 3 1, 3) := by decide +kernel
theorem dX1_multiply_58 : decode cX1_multiply 58 = .ok (.goto (-56), 3) := by decide +kernel
theorem dX1_multiply_61 : decode cX1_multiply 61 = .ok (.return_, 1) := by decide +kernel
theorem dX1_compareRows_0 : decode cX1_compareRows 0 = .ok (.iconst 4, 1) := by decide +kernel
theorem dX1_compareRows_1 : decode cX1_compareRows 1 = .ok (.istore_n 1, 1) := by decide +kernel
theorem dX1_compareRows_2 : decode cX1_compareRows 2 = .ok (.iload_n 1, 1) := by decide +kernel
theorem dX1_compareRows_3 : decode cX1_compareRows 3 = .ok (.ifCond .lt 41, 3) := by decide +kernel
theorem dX1_compareRows_6 : decode cX1_compareRows 6 = .ok (.aload_n 0, 1) := by decide +kernel
theorem dX1_compareRows_7 : decode cX1_compareRows 7 = .ok (.getfield 11, 3) := by decide +kernel
theorem dX1_compareRows_10 : decode cX1_compareRows 10 = .ok (.iload_n 1, 1) := by decide +kernel
theorem dX1_compareRows_11 : decode cX1_compareRows 11 = .ok (.laload, 1) := by decide +kernel
theorem dX1_compareRows_12 : decode cX1_compareRows 12 = .ok (.aload_n 0, 1) := by decide +kernel
theorem dX1_compareRows_13 : decode cX1_compareRows 13 = .ok (.getfield 15, 3) := by decide +kernel
theorem dX1_compareRows_16 : decode cX1_compareRows 16 = .ok (.iload_n 1, 1) := by decide +kernel
theorem dX1_compareRows_17 : decode cX1_compareRows 17 = .ok (.laload, 1) := by decide +kernel
theorem dX1_compareRows_18 : decode cX1_compareRows 18 = .ok (.lcmp, 1) := by decide +kernel
theorem dX1_compareRows_19 : decode cX1_compareRows 19 = .ok (.ifCond .eq 19, 3) := by decide +kernel
theorem dX1_compareRows_22 : decode cX1_compareRows 22 = .ok (.aload_n 0, 1) := by decide +kernel
theorem dX1_compareRows_23 : decode cX1_compareRows 23 = .ok (.getfield 11, 3) := by decide +kernel
theorem dX1_compareRows_26 : decode cX1_compareRows 26 = .ok (.iload_n 1, 1) := by decide +kernel
theorem dX1_compareRows_27 : decode cX1_compareRows 27 = .ok (.laload, 1) := by decide +kernel
theorem dX1_compareRows_28 : decode cX1_compareRows 28 = .ok (.aload_n 0, 1) := by decide +kernel
theorem dX1_compareRows_29 : decode cX1_compareRows 29 = .ok (.getfield 15, 3) := by decide +kernel
theorem dX1_compareRows_32 : decode cX1_compareRows 32 = .ok (.iload_n 1, 1) := by decide +kernel
theorem dX1_compareRows_33 : decode cX1_compareRows 33 = .ok (.laload, 1) := by decide +kernel
theorem dX1_compareRows_34 : decode cX1_compareRows 34 = .ok (.invokestatic 43, 3) := by decide +kernel
theorem dX1_compareRows_37 : decode cX1_compareRows 37 = .ok (.ireturn, 1) := by decide +kernel
theorem dX1_compareRows_38 : decode cX1_compareRows 38 = .ok (.iinc 1 (-1), 3) := by decide +kernel
theorem dX1_compareRows_41 : decode cX1_compareRows 41 = .ok (.goto (-39), 3) := by decide +kernel
theorem dX1_compareRows_44 : decode cX1_compareRows 44 = .ok (.iconst 0, 1) := by decide +kernel
theorem dX1_compareRows_45 : decode cX1_compareRows 45 = .ok (.ireturn, 1) := by decide +kernel
theorem dX2_init_0 : decode cX2_init 0 = .ok (.aload_n 0, 1) := by decide +kernel
theorem dX2_init_1 : decode cX2_init 1 = .ok (.invokespecial 3, 3) := by decide +kernel
theorem dX2_init_4 : decode cX2_init 4 = .ok (.aload_n 0, 1) := by decide +kernel
theorem dX2_init_5 : decode cX2_init 5 = .ok (.bipush 100, 2) := by decide +kernel
theorem dX2_init_7 : decode cX2_init 7 = .ok (.newarray .int, 2) := by decide +kernel
theorem dX2_init_9 : decode cX2_init 9 = .ok (.putfield 9, 3) := by decide +kernel
theorem dX2_init_12 : decode cX2_init 12 = .ok (.aload_n 0, 1) := by decide +kernel
theorem dX2_init_13 : decode cX2_init 13 = .ok (.bipush 26, 2) := by decide +kernel
theorem dX2_init_15 : decode cX2_init 15 = .ok (.newarray .int, 2) := by decide +kernel
theorem dX2_init_17 : decode cX2_init 17 = .ok (.putfield 15, 3) := by decide +kernel
theorem dX2_init_20 : decode cX2_init 20 = .ok (.aload_n 0, 1) := by decide +kernel
theorem dX2_init_21 : decode cX2_init 21 = .ok (.iconst 0, 1) := by decide +kernel
theorem dX2_init_22 : decode cX2_init 22 = .ok (.putfield 18, 3) := by decide +kernel
theorem dX2_init_25 : decode cX2_init 25 = .ok (.return_, 1) := by decide +kernel
theorem dX2_take_0 : decode cX2_take 0 = .ok (.aload_n 0, 1) := by decide +kernel
theorem dX2_take_1 : decode cX2_take 1 = .ok (.aload_n 1, 1) := by decide +kernel
theorem dX2_take_2 : decode cX2_take 2 = .ok (.iload_n 2, 1) := by decide +kernel
theorem dX2_take_3 : decode cX2_take 3 = .ok (.invokevirtual 22, 3) := by decide +kernel
theorem dX2_take_6 : decode cX2_take 6 = .ok (.aload_n 0, 1) := by decide +kernel
theorem dX2_take_7 : decode cX2_take 7 = .ok (.aload_n 1, 1) := by decide +kernel
theorem dX2_take_8 : decode cX2_take 8 = .ok (.invokevirtual 26, 3) := by decide +kernel
theorem dX2_take_11 : decode cX2_take 11 = .ok (.return_, 1) := by decide +kernel
theorem dX2_ask_0 : decode cX2_ask 0 = .ok (.aload_n 0, 1) := by decide +kernel
theorem dX2_ask_1 : decode cX2_ask 1 = .ok (.iconst 1, 1) := by decide +kernel
theorem dX2_ask_2 : decode cX2_ask 2 = .ok (.iload_n 2, 1) := by decide +kernel
theorem dX2_ask_3 : decode cX2_ask 3 = .ok (.ishl, 1) := by decide +kernel
theorem dX2_ask_4 : decode cX2_ask 4 = .ok (.putfield 30, 3) := by decide +kernel
theorem dX2_ask_7 : decode cX2_ask 7 = .ok (.aload_n 0, 1) := by decide +kernel
theorem dX2_ask_8 : decode cX2_ask 8 = .ok (.aload_n 1, 1) := by decide +kernel
theorem dX2_ask_9 : decode cX2_ask 9 = .ok (.getfield 33, 3) := by decide +kernel
theorem dX2_ask_12 : decode cX2_ask 12 = .ok (.iload_n 2, 1) := by decide +kernel
theorem dX2_ask_13 : decode cX2_ask 13 = .ok (.iaload, 1) := by decide +kernel
theorem dX2_ask_14 : decode cX2_ask 14 = .ok (.putfield 38, 3) := by decide +kernel
theorem dX2_ask_17 : decode cX2_ask 17 = .ok (.aload_n 0, 1) := by decide +kernel
theorem dX2_ask_18 : decode cX2_ask 18 = .ok (.aload_n 1, 1) := by decide +kernel
theorem dX2_ask_19 : decode cX2_ask 19 = .ok (.getfield 41, 3) := by decide +kernel
theorem dX2_ask_22 : decode cX2_ask 22 = .ok (.putfield 44, 3) := by decide +kernel
theorem dX2_ask_25 : decode cX2_ask 25 = .ok (.aload_n 0, 1) := by decide +kernel
theorem dX2_ask_26 : decode cX2_ask 26 = .ok (.bipush 100, 2) := by decide +kernel
theorem dX2_ask_28 : decode cX2_ask 28 = .ok (.putfield 45, 3) := by decide +kernel
theorem dX2_ask_31 : decode cX2_ask 31 = .ok (.aload_n 0, 1) := by decide +kernel
theorem dX2_ask_32 : decode cX2_ask 32 = .ok (.iconst (-1), 1) := by decide +kernel
theorem dX2_ask_33 : decode cX2_ask 33 = .ok (.putfield 48, 3) := by decide +kernel
theorem dX2_ask_36 : decode cX2_ask 36 = .ok (.aload_n 0, 1) := by decide +kernel
theorem dX2_ask_37 : decode cX2_ask 37 = .ok (.bipush 100, 2) := by decide +kernel
theorem dX2_ask_39 : decode cX2_ask 39 = .ok (.putfield 51, 3) := by decide +kernel
theorem dX2_ask_42 : decode cX2_ask 42 = .ok (.return_, 1) := by decide +kernel
theorem dX2_fill_0 : decode cX2_fill 0 = .ok (.aload_n 0, 1) := by decide +kernel
theorem dX2_fill_1 : decode cX2_fill 1 = .ok (.iconst 0, 1) := by decide +kernel
theorem dX2_fill_2 : decode cX2_fill 2 = .ok (.putfield 18, 3) := by decide +kernel
theorem dX2_fill_5 : decode cX2_fill 5 = .ok (.iconst 0, 1) := by decide +kernel
theorem dX2_fill_6 : decode cX2_fill 6 = .ok (.istore_n 2, 1) := by decide +kernel
theorem dX2_fill_7 : decode cX2_fill 7 = .ok (.iload_n 2, 1) := by decide +kernel
theorem dX2_fill_8 : decode cX2_fill 8 = .ok (.bipush 26, 2) := by decide +kernel
theorem dX2_fill_10 : decode cX2_fill 10 = .ok (.if_icmp .ge 16, 3) := by decide +kernel
theorem dX2_fill_13 : decode cX2_fill 13 = .ok (.aload_n 0, 1) := by decide +kernel
theorem dX2_fill_14 : decode cX2_fill 14 = .ok (.getfield 15, 3) := by decide +kernel
theorem dX2_fill_17 : decode cX2_fill 17 = .ok (.iload_n 2, 1) := by decide +kernel
theorem dX2_fill_18 : decode cX2_fill 18 = .ok (.iconst 0, 1) := by decide +kernel
theorem dX2_fill_19 : decode cX2_fill 19 = .ok (.iastore, 1) := by decide +kernel
theorem dX2_fill_20 : decode cX2_fill 20 = .ok (.iinc 2 1, 3) := by decide +kernel
theorem dX2_fill_23 : decode cX2_fill 23 = .ok (.goto (-16), 3) := by decide +kernel
theorem dX2_fill_26 : decode cX2_fill 26 = .ok (.iconst 0, 1) := by decide +kernel
theorem dX2_fill_27 : decode cX2_fill 27 = .ok (.istore_n 2, 1) := by decide +kernel
theorem dX2_fill_28 : decode cX2_fill 28 = .ok (.iload_n 2, 1) := by decide +kernel
theorem dX2_fill_29 : decode cX2_fill 29 = .ok (.aload_n 1, 1) := by decide +kernel
theorem dX2_fill_30 : decode cX2_fill 30 = .ok (.getfield 54, 3) := by decide +kernel
theorem dX2_fill_33 : decode cX2_fill 33 = .ok (.if_icmp .ge 89, 3) := by decide +kernel
theorem dX2_fill_36 : decode cX2_fill 36 = .ok (.aload_n 0, 1) := by decide +kernel
theorem dX2_fill_37 : decode cX2_fill 37 = .ok (.getfield 18, 3) := by decide +kernel
theorem dX2_fill_40 : decode cX2_fill 40 = .ok (.aload_n 0, 1) := by decide +kernel
theorem dX2_fill_41 : decode cX2_fill 41 = .ok (.getfield 38, 3) := by decide +kernel
theorem dX2_fill_44 : decode cX2_fill 44 = .ok (.if_icmp .ge 78, 3) := by decide +kernel
theorem dX2_fill_47 : decode cX2_fill 47 = .ok (.aload_n 1, 1) := by decide +kernel
theorem dX2_fill_48 : decode cX2_fill 48 = .ok (.getfield 57, 3) := by decide +kernel
theorem dX2_fill_51 : decode cX2_fill 51 = .ok (.iload_n 2, 1) := by decide +kernel
theorem dX2_fill_52 : decode cX2_fill 52 = .ok (.iaload, 1) := by decide +kernel
theorem dX2_fill_53 : decode cX2_fill 53 = .ok (.istore_n 3, 1) := by decide +kernel
theorem dX2_fill_54 : decode cX2_fill 54 = .ok (.aload_n 1, 1) := by decide +kernel
theorem dX2_fill_55 : decode cX2_fill 55 = .ok (.getfield 60, 3) := by decide +kernel
theorem dX2_fill_58 : decode cX2_fill 58 = .ok (.iload_n 3, 1) := by decide +kernel
theorem dX2_fill_59 : decode cX2_fill 59 = .ok (.iaload, 1) := by decide +kernel
theorem dX2_fill_60 : decode cX2_fill 60 = .ok (.istore 4, 2) := by decide +kernel
theorem dX2_fill_62 : decode cX2_fill 62 = .ok (.aload_n 0, 1) := by decide +kernel
theorem dX2_fill_63 : decode cX2_fill 63 = .ok (.aload_n 1, 1) := by decide +kernel
theorem dX2_fill_64 : decode cX2_fill 64 = .ok (.iload_n 3, 1) := by decide +kernel
theorem dX2_fill_65 : decode cX2_fill 65 = .ok (.invokevirtual 63, 3) := by decide +kernel
theorem dX2_fill_68 : decode cX2_fill 68 = .ok (.ifCond .eq 48, 3) := by decide +kernel
theorem dX2_fill_71 : decode cX2_fill 71 = .ok (.aload_n 0, 1) := by decide +kernel
theorem dX2_fill_72 : decode cX2_fill 72 = .ok (.getfield 15, 3) := by decide +kernel
theorem dX2_fill_75 : decode cX2_fill 75 = .ok (.iload 4, 2) := by decide +kernel
theorem dX2_fill_77 : decode cX2_fill 77 = .ok (.iaload, 1) := by decide +kernel
theorem dX2_fill_78 : decode cX2_fill 78 = .ok (.aload_n 0, 1) := by decide +kernel
theorem dX2_fill_79 : decode cX2_fill 79 = .ok (.getfield 51, 3) := by decide +kernel
theorem dX2_fill_82 : decode cX2_fill 82 = .ok (.if_icmp .ge 34, 3) := by decide +kernel
theorem dX2_fill_85 : decode cX2_fill 85 = .ok (.aload_n 0, 1) := by decide +kernel
theorem dX2_fill_86 : decode cX2_fill 86 = .ok (.getfield 9, 3) := by decide +kernel
theorem dX2_fill_89 : decode cX2_fill 89 = .ok (.aload_n 0, 1) := by decide +kernel
theorem dX2_fill_90 : decode cX2_fill 90 = .ok (.getfield 18, 3) := by decide +kernel
theorem dX2_fill_93 : decode cX2_fill 93 = .ok (.iload_n 3, 1) := by decide +kernel
theorem dX2_fill_94 : decode cX2_fill 94 = .ok (.iastore, 1) := by decide +kernel
theorem dX2_fill_95 : decode cX2_fill 95 = .ok (.aload_n 0, 1) := by decide +kernel
theorem dX2_fill_96 : decode cX2_fill 96 = .ok (.dup, 1) := by decide +kernel
theorem dX2_fill_97 : decode cX2_fill 97 = .ok (.getfield 18, 3) := by decide +kernel
theorem dX2_fill_100 : decode cX2_fill 100 = .ok (.iconst 1, 1) := by decide +kernel
theorem dX2_fill_101 : decode cX2_fill 101 = .ok (.iadd, 1) := by decide +kernel
theorem dX2_fill_102 : decode cX2_fill 102 = .ok (.putfield 18, 3) := by decide +kernel
theorem dX2_fill_105 : decode cX2_fill 105 = .ok (.aload_n 0, 1) := by decide +kernel
theorem dX2_fill_106 : decode cX2_fill 106 = .ok (.getfield 15, 3) := by decide +kernel
theorem dX2_fill_109 : decode cX2_fill 109 = .ok (.iload 4, 2) := by decide +kernel
theorem dX2_fill_111 : decode cX2_fill 111 = .ok (.dup2, 1) := by decide +kernel
theorem dX2_fill_112 : decode cX2_fill 112 = .ok (.iaload, 1) := by decide +kernel
theorem dX2_fill_113 : decode cX2_fill 113 = .ok (.iconst 1, 1) := by decide +kernel
theorem dX2_fill_114 : decode cX2_fill 114 = .ok (.iadd, 1) := by decide +kernel
theorem dX2_fill_115 : decode cX2_fill 115 = .ok (.iastore, 1) := by decide +kernel
theorem dX2_fill_116 : decode cX2_fill 116 = .ok (.iinc 2 1, 3) := by decide +kernel
theorem dX2_fill_119 : decode cX2_fill 119 = .ok (.goto (-91), 3) := by decide +kernel
theorem dX2_fill_122 : decode cX2_fill 122 = .ok (.return_, 1) := by decide +kernel
theorem dX2_isAskedFor_0 : decode cX2_isAskedFor 0 = .ok (.aload_n 0, 1) := by decide +kernel
theorem dX2_isAskedFor_1 : decode cX2_isAskedFor 1 = .ok (.getfield 30, 3) := by decide +kernel
theorem dX2_isAskedFor_4 : decode cX2_isAskedFor 4 = .ok (.aload_n 1, 1) := by decide +kernel
theorem dX2_isAskedFor_5 : decode cX2_isAskedFor 5 = .ok (.getfield 67, 3) := by decide +kernel
theorem dX2_isAskedFor_8 : decode cX2_isAskedFor 8 = .ok (.iload_n 2, 1) := by decide +kernel
theorem dX2_isAskedFor_9 : decode cX2_isAskedFor 9 = .ok (.iaload, 1) := by decide +kernel
theorem dX2_isAskedFor_10 : decode cX2_isAskedFor 10 = .ok (.ishr, 1) := by decide +kernel
theorem dX2_isAskedFor_11 : decode cX2_isAskedFor 11 = .ok (.iconst 1, 1) := by decide +kernel
theorem dX2_isAskedFor_12 : decode cX2_isAskedFor 12 = .ok (.iand, 1) := by decide +kernel
theorem dX2_isAskedFor_13 : decode cX2_isAskedFor 13 = .ok (.iconst 1, 1) := by decide +kernel
theorem dX2_isAskedFor_14 : decode cX2_isAskedFor 14 = .ok (.if_icmp .ne 35, 3) := by decide +kernel
theorem dX2_isAskedFor_17 : decode cX2_isAskedFor 17 = .ok (.iload_n 2, 1) := by decide +kernel
theorem dX2_isAskedFor_18 : decode cX2_isAskedFor 18 = .ok (.aload_n 0, 1) := by decide +kernel
theorem dX2_isAskedFor_19 : decode cX2_isAskedFor 19 = .ok (.getfield 45, 3) := by decide +kernel
theorem dX2_isAskedFor_22 : decode cX2_isAskedFor 22 = .ok (.if_icmp .gt 27, 3) := by decide +kernel
theorem dX2_isAskedFor_25 : decode cX2_isAskedFor 25 = .ok (.iload_n 2, 1) := by decide +kernel
theorem dX2_isAskedFor_26 : decode cX2_isAskedFor 26 = .ok (.aload_n 0, 1) := by decide +kernel
theorem dX2_isAskedFor_27 : decode cX2_isAskedFor 27 = .ok (.getfield 48, 3) := by decide +kernel
theorem dX2_isAskedFor_30 : decode cX2_isAskedFor 30 = .ok (.if_icmp .eq 19, 3) := by decide +kernel
theorem dX2_isAskedFor_33 : decode cX2_isAskedFor 33 = .ok (.aload_n 1, 1) := by decide +kernel
theorem dX2_isAskedFor_34 : decode cX2_isAskedFor 34 = .ok (.iload_n 2, 1) := by decide +kernel
theorem dX2_isAskedFor_35 : decode cX2_isAskedFor 35 = .ok (.aload_n 0, 1) := by decide +kernel
theorem dX2_isAskedFor_36 : decode cX2_isAskedFor 36 = .ok (.getfield 44, 3) := by decide +kernel
theorem dX2_isAskedFor_39 : decode cX2_isAskedFor 39 = .ok (.invokevirtual 70, 3) := by decide +kernel
theorem dX2_isAskedFor_42 : decode cX2_isAskedFor 42 = .ok (.ifCond .eq 7, 3) := by decide +kernel
theorem dX2_isAskedFor_45 : decode cX2_isAskedFor 45 = .ok (.iconst 1, 1) := by decide +kernel
theorem dX2_isAskedFor_46 : decode cX2_isAskedFor 46 = .ok (.goto 4, 3) := by decide +kernel
theorem dX2_isAskedFor_49 : decode cX2_isAskedFor 49 = .ok (.iconst 0, 1) := by decide +kernel
theorem dX2_isAskedFor_50 : decode cX2_isAskedFor 50 = .ok (.ireturn, 1) := by decide +kernel
theorem dX2_kth_0 : decode cX2_kth 0 = .ok (.iload_n 1, 1) := by decide +kernel
theorem dX2_kth_1 : decode cX2_kth 1 = .ok (.iconst (-1), 1) := by decide +kernel
theorem dX2_kth_2 : decode cX2_kth 2 = .ok (.if_icmp .ne 8, 3) := by decide +kernel
theorem dX2_kth_5 : decode cX2_kth 5 = .ok (.aload_n 0, 1) := by decide +kernel
theorem dX2_kth_6 : decode cX2_kth 6 = .ok (.getfield 18, 3) := by decide +kernel
theorem dX2_kth_9 : decode cX2_kth 9 = .ok (.ireturn, 1) := by decide +kernel
theorem dX2_kth_10 : decode cX2_kth 10 = .ok (.iload_n 1, 1) := by decide +kernel
theorem dX2_kth_11 : decode cX2_kth 11 = .ok (.ifCond .lt 20, 3) := by decide +kernel
theorem dX2_kth_14 : decode cX2_kth 14 = .ok (.iload_n 1, 1) := by decide +kernel
theorem dX2_kth_15 : decode cX2_kth 15 = .ok (.aload_n 0, 1) := by decide +kernel
theorem dX2_kth_16 : decode cX2_kth 16 = .ok (.getfield 18, 3) := by decide +kernel
theorem dX2_kth_19 : decode cX2_kth 19 = .ok (.if_icmp .ge 12, 3) := by decide +kernel
theorem dX2_kth_22 : decode cX2_kth 22 = .ok (.aload_n 0, 1) := by decide +kernel
theorem dX2_kth_23 : decode cX2_kth 23 = .ok (.getfield 9, 3) := by decide +kernel
theorem dX2_kth_26 : decode cX2_kth 26 = .ok (.iload_n 1, 1) := by decide +kernel
theorem dX2_kth_27 : decode cX2_kth 27 = .ok (.iaload, 1) := by decide +kernel
theorem dX2_kth_28 : decode cX2_kth 28 = .ok (.goto 5, 3) := by decide +kernel
theorem dX2_kth_31 : decode cX2_kth 31 = .ok (.bipush (-2), 2) := by decide +kernel
theorem dX2_kth_33 : decode cX2_kth 33 = .ok (.ireturn, 1) := by decide +kernel
theorem dX2_lastOne_0 : decode cX2_lastOne 0 = .ok (.aload_n 0, 1) := by decide +kernel
theorem dX2_lastOne_1 : decode cX2_lastOne 1 = .ok (.getfield 18, 3) := by decide +kernel
theorem dX2_lastOne_4 : decode cX2_lastOne 4 = .ok (.ifCond .le 17, 3) := by decide +kernel
theorem dX2_lastOne_7 : decode cX2_lastOne 7 = .ok (.aload_n 0, 1) := by decide +kernel
theorem dX2_lastOne_8 : decode cX2_lastOne 8 = .ok (.getfield 9, 3) := by decide +kernel
theorem dX2_lastOne_11 : decode cX2_lastOne 11 = .ok (.aload_n 0, 1) := by decide +kernel
theorem dX2_lastOne_12 : decode cX2_lastOne 12 = .ok (.getfield 18, 3) := by decide +kernel
theorem dX2_lastOne_15 : decode cX2_lastOne 15 = .ok (.iconst 1, 1) := by decide +kernel
theorem dX2_lastOne_16 : decode cX2_lastOne 16 = .ok (.isub, 1) := by decide +kernel
theorem dX2_lastOne_17 : decode cX2_lastOne 17 = .ok (.iaload, 1) := by decide +kernel
theorem dX2_lastOne_18 : decode cX2_lastOne 18 = .ok (.goto 5, 3) := by decide +kernel
theorem dX2_lastOne_21 : decode cX2_lastOne 21 = .ok (.bipush (-2), 2) := by decide +kernel
theorem dX2_lastOne_23 : decode cX2_lastOne 23 = .ok (.ireturn, 1) := by decide +kernel
theorem dX2_placeOf_0 : decode cX2_placeOf 0 = .ok (.iconst 0, 1) := by decide +kernel
theorem dX2_placeOf_1 : decode cX2_placeOf 1 = .ok (.istore_n 2, 1) := by decide +kernel
theorem dX2_placeOf_2 : decode cX2_placeOf 2 = .ok (.iload_n 2, 1) := by decide +kernel
theorem dX2_placeOf_3 : decode cX2_placeOf 3 = .ok (.aload_n 0, 1) := by decide +kernel
theorem dX2_placeOf_4 : decode cX2_placeOf 4 = .ok (.getfield 18, 3) := by decide +kernel
theorem dX2_placeOf_7 : decode cX2_placeOf 7 = .ok (.if_icmp .ge 21, 3) := by decide +kernel
theorem dX2_placeOf_10 : decode cX2_placeOf 10 = .ok (.aload_n 0, 1) := by decide +kernel
theorem dX2_placeOf_11 : decode cX2_placeOf 11 = .ok (.getfield 9, 3) := by decide +kernel
theorem dX2_placeOf_14 : decode cX2_placeOf 14 = .ok (.iload_n 2, 1) := by decide +kernel
theorem dX2_placeOf_15 : decode cX2_placeOf 15 = .ok (.iaload, 1) := by decide +kernel
theorem dX2_placeOf_16 : decode cX2_placeOf 16 = .ok (.iload_n 1, 1) := by decide +kernel
theorem dX2_placeOf_17 : decode cX2_placeOf 17 = .ok (.if_icmp .ne 5, 3) := by decide +kernel
theorem dX2_placeOf_20 : decode cX2_placeOf 20 = .ok (.iload_n 2, 1) := by decide +kernel
theorem dX2_placeOf_21 : decode cX2_placeOf 21 = .ok (.ireturn, 1) := by decide +kernel
theorem dX2_placeOf_22 : decode cX2_placeOf 22 = .ok (.iinc 2 1, 3) := by decide +kernel
theorem dX2_placeOf_25 : decode cX2_placeOf 25 = .ok (.goto (-23), 3) := by decide +kernel
theorem dX2_placeOf_28 : decode cX2_placeOf 28 = .ok (.iconst (-1), 1) := by decide +kernel
theorem dX2_placeOf_29 : decode cX2_placeOf 29 = .ok (.ireturn, 1) := by decide +kernel
theorem dX2_isLike_0 : decode cX2_isLike 0 = .ok (.aload_n 0, 1) := by decide +kernel
theorem dX2_isLike_1 : decode cX2_isLike 1 = .ok (.getfield 18, 3) := by decide +kernel
theorem dX2_isLike_4 : decode cX2_isLike 4 = .ok (.aload_n 1, 1) := by decide +kernel
theorem dX2_isLike_5 : decode cX2_isLike 5 = .ok (.getfield 18, 3) := by decide +kernel
theorem dX2_isLike_8 : decode cX2_isLike 8 = .ok (.if_icmp .ne 7, 3) := by decide +kernel
theorem dX2_isLike_11 : decode cX2_isLike 11 = .ok (.iconst 1, 1) := by decide +kernel
theorem dX2_isLike_12 : decode cX2_isLike 12 = .ok (.goto 4, 3) := by decide +kernel
theorem dX2_isLike_15 : decode cX2_isLike 15 = .ok (.iconst 0, 1) := by decide +kernel
theorem dX2_isLike_16 : decode cX2_isLike 16 = .ok (.istore_n 2, 1) := by decide +kernel
theorem dX2_isLike_17 : decode cX2_isLike 17 = .ok (.iconst 0, 1) := by decide +kernel
theorem dX2_isLike_18 : decode cX2_isLike 18 = .ok (.istore_n 3, 1) := by decide +kernel
theorem dX2_isLike_19 : decode cX2_isLike 19 = .ok (.iload_n 3, 1) := by decide +kernel
theorem dX2_isLike_20 : decode cX2_isLike 20 = .ok (.aload_n 0, 1) := by decide +kernel
theorem dX2_isLike_21 : decode cX2_isLike 21 = .ok (.getfield 18, 3) := by decide +kernel
theorem dX2_isLike_24 : decode cX2_isLike 24 = .ok (.if_icmp .ge 34, 3) := by decide +kernel
theorem dX2_isLike_27 : decode cX2_isLike 27 = .ok (.iload_n 2, 1) := by decide +kernel
theorem dX2_isLike_28 : decode cX2_isLike 28 = .ok (.ifCond .eq 30, 3) := by decide +kernel
theorem dX2_isLike_31 : decode cX2_isLike 31 = .ok (.aload_n 0, 1) := by decide +kernel
theorem dX2_isLike_32 : decode cX2_isLike 32 = .ok (.getfield 9, 3) := by decide +kernel
theorem dX2_isLike_35 : decode cX2_isLike 35 = .ok (.iload_n 3, 1) := by decide +kernel
theorem dX2_isLike_36 : decode cX2_isLike 36 = .ok (.iaload, 1) := by decide +kernel
theorem dX2_isLike_37 : decode cX2_isLike 37 = .ok (.aload_n 1, 1) := by decide +kernel
theorem dX2_isLike_38 : decode cX2_isLike 38 = .ok (.getfield 9, 3) := by decide +kernel
theorem dX2_isLike_41 : decode cX2_isLike 41 = .ok (.iload_n 3, 1) := by decide +kernel
theorem dX2_isLike_42 : decode cX2_isLike 42 = .ok (.iaload, 1) := by decide +kernel
theorem dX2_isLike_43 : decode cX2_isLike 43 = .ok (.if_icmp .ne 7, 3) := by decide +kernel
theorem dX2_isLike_46 : decode cX2_isLike 46 = .ok (.iconst 1, 1) := by decide +kernel
theorem dX2_isLike_47 : decode cX2_isLike 47 = .ok (.goto 4, 3) := by decide +kernel
theorem dX2_isLike_50 : decode cX2_isLike 50 = .ok (.iconst 0, 1) := by decide +kernel
theorem dX2_isLike_51 : decode cX2_isLike 51 = .ok (.istore_n 2, 1) := by decide +kernel
theorem dX2_isLike_52 : decode cX2_isLike 52 = .ok (.iinc 3 1, 3) := by decide +kernel
theorem dX2_isLike_55 : decode cX2_isLike 55 = .ok (.goto (-36), 3) := by decide +kernel
theorem dX2_isLike_58 : decode cX2_isLike 58 = .ok (.iload_n 2, 1) := by decide +kernel
theorem dX2_isLike_59 : decode cX2_isLike 59 = .ok (.ireturn, 1) := by decide +kernel
theorem dX3_init_0 : decode cX3_init 0 = .ok (.aload_n 0, 1) := by decide +kernel
theorem dX3_init_1 : decode cX3_init 1 = .ok (.invokespecial 3, 3) := by decide +kernel
theorem dX3_init_4 : decode cX3_init 4 = .ok (.aload_n 0, 1) := by decide +kernel
theorem dX3_init_5 : decode cX3_init 5 = .ok (.new 9, 3) := by decide +kernel
theorem dX3_init_8 : decode cX3_init 8 = .ok (.dup, 1) := by decide +kernel
theorem dX3_init_9 : decode cX3_init 9 = .ok (.invokespecial 11, 3) := by decide +kernel
theorem dX3_init_12 : decode cX3_init 12 = .ok (.putfield 12, 3) := by decide +kernel
theorem dX3_init_15 : decode cX3_init 15 = .ok (.aload_n 0, 1) := by decide +kernel
theorem dX3_init_16 : decode cX3_init 16 = .ok (.bipush 100, 2) := by decide +kernel
theorem dX3_init_18 : decode cX3_init 18 = .ok (.newarray .int, 2) := by decide +kernel
theorem dX3_init_20 : decode cX3_init 20 = .ok (.putfield 18, 3) := by decide +kernel
theorem dX3_init_23 : decode cX3_init 23 = .ok (.aload_n 0, 1) := by decide +kernel
theorem dX3_init_24 : decode cX3_init 24 = .ok (.bipush 100, 2) := by decide +kernel
theorem dX3_init_26 : decode cX3_init 26 = .ok (.newarray .int, 2) := by decide +kernel
theorem dX3_init_28 : decode cX3_init 28 = .ok (.putfield 22, 3) := by decide +kernel
theorem dX3_init_31 : decode cX3_init 31 = .ok (.aload_n 0, 1) := by decide +kernel
theorem dX3_init_32 : decode cX3_init 32 = .ok (.bipush 100, 2) := by decide +kernel
theorem dX3_init_34 : decode cX3_init 34 = .ok (.newarray .int, 2) := by decide +kernel
theorem dX3_init_36 : decode cX3_init 36 = .ok (.putfield 25, 3) := by decide +kernel
theorem dX3_init_39 : decode cX3_init 39 = .ok (.aload_n 0, 1) := by decide +kernel
theorem dX3_init_40 : decode cX3_init 40 = .ok (.bipush 100, 2) := by decide +kernel
theorem dX3_init_42 : decode cX3_init 42 = .ok (.newarray .int, 2) := by decide +kernel
theorem dX3_init_44 : decode cX3_init 44 = .ok (.putfield 28, 3) := by decide +kernel
theorem dX3_init_47 : decode cX3_init 47 = .ok (.aload_n 0, 1) := by decide +kernel
theorem dX3_init_48 : decode cX3_init 48 = .ok (.bipush 100, 2) := by decide +kernel
theorem dX3_init_50 : decode cX3_init 50 = .ok (.newarray .int, 2) := by decide +kernel
theorem dX3_init_52 : decode cX3_init 52 = .ok (.putfield 31, 3) := by decide +kernel
theorem dX3_init_55 : decode cX3_init 55 = .ok (.aload_n 0, 1) := by decide +kernel
theorem dX3_init_56 : decode cX3_init 56 = .ok (.bipush 100, 2) := by decide +kernel
theorem dX3_init_58 : decode cX3_init 58 = .ok (.newarray .boolean, 2) := by decide +kernel
theorem dX3_init_60 : decode cX3_init 60 = .ok (.putfield 34, 3) := by decide +kernel
theorem dX3_init_63 : decode cX3_init 63 = .ok (.aload_n 0, 1) := by decide +kernel
theorem dX3_init_64 : decode cX3_init 64 = .ok (.bipush 100, 2) := by decide +kernel
theorem dX3_init_66 : decode cX3_init 66 = .ok (.newarray .int, 2) := by decide +kernel
theorem dX3_init_68 : decode cX3_init 68 = .ok (.putfield 38, 3) := by decide +kernel
theorem dX3_init_71 : decode cX3_init 71 = .ok (.aload_n 0, 1) := by decide +kernel
theorem dX3_init_72 : decode cX3_init 72 = .ok (.iconst 4, 1) := by decide +kernel
theorem dX3_init_73 : decode cX3_init 73 = .ok (.newarray .int, 2) := by decide +kernel
theorem dX3_init_75 : decode cX3_init 75 = .ok (.putfield 41, 3) := by decide +kernel
theorem dX3_init_78 : decode cX3_init 78 = .ok (.aload_n 0, 1) := by decide +kernel
theorem dX3_init_79 : decode cX3_init 79 = .ok (.iconst 4, 1) := by decide +kernel
theorem dX3_init_80 : decode cX3_init 80 = .ok (.newarray .int, 2) := by decide +kernel
theorem dX3_init_82 : decode cX3_init 82 = .ok (.putfield 44, 3) := by decide +kernel
theorem dX3_init_85 : decode cX3_init 85 = .ok (.aload_n 0, 1) := by decide +kernel
theorem dX3_init_86 : decode cX3_init 86 = .ok (.invokevirtual 47, 3) := by decide +kernel
theorem dX3_init_89 : decode cX3_init 89 = .ok (.return_, 1) := by decide +kernel
theorem dX3_reset_0 : decode cX3_reset 0 = .ok (.aload_n 0, 1) := by decide +kernel
theorem dX3_reset_1 : decode cX3_reset 1 = .ok (.iconst 0, 1) := by decide +kernel
theorem dX3_reset_2 : decode cX3_reset 2 = .ok (.putfield 50, 3) := by decide +kernel
theorem dX3_reset_5 : decode cX3_reset 5 = .ok (.aload_n 0, 1) := by decide +kernel
theorem dX3_reset_6 : decode cX3_reset 6 = .ok (.iconst 0, 1) := by decide +kernel
theorem dX3_reset_7 : decode cX3_reset 7 = .ok (.putfield 54, 3) := by decide +kernel
theorem dX3_reset_10 : decode cX3_reset 10 = .ok (.aload_n 0, 1) := by decide +kernel
theorem dX3_reset_11 : decode cX3_reset 11 = .ok (.iconst 1, 1) := by decide +kernel
theorem dX3_reset_12 : decode cX3_reset 12 = .ok (.putfield 57, 3) := by decide +kernel
theorem dX3_reset_15 : decode cX3_reset 15 = .ok (.iconst 0, 1) := by decide +kernel
theorem dX3_reset_16 : decode cX3_reset 16 = .ok (.istore_n 1, 1) := by decide +kernel
theorem dX3_reset_17 : decode cX3_reset 17 = .ok (.iload_n 1, 1) := by decide +kernel
theorem dX3_reset_18 : decode cX3_reset 18 = .ok (.iconst 4, 1) := by decide +kernel
theorem dX3_reset_19 : decode cX3_reset 19 = .ok (.if_icmp .ge 23, 3) := by decide +kernel
theorem dX3_reset_22 : decode cX3_reset 22 = .ok (.aload_n 0, 1) := by decide +kernel
theorem dX3_reset_23 : decode cX3_reset 23 = .ok (.getfield 41, 3) := by decide +kernel
theorem dX3_reset_26 : decode cX3_reset 26 = .ok (.iload_n 1, 1) := by decide +kernel
theorem dX3_reset_27 : decode cX3_reset 27 = .ok (.iconst 4, 1) := by decide +kernel
theorem dX3_reset_28 : decode cX3_reset 28 = .ok (.iastore, 1) := by decide +kernel
theorem dX3_reset_29 : decode cX3_reset 29 = .ok (.aload_n 0, 1) := by decide +kernel
theorem dX3_reset_30 : decode cX3_reset 30 = .ok (.getfield 44, 3) := by decide +kernel
theorem dX3_reset_33 : decode cX3_reset 33 = .ok (.iload_n 1, 1) := by decide +kernel
theorem dX3_reset_34 : decode cX3_reset 34 = .ok (.iconst 0, 1) := by decide +kernel
theorem dX3_reset_35 : decode cX3_reset 35 = .ok (.iastore, 1) := by decide +kernel
theorem dX3_reset_36 : decode cX3_reset 36 = .ok (.iinc 1 1, 3) := by decide +kernel
theorem dX3_reset_39 : decode cX3_reset 39 = .ok (.goto (-22), 3) := by decide +kernel
theorem dX3_reset_42 : decode cX3_reset 42 = .ok (.return_, 1) := by decide +kernel
theorem dX3_copyFrom_0 : decode cX3_copyFrom 0 = .ok (.aload_n 0, 1) := by decide +kernel
theorem dX3_copyFrom_1 : decode cX3_copyFrom 1 = .ok (.aload_n 1, 1) := by decide +kernel
theorem dX3_copyFrom_2 : decode cX3_copyFrom 2 = .ok (.getfield 50, 3) := by decide +kernel
theorem dX3_copyFrom_5 : decode cX3_copyFrom 5 = .ok (.putfield 50, 3) := by decide +kernel
theorem dX3_copyFrom_8 : decode cX3_copyFrom 8 = .ok (.aload_n 0, 1) := by decide +kernel
theorem dX3_copyFrom_9 : decode cX3_copyFrom 9 = .ok (.aload_n 1, 1) := by decide +kernel
theorem dX3_copyFrom_10 : decode cX3_copyFrom 10 = .ok (.getfield 54, 3) := by decide +kernel
theorem dX3_copyFrom_13 : decode cX3_copyFrom 13 = .ok (.putfield 54, 3) := by decide +kernel
theorem dX3_copyFrom_16 : decode cX3_copyFrom 16 = .ok (.aload_n 0, 1) := by decide +kernel
theorem dX3_copyFrom_17 : decode cX3_copyFrom 17 = .ok (.aload_n 1, 1) := by decide +kernel
theorem dX3_copyFrom_18 : decode cX3_copyFrom 18 = .ok (.getfield 57, 3) := by decide +kernel
theorem dX3_copyFrom_21 : decode cX3_copyFrom 21 = .ok (.putfield 57, 3) := by decide +kernel
theorem dX3_copyFrom_24 : decode cX3_copyFrom 24 = .ok (.iconst 0, 1) := by decide +kernel
theorem dX3_copyFrom_25 : decode cX3_copyFrom 25 = .ok (.istore_n 2, 1) := by decide +kernel
theorem dX3_copyFrom_26 : decode cX3_copyFrom 26 = .ok (.iload_n 2, 1) := by decide +kernel
theorem dX3_copyFrom_27 : decode cX3_copyFrom 27 = .ok (.iconst 4, 1) := by decide +kernel
theorem dX3_copyFrom_28 : decode cX3_copyFrom 28 = .ok (.if_icmp .ge 33, 3) := by decide +kernel
theorem dX3_copyFrom_31 : decode cX3_copyFrom 31 = .ok (.aload_n 0, 1) := by decide +kernel
theorem dX3_copyFrom_32 : decode cX3_copyFrom 32 = .ok (.getfield 41, 3) := by decide +kernel
theorem dX3_copyFrom_35 : decode cX3_copyFrom 35 = .ok (.iload_n 2, 1) := by decide +kernel
theorem dX3_copyFrom_36 : decode cX3_copyFrom 36 = .ok (.aload_n 1, 1) := by decide +kernel
theorem dX3_copyFrom_37 : decode cX3_copyFrom 37 = .ok (.getfield 41, 3) := by decide +kernel
theorem dX3_copyFrom_40 : decode cX3_copyFrom 40 = .ok (.iload_n 2, 1) := by decide +kernel
theorem dX3_copyFrom_41 : decode cX3_copyFrom 41 = .ok (.iaload, 1) := by decide +kernel
theorem dX3_copyFrom_42 : decode cX3_copyFrom 42 = .ok (.iastore, 1) := by decide +kernel
theorem dX3_copyFrom_43 : decode cX3_copyFrom 43 = .ok (.aload_n 0, 1) := by decide +kernel
theorem dX3_copyFrom_44 : decode cX3_copyFrom 44 = .ok (.getfield 44, 3) := by decide +kernel
theorem dX3_copyFrom_47 : decode cX3_copyFrom 47 = .ok (.iload_n 2, 1) := by decide +kernel
theorem dX3_copyFrom_48 : decode cX3_copyFrom 48 = .ok (.aload_n 1, 1) := by decide +kernel
theorem dX3_copyFrom_49 : decode cX3_copyFrom 49 = .ok (.getfield 44, 3) := by decide +kernel
theorem dX3_copyFrom_52 : decode cX3_copyFrom 52 = .ok (.iload_n 2, 1) := by decide +kernel
theorem dX3_copyFrom_53 : decode cX3_copyFrom 53 = .ok (.iaload, 1) := by decide +kernel
theorem dX3_copyFrom_54 : decode cX3_copyFrom 54 = .ok (.iastore, 1) := by decide +kernel
theorem dX3_copyFrom_55 : decode cX3_copyFrom 55 = .ok (.iinc 2 1, 3) := by decide +kernel
theorem dX3_copyFrom_58 : decode cX3_copyFrom 58 = .ok (.goto (-32), 3) := by decide +kernel
theorem dX3_copyFrom_61 : decode cX3_copyFrom 61 = .ok (.iconst 0, 1) := by decide +kernel
theorem dX3_copyFrom_62 : decode cX3_copyFrom 62 = .ok (.istore_n 2, 1) := by decide +kernel
theorem dX3_copyFrom_63 : decode cX3_copyFrom 63 = .ok (.iload_n 2, 1) := by decide +kernel
theorem dX3_copyFrom_64 : decode cX3_copyFrom 64 = .ok (.aload_n 0, 1) := by decide +kernel
theorem dX3_copyFrom_65 : decode cX3_copyFrom 65 = .ok (.getfield 50, 3) := by decide +kernel
theorem dX3_copyFrom_68 : decode cX3_copyFrom 68 = .ok (.if_icmp .ge 93, 3) := by decide +kernel
theorem dX3_copyFrom_71 : decode cX3_copyFrom 71 = .ok (.aload_n 0, 1) := by decide +kernel
theorem dX3_copyFrom_72 : decode cX3_copyFrom 72 = .ok (.getfield 18, 3) := by decide +kernel
theorem dX3_copyFrom_75 : decode cX3_copyFrom 75 = .ok (.iload_n 2, 1) := by decide +kernel
theorem dX3_copyFrom_76 : decode cX3_copyFrom 76 = .ok (.aload_n 1, 1) := by decide +kernel
theorem dX3_copyFrom_77 : decode cX3_copyFrom 77 = .ok (.getfield 18, 3) := by decide +kernel
theorem dX3_copyFrom_80 : decode cX3_copyFrom 80 = .ok (.iload_n 2, 1) := by decide +kernel
theorem dX3_copyFrom_81 : decode cX3_copyFrom 81 = .ok (.iaload, 1) := by decide +kernel
theorem dX3_copyFrom_82 : decode cX3_copyFrom 82 = .ok (.iastore, 1) := by decide +kernel
theorem dX3_copyFrom_83 : decode cX3_copyFrom 83 = .ok (.aload_n 0, 1) := by decide +kernel
theorem dX3_copyFrom_84 : decode cX3_copyFrom 84 = .ok (.getfield 22, 3) := by decide +kernel
theorem dX3_copyFrom_87 : decode cX3_copyFrom 87 = .ok (.iload_n 2, 1) := by decide +kernel
theorem dX3_copyFrom_88 : decode cX3_copyFrom 88 = .ok (.aload_n 1, 1) := by decide +kernel
theorem dX3_copyFrom_89 : decode cX3_copyFrom 89 = .ok (.getfield 22, 3) := by decide +kernel
theorem dX3_copyFrom_92 : decode cX3_copyFrom 92 = .ok (.iload_n 2, 1) := by decide +kernel
theorem dX3_copyFrom_93 : decode cX3_copyFrom 93 = .ok (.iaload, 1) := by decide +kernel
theorem dX3_copyFrom_94 : decode cX3_copyFrom 94 = .ok (.iastore, 1) := by decide +kernel
theorem dX3_copyFrom_95 : decode cX3_copyFrom 95 = .ok (.aload_n 0, 1) := by decide +kernel
theorem dX3_copyFrom_96 : decode cX3_copyFrom 96 = .ok (.getfield 25, 3) := by decide +kernel
theorem dX3_copyFrom_99 : decode cX3_copyFrom 99 = .ok (.iload_n 2, 1) := by decide +kernel
theorem dX3_copyFrom_100 : decode cX3_copyFrom 100 = .ok (.aload_n 1, 1) := by decide +kernel
theorem dX3_copyFrom_101 : decode cX3_copyFrom 101 = .ok (.getfield 25, 3) := by decide +kernel
theorem dX3_copyFrom_104 : decode cX3_copyFrom 104 = .ok (.iload_n 2, 1) := by decide +kernel
theorem dX3_copyFrom_105 : decode cX3_copyFrom 105 = .ok (.iaload, 1) := by decide +kernel
theorem dX3_copyFrom_106 : decode cX3_copyFrom 106 = .ok (.iastore, 1) := by decide +kernel
theorem dX3_copyFrom_107 : decode cX3_copyFrom 107 = .ok (.aload_n 0, 1) := by decide +kernel
theorem dX3_copyFrom_108 : decode cX3_copyFrom 108 = .ok (.getfield 28, 3) := by decide +kernel
theorem dX3_copyFrom_111 : decode cX3_copyFrom 111 = .ok (.iload_n 2, 1) := by decide +kernel
theorem dX3_copyFrom_112 : decode cX3_copyFrom 112 = .ok (.aload_n 1, 1) := by decide +kernel
theorem dX3_copyFrom_113 : decode cX3_copyFrom 113 = .ok (.getfield 28, 3) := by decide +kernel
theorem dX3_copyFrom_116 : decode cX3_copyFrom 116 = .ok (.iload_n 2, 1) := by decide +kernel
theorem dX3_copyFrom_117 : decode cX3_copyFrom 117 = .ok (.iaload, 1) := by decide +kernel
theorem dX3_copyFrom_118 : decode cX3_copyFrom 118 = .ok (.iastore, 1) := by decide +kernel
theorem dX3_copyFrom_119 : decode cX3_copyFrom 119 = .ok (.aload_n 0, 1) := by decide +kernel
theorem dX3_copyFrom_120 : decode cX3_copyFrom 120 = .ok (.getfield 31, 3) := by decide +kernel
theorem dX3_copyFrom_123 : decode cX3_copyFrom 123 = .ok (.iload_n 2, 1) := by decide +kernel
theorem dX3_copyFrom_124 : decode cX3_copyFrom 124 = .ok (.aload_n 1, 1) := by decide +kernel
theorem dX3_copyFrom_125 : decode cX3_copyFrom 125 = .ok (.getfield 31, 3) := by decide +kernel
theorem dX3_copyFrom_128 : decode cX3_copyFrom 128 = .ok (.iload_n 2, 1) := by decide +kernel
theorem dX3_copyFrom_129 : decode cX3_copyFrom 129 = .ok (.iaload, 1) := by decide +kernel
theorem dX3_copyFrom_130 : decode cX3_copyFrom 130 = .ok (.iastore, 1) := by decide +kernel
theorem dX3_copyFrom_131 : decode cX3_copyFrom 131 = .ok (.aload_n 0, 1) := by decide +kernel
theorem dX3_copyFrom_132 : decode cX3_copyFrom 132 = .ok (.getfield 34, 3) := by decide +kernel
theorem dX3_copyFrom_135 : decode cX3_copyFrom 135 = .ok (.iload_n 2, 1) := by decide +kernel
theorem dX3_copyFrom_136 : decode cX3_copyFrom 136 = .ok (.aload_n 1, 1) := by decide +kernel
theorem dX3_copyFrom_137 : decode cX3_copyFrom 137 = .ok (.getfield 34, 3) := by decide +kernel
theorem dX3_copyFrom_140 : decode cX3_copyFrom 140 = .ok (.iload_n 2, 1) := by decide +kernel
theorem dX3_copyFrom_141 : decode cX3_copyFrom 141 = .ok (.baload, 1) := by decide +kernel
theorem dX3_copyFrom_142 : decode cX3_copyFrom 142 = .ok (.bastore, 1) := by decide +kernel
theorem dX3_copyFrom_143 : decode cX3_copyFrom 143 = .ok (.aload_n 0, 1) := by decide +kernel
theorem dX3_copyFrom_144 : decode cX3_copyFrom 144 = .ok (.getfield 38, 3) := by decide +kernel
theorem dX3_copyFrom_147 : decode cX3_copyFrom 147 = .ok (.iload_n 2, 1) := by decide +kernel
theorem dX3_copyFrom_148 : decode cX3_copyFrom 148 = .ok (.aload_n 1, 1) := by decide +kernel
theorem dX3_copyFrom_149 : decode cX3_copyFrom 149 = .ok (.getfield 38, 3) := by decide +kernel
theorem dX3_copyFrom_152 : decode cX3_copyFrom 152 = .ok (.iload_n 2, 1) := by decide +kernel
theorem dX3_copyFrom_153 : decode cX3_copyFrom 153 = .ok (.iaload, 1) := by decide +kernel
theorem dX3_copyFrom_154 : decode cX3_copyFrom 154 = .ok (.iastore, 1) := by decide +kernel
theorem dX3_copyFrom_155 : decode cX3_copyFrom 155 = .ok (.iinc 2 1, 3) := by decide +kernel
theorem dX3_copyFrom_158 : decode cX3_copyFrom 158 = .ok (.goto (-95), 3) := by decide +kernel
theorem dX3_copyFrom_161 : decode cX3_copyFrom 161 = .ok (.return_, 1) := by decide +kernel
theorem dX3_hasItem_0 : decode cX3_hasItem 0 = .ok (.iload_n 1, 1) := by decide +kernel
theorem dX3_hasItem_1 : decode cX3_hasItem 1 = .ok (.iconst 0, 1) := by decide +kernel
theorem dX3_hasItem_2 : decode cX3_hasItem 2 = .ok (.aload_n 0, 1) := by decide +kernel
theorem dX3_hasItem_3 : decode cX3_hasItem 3 = .ok (.getfield 50, 3) := by decide +kernel
theorem dX3_hasItem_6 : decode cX3_hasItem 6 = .ok (.iconst 1, 1) := by decide +kernel
theorem dX3_hasItem_7 : decode cX3_hasItem 7 = .ok (.isub, 1) := by decide +kernel
theorem dX3_hasItem_8 : decode cX3_hasItem 8 = .ok (.invokestatic 60, 3) := by decide +kernel
theorem dX3_hasItem_11 : decode cX3_hasItem 11 = .ok (.ireturn, 1) := by decide +kernel
theorem dX3_hasUndropped_0 : decode cX3_hasUndropped 0 = .ok (.aload_n 0, 1) := by decide +kernel
theorem dX3_hasUndropped_1 : decode cX3_hasUndropped 1 = .ok (.iload_n 1, 1) := by decide +kernel
theorem dX3_hasUndropped_2 : decode cX3_hasUndropped 2 = .ok (.invokevirtual 64, 3) := by decide +kernel
theorem dX3_hasUndropped_5 : decode cX3_hasUndropped 5 = .ok (.ifCond .eq 16, 3) := by decide +kernel
theorem dX3_hasUndropped_8 : decode cX3_hasUndropped 8 = .ok (.aload_n 0, 1) := by decide +kernel
theorem dX3_hasUndropped_9 : decode cX3_hasUndropped 9 = .ok (.getfield 34, 3) := by decide +kernel
theorem dX3_hasUndropped_12 : decode cX3_hasUndropped 12 = .ok (.iload_n 1, 1) := by decide +kernel
theorem dX3_hasUndropped_13 : decode cX3_hasUndropped 13 = .ok (.baload, 1) := by decide +kernel
theorem dX3_hasUndropped_14 : decode cX3_hasUndropped 14 = .ok (.ifCond .ne 7, 3) := by decide +kernel
theorem dX3_hasUndropped_17 : decode cX3_hasUndropped 17 = .ok (.iconst 1, 1) := by decide +kernel
theorem dX3_hasUndropped_18 : decode cX3_hasUndropped 18 = .ok (.goto 4, 3) := by decide +kernel
theorem dX3_hasUndropped_21 : decode cX3_hasUndropped 21 = .ok (.iconst 0, 1) := by decide +kernel
theorem dX3_hasUndropped_22 : decode cX3_hasUndropped 22 = .ok (.ireturn, 1) := by decide +kernel
theorem dX3_drawLot_0 : decode cX3_drawLot 0 = .ok (.aload_n 0, 1) := by decide +kernel
theorem dX3_drawLot_1 : decode cX3_drawLot 1 = .ok (.aload_n 0, 1) := by decide +kernel
theorem dX3_drawLot_2 : decode cX3_drawLot 2 = .ok (.getfield 57, 3) := by decide +kernel
theorem dX3_drawLot_5 : decode cX3_drawLot 5 = .ok (.invokestatic 68, 3) := by decide +kernel
theorem dX3_drawLot_8 : decode cX3_drawLot 8 = .ok (.putfield 57, 3) := by decide +kernel
theorem dX3_drawLot_11 : decode cX3_drawLot 11 = .ok (.aload_n 0, 1) := by decide +kernel
theorem dX3_drawLot_12 : decode cX3_drawLot 12 = .ok (.getfield 57, 3) := by decide +kernel
theorem dX3_drawLot_15 : decode cX3_drawLot 15 = .ok (.invokestatic 72, 3) := by decide +kernel
theorem dX3_drawLot_18 : decode cX3_drawLot 18 = .ok (.ireturn, 1) := by decide +kernel
theorem dX3_addRanked_0 : decode cX3_addRanked 0 = .ok (.aload_n 0, 1) := by decide +kernel
theorem dX3_addRanked_1 : decode cX3_addRanked 1 = .ok (.iload_n 1, 1) := by decide +kernel
theorem dX3_addRanked_2 : decode cX3_addRanked 2 = .ok (.iload_n 2, 1) := by decide +kernel
theorem dX3_addRanked_3 : decode cX3_addRanked 3 = .ok (.iload_n 3, 1) := by decide +kernel
theorem dX3_addRanked_4 : decode cX3_addRanked 4 = .ok (.iload 4, 2) := by decide +kernel
theorem dX3_addRanked_6 : decode cX3_addRanked 6 = .ok (.invokevirtual 75, 3) := by decide +kernel
theorem dX3_addRanked_9 : decode cX3_addRanked 9 = .ok (.istore 5, 2) := by decide +kernel
theorem dX3_addRanked_11 : decode cX3_addRanked 11 = .ok (.aload_n 0, 1) := by decide +kernel
theorem dX3_addRanked_12 : decode cX3_addRanked 12 = .ok (.iload 5, 2) := by decide +kernel
theorem dX3_addRanked_14 : decode cX3_addRanked 14 = .ok (.invokevirtual 79, 3) := by decide +kernel
theorem dX3_addRanked_17 : decode cX3_addRanked 17 = .ok (.iload 5, 2) := by decide +kernel
theorem dX3_addRanked_19 : decode cX3_addRanked 19 = .ok (.ireturn, 1) := by decide +kernel
theorem dX3_add_0 : decode cX3_add 0 = .ok (.aload_n 0, 1) := by decide +kernel
theorem dX3_add_1 : decode cX3_add 1 = .ok (.getfield 50, 3) := by decide +kernel
theorem dX3_add_4 : decode cX3_add 4 = .ok (.istore 5, 2) := by decide +kernel
theorem dX3_add_6 : decode cX3_add 6 = .ok (.aload_n 0, 1) := by decide +kernel
theorem dX3_add_7 : decode cX3_add 7 = .ok (.getfield 18, 3) := by decide +kernel
theorem dX3_add_10 : decode cX3_add 10 = .ok (.iload 5, 2) := by decide +kernel
theorem dX3_add_12 : decode cX3_add 12 = .ok (.iload_n 1, 1) := by decide +kernel
theorem dX3_add_13 : decode cX3_add 13 = .ok (.iastore, 1) := by decide +kernel
theorem dX3_add_14 : decode cX3_add 14 = .ok (.aload_n 0, 1) := by decide +kernel
theorem dX3_add_15 : decode cX3_add 15 = .ok (.getfield 22, 3) := by decide +kernel
theorem dX3_add_18 : decode cX3_add 18 = .ok (.iload 5, 2) := by decide +kernel
theorem dX3_add_20 : decode cX3_add 20 = .ok (.iload_n 2, 1) := by decide +kernel
theorem dX3_add_21 : decode cX3_add 21 = .ok (.iastore, 1) := by decide +kernel
theorem dX3_add_22 : decode cX3_add 22 = .ok (.aload_n 0, 1) := by decide +kernel
theorem dX3_add_23 : decode cX3_add 23 = .ok (.getfield 25, 3) := by decide +kernel
theorem dX3_add_26 : decode cX3_add 26 = .ok (.iload 5, 2) := by decide +kernel
theorem dX3_add_28 : decode cX3_add 28 = .ok (.iload_n 3, 1) := by decide +kernel
theorem dX3_add_29 : decode cX3_add 29 = .ok (.iastore, 1) := by decide +kernel
theorem dX3_add_30 : decode cX3_add 30 = .ok (.aload_n 0, 1) := by decide +kernel
theorem dX3_add_31 : decode cX3_add 31 = .ok (.getfield 28, 3) := by decide +kernel
theorem dX3_add_34 : decode cX3_add 34 = .ok (.iload 5, 2) := by decide +kernel
theorem dX3_add_36 : decode cX3_add 36 = .ok (.iload 4, 2) := by decide +kernel
theorem dX3_add_38 : decode cX3_add 38 = .ok (.iastore, 1) := by decide +kernel
theorem dX3_add_39 : decode cX3_add 39 = .ok (.aload_n 0, 1) := by decide +kernel
theorem dX3_add_40 : decode cX3_add 40 = .ok (.getfield 31, 3) := by decide +kernel
theorem dX3_add_43 : decode cX3_add 43 = .ok (.iload 5, 2) := by decide +kernel
theorem dX3_add_45 : decode cX3_add 45 = .ok (.aload_n 0, 1) := by decide +kernel
theorem dX3_add_46 : decode cX3_add 46 = .ok (.getfield 54, 3) := by decide +kernel
theorem dX3_add_49 : decode cX3_add 49 = .ok (.iastore, 1) := by decide +kernel
theorem dX3_add_50 : decode cX3_add 50 = .ok (.aload_n 0, 1) := by decide +kernel
theorem dX3_add_51 : decode cX3_add 51 = .ok (.getfield 34, 3) := by decide +kernel
theorem dX3_add_54 : decode cX3_add 54 = .ok (.iload 5, 2) := by decide +kernel
theorem dX3_add_56 : decode cX3_add 56 = .ok (.iconst 0, 1) := by decide +kernel
theorem dX3_add_57 : decode cX3_add 57 = .ok (.bastore, 1) := by decide +kernel
theorem dX3_add_58 : decode cX3_add 58 = .ok (.aload_n 0, 1) := by decide +kernel
theorem dX3_add_59 : decode cX3_add 59 = .ok (.dup, 1) := by decide +kernel
theorem dX3_add_60 : decode cX3_add 60 = .ok (.getfield 50, 3) := by decide +kernel
theorem dX3_add_63 : decode cX3_add 63 = .ok (.iconst 1, 1) := by decide +kernel
theorem dX3_add_64 : decode cX3_add 64 = .ok (.iadd, 1) := by decide +kernel
theorem dX3_add_65 : decode cX3_add 65 = .ok (.putfield 50, 3) := by decide +kernel
theorem dX3_add_68 : decode cX3_add 68 = .ok (.iload 5, 2) := by decide +kernel
theorem dX3_add_70 : decode cX3_add 70 = .ok (.ireturn, 1) := by decide +kernel
theorem dX3_rankAll_0 : decode cX3_rankAll 0 = .ok (.iconst 0, 1) := by decide +kernel
theorem dX3_rankAll_1 : decode cX3_rankAll 1 = .ok (.istore_n 1, 1) := by decide +kernel
theorem dX3_rankAll_2 : decode cX3_rankAll 2 = .ok (.iload_n 1, 1) := by decide +kernel
theorem dX3_rankAll_3 : decode cX3_rankAll 3 = .ok (.aload_n 0, 1) := by decide +kernel
theorem dX3_rankAll_4 : decode cX3_rankAll 4 = .ok (.getfield 50, 3) := by decide +kernel
theorem dX3_rankAll_7 : decode cX3_rankAll 7 = .ok (.if_icmp .ge 14, 3) := by decide +kernel
theorem dX3_rankAll_10 : decode cX3_rankAll 10 = .ok (.aload_n 0, 1) := by decide +kernel
theorem dX3_rankAll_11 : decode cX3_rankAll 11 = .ok (.iload_n 1, 1) := by decide +kernel
theorem dX3_rankAll_12 : decode cX3_rankAll 12 = .ok (.invokevirtual 79, 3) := by decide +kernel
theorem dX3_rankAll_15 : decode cX3_rankAll 15 = .ok (.iinc 1 1, 3) := by decide +kernel
theorem dX3_rankAll_18 : decode cX3_rankAll 18 = .ok (.goto (-16), 3) := by decide +kernel
theorem dX3_rankAll_21 : decode cX3_rankAll 21 = .ok (.return_, 1) := by decide +kernel
theorem dX3_rank_0 : decode cX3_rank 0 = .ok (.iconst 0, 1) := by decide +kernel
theorem dX3_rank_1 : decode cX3_rank 1 = .ok (.istore_n 2, 1) := by decide +kernel
theorem dX3_rank_2 : decode cX3_rank 2 = .ok (.bipush 64, 2) := by decide +kernel
theorem dX3_rank_4 : decode cX3_rank 4 = .ok (.istore_n 3, 1) := by decide +kernel
theorem dX3_rank_5 : decode cX3_rank 5 = .ok (.iload_n 3, 1) := by decide +kernel
theorem dX3_rank_6 : decode cX3_rank 6 = .ok (.ifCond .le 39, 3) := by decide +kernel
theorem dX3_rank_9 : decode cX3_rank 9 = .ok (.iload_n 2, 1) := by decide +kernel
theorem dX3_rank_10 : decode cX3_rank 10 = .ok (.iload_n 3, 1) := by decide +kernel
theorem dX3_rank_11 : decode cX3_rank 11 = .ok (.iadd, 1) := by decide +kernel
theorem dX3_rank_12 : decode cX3_rank 12 = .ok (.iload_n 1, 1) := by decide +kernel
theorem dX3_rank_13 : decode cX3_rank 13 = .ok (.if_icmp .gt 25, 3) := by decide +kernel
theorem dX3_rank_16 : decode cX3_rank 16 = .ok (.aload_n 0, 1) := by decide +kernel
theorem dX3_rank_17 : decode cX3_rank 17 = .ok (.aload_n 0, 1) := by decide +kernel
theorem dX3_rank_18 : decode cX3_rank 18 = .ok (.getfield 38, 3) := by decide +kernel
theorem dX3_rank_21 : decode cX3_rank 21 = .ok (.iload_n 2, 1) := by decide +kernel
theorem dX3_rank_22 : decode cX3_rank 22 = .ok (.iload_n 3, 1) := by decide +kernel
theorem dX3_rank_23 : decode cX3_rank 23 = .ok (.iadd, 1) := by decide +kernel
theorem dX3_rank_24 : decode cX3_rank 24 = .ok (.iconst 1, 1) := by decide +kernel
theorem dX3_rank_25 : decode cX3_rank 25 = .ok (.isub, 1) := by decide +kernel
theorem dX3_rank_26 : decode cX3_rank 26 = .ok (.iaload, 1) := by decide +kernel
theorem dX3_rank_27 : decode cX3_rank 27 = .ok (.iload_n 1, 1) := by decide +kernel
theorem dX3_rank_28 : decode cX3_rank 28 = .ok (.invokevirtual 83, 3) := by decide +kernel
theorem dX3_rank_31 : decode cX3_rank 31 = .ok (.ifCond .eq 7, 3) := by decide +kernel
theorem dX3_rank_34 : decode cX3_rank 34 = .ok (.iload_n 2, 1) := by decide +kernel
theorem dX3_rank_35 : decode cX3_rank 35 = .ok (.iload_n 3, 1) := by decide +kernel
theorem dX3_rank_36 : decode cX3_rank 36 = .ok (.iadd, 1) := by decide +kernel
theorem dX3_rank_37 : decode cX3_rank 37 = .ok (.istore_n 2, 1) := by decide +kernel
theorem dX3_rank_38 : decode cX3_rank 38 = .ok (.iload_n 3, 1) := by decide +kernel
theorem dX3_rank_39 : decode cX3_rank 39 = .ok (.iconst 1, 1) := by decide +kernel
theorem dX3_rank_40 : decode cX3_rank 40 = .ok (.ishr, 1) := by decide +kernel
theorem dX3_rank_41 : decode cX3_rank 41 = .ok (.istore_n 3, 1) := by decide +kernel
theorem dX3_rank_42 : decode cX3_rank 42 = .ok (.goto (-37), 3) := by decide +kernel
theorem dX3_rank_45 : decode cX3_rank 45 = .ok (.iload_n 1, 1) := by decide +kernel
theorem dX3_rank_46 : decode cX3_rank 46 = .ok (.istore_n 3, 1) := by decide +kernel
theorem dX3_rank_47 : decode cX3_rank 47 = .ok (.iload_n 3, 1) := by decide +kernel
theorem dX3_rank_48 : decode cX3_rank 48 = .ok (.iload_n 2, 1) := by decide +kernel
theorem dX3_rank_49 : decode cX3_rank 49 = .ok (.if_icmp .le 23, 3) := by decide +kernel
theorem dX3_rank_52 : decode cX3_rank 52 = .ok (.aload_n 0, 1) := by decide +kernel
theorem dX3_rank_53 : decode cX3_rank 53 = .ok (.getfield 38, 3) := by decide +kernel
theorem dX3_rank_56 : decode cX3_rank 56 = .ok (.iload_n 3, 1) := by decide +kernel
theorem dX3_rank_57 : decode cX3_rank 57 = .ok (.aload_n 0, 1) := by decide +kernel
theorem dX3_rank_58 : decode cX3_rank 58 = .ok (.getfield 38, 3) := by decide +kernel
theorem dX3_rank_61 : decode cX3_rank 61 = .ok (.iload_n 3, 1) := by decide +kernel
theorem dX3_rank_62 : decode cX3_rank 62 = .ok (.iconst 1, 1) := by decide +kernel
theorem dX3_rank_63 : decode cX3_rank 63 = .ok (.isub, 1) := by decide +kernel
theorem dX3_rank_64 : decode cX3_rank 64 = .ok (.iaload, 1) := by decide +kernel
theorem dX3_rank_65 : decode cX3_rank 65 = .ok (.iastore, 1) := by decide +kernel
theorem dX3_rank_66 : decode cX3_rank 66 = .ok (.iinc 3 (-1), 3) := by decide +kernel
theorem dX3_rank_69 : decode cX3_rank 69 = .ok (.goto (-22), 3) := by decide +kernel
theorem dX3_rank_72 : decode cX3_rank 72 = .ok (.aload_n 0, 1) := by decide +kernel
theorem dX3_rank_73 : decode cX3_rank 73 = .ok (.getfield 38, 3) := by decide +kernel
theorem dX3_rank_76 : decode cX3_rank 76 = .ok (.iload_n 2, 1) := by decide +kernel
theorem dX3_rank_77 : decode cX3_rank 77 = .ok (.iload_n 1, 1) := by decide +kernel
theorem dX3_rank_78 : decode cX3_rank 78 = .ok (.iastore, 1) := by decide +kernel
theorem dX3_rank_79 : decode cX3_rank 79 = .ok (.return_, 1) := by decide +kernel
theorem dX3_isAhead_0 : decode cX3_isAhead 0 = .ok (.aload_n 0, 1) := by decide +kernel
theorem dX3_isAhead_1 : decode cX3_isAhead 1 = .ok (.iload_n 1, 1) := by decide +kernel
theorem dX3_isAhead_2 : decode cX3_isAhead 2 = .ok (.aload_n 0, 1) := by decide +kernel
theorem dX3_isAhead_3 : decode cX3_isAhead 3 = .ok (.getfield 25, 3) := by decide +kernel
theorem dX3_isAhead_6 : decode cX3_isAhead 6 = .ok (.iload_n 1, 1) := by decide +kernel
theorem dX3_isAhead_7 : decode cX3_isAhead 7 = .ok (.iaload, 1) := by decide +kernel
theorem dX3_isAhead_8 : decode cX3_isAhead 8 = .ok (.iload_n 2, 1) := by decide +kernel
theorem dX3_isAhead_9 : decode cX3_isAhead 9 = .ok (.invokevirtual 87, 3) := by decide +kernel
theorem dX3_isAhead_12 : decode cX3_isAhead 12 = .ok (.ireturn, 1) := by decide +kernel
theorem dX3_wouldBeAhead_0 : decode cX3_wouldBeAhead 0 = .ok (.aload_n 0, 1) := by decide +kernel
theorem dX3_wouldBeAhead_1 : decode cX3_wouldBeAhead 1 = .ok (.getfield 12, 3) := by decide +kernel
theorem dX3_wouldBeAhead_4 : decode cX3_wouldBeAhead 4 = .ok (.aload_n 0, 1) := by decide +kernel
theorem dX3_wouldBeAhead_5 : decode cX3_wouldBeAhead 5 = .ok (.getfield 28, 3) := by decide +kernel
theorem dX3_wouldBeAhead_8 : decode cX3_wouldBeAhead 8 = .ok (.iload_n 1, 1) := by decide +kernel
theorem dX3_wouldBeAhead_9 : decode cX3_wouldBeAhead 9 = .ok (.iaload, 1) := by decide +kernel
theorem dX3_wouldBeAhead_10 : decode cX3_wouldBeAhead 10 = .ok (.iload_n 2, 1) := by decide +kernel
theorem dX3_wouldBeAhead_11 : decode cX3_wouldBeAhead 11 = .ok (.aload_n 0, 1) := by decide +kernel
theorem dX3_wouldBeAhead_12 : decode cX3_wouldBeAhead 12 = .ok (.getfield 28, 3) := by decide +kernel
theorem dX3_wouldBeAhead_15 : decode cX3_wouldBeAhead 15 = .ok (.iload_n 3, 1) := by decide +kernel
theorem dX3_wouldBeAhead_16 : decode cX3_wouldBeAhead 16 = .ok (.iaload, 1) := by decide +kernel
theorem dX3_wouldBeAhead_17 : decode cX3_wouldBeAhead 17 = .ok (.aload_n 0, 1) := by decide +kernel
theorem dX3_wouldBeAhead_18 : decode cX3_wouldBeAhead 18 = .ok (.getfield 25, 3) := by decide +kernel
theorem dX3_wouldBeAhead_21 : decode cX3_wouldBeAhead 21 = .ok (.iload_n 3, 1) := by decide +kernel
theorem dX3_wouldBeAhead_22 : decode cX3_wouldBeAhead 22 = .ok (.iaload, 1) := by decide +kernel
theorem dX3_wouldBeAhead_23 : decode cX3_wouldBeAhead 23 = .ok (.invokevirtual 90, 3) := by decide +kernel
theorem dX3_wouldBeAhead_26 : decode cX3_wouldBeAhead 26 = .ok (.istore 4, 2) := by decide +kernel
theorem dX3_wouldBeAhead_28 : decode cX3_wouldBeAhead 28 = .ok (.iload 4, 2) := by decide +kernel
theorem dX3_wouldBeAhead_30 : decode cX3_wouldBeAhead 30 = .ok (.ifCond .gt 13, 3) := by decide +kernel
theorem dX3_wouldBeAhead_33 : decode cX3_wouldBeAhead 33 = .ok (.iload 4, 2) := by decide +kernel
theorem dX3_wouldBeAhead_35 : decode cX3_wouldBeAhead 35 = .ok (.ifCond .ne 12, 3) := by decide +kernel
theorem dX3_wouldBeAhead_38 : decode cX3_wouldBeAhead 38 = .ok (.iload_n 1, 1) := by decide +kernel
theorem dX3_wouldBeAhead_39 : decode cX3_wouldBeAhead 39 = .ok (.iload_n 3, 1) := by decide +kernel
theorem dX3_wouldBeAhead_40 : decode cX3_wouldBeAhead 40 = .ok (.if_icmp .ge 7, 3) := by decide +kernel
theorem dX3_wouldBeAhead_43 : decode cX3_wouldBeAhead 43 = .ok (.iconst 1, 1) := by decide +kernel
theorem dX3_wouldBeAhead_44 : decode cX3_wouldBeAhead 44 = .ok (.goto 4, 3) := by decide +kernel
theorem dX3_wouldBeAhead_47 : decode cX3_wouldBeAhead 47 = .ok (.iconst 0, 1) := by decide +kernel
theorem dX3_wouldBeAhead_48 : decode cX3_wouldBeAhead 48 = .ok (.ireturn, 1) := by decide +kernel
theorem dX3_compareKeys_0 : decode cX3_compareKeys 0 = .ok (.aload_n 0, 1) := by decide +kernel
theorem dX3_compareKeys_1 : decode cX3_compareKeys 1 = .ok (.aload_n 0, 1) := by decide +kernel
theorem dX3_compareKeys_2 : decode cX3_compareKeys 2 = .ok (.getfield 28, 3) := by decide +kernel
theorem dX3_compareKeys_5 : decode cX3_compareKeys 5 = .ok (.iload_n 1, 1) := by decide +kernel
theorem dX3_compareKeys_6 : decode cX3_compareKeys 6 = .ok (.iaload, 1) := by decide +kernel
theorem dX3_compareKeys_7 : decode cX3_compareKeys 7 = .ok (.aload_n 0, 1) := by decide +kernel
theorem dX3_compareKeys_8 : decode cX3_compareKeys 8 = .ok (.getfield 25, 3) := by decide +kernel
theorem dX3_compareKeys_11 : decode cX3_compareKeys 11 = .ok (.iload_n 1, 1) := by decide +kernel
theorem dX3_compareKeys_12 : decode cX3_compareKeys 12 = .ok (.iaload, 1) := by decide +kernel
theorem dX3_compareKeys_13 : decode cX3_compareKeys 13 = .ok (.iload_n 2, 1) := by decide +kernel
theorem dX3_compareKeys_14 : decode cX3_compareKeys 14 = .ok (.invokevirtual 93, 3) := by decide +kernel
theorem dX3_compareKeys_17 : decode cX3_compareKeys 17 = .ok (.ireturn, 1) := by decide +kernel
theorem dX3_compareToKey_0 : decode cX3_compareToKey 0 = .ok (.aload_n 0, 1) := by decide +kernel
theorem dX3_compareToKey_1 : decode cX3_compareToKey 1 = .ok (.getfield 12, 3) := by decide +kernel
theorem dX3_compareToKey_4 : decode cX3_compareToKey 4 = .ok (.iload_n 1, 1) := by decide +kernel
theorem dX3_compareToKey_5 : decode cX3_compareToKey 5 = .ok (.iload_n 2, 1) := by decide +kernel
theorem dX3_compareToKey_6 : decode cX3_compareToKey 6 = .ok (.aload_n 0, 1) := by decide +kernel
theorem dX3_compareToKey_7 : decode cX3_compareToKey 7 = .ok (.getfield 28, 3) := by decide +kernel
theorem dX3_compareToKey_10 : decode cX3_compareToKey 10 = .ok (.iload_n 3, 1) := by decide +kernel
theorem dX3_compareToKey_11 : decode cX3_compareToKey 11 = .ok (.iaload, 1) := by decide +kernel
theorem dX3_compareToKey_12 : decode cX3_compareToKey 12 = .ok (.aload_n 0, 1) := by decide +kernel
theorem dX3_compareToKey_13 : decode cX3_compareToKey 13 = .ok (.getfield 25, 3) := by decide +kernel
theorem dX3_compareToKey_16 : decode cX3_compareToKey 16 = .ok (.iload_n 3, 1) := by decide +kernel
theorem dX3_compareToKey_17 : decode cX3_compareToKey 17 = .ok (.iaload, 1) := by decide +kernel
theorem dX3_compareToKey_18 : decode cX3_compareToKey 18 = .ok (.invokevirtual 90, 3) := by decide +kernel
theorem dX3_compareToKey_21 : decode cX3_compareToKey 21 = .ok (.ireturn, 1) := by decide +kernel
theorem dX3_isPartOfKey_0 : decode cX3_isPartOfKey 0 = .ok (.aload_n 0, 1) := by decide +kernel
theorem dX3_isPartOfKey_1 : decode cX3_isPartOfKey 1 = .ok (.getfield 12, 3) := by decide +kernel
theorem dX3_isPartOfKey_4 : decode cX3_isPartOfKey 4 = .ok (.iload_n 1, 1) := by decide +kernel
theorem dX3_isPartOfKey_5 : decode cX3_isPartOfKey 5 = .ok (.iload_n 2, 1) := by decide +kernel
theorem dX3_isPartOfKey_6 : decode cX3_isPartOfKey 6 = .ok (.aload_n 0, 1) := by decide +kernel
theorem dX3_isPartOfKey_7 : decode cX3_isPartOfKey 7 = .ok (.getfield 28, 3) := by decide +kernel
theorem dX3_isPartOfKey_10 : decode cX3_isPartOfKey 10 = .ok (.iload_n 3, 1) := by decide +kernel
theorem dX3_isPartOfKey_11 : decode cX3_isPartOfKey 11 = .ok (.iaload, 1) := by decide +kernel
theorem dX3_isPartOfKey_12 : decode cX3_isPartOfKey 12 = .ok (.aload_n 0, 1) := by decide +kernel
theorem dX3_isPartOfKey_13 : decode cX3_isPartOfKey 13 = .ok (.getfield 25, 3) := by decide +kernel
theorem dX3_isPartOfKey_16 : decode cX3_isPartOfKey 16 = .ok (.iload_n 3, 1) := by decide +kernel
theorem dX3_isPartOfKey_17 : decode cX3_isPartOfKey 17 = .ok (.iaload, 1) := by decide +kernel
theorem dX3_isPartOfKey_18 : decode cX3_isPartOfKey 18 = .ok (.invokevirtual 97, 3) := by decide +kernel
theorem dX3_isPartOfKey_21 : decode cX3_isPartOfKey 21 = .ok (.ireturn, 1) := by decide +kernel
theorem dX3_isAlive_0 : decode cX3_isAlive 0 = .ok (.aload_n 0, 1) := by decide +kernel
theorem dX3_isAlive_1 : decode cX3_isAlive 1 = .ok (.iload_n 1, 1) := by decide +kernel
theorem dX3_isAlive_2 : decode cX3_isAlive 2 = .ok (.aload_n 0, 1) := by decide +kernel
theorem dX3_isAlive_3 : decode cX3_isAlive 3 = .ok (.getfield 54, 3) := by decide +kernel
theorem dX3_isAlive_6 : decode cX3_isAlive 6 = .ok (.invokevirtual 101, 3) := by decide +kernel
theorem dX3_isAlive_9 : decode cX3_isAlive 9 = .ok (.ireturn, 1) := by decide +kernel
theorem dX3_isAliveAt_0 : decode cX3_isAliveAt 0 = .ok (.aload_n 0, 1) := by decide +kernel
theorem dX3_isAliveAt_1 : decode cX3_isAliveAt 1 = .ok (.getfield 44, 3) := by decide +kernel
theorem dX3_isAliveAt_4 : decode cX3_isAliveAt 4 = .ok (.aload_n 0, 1) := by decide +kernel
theorem dX3_isAliveAt_5 : decode cX3_isAliveAt 5 = .ok (.getfield 18, 3) := by decide +kernel
theorem dX3_isAliveAt_8 : decode cX3_isAliveAt 8 = .ok (.iload_n 1, 1) := by decide +kernel
theorem dX3_isAliveAt_9 : decode cX3_isAliveAt 9 = .ok (.iaload, 1) := by decide +kernel
theorem dX3_isAliveAt_10 : decode cX3_isAliveAt 10 = .ok (.iaload, 1) := by decide +kernel
theorem dX3_isAliveAt_11 : decode cX3_isAliveAt 11 = .ok (.istore_n 3, 1) := by decide +kernel
theorem dX3_isAliveAt_12 : decode cX3_isAliveAt 12 = .ok (.aload_n 0, 1) := by decide +kernel
theorem dX3_isAliveAt_13 : decode cX3_isAliveAt 13 = .ok (.getfield 34, 3) := by decide +kernel
theorem dX3_isAliveAt_16 : decode cX3_isAliveAt 16 = .ok (.iload_n 1, 1) := by decide +kernel
theorem dX3_isAliveAt_17 : decode cX3_isAliveAt 17 = .ok (.baload, 1) := by decide +kernel
theorem dX3_isAliveAt_18 : decode cX3_isAliveAt 18 = .ok (.ifCond .ne 23, 3) := by decide +kernel
theorem dX3_isAliveAt_21 : decode cX3_isAliveAt 21 = .ok (.iload_n 3, 1) := by decide +kernel
theorem dX3_isAliveAt_22 : decode cX3_isAliveAt 22 = .ok (.ifCond .eq 15, 3) := by decide +kernel
theorem dX3_isAliveAt_25 : decode cX3_isAliveAt 25 = .ok (.aload_n 0, 1) := by decide +kernel
theorem dX3_isAliveAt_26 : decode cX3_isAliveAt 26 = .ok (.getfield 31, 3) := by decide +kernel
theorem dX3_isAliveAt_29 : decode cX3_isAliveAt 29 = .ok (.iload_n 1, 1) := by decide +kernel
theorem dX3_isAliveAt_30 : decode cX3_isAliveAt 30 = .ok (.iaload, 1) := by decide +kernel
theorem dX3_isAliveAt_31 : decode cX3_isAliveAt 31 = .ok (.iload_n 2, 1) := by decide +kernel
theorem dX3_isAliveAt_32 : decode cX3_isAliveAt 32 = .ok (.iload_n 3, 1) := by decide +kernel
theorem dX3_isAliveAt_33 : decode cX3_isAliveAt 33 = .ok (.isub, 1) := by decide +kernel
theorem dX3_isAliveAt_34 : decode cX3_isAliveAt 34 = .ok (.if_icmp .le 7, 3) := by decide +kernel
theorem dX3_isAliveAt_37 : decode cX3_isAliveAt 37 = .ok (.iconst 1, 1) := by decide +kernel
theorem dX3_isAliveAt_38 : decode cX3_isAliveAt 38 = .ok (.goto 4, 3) := by decide +kernel
theorem dX3_isAliveAt_41 : decode cX3_isAliveAt 41 = .ok (.iconst 0, 1) := by decide +kernel
theorem dX3_isAliveAt_42 : decode cX3_isAliveAt 42 = .ok (.ireturn, 1) := by decide +kernel
theorem dX3_isUndroppedOf_0 : decode cX3_isUndroppedOf 0 = .ok (.aload_n 0, 1) := by decide +kernel
theorem dX3_isUndroppedOf_1 : decode cX3_isUndroppedOf 1 = .ok (.getfield 34, 3) := by decide +kernel
theorem dX3_isUndroppedOf_4 : decode cX3_isUndroppedOf 4 = .ok (.iload_n 1, 1) := by decide +kernel
theorem dX3_isUndroppedOf_5 : decode cX3_isUndroppedOf 5 = .ok (.baload, 1) := by decide +kernel
theorem dX3_isUndroppedOf_6 : decode cX3_isUndroppedOf 6 = .ok (.ifCond .ne 37, 3) := by decide +kernel
theorem dX3_isUndroppedOf_9 : decode cX3_isUndroppedOf 9 = .ok (.iload_n 2, 1) := by decide +kernel
theorem dX3_isUndroppedOf_10 : decode cX3_isUndroppedOf 10 = .ok (.iconst (-1), 1) := by decide +kernel
theorem dX3_isUndroppedOf_11 : decode cX3_isUndroppedOf 11 = .ok (.if_icmp .eq 13, 3) := by decide +kernel
theorem dX3_isUndroppedOf_14 : decode cX3_isUndroppedOf 14 = .ok (.aload_n 0, 1) := by decide +kernel
theorem dX3_isUndroppedOf_15 : decode cX3_isUndroppedOf 15 = .ok (.getfield 18, 3) := by decide +kernel
theorem dX3_isUndroppedOf_18 : decode cX3_isUndroppedOf 18 = .ok (.iload_n 1, 1) := by decide +kernel
theorem dX3_isUndroppedOf_19 : decode cX3_isUndroppedOf 19 = .ok (.iaload, 1) := by decide +kernel
theorem dX3_isUndroppedOf_20 : decode cX3_isUndroppedOf 20 = .ok (.iload_n 2, 1) := by decide +kernel
theorem dX3_isUndroppedOf_21 : decode cX3_isUndroppedOf 21 = .ok (.if_icmp .ne 22, 3) := by decide +kernel
theorem dX3_isUndroppedOf_24 : decode cX3_isUndroppedOf 24 = .ok (.iload_n 3, 1) := by decide +kernel
theorem dX3_isUndroppedOf_25 : decode cX3_isUndroppedOf 25 = .ok (.iconst (-1), 1) := by decide +kernel
theorem dX3_isUndroppedOf_26 : decode cX3_isUndroppedOf 26 = .ok (.if_icmp .eq 13, 3) := by decide +kernel
theorem dX3_isUndroppedOf_29 : decode cX3_isUndroppedOf 29 = .ok (.aload_n 0, 1) := by decide +kernel
theorem dX3_isUndroppedOf_30 : decode cX3_isUndroppedOf 30 = .ok (.getfield 22, 3) := by decide +kernel
theorem dX3_isUndroppedOf_33 : decode cX3_isUndroppedOf 33 = .ok (.iload_n 1, 1) := by decide +kernel
theorem dX3_isUndroppedOf_34 : decode cX3_isUndroppedOf 34 = .ok (.iaload, 1) := by decide +kernel
theorem dX3_isUndroppedOf_35 : decode cX3_isUndroppedOf 35 = .ok (.iload_n 3, 1) := by decide +kernel
theorem dX3_isUndroppedOf_36 : decode cX3_isUndroppedOf 36 = .ok (.if_icmp .ne 7, 3) := by decide +kernel
theorem dX3_isUndroppedOf_39 : decode cX3_isUndroppedOf 39 = .ok (.iconst 1, 1) := by decide +kernel
theorem dX3_isUndroppedOf_40 : decode cX3_isUndroppedOf 40 = .ok (.goto 4, 3) := by decide +kernel
theorem dX3_isUndroppedOf_43 : decode cX3_isUndroppedOf 43 = .ok (.iconst 0, 1) := by decide +kernel
theorem dX3_isUndroppedOf_44 : decode cX3_isUndroppedOf 44 = .ok (.ireturn, 1) := by decide +kernel
theorem dX3_isAliveOf_0 : decode cX3_isAliveOf 0 = .ok (.aload_n 0, 1) := by decide +kernel
theorem dX3_isAliveOf_1 : decode cX3_isAliveOf 1 = .ok (.iload_n 1, 1) := by decide +kernel
theorem dX3_isAliveOf_2 : decode cX3_isAliveOf 2 = .ok (.iload_n 2, 1) := by decide +kernel
theorem dX3_isAliveOf_3 : decode cX3_isAliveOf 3 = .ok (.iload_n 3, 1) := by decide +kernel
theorem dX3_isAliveOf_4 : decode cX3_isAliveOf 4 = .ok (.invokevirtual 104, 3) := by decide +kernel
theorem dX3_isAliveOf_7 : decode cX3_isAliveOf 7 = .ok (.ifCond .eq 15, 3) := by decide +kernel
theorem dX3_isAliveOf_10 : decode cX3_isAliveOf 10 = .ok (.aload_n 0, 1) := by decide +kernel
theorem dX3_isAliveOf_11 : decode cX3_isAliveOf 11 = .ok (.iload_n 1, 1) := by decide +kernel
theorem dX3_isAliveOf_12 : decode cX3_isAliveOf 12 = .ok (.invokevirtual 107, 3) := by decide +kernel
theorem dX3_isAliveOf_15 : decode cX3_isAliveOf 15 = .ok (.ifCond .eq 7, 3) := by decide +kernel
theorem dX3_isAliveOf_18 : decode cX3_isAliveOf 18 = .ok (.iconst 1, 1) := by decide +kernel
theorem dX3_isAliveOf_19 : decode cX3_isAliveOf 19 = .ok (.goto 4, 3) := by decide +kernel
theorem dX3_isAliveOf_22 : decode cX3_isAliveOf 22 = .ok (.iconst 0, 1) := by decide +kernel
theorem dX3_isAliveOf_23 : decode cX3_isAliveOf 23 = .ok (.ireturn, 1) := by decide +kernel
theorem dX3_countUndropped_0 : decode cX3_countUndropped 0 = .ok (.iconst 0, 1) := by decide +kernel
theorem dX3_countUndropped_1 : decode cX3_countUndropped 1 = .ok (.istore_n 3, 1) := by decide +kernel
theorem dX3_countUndropped_2 : decode cX3_countUndropped 2 = .ok (.iconst 0, 1) := by decide +kernel
theorem dX3_countUndropped_3 : decode cX3_countUndropped 3 = .ok (.istore 4, 2) := by decide +kernel
theorem dX3_countUndropped_5 : decode cX3_countUndropped 5 = .ok (.iload 4, 2) := by decide +kernel
theorem dX3_countUndropped_7 : decode cX3_countUndropped 7 = .ok (.aload_n 0, 1) := by decide +kernel
theorem dX3_countUndropped_8 : decode cX3_countUndropped 8 = .ok (.getfield 50, 3) := by decide +kernel
theorem dX3_countUndropped_11 : decode cX3_countUndropped 11 = .ok (.if_icmp .ge 23, 3) := by decide +kernel
theorem dX3_countUndropped_14 : decode cX3_countUndropped 14 = .ok (.aload_n 0, 1) := by decide +kernel
theorem dX3_countUndropped_15 : decode cX3_countUndropped 15 = .ok (.iload 4, 2) := by decide +kernel
theorem dX3_countUndropped_17 : decode cX3_countUndropped 17 = .ok (.iload_n 1, 1) := by decide +kernel
theorem dX3_countUndropped_18 : decode cX3_countUndropped 18 = .ok (.iload_n 2, 1) := by decide +kernel
theorem dX3_countUndropped_19 : decode cX3_countUndropped 19 = .ok (.invokevirtual 104, 3) := by decide +kernel
theorem dX3_countUndropped_22 : decode cX3_countUndropped 22 = .ok (.ifCond .eq 6, 3) := by decide +kernel
theorem dX3_countUndropped_25 : decode cX3_countUndropped 25 = .ok (.iinc 3 1, 3) := by decide +kernel
theorem dX3_countUndropped_28 : decode cX3_countUndropped 28 = .ok (.iinc 4 1, 3) := by decide +kernel
theorem dX3_countUndropped_31 : decode cX3_countUndropped 31 = .ok (.goto (-26), 3) := by decide +kernel
theorem dX3_countUndropped_34 : decode cX3_countUndropped 34 = .ok (.iload_n 3, 1) := by decide +kernel
theorem dX3_countUndropped_35 : decode cX3_countUndropped 35 = .ok (.ireturn, 1) := by decide +kernel
theorem dX3_countUndroppedBetween_0 : decode cX3_countUndroppedBetween 0 = .ok (.iconst 0, 1) := by decide +kernel
theorem dX3_countUndroppedBetween_1 : decode cX3_countUndroppedBetween 1 = .ok (.istore_n 3, 1) := by decide +kernel
theorem dX3_countUndroppedBetween_2 : decode cX3_countUndroppedBetween 2 = .ok (.iconst 0, 1) := by decide +kernel
theorem dX3_countUndroppedBetween_3 : decode cX3_countUndroppedBetween 3 = .ok (.istore 4, 2) := by decide +kernel
theorem dX3_countUndroppedBetween_5 : decode cX3_countUndroppedBetween 5 = .ok (.iload 4, 2) := by decide +kernel
theorem dX3_countUndroppedBetween_7 : decode cX3_countUndroppedBetween 7 = .ok (.aload_n 0, 1) := by decide +kernel
theorem dX3_countUndroppedBetween_8 : decode cX3_countUndroppedBetween 8 = .ok (.getfield 50, 3) := by decide +kernel
theorem dX3_countUndroppedBetween_11 : decode cX3_countUndroppedBetween 11 = .ok (.if_icmp .ge 37, 3) := by decide +kernel
theorem dX3_countUndroppedBetween_14 : decode cX3_countUndroppedBetween 14 = .ok (.aload_n 0, 1) := by decide +kernel
theorem dX3_countUndroppedBetween_15 : decode cX3_countUndroppedBetween 15 = .ok (.getfield 34, 3) := by decide +kernel
theorem dX3_countUndroppedBetween_18 : decode cX3_countUndroppedBetween 18 = .ok (.iload 4, 2) := by decide +kernel
theorem dX3_countUndroppedBetween_20 : decode cX3_countUndroppedBetween 20 = .ok (.baload, 1) := by decide +kernel
theorem dX3_countUndroppedBetween_21 : decode cX3_countUndroppedBetween 21 = .ok (.ifCond .ne 21, 3) := by decide +kernel
theorem dX3_countUndroppedBetween_24 : decode cX3_countUndroppedBetween 24 = .ok (.aload_n 0, 1) := by decide +kernel
theorem dX3_countUndroppedBetween_25 : decode cX3_countUndroppedBetween 25 = .ok (.getfield 31, 3) := by decide +kernel
theorem dX3_countUndroppedBetween_28 : decode cX3_countUndroppedBetween 28 = .ok (.iload 4, 2) := by decide +kernel
theorem dX3_countUndroppedBetween_30 : decode cX3_countUndroppedBetween 30 = .ok (.iaload, 1) := by decide +kernel
theorem dX3_countUndroppedBetween_31 : decode cX3_countUndroppedBetween 31 = .ok (.iload_n 1, 1) := by decide +kernel
theorem dX3_countUndroppedBetween_32 : decode cX3_countUndroppedBetween 32 = .ok (.iload_n 2, 1) := by decide +kernel
theorem dX3_countUndroppedBetween_33 : decode cX3_countUndroppedBetween 33 = .ok (.invokestatic 60, 3) := by decide +kernel
theorem dX3_countUndroppedBetween_36 : decode cX3_countUndroppedBetween 36 = .ok (.ifCond .eq 6, 3) := by decide +kernel
theorem dX3_countUndroppedBetween_39 : decode cX3_countUndroppedBetween 39 = .ok (.iinc 3 1, 3) := by decide +kernel
theorem dX3_countUndroppedBetween_42 : decode cX3_countUndroppedBetween 42 = .ok (.iinc 4 1, 3) := by decide +kernel
theorem dX3_countUndroppedBetween_45 : decode cX3_countUndroppedBetween 45 = .ok (.goto (-40), 3) := by decide +kernel
theorem dX3_countUndroppedBetween_48 : decode cX3_countUndroppedBetween 48 = .ok (.iload_n 3, 1) := by decide +kernel
theorem dX3_countUndroppedBetween_49 : decode cX3_countUndroppedBetween 49 = .ok (.ireturn, 1) := by decide +kernel
theorem dX3_countAlive_0 : decode cX3_countAlive 0 = .ok (.iconst 0, 1) := by decide +kernel
theorem dX3_countAlive_1 : decode cX3_countAlive 1 = .ok (.istore_n 3, 1) := by decide +kernel
theorem dX3_countAlive_2 : decode cX3_countAlive 2 = .ok (.iconst 0, 1) := by decide +kernel
theorem dX3_countAlive_3 : decode cX3_countAlive 3 = .ok (.istore 4, 2) := by decide +kernel
theorem dX3_countAlive_5 : decode cX3_countAlive 5 = .ok (.iload 4, 2) := by decide +kernel
theorem dX3_countAlive_7 : decode cX3_countAlive 7 = .ok (.aload_n 0, 1) := by decide +kernel
theorem dX3_countAlive_8 : decode cX3_countAlive 8 = .ok (.getfield 50, 3) := by decide +kernel
theorem dX3_countAlive_11 : decode cX3_countAlive 11 = .ok (.if_icmp .ge 23, 3) := by decide +kernel
theorem dX3_countAlive_14 : decode cX3_countAlive 14 = .ok (.aload_n 0, 1) := by decide +kernel
theorem dX3_countAlive_15 : decode cX3_countAlive 15 = .ok (.iload 4, 2) := by decide +kernel
theorem dX3_countAlive_17 : decode cX3_countAlive 17 = .ok (.iload_n 1, 1) := by decide +kernel
theorem dX3_countAlive_18 : decode cX3_countAlive 18 = .ok (.iload_n 2, 1) := by decide +kernel
theorem dX3_countAlive_19 : decode cX3_countAlive 19 = .ok (.invokevirtual 110, 3) := by decide +kernel
theorem dX3_countAlive_22 : decode cX3_countAlive 22 = .ok (.ifCond .eq 6, 3) := by decide +kernel
theorem dX3_countAlive_25 : decode cX3_countAlive 25 = .ok (.iinc 3 1, 3) := by decide +kernel
theorem dX3_countAlive_28 : decode cX3_countAlive 28 = .ok (.iinc 4 1, 3) := by decide +kernel
theorem dX3_countAlive_31 : decode cX3_countAlive 31 = .ok (.goto (-26), 3) := by decide +kernel
theorem dX3_countAlive_34 : decode cX3_countAlive 34 = .ok (.iload_n 3, 1) := by decide +kernel
theorem dX3_countAlive_35 : decode cX3_countAlive 35 = .ok (.ireturn, 1) := by decide +kernel
theorem dX3_weightAlive_0 : decode cX3_weightAlive 0 = .ok (.iconst 0, 1) := by decide +kernel
theorem dX3_weightAlive_1 : decode cX3_weightAlive 1 = .ok (.istore_n 3, 1) := by decide +kernel
theorem dX3_weightAlive_2 : decode cX3_weightAlive 2 = .ok (.iconst 0, 1) := by decide +kernel
theorem dX3_weightAlive_3 : decode cX3_weightAlive 3 = .ok (.istore 4, 2) := by decide +kernel
theorem dX3_weightAlive_5 : decode cX3_weightAlive 5 = .ok (.iload 4, 2) := by decide +kernel
theorem dX3_weightAlive_7 : decode cX3_weightAlive 7 = .ok (.aload_n 0, 1) := by decide +kernel
theorem dX3_weightAlive_8 : decode cX3_weightAlive 8 = .ok (.getfield 50, 3) := by decide +kernel
theorem dX3_weightAlive_11 : decode cX3_weightAlive 11 = .ok (.if_icmp .ge 30, 3) := by decide +kernel
theorem dX3_weightAlive_14 : decode cX3_weightAlive 14 = .ok (.aload_n 0, 1) := by decide +kernel
theorem dX3_weightAlive_15 : decode cX3_weightAlive 15 = .ok (.iload 4, 2) := by decide +kernel
theorem dX3_weightAlive_17 : decode cX3_weightAlive 17 = .ok (.iload_n 1, 1) := by decide +kernel
theorem dX3_weightAlive_18 : decode cX3_weightAlive 18 = .ok (.iload_n 2, 1) := by decide +kernel
theorem dX3_weightAlive_19 : decode cX3_weightAlive 19 = .ok (.invokevirtual 110, 3) := by decide +kernel
theorem dX3_weightAlive_22 : decode cX3_weightAlive 22 = .ok (.ifCond .eq 13, 3) := by decide +kernel
theorem dX3_weightAlive_25 : decode cX3_weightAlive 25 = .ok (.iload_n 3, 1) := by decide +kernel
theorem dX3_weightAlive_26 : decode cX3_weightAlive 26 = .ok (.aload_n 0, 1) := by decide +kernel
theorem dX3_weightAlive_27 : decode cX3_weightAlive 27 = .ok (.getfield 25, 3) := by decide +kernel
theorem dX3_weightAlive_30 : decode cX3_weightAlive 30 = .ok (.iload 4, 2) := by decide +kernel
theorem dX3_weightAlive_32 : decode cX3_weightAlive 32 = .ok (.iaload, 1) := by decide +kernel
theorem dX3_weightAlive_33 : decode cX3_weightAlive 33 = .ok (.iadd, 1) := by decide +kernel
theorem dX3_weightAlive_34 : decode cX3_weightAlive 34 = .ok (.istore_n 3, 1) := by decide +kernel
theorem dX3_weightAlive_35 : decode cX3_weightAlive 35 = .ok (.iinc 4 1, 3) := by decide +kernel
theorem dX3_weightAlive_38 : decode cX3_weightAlive 38 = .ok (.goto (-33), 3) := by decide +kernel
theorem dX3_weightAlive_41 : decode cX3_weightAlive 41 = .ok (.iload_n 3, 1) := by decide +kernel
theorem dX3_weightAlive_42 : decode cX3_weightAlive 42 = .ok (.ireturn, 1) := by decide +kernel
theorem dX4_init_0 : decode cX4_init 0 = .ok (.aload_n 0, 1) := by decide +kernel
theorem dX4_init_1 : decode cX4_init 1 = .ok (.invokespecial 3, 3) := by decide +kernel
theorem dX4_init_4 : decode cX4_init 4 = .ok (.aload_n 0, 1) := by decide +kernel
theorem dX4_init_5 : decode cX4_init 5 = .ok (.sipush 400, 3) := by decide +kernel
theorem dX4_init_8 : decode cX4_init 8 = .ok (.newarray .int, 2) := by decide +kernel
theorem dX4_init_10 : decode cX4_init 10 = .ok (.putfield 9, 3) := by decide +kernel
theorem dX4_init_13 : decode cX4_init 13 = .ok (.aload_n 0, 1) := by decide +kernel
theorem dX4_init_14 : decode cX4_init 14 = .ok (.new 15, 3) := by decide +kernel
theorem dX4_init_17 : decode cX4_init 17 = .ok (.dup, 1) := by decide +kernel
theorem dX4_init_18 : decode cX4_init 18 = .ok (.invokespecial 17, 3) := by decide +kernel
theorem dX4_init_21 : decode cX4_init 21 = .ok (.putfield 18, 3) := by decide +kernel
theorem dX4_init_24 : decode cX4_init 24 = .ok (.aload_n 0, 1) := by decide +kernel
theorem dX4_init_25 : decode cX4_init 25 = .ok (.iconst 0, 1) := by decide +kernel
theorem dX4_init_26 : decode cX4_init 26 = .ok (.putfield 22, 3) := by decide +kernel
theorem dX4_init_29 : decode cX4_init 29 = .ok (.return_, 1) := by decide +kernel
theorem dX4_append_0 : decode cX4_append 0 = .ok (.bipush 24, 2) := by decide +kernel
theorem dX4_append_2 : decode cX4_append 2 = .ok (.istore_n 2, 1) := by decide +kernel
theorem dX4_append_3 : decode cX4_append 3 = .ok (.iload_n 2, 1) := by decide +kernel
theorem dX4_append_4 : decode cX4_append 4 = .ok (.ifCond .lt 35, 3) := by decide +kernel
theorem dX4_append_7 : decode cX4_append 7 = .ok (.aload_n 0, 1) := by decide +kernel
theorem dX4_append_8 : decode cX4_append 8 = .ok (.getfield 9, 3) := by decide +kernel
theorem dX4_append_11 : decode cX4_append 11 = .ok (.aload_n 0, 1) := by decide +kernel
theorem dX4_append_12 : decode cX4_append 12 = .ok (.getfield 22, 3) := by decide +kernel
theorem dX4_append_15 : decode cX4_append 15 = .ok (.iload_n 1, 1) := by decide +kernel
theorem dX4_append_16 : decode cX4_append 16 = .ok (.iload_n 2, 1) := by decide +kernel
theorem dX4_append_17 : decode cX4_append 17 = .ok (.ishr, 1) := by decide +kernel
theorem dX4_append_18 : decode cX4_append 18 = .ok (.sipush 255, 3) := by decide +kernel
theorem dX4_append_21 : decode cX4_append 21 = .ok (.iand, 1) := by decide +kernel
theorem dX4_append_22 : decode cX4_append 22 = .ok (.iastore, 1) := by decide +kernel
theorem dX4_append_23 : decode cX4_append 23 = .ok (.aload_n 0, 1) := by decide +kernel
theorem dX4_append_24 : decode cX4_append 24 = .ok (.dup, 1) := by decide +kernel
theorem dX4_append_25 : decode cX4_append 25 = .ok (.getfield 22, 3) := by decide +kernel
theorem dX4_append_28 : decode cX4_append 28 = .ok (.iconst 1, 1) := by decide +kernel
theorem dX4_append_29 : decode cX4_append 29 = .ok (.iadd, 1) := by decide +kernel
theorem dX4_append_30 : decode cX4_append 30 = .ok (.putfield 22, 3) := by decide +kernel
theorem dX4_append_33 : decode cX4_append 33 = .ok (.iinc 2 (-8), 3) := by decide +kernel
theorem dX4_append_36 : decode cX4_append 36 = .ok (.goto (-33), 3) := by decide +kernel
theorem dX4_append_39 : decode cX4_append 39 = .ok (.return_, 1) := by decide +kernel
theorem dX4_read_0 : decode cX4_read 0 = .ok (.aload_n 0, 1) := by decide +kernel
theorem dX4_read_1 : decode cX4_read 1 = .ok (.getfield 18, 3) := by decide +kernel
theorem dX4_read_4 : decode cX4_read 4 = .ok (.invokevirtual 26, 3) := by decide +kernel
theorem dX4_read_7 : decode cX4_read 7 = .ok (.aload_n 0, 1) := by decide +kernel
theorem dX4_read_8 : decode cX4_read 8 = .ok (.iconst 0, 1) := by decide +kernel
theorem dX4_read_9 : decode cX4_read 9 = .ok (.putfield 29, 3) := by decide +kernel
theorem dX4_read_12 : decode cX4_read 12 = .ok (.aload_n 0, 1) := by decide +kernel
theorem dX4_read_13 : decode cX4_read 13 = .ok (.iconst (-1), 1) := by decide +kernel
theorem dX4_read_14 : decode cX4_read 14 = .ok (.putfield 32, 3) := by decide +kernel
theorem dX4_read_17 : decode cX4_read 17 = .ok (.iconst 0, 1) := by decide +kernel
theorem dX4_read_18 : decode cX4_read 18 = .ok (.istore_n 1, 1) := by decide +kernel
theorem dX4_read_19 : decode cX4_read 19 = .ok (.iload_n 1, 1) := by decide +kernel
theorem dX4_read_20 : decode cX4_read 20 = .ok (.sipush 400, 3) := by decide +kernel
theorem dX4_read_23 : decode cX4_read 23 = .ok (.if_icmp .gt 75, 3) := by decide +kernel
theorem dX4_read_26 : decode cX4_read 26 = .ok (.aload_n 0, 1) := by decide +kernel
theorem dX4_read_27 : decode cX4_read 27 = .ok (.invokevirtual 35, 3) := by decide +kernel
theorem dX4_read_30 : decode cX4_read 30 = .ok (.aload_n 0, 1) := by decide +kernel
theorem dX4_read_31 : decode cX4_read 31 = .ok (.invokevirtual 38, 3) := by decide +kernel
theorem dX4_read_34 : decode cX4_read 34 = .ok (.aload_n 0, 1) := by decide +kernel
theorem dX4_read_35 : decode cX4_read 35 = .ok (.getfield 32, 3) := by decide +kernel
theorem dX4_read_38 : decode cX4_read 38 = .ok (.iconst (-1), 1) := by decide +kernel
theorem dX4_read_39 : decode cX4_read 39 = .ok (.if_icmp .ne 59, 3) := by decide +kernel
theorem dX4_read_42 : decode cX4_read 42 = .ok (.aload_n 0, 1) := by decide +kernel
theorem dX4_read_43 : decode cX4_read 43 = .ok (.getfield 29, 3) := by decide +kernel
theorem dX4_read_46 : decode cX4_read 46 = .ok (.aload_n 0, 1) := by decide +kernel
theorem dX4_read_47 : decode cX4_read 47 = .ok (.getfield 22, 3) := by decide +kernel
theorem dX4_read_50 : decode cX4_read 50 = .ok (.if_icmp .lt 6, 3) := by decide +kernel
theorem dX4_read_53 : decode cX4_read 53 = .ok (.goto 45, 3) := by decide +kernel
theorem dX4_read_56 : decode cX4_read 56 = .ok (.aload_n 0, 1) := by decide +kernel
theorem dX4_read_57 : decode cX4_read 57 = .ok (.getfield 9, 3) := by decide +kernel
theorem dX4_read_60 : decode cX4_read 60 = .ok (.aload_n 0, 1) := by decide +kernel
theorem dX4_read_61 : decode cX4_read 61 = .ok (.getfield 29, 3) := by decide +kernel
theorem dX4_read_64 : decode cX4_read 64 = .ok (.iaload, 1) := by decide +kernel
theorem dX4_read_65 : decode cX4_read 65 = .ok (.bipush 59, 2) := by decide +kernel
theorem dX4_read_67 : decode cX4_read 67 = .ok (.if_icmp .eq 15, 3) := by decide +kernel
theorem dX4_read_70 : decode cX4_read 70 = .ok (.aload_n 0, 1) := by decide +kernel
theorem dX4_read_71 : decode cX4_read 71 = .ok (.aload_n 0, 1) := by decide +kernel
theorem dX4_read_72 : decode cX4_read 72 = .ok (.getfield 29, 3) := by decide +kernel
theorem dX4_read_75 : decode cX4_read 75 = .ok (.iconst 1, 1) := by decide +kernel
theorem dX4_read_76 : decode cX4_read 76 = .ok (.invokevirtual 41, 3) := by decide +kernel
theorem dX4_read_79 : decode cX4_read 79 = .ok (.goto 19, 3) := by decide +kernel
theorem dX4_read_82 : decode cX4_read 82 = .ok (.aload_n 0, 1) := by decide +kernel
theorem dX4_read_83 : decode cX4_read 83 = .ok (.dup, 1) := by decide +kernel
theorem dX4_read_84 : decode cX4_read 84 = .ok (.getfield 29, 3) := by decide +kernel
theorem dX4_read_87 : decode cX4_read 87 = .ok (.iconst 1, 1) := by decide +kernel
theorem dX4_read_88 : decode cX4_read 88 = .ok (.iadd, 1) := by decide +kernel
theorem dX4_read_89 : decode cX4_read 89 = .ok (.putfield 29, 3) := by decide +kernel
theorem dX4_read_92 : decode cX4_read 92 = .ok (.iinc 1 1, 3) := by decide +kernel
theorem dX4_read_95 : decode cX4_read 95 = .ok (.goto (-76), 3) := by decide +kernel
theorem dX4_read_98 : decode cX4_read 98 = .ok (.aload_n 0, 1) := by decide +kernel
theorem dX4_read_99 : decode cX4_read 99 = .ok (.getfield 32, 3) := by decide +kernel
theorem dX4_read_102 : decode cX4_read 102 = .ok (.ireturn, 1) := by decide +kernel
theorem dX4_readStatement_0 : decode cX4_readStatement 0 = .ok (.aload_n 0, 1) := by decide +kernel
theorem dX4_readStatement_1 : decode cX4_readStatement 1 = .ok (.invokevirtual 38, 3) := by decide +kernel
theorem dX4_readStatement_4 : decode cX4_readStatement 4 = .ok (.aload_n 0, 1) := by decide +kernel
theorem dX4_readStatement_5 : decode cX4_readStatement 5 = .ok (.getfield 29, 3) := by decide +kernel
theorem dX4_readStatement_8 : decode cX4_readStatement 8 = .ok (.istore_n 1, 1) := by decide +kernel
theorem dX4_readStatement_9 : decode cX4_readStatement 9 = .ok (.aload_n 0, 1) := by decide +kernel
theorem dX4_readStatement_10 : decode cX4_readStatement 10 = .ok (.ldc 45, 2) := by decide +kernel
theorem dX4_readStatement_12 : decode cX4_readStatement 12 = .ok (.invokevirtual 47, 3) := by decide +kernel
theorem dX4_readStatement_15 : decode cX4_readStatement 15 = .ok (.ifCond .eq 10, 3) := by decide +kernel
theorem dX4_readStatement_18 : decode cX4_readStatement 18 = .ok (.aload_n 0, 1) := by decide +kernel
theorem dX4_readStatement_19 : decode cX4_readStatement 19 = .ok (.invokevirtual 51, 3) := by decide +kernel
theorem dX4_readStatement_22 : decode cX4_readStatement 22 = .ok (.goto 92, 3) := by decide +kernel
theorem dX4_readStatement_25 : decode cX4_readStatement 25 = .ok (.aload_n 0, 1) := by decide +kernel
theorem dX4_readStatement_26 : decode cX4_readStatement 26 = .ok (.ldc 54, 2) := by decide +kernel
theorem dX4_readStatement_28 : decode cX4_readStatement 28 = .ok (.invokevirtual 47, 3) := by decide +kernel
theorem dX4_readStatement_31 : decode cX4_readStatement 31 = .ok (.ifCond .eq 10, 3) := by decide +kernel
theorem dX4_readStatement_34 : decode cX4_readStatement 34 = .ok (.aload_n 0, 1) := by decide +kernel
theorem dX4_readStatement_35 : decode cX4_readStatement 35 = .ok (.invokevirtual 56, 3) := by decide +kernel
theorem dX4_readStatement_38 : decode cX4_readStatement 38 = .ok (.goto 76, 3) := by decide +kernel
theorem dX4_readStatement_41 : decode cX4_readStatement 41 = .ok (.aload_n 0, 1) := by decide +kernel
theorem dX4_readStatement_42 : decode cX4_readStatement 42 = .ok (.ldc 59, 2) := by decide +kernel
theorem dX4_readStatement_44 : decode cX4_readStatement 44 = .ok (.invokevirtual 47, 3) := by decide +kernel
theorem dX4_readStatement_47 : decode cX4_readStatement 47 = .ok (.ifCond .eq 10, 3) := by decide +kernel
theorem dX4_readStatement_50 : decode cX4_readStatement 50 = .ok (.aload_n 0, 1) := by decide +kernel
theorem dX4_readStatement_51 : decode cX4_readStatement 51 = .ok (.invokevirtual 61, 3) := by decide +kernel
theorem dX4_readStatement_54 : decode cX4_readStatement 54 = .ok (.goto 60, 3) := by decide +kernel
theorem dX4_readStatement_57 : decode cX4_readStatement 57 = .ok (.aload_n 0, 1) := by decide +kernel
theorem dX4_readStatement_58 : decode cX4_readStatement 58 = .ok (.ldc 64, 2) := by decide +kernel
theorem dX4_readStatement_60 : decode cX4_readStatement 60 = .ok (.invokevirtual 47, 3) := by decide +kernel
theorem dX4_readStatement_63 : decode cX4_readStatement 63 = .ok (.ifCond .eq 11, 3) := by decide +kernel
theorem dX4_readStatement_66 : decode cX4_readStatement 66 = .ok (.aload_n 0, 1) := by decide +kernel
theorem dX4_readStatement_67 : decode cX4_readStatement 67 = .ok (.iload_n 1, 1) := by decide +kernel
theorem dX4_readStatement_68 : decode cX4_readStatement 68 = .ok (.invokevirtual 66, 3) := by decide +kernel
theorem dX4_readStatement_71 : decode cX4_readStatement 71 = .ok (.goto 43, 3) := by decide +kernel
theorem dX4_readStatement_74 : decode cX4_readStatement 74 = .ok (.aload_n 0, 1) := by decide +kernel
theorem dX4_readStatement_75 : decode cX4_readStatement 75 = .ok (.ldc 70, 2) := by decide +kernel
theorem dX4_readStatement_77 : decode cX4_readStatement 77 = .ok (.invokevirtual 47, 3) := by decide +kernel
theorem dX4_readStatement_80 : decode cX4_readStatement 80 = .ok (.ifCond .eq 11, 3) := by decide +kernel
theorem dX4_readStatement_83 : decode cX4_readStatement 83 = .ok (.aload_n 0, 1) := by decide +kernel
theorem dX4_readStatement_84 : decode cX4_readStatement 84 = .ok (.iload_n 1, 1) := by decide +kernel
theorem dX4_readStatement_85 : decode cX4_readStatement 85 = .ok (.invokevirtual 72, 3) := by decide +kernel
theorem dX4_readStatement_88 : decode cX4_readStatement 88 = .ok (.goto 26, 3) := by decide +kernel
theorem dX4_readStatement_91 : decode cX4_readStatement 91 = .ok (.aload_n 0, 1) := by decide +kernel
theorem dX4_readStatement_92 : decode cX4_readStatement 92 = .ok (.ldc 75, 2) := by decide +kernel
theorem dX4_readStatement_94 : decode cX4_readStatement 94 = .ok (.invokevirtual 47, 3) := by decide +kernel
theorem dX4_readStatement_97 : decode cX4_readStatement 97 = .ok (.ifCond .eq 11, 3) := by decide +kernel
theorem dX4_readStatement_100 : decode cX4_readStatement 100 = .ok (.aload_n 0, 1) := by decide +kernel
theorem dX4_readStatement_101 : decode cX4_readStatement 101 = .ok (.iload_n 1, 1) := by decide +kernel
theorem dX4_readStatement_102 : decode cX4_readStatement 102 = .ok (.invokevirtual 77, 3) := by decide +kernel
theorem dX4_readStatement_105 : decode cX4_readStatement 105 = .ok (.goto 9, 3) := by decide +kernel
theorem dX4_readStatement_108 : decode cX4_readStatement 108 = .ok (.aload_n 0, 1) := by decide +kernel
theorem dX4_readStatement_109 : decode cX4_readStatement 109 = .ok (.iload_n 1, 1) := by decide +kernel
theorem dX4_readStatement_110 : decode cX4_readStatement 110 = .ok (.iconst 1, 1) := by decide +kernel
theorem dX4_readStatement_111 : decode cX4_readStatement 111 = .ok (.invokevirtual 41, 3) := by decide +kernel
theorem dX4_readStatement_114 : decode cX4_readStatement 114 = .ok (.return_, 1) := by decide +kernel
theorem dX4_readSize_0 : decode cX4_readSize 0 = .ok (.aload_n 0, 1) := by decide +kernel
theorem dX4_readSize_1 : decode cX4_readSize 1 = .ok (.iconst 0, 1) := by decide +kernel
theorem dX4_readSize_2 : decode cX4_readSize 2 = .ok (.iconst 3, 1) := by decide +kernel
theorem dX4_readSize_3 : decode cX4_readSize 3 = .ok (.invokevirtual 80, 3) := by decide +kernel
theorem dX4_readSize_6 : decode cX4_readSize 6 = .ok (.istore_n 1, 1) := by decide +kernel
theorem dX4_readSize_7 : decode cX4_readSize 7 = .ok (.aload_n 0, 1) := by decide +kernel
theorem dX4_readSize_8 : decode cX4_readSize 8 = .ok (.iconst 1, 1) := by decide +kernel
theorem dX4_readSize_9 : decode cX4_readSize 9 = .ok (.bipush 12, 2) := by decide +kernel
theorem dX4_readSize_11 : decode cX4_readSize 11 = .ok (.invokevirtual 80, 3) := by decide +kernel
theorem dX4_readSize_14 : decode cX4_readSize 14 = .ok (.istore_n 2, 1) := by decide +kernel
theorem dX4_readSize_15 : decode cX4_readSize 15 = .ok (.aload_n 0, 1) := by decide +kernel
theorem dX4_readSize_16 : decode cX4_readSize 16 = .ok (.getfield 32, 3) := by decide +kernel
theorem dX4_readSize_19 : decode cX4_readSize 19 = .ok (.iconst (-1), 1) := by decide +kernel
theorem dX4_readSize_20 : decode cX4_readSize 20 = .ok (.if_icmp .ne 13, 3) := by decide +kernel
theorem dX4_readSize_23 : decode cX4_readSize 23 = .ok (.aload_n 0, 1) := by decide +kernel
theorem dX4_readSize_24 : decode cX4_readSize 24 = .ok (.getfield 18, 3) := by decide +kernel
theorem dX4_readSize_27 : decode cX4_readSize 27 = .ok (.getfield 84, 3) := by decide +kernel
theorem dX4_readSize_30 : decode cX4_readSize 30 = .ok (.iload_n 1, 1) := by decide +kernel
theorem dX4_readSize_31 : decode cX4_readSize 31 = .ok (.iload_n 2, 1) := by decide +kernel
theorem dX4_readSize_32 : decode cX4_readSize 32 = .ok (.iastore, 1) := by decide +kernel
theorem dX4_readSize_33 : decode cX4_readSize 33 = .ok (.return_, 1) := by decide +kernel
theorem dX4_readWindow_0 : decode cX4_readWindow 0 = .ok (.aload_n 0, 1) := by decide +kernel
theorem dX4_readWindow_1 : decode cX4_readWindow 1 = .ok (.iconst 0, 1) := by decide +kernel
theorem dX4_readWindow_2 : decode cX4_readWindow 2 = .ok (.iconst 3, 1) := by decide +kernel
theorem dX4_readWindow_3 : decode cX4_readWindow 3 = .ok (.invokevirtual 80, 3) := by decide +kernel
theorem dX4_readWindow_6 : decode cX4_readWindow 6 = .ok (.istore_n 1, 1) := by decide +kernel
theorem dX4_readWindow_7 : decode cX4_readWindow 7 = .ok (.aload_n 0, 1) := by decide +kernel
theorem dX4_readWindow_8 : decode cX4_readWindow 8 = .ok (.iconst 0, 1) := by decide +kernel
theorem dX4_readWindow_9 : decode cX4_readWindow 9 = .ok (.sipush 9999, 3) := by decide +kernel
theorem dX4_readWindow_12 : decode cX4_readWindow 12 = .ok (.invokevirtual 80, 3) := by decide +kernel
theorem dX4_readWindow_15 : decode cX4_readWindow 15 = .ok (.istore_n 2, 1) := by decide +kernel
theorem dX4_readWindow_16 : decode cX4_readWindow 16 = .ok (.aload_n 0, 1) := by decide +kernel
theorem dX4_readWindow_17 : decode cX4_readWindow 17 = .ok (.getfield 32, 3) := by decide +kernel
theorem dX4_readWindow_20 : decode cX4_readWindow 20 = .ok (.iconst (-1), 1) := by decide +kernel
theorem dX4_readWindow_21 : decode cX4_readWindow 21 = .ok (.if_icmp .ne 13, 3) := by decide +kernel
theorem dX4_readWindow_24 : decode cX4_readWindow 24 = .ok (.aload_n 0, 1) := by decide +kernel
theorem dX4_readWindow_25 : decode cX4_readWindow 25 = .ok (.getfield 18, 3) := by decide +kernel
theorem dX4_readWindow_28 : decode cX4_readWindow 28 = .ok (.getfield 87, 3) := by decide +kernel
theorem dX4_readWindow_31 : decode cX4_readWindow 31 = .ok (.iload_n 1, 1) := by decide +kernel
theorem dX4_readWindow_32 : decode cX4_readWindow 32 = .ok (.iload_n 2, 1) := by decide +kernel
theorem dX4_readWindow_33 : decode cX4_readWindow 33 = .ok (.iastore, 1) := by decide +kernel
theorem dX4_readWindow_34 : decode cX4_readWindow 34 = .ok (.return_, 1) := by decide +kernel
theorem dX4_readSeed_0 : decode cX4_readSeed 0 = .ok (.aload_n 0, 1) := by decide +kernel
theorem dX4_readSeed_1 : decode cX4_readSeed 1 = .ok (.iconst 0, 1) := by decide +kernel
theorem dX4_readSeed_2 : decode cX4_readSeed 2 = .ok (.ldc 90, 2) := by decide +kernel
theorem dX4_readSeed_4 : decode cX4_readSeed 4 = .ok (.invokevirtual 80, 3) := by decide +kernel
theorem dX4_readSeed_7 : decode cX4_readSeed 7 = .ok (.istore_n 1, 1) := by decide +kernel
theorem dX4_readSeed_8 : decode cX4_readSeed 8 = .ok (.aload_n 0, 1) := by decide +kernel
theorem dX4_readSeed_9 : decode cX4_readSeed 9 = .ok (.getfield 32, 3) := by decide +kernel
theorem dX4_readSeed_12 : decode cX4_readSeed 12 = .ok (.iconst (-1), 1) := by decide +kernel
theorem dX4_readSeed_13 : decode cX4_readSeed 13 = .ok (.if_icmp .ne 11, 3) := by decide +kernel
theorem dX4_readSeed_16 : decode cX4_readSeed 16 = .ok (.aload_n 0, 1) := by decide +kernel
theorem dX4_readSeed_17 : decode cX4_readSeed 17 = .ok (.getfield 18, 3) := by decide +kernel
theorem dX4_readSeed_20 : decode cX4_readSeed 20 = .ok (.iload_n 1, 1) := by decide +kernel
theorem dX4_readSeed_21 : decode cX4_readSeed 21 = .ok (.putfield 91, 3) := by decide +kernel
theorem dX4_readSeed_24 : decode cX4_readSeed 24 = .ok (.return_, 1) := by decide +kernel
theorem dX4_readWait_0 : decode cX4_readWait 0 = .ok (.aload_n 0, 1) := by decide +kernel
theorem dX4_readWait_1 : decode cX4_readWait 1 = .ok (.iconst 0, 1) := by decide +kernel
theorem dX4_readWait_2 : decode cX4_readWait 2 = .ok (.sipush 9999, 3) := by decide +kernel
theorem dX4_readWait_5 : decode cX4_readWait 5 = .ok (.invokevirtual 80, 3) := by decide +kernel
theorem dX4_readWait_8 : decode cX4_readWait 8 = .ok (.istore_n 2, 1) := by decide +kernel
theorem dX4_readWait_9 : decode cX4_readWait 9 = .ok (.aload_n 0, 1) := by decide +kernel
theorem dX4_readWait_10 : decode cX4_readWait 10 = .ok (.getfield 18, 3) := by decide +kernel
theorem dX4_readWait_13 : decode cX4_readWait 13 = .ok (.getfield 93, 3) := by decide +kernel
theorem dX4_readWait_16 : decode cX4_readWait 16 = .ok (.iload_n 2, 1) := by decide +kernel
theorem dX4_readWait_17 : decode cX4_readWait 17 = .ok (.iadd, 1) := by decide +kernel
theorem dX4_readWait_18 : decode cX4_readWait 18 = .ok (.ldc 96, 2) := by decide +kernel
theorem dX4_readWait_20 : decode cX4_readWait 20 = .ok (.if_icmp .le 9, 3) := by decide +kernel
theorem dX4_readWait_23 : decode cX4_readWait 23 = .ok (.aload_n 0, 1) := by decide +kernel
theorem dX4_readWait_24 : decode cX4_readWait 24 = .ok (.iload_n 1, 1) := by decide +kernel
theorem dX4_readWait_25 : decode cX4_readWait 25 = .ok (.iconst 3, 1) := by decide +kernel
theorem dX4_readWait_26 : decode cX4_readWait 26 = .ok (.invokevirtual 41, 3) := by decide +kernel
theorem dX4_readWait_29 : decode cX4_readWait 29 = .ok (.aload_n 0, 1) := by decide +kernel
theorem dX4_readWait_30 : decode cX4_readWait 30 = .ok (.getfield 32, 3) := by decide +kernel
theorem dX4_readWait_33 : decode cX4_readWait 33 = .ok (.iconst (-1), 1) := by decide +kernel
theorem dX4_readWait_34 : decode cX4_readWait 34 = .ok (.if_icmp .ne 16, 3) := by decide +kernel
theorem dX4_readWait_37 : decode cX4_readWait 37 = .ok (.aload_n 0, 1) := by decide +kernel
theorem dX4_readWait_38 : decode cX4_readWait 38 = .ok (.getfield 18, 3) := by decide +kernel
theorem dX4_readWait_41 : decode cX4_readWait 41 = .ok (.dup, 1) := by decide +kernel
theorem dX4_readWait_42 : decode cX4_readWait 42 = .ok (.getfield 93, 3) := by decide +kernel
theorem dX4_readWait_45 : decode cX4_readWait 45 = .ok (.iload_n 2, 1) := by decide +kernel
theorem dX4_readWait_46 : decode cX4_readWait 46 = .ok (.iadd, 1) := by decide +kernel
theorem dX4_readWait_47 : decode cX4_readWait 47 = .ok (.putfield 93, 3) := by decide +kernel
theorem dX4_readWait_50 : decode cX4_readWait 50 = .ok (.return_, 1) := by decide +kernel
theorem dX4_readItems_0 : decode cX4_readItems 0 = .ok (.aload_n 0, 1) := by decide +kernel
theorem dX4_readItems_1 : decode cX4_readItems 1 = .ok (.iconst 0, 1) := by decide +kernel
theorem dX4_readItems_2 : decode cX4_readItems 2 = .ok (.iconst 3, 1) := by decide +kernel
theorem dX4_readItems_3 : decode cX4_readItems 3 = .ok (.invokevirtual 80, 3) := by decide +kernel
theorem dX4_readItems_6 : decode cX4_readItems 6 = .ok (.istore_n 2, 1) := by decide +kernel
theorem dX4_readItems_7 : decode cX4_readItems 7 = .ok (.aload_n 0, 1) := by decide +kernel
theorem dX4_readItems_8 : decode cX4_readItems 8 = .ok (.invokevirtual 97, 3) := by decide +kernel
theorem dX4_readItems_11 : decode cX4_readItems 11 = .ok (.istore_n 3, 1) := by decide +kernel
theorem dX4_readItems_12 : decode cX4_readItems 12 = .ok (.aload_n 0, 1) := by decide +kernel
theorem dX4_readItems_13 : decode cX4_readItems 13 = .ok (.iconst 1, 1) := by decide +kernel
theorem dX4_readItems_14 : decode cX4_readItems 14 = .ok (.bipush 20, 2) := by decide +kernel
theorem dX4_readItems_16 : decode cX4_readItems 16 = .ok (.invokevirtual 80, 3) := by decide +kernel
theorem dX4_readItems_19 : decode cX4_readItems 19 = .ok (.istore 4, 2) := by decide +kernel
theorem dX4_readItems_21 : decode cX4_readItems 21 = .ok (.iconst 1, 1) := by decide +kernel
theorem dX4_readItems_22 : decode cX4_readItems 22 = .ok (.istore 5, 2) := by decide +kernel
theorem dX4_readItems_24 : decode cX4_readItems 24 = .ok (.aload_n 0, 1) := by decide +kernel
theorem dX4_readItems_25 : decode cX4_readItems 25 = .ok (.ldc 101, 2) := by decide +kernel
theorem dX4_readItems_27 : decode cX4_readItems 27 = .ok (.invokevirtual 47, 3) := by decide +kernel
theorem dX4_readItems_30 : decode cX4_readItems 30 = .ok (.ifCond .eq 12, 3) := by decide +kernel
theorem dX4_readItems_33 : decode cX4_readItems 33 = .ok (.aload_n 0, 1) := by decide +kernel
theorem dX4_readItems_34 : decode cX4_readItems 34 = .ok (.iconst 1, 1) := by decide +kernel
theorem dX4_readItems_35 : decode cX4_readItems 35 = .ok (.bipush 50, 2) := by decide +kernel
theorem dX4_readItems_37 : decode cX4_readItems 37 = .ok (.invokevirtual 80, 3) := by decide +kernel
theorem dX4_readItems_40 : decode cX4_readItems 40 = .ok (.istore 5, 2) := by decide +kernel
theorem dX4_readItems_42 : decode cX4_readItems 42 = .ok (.aload_n 0, 1) := by decide +kernel
theorem dX4_readItems_43 : decode cX4_readItems 43 = .ok (.getfield 18, 3) := by decide +kernel
theorem dX4_readItems_46 : decode cX4_readItems 46 = .ok (.getfield 103, 3) := by decide +kernel
theorem dX4_readItems_49 : decode cX4_readItems 49 = .ok (.iload 5, 2) := by decide +kernel
theorem dX4_readItems_51 : decode cX4_readItems 51 = .ok (.iadd, 1) := by decide +kernel
theorem dX4_readItems_52 : decode cX4_readItems 52 = .ok (.bipush 100, 2) := by decide +kernel
theorem dX4_readItems_54 : decode cX4_readItems 54 = .ok (.if_icmp .le 9, 3) := by decide +kernel
theorem dX4_readItems_57 : decode cX4_readItems 57 = .ok (.aload_n 0, 1) := by decide +kernel
theorem dX4_readItems_58 : decode cX4_readItems 58 = .ok (.iload_n 1, 1) := by decide +kernel
theorem dX4_readItems_59 : decode cX4_readItems 59 = .ok (.iconst 3, 1) := by decide +kernel
theorem dX4_readItems_60 : decode cX4_readItems 60 = .ok (.invokevirtual 41, 3) := by decide +kernel
theorem dX4_readItems_63 : decode cX4_readItems 63 = .ok (.iconst 0, 1) := by decide +kernel
theorem dX4_readItems_64 : decode cX4_readItems 64 = .ok (.istore 6, 2) := by decide +kernel
theorem dX4_readItems_66 : decode cX4_readItems 66 = .ok (.iload 6, 2) := by decide +kernel
theorem dX4_readItems_68 : decode cX4_readItems 68 = .ok (.iload 5, 2) := by decide +kernel
theorem dX4_readItems_70 : decode cX4_readItems 70 = .ok (.if_icmp .ge 36, 3) := by decide +kernel
theorem dX4_readItems_73 : decode cX4_readItems 73 = .ok (.aload_n 0, 1) := by decide +kernel
theorem dX4_readItems_74 : decode cX4_readItems 74 = .ok (.getfield 32, 3) := by decide +kernel
theorem dX4_readItems_77 : decode cX4_readItems 77 = .ok (.iconst (-1), 1) := by decide +kernel
theorem dX4_readItems_78 : decode cX4_readItems 78 = .ok (.if_icmp .ne 28, 3) := by decide +kernel
theorem dX4_readItems_81 : decode cX4_readItems 81 = .ok (.aload_n 0, 1) := by decide +kernel
theorem dX4_readItems_82 : decode cX4_readItems 82 = .ok (.getfield 18, 3) := by decide +kernel
theorem dX4_readItems_85 : decode cX4_readItems 85 = .ok (.iload_n 2, 1) := by decide +kernel
theorem dX4_readItems_86 : decode cX4_readItems 86 = .ok (.iload_n 3, 1) := by decide +kernel
theorem dX4_readItems_87 : decode cX4_readItems 87 = .ok (.iload 4, 2) := by decide +kernel
theorem dX4_readItems_89 : decode cX4_readItems 89 = .ok (.aload_n 0, 1) := by decide +kernel
theorem dX4_readItems_90 : decode cX4_readItems 90 = .ok (.getfield 18, 3) := by decide +kernel
theorem dX4_readItems_93 : decode cX4_readItems 93 = .ok (.invokevirtual 106, 3) := by decide +kernel
theorem dX4_readItems_96 : decode cX4_readItems 96 = .ok (.invokevirtual 109, 3) := by decide +kernel
theorem dX4_readItems_99 : decode cX4_readItems 99 = .ok (.pop, 1) := by decide +kernel
theorem dX4_readItems_100 : decode cX4_readItems 100 = .ok (.iinc 6 1, 3) := by decide +kernel
theorem dX4_readItems_103 : decode cX4_readItems 103 = .ok (.goto (-37), 3) := by decide +kernel
theorem dX4_readItems_106 : decode cX4_readItems 106 = .ok (.return_, 1) := by decide +kernel
theorem dX4_readKey_0 : decode cX4_readKey 0 = .ok (.aload_n 0, 1) := by decide +kernel
theorem dX4_readKey_1 : decode cX4_readKey 1 = .ok (.iconst 0, 1) := by decide +kernel
theorem dX4_readKey_2 : decode cX4_readKey 2 = .ok (.iconst 3, 1) := by decide +kernel
theorem dX4_readKey_3 : decode cX4_readKey 3 = .ok (.invokevirtual 80, 3) := by decide +kernel
theorem dX4_readKey_6 : decode cX4_readKey 6 = .ok (.istore_n 2, 1) := by decide +kernel
theorem dX4_readKey_7 : decode cX4_readKey 7 = .ok (.aload_n 0, 1) := by decide +kernel
theorem dX4_readKey_8 : decode cX4_readKey 8 = .ok (.invokevirtual 97, 3) := by decide +kernel
theorem dX4_readKey_11 : decode cX4_readKey 11 = .ok (.istore_n 3, 1) := by decide +kernel
theorem dX4_readKey_12 : decode cX4_readKey 12 = .ok (.aload_n 0, 1) := by decide +kernel
theorem dX4_readKey_13 : decode cX4_readKey 13 = .ok (.iconst 1, 1) := by decide +kernel
theorem dX4_readKey_14 : decode cX4_readKey 14 = .ok (.bipush 20, 2) := by decide +kernel
theorem dX4_readKey_16 : decode cX4_readKey 16 = .ok (.invokevirtual 80, 3) := by decide +kernel
theorem dX4_readKey_19 : decode cX4_readKey 19 = .ok (.istore 4, 2) := by decide +kernel
theorem dX4_readKey_21 : decode cX4_readKey 21 = .ok (.aload_n 0, 1) := by decide +kernel
theorem dX4_readKey_22 : decode cX4_readKey 22 = .ok (.iconst 1, 1) := by decide +kernel
theorem dX4_readKey_23 : decode cX4_readKey 23 = .ok (.sipush 1023, 3) := by decide +kernel
theorem dX4_readKey_26 : decode cX4_readKey 26 = .ok (.invokevirtual 80, 3) := by decide +kernel
theorem dX4_readKey_29 : decode cX4_readKey 29 = .ok (.istore 5, 2) := by decide +kernel
theorem dX4_readKey_31 : decode cX4_readKey 31 = .ok (.aload_n 0, 1) := by decide +kernel
theorem dX4_readKey_32 : decode cX4_readKey 32 = .ok (.getfield 18, 3) := by decide +kernel
theorem dX4_readKey_35 : decode cX4_readKey 35 = .ok (.getfield 103, 3) := by decide +kernel
theorem dX4_readKey_38 : decode cX4_readKey 38 = .ok (.bipush 100, 2) := by decide +kernel
theorem dX4_readKey_40 : decode cX4_readKey 40 = .ok (.if_icmp .lt 9, 3) := by decide +kernel
theorem dX4_readKey_43 : decode cX4_readKey 43 = .ok (.aload_n 0, 1) := by decide +kernel
theorem dX4_readKey_44 : decode cX4_readKey 44 = .ok (.iload_n 1, 1) := by decide +kernel
theorem dX4_readKey_45 : decode cX4_readKey 45 = .ok (.iconst 3, 1) := by decide +kernel
theorem dX4_readKey_46 : decode cX4_readKey 46 = .ok (.invokevirtual 41, 3) := by decide +kernel
theorem dX4_readKey_49 : decode cX4_readKey 49 = .ok (.aload_n 0, 1) := by decide +kernel
theorem dX4_readKey_50 : decode cX4_readKey 50 = .ok (.getfield 32, 3) := by decide +kernel
theorem dX4_readKey_53 : decode cX4_readKey 53 = .ok (.iconst (-1), 1) := by decide +kernel
theorem dX4_readKey_54 : decode cX4_readKey 54 = .ok (.if_icmp .ne 17, 3) := by decide +kernel
theorem dX4_readKey_57 : decode cX4_readKey 57 = .ok (.aload_n 0, 1) := by decide +kernel
theorem dX4_readKey_58 : decode cX4_readKey 58 = .ok (.getfield 18, 3) := by decide +kernel
theorem dX4_readKey_61 : decode cX4_readKey 61 = .ok (.iload_n 2, 1) := by decide +kernel
theorem dX4_readKey_62 : decode cX4_readKey 62 = .ok (.iload_n 3, 1) := by decide +kernel
theorem dX4_readKey_63 : decode cX4_readKey 63 = .ok (.iload 4, 2) := by decide +kernel
theorem dX4_readKey_65 : decode cX4_readKey 65 = .ok (.iload 5, 2) := by decide +kernel
theorem dX4_readKey_67 : decode cX4_readKey 67 = .ok (.invokevirtual 109, 3) := by decide +kernel
theorem dX4_readKey_70 : decode cX4_readKey 70 = .ok (.pop, 1) := by decide +kernel
theorem dX4_readKey_71 : decode cX4_readKey 71 = .ok (.return_, 1) := by decide +kernel
theorem dX4_number_0 : decode cX4_number 0 = .ok (.aload_n 0, 1) := by decide +kernel
theorem dX4_number_1 : decode cX4_number 1 = .ok (.invokevirtual 38, 3) := by decide +kernel
theorem dX4_number_4 : decode cX4_number 4 = .ok (.aload_n 0, 1) := by decide +kernel
theorem dX4_number_5 : decode cX4_number 5 = .ok (.getfield 29, 3) := by decide +kernel
theorem dX4_number_8 : decode cX4_number 8 = .ok (.istore_n 3, 1) := by decide +kernel
theorem dX4_number_9 : decode cX4_number 9 = .ok (.iconst 0, 1) := by decide +kernel
theorem dX4_number_10 : decode cX4_number 10 = .ok (.istore 4, 2) := by decide +kernel
theorem dX4_number_12 : decode cX4_number 12 = .ok (.aload_n 0, 1) := by decide +kernel
theorem dX4_number_13 : decode cX4_number 13 = .ok (.getfield 29, 3) := by decide +kernel
theorem dX4_number_16 : decode cX4_number 16 = .ok (.aload_n 0, 1) := by decide +kernel
theorem dX4_number_17 : decode cX4_number 17 = .ok (.getfield 22, 3) := by decide +kernel
theorem dX4_number_20 : decode cX4_number 20 = .ok (.if_icmp .ge 60, 3) := by decide +kernel
theorem dX4_number_23 : decode cX4_number 23 = .ok (.aload_n 0, 1) := by decide +kernel
theorem dX4_number_24 : decode cX4_number 24 = .ok (.getfield 9, 3) := by decide +kernel
theorem dX4_number_27 : decode cX4_number 27 = .ok (.aload_n 0, 1) := by decide +kernel
theorem dX4_number_28 : decode cX4_number 28 = .ok (.getfield 29, 3) := by decide +kernel
theorem dX4_number_31 : decode cX4_number 31 = .ok (.iaload, 1) := by decide +kernel
theorem dX4_number_32 : decode cX4_number 32 = .ok (.bipush 48, 2) := by decide +kernel
theorem dX4_number_34 : decode cX4_number 34 = .ok (.bipush 57, 2) := by decide +kernel
theorem dX4_number_36 : decode cX4_number 36 = .ok (.invokestatic 113, 3) := by decide +kernel
theorem dX4_number_39 : decode cX4_number 39 = .ok (.ifCond .eq 41, 3) := by decide +kernel
theorem dX4_number_42 : decode cX4_number 42 = .ok (.bipush 10, 2) := by decide +kernel
theorem dX4_number_44 : decode cX4_number 44 = .ok (.iload 4, 2) := by decide +kernel
theorem dX4_number_46 : decode cX4_number 46 = .ok (.imul, 1) := by decide +kernel
theorem dX4_number_47 : decode cX4_number 47 = .ok (.aload_n 0, 1) := by decide +kernel
theorem dX4_number_48 : decode cX4_number 48 = .ok (.getfield 9, 3) := by decide +kernel
theorem dX4_number_51 : decode cX4_number 51 = .ok (.aload_n 0, 1) := by decide +kernel
theorem dX4_number_52 : decode cX4_number 52 = .ok (.getfield 29, 3) := by decide +kernel
theorem dX4_number_55 : decode cX4_number 55 = .ok (.iaload, 1) := by decide +kernel
theorem dX4_number_56 : decode cX4_number 56 = .ok (.iadd, 1) := by decide +kernel
theorem dX4_number_57 : decode cX4_number 57 = .ok (.bipush 48, 2) := by decide +kernel
theorem dX4_number_59 : decode cX4_number 59 = .ok (.isub, 1) := by decide +kernel
theorem dX4_number_60 : decode cX4_number 60 = .ok (.ldc 117, 2) := by decide +kernel
theorem dX4_number_62 : decode cX4_number 62 = .ok (.invokestatic 118, 3) := by decide +kernel
theorem dX4_number_65 : decode cX4_number 65 = .ok (.istore 4, 2) := by decide +kernel
theorem dX4_number_67 : decode cX4_number 67 = .ok (.aload_n 0, 1) := by decide +kernel
theorem dX4_number_68 : decode cX4_number 68 = .ok (.dup, 1) := by decide +kernel
theorem dX4_number_69 : decode cX4_number 69 = .ok (.getfield 29, 3) := by decide +kernel
theorem dX4_number_72 : decode cX4_number 72 = .ok (.iconst 1, 1) := by decide +kernel
theorem dX4_number_73 : decode cX4_number 73 = .ok (.iadd, 1) := by decide +kernel
theorem dX4_number_74 : decode cX4_number 74 = .ok (.putfield 29, 3) := by decide +kernel
theorem dX4_number_77 : decode cX4_number 77 = .ok (.goto (-65), 3) := by decide +kernel
theorem dX4_number_80 : decode cX4_number 80 = .ok (.aload_n 0, 1) := by decide +kernel
theorem dX4_number_81 : decode cX4_number 81 = .ok (.getfield 29, 3) := by decide +kernel
theorem dX4_number_84 : decode cX4_number 84 = .ok (.iload_n 3, 1) := by decide +kernel
theorem dX4_number_85 : decode cX4_number 85 = .ok (.if_icmp .ne 12, 3) := by decide +kernel
theorem dX4_number_88 : decode cX4_number 88 = .ok (.aload_n 0, 1) := by decide +kernel
theorem dX4_number_89 : decode cX4_number 89 = .ok (.iload_n 3, 1) := by decide +kernel
theorem dX4_number_90 : decode cX4_number 90 = .ok (.iconst 1, 1) := by decide +kernel
theorem dX4_number_91 : decode cX4_number 91 = .ok (.invokevirtual 41, 3) := by decide +kernel
theorem dX4_number_94 : decode cX4_number 94 = .ok (.goto 19, 3) := by decide +kernel
theorem dX4_number_97 : decode cX4_number 97 = .ok (.iload 4, 2) := by decide +kernel
theorem dX4_number_99 : decode cX4_number 99 = .ok (.iload_n 1, 1) := by decide +kernel
theorem dX4_number_100 : decode cX4_number 100 = .ok (.iload_n 2, 1) := by decide +kernel
theorem dX4_number_101 : decode cX4_number 101 = .ok (.invokestatic 113, 3) := by decide +kernel
theorem dX4_number_104 : decode cX4_number 104 = .ok (.ifCond .ne 9, 3) := by decide +kernel
theorem dX4_number_107 : decode cX4_number 107 = .ok (.aload_n 0, 1) := by decide +kernel
theorem dX4_number_108 : decode cX4_number 108 = .ok (.iload_n 3, 1) := by decide +kernel
theorem dX4_number_109 : decode cX4_number 109 = .ok (.iconst 2, 1) := by decide +kernel
theorem dX4_number_110 : decode cX4_number 110 = .ok (.invokevirtual 41, 3) := by decide +kernel
theorem dX4_number_113 : decode cX4_number 113 = .ok (.aload_n 0, 1) := by decide +kernel
theorem dX4_number_114 : decode cX4_number 114 = .ok (.getfield 32, 3) := by decide +kernel
theorem dX4_number_117 : decode cX4_number 117 = .ok (.iconst (-1), 1) := by decide +kernel
theorem dX4_number_118 : decode cX4_number 118 = .ok (.if_icmp .ne 8, 3) := by decide +kernel
theorem dX4_number_121 : decode cX4_number 121 = .ok (.iload 4, 2) := by decide +kernel
theorem dX4_number_123 : decode cX4_number 123 = .ok (.goto 4, 3) := by decide +kernel
theorem dX4_number_126 : decode cX4_number 126 = .ok (.iload_n 1, 1) := by decide +kernel
theorem dX4_number_127 : decode cX4_number 127 = .ok (.ireturn, 1) := by decide +kernel
theorem dX4_label_0 : decode cX4_label 0 = .ok (.aload_n 0, 1) := by decide +kernel
theorem dX4_label_1 : decode cX4_label 1 = .ok (.invokevirtual 38, 3) := by decide +kernel
theorem dX4_label_4 : decode cX4_label 4 = .ok (.aload_n 0, 1) := by decide +kernel
theorem dX4_label_5 : decode cX4_label 5 = .ok (.aload_n 0, 1) := by decide +kernel
theorem dX4_label_6 : decode cX4_label 6 = .ok (.getfield 29, 3) := by decide +kernel
theorem dX4_label_9 : decode cX4_label 9 = .ok (.invokevirtual 123, 3) := by decide +kernel
theorem dX4_label_12 : decode cX4_label 12 = .ok (.ifCond .eq 16, 3) := by decide +kernel
theorem dX4_label_15 : decode cX4_label 15 = .ok (.aload_n 0, 1) := by decide +kernel
theorem dX4_label_16 : decode cX4_label 16 = .ok (.aload_n 0, 1) := by decide +kernel
theorem dX4_label_17 : decode cX4_label 17 = .ok (.getfield 29, 3) := by decide +kernel
theorem dX4_label_20 : decode cX4_label 20 = .ok (.iconst 1, 1) := by decide +kernel
theorem dX4_label_21 : decode cX4_label 21 = .ok (.iadd, 1) := by decide +kernel
theorem dX4_label_22 : decode cX4_label 22 = .ok (.invokevirtual 123, 3) := by decide +kernel
theorem dX4_label_25 : decode cX4_label 25 = .ok (.ifCond .eq 14, 3) := by decide +kernel
theorem dX4_label_28 : decode cX4_label 28 = .ok (.aload_n 0, 1) := by decide +kernel
theorem dX4_label_29 : decode cX4_label 29 = .ok (.aload_n 0, 1) := by decide +kernel
theorem dX4_label_30 : decode cX4_label 30 = .ok (.getfield 29, 3) := by decide +kernel
theorem dX4_label_33 : decode cX4_label 33 = .ok (.iconst 1, 1) := by decide +kernel
theorem dX4_label_34 : decode cX4_label 34 = .ok (.invokevirtual 41, 3) := by decide +kernel
theorem dX4_label_37 : decode cX4_label 37 = .ok (.iconst 0, 1) := by decide +kernel
theorem dX4_label_38 : decode cX4_label 38 = .ok (.ireturn, 1) := by decide +kernel
theorem dX4_label_39 : decode cX4_label 39 = .ok (.aload_n 0, 1) := by decide +kernel
theorem dX4_label_40 : decode cX4_label 40 = .ok (.getfield 9, 3) := by decide +kernel
theorem dX4_label_43 : decode cX4_label 43 = .ok (.aload_n 0, 1) := by decide +kernel
theorem dX4_label_44 : decode cX4_label 44 = .ok (.getfield 29, 3) := by decide +kernel
theorem dX4_label_47 : decode cX4_label 47 = .ok (.iaload, 1) := by decide +kernel
theorem dX4_label_48 : decode cX4_label 48 = .ok (.bipush 97, 2) := by decide +kernel
theorem dX4_label_50 : decode cX4_label 50 = .ok (.isub, 1) := by decide +kernel
theorem dX4_label_51 : decode cX4_label 51 = .ok (.istore_n 1, 1) := by decide +kernel
theorem dX4_label_52 : decode cX4_label 52 = .ok (.aload_n 0, 1) := by decide +kernel
theorem dX4_label_53 : decode cX4_label 53 = .ok (.dup, 1) := by decide +kernel
theorem dX4_label_54 : decode cX4_label 54 = .ok (.getfield 29, 3) := by decide +kernel
theorem dX4_label_57 : decode cX4_label 57 = .ok (.iconst 1, 1) := by decide +kernel
theorem dX4_label_58 : decode cX4_label 58 = .ok (.iadd, 1) := by decide +kernel
theorem dX4_label_59 : decode cX4_label 59 = .ok (.putfield 29, 3) := by decide +kernel
theorem dX4_label_62 : decode cX4_label 62 = .ok (.iload_n 1, 1) := by decide +kernel
theorem dX4_label_63 : decode cX4_label 63 = .ok (.ireturn, 1) := by decide +kernel
theorem dX4_takes_0 : decode cX4_takes 0 = .ok (.aload_n 0, 1) := by decide +kernel
theorem dX4_takes_1 : decode cX4_takes 1 = .ok (.invokevirtual 38, 3) := by decide +kernel
theorem dX4_takes_4 : decode cX4_takes 4 = .ok (.aload_n 0, 1) := by decide +kernel
theorem dX4_takes_5 : decode cX4_takes 5 = .ok (.getfield 29, 3) := by decide +kernel
theorem dX4_takes_8 : decode cX4_takes 8 = .ok (.aload_n 1, 1) := by decide +kernel
theorem dX4_takes_9 : decode cX4_takes 9 = .ok (.invokevirtual 127, 3) := by decide +kernel
theorem dX4_takes_12 : decode cX4_takes 12 = .ok (.iadd, 1) := by decide +kernel
theorem dX4_takes_13 : decode cX4_takes 13 = .ok (.istore_n 2, 1) := by decide +kernel
theorem dX4_takes_14 : decode cX4_takes 14 = .ok (.aload_n 0, 1) := by decide +kernel
theorem dX4_takes_15 : decode cX4_takes 15 = .ok (.getfield 32, 3) := by decide +kernel
theorem dX4_takes_18 : decode cX4_takes 18 = .ok (.iconst (-1), 1) := by decide +kernel
theorem dX4_takes_19 : decode cX4_takes 19 = .ok (.if_icmp .ne 19, 3) := by decide +kernel
theorem dX4_takes_22 : decode cX4_takes 22 = .ok (.iload_n 2, 1) := by decide +kernel
theorem dX4_takes_23 : decode cX4_takes 23 = .ok (.aload_n 0, 1) := by decide +kernel
theorem dX4_takes_24 : decode cX4_takes 24 = .ok (.getfield 22, 3) := by decide +kernel
theorem dX4_takes_27 : decode cX4_takes 27 = .ok (.if_icmp .gt 11, 3) := by decide +kernel
theorem dX4_takes_30 : decode cX4_takes 30 = .ok (.aload_n 0, 1) := by decide +kernel
theorem dX4_takes_31 : decode cX4_takes 31 = .ok (.iload_n 2, 1) := by decide +kernel
theorem dX4_takes_32 : decode cX4_takes 32 = .ok (.invokevirtual 123, 3) := by decide +kernel
theorem dX4_takes_35 : decode cX4_takes 35 = .ok (.ifCond .eq 5, 3) := by decide +kernel
theorem dX4_takes_38 : decode cX4_takes 38 = .ok (.iconst 0, 1) := by decide +kernel
theorem dX4_takes_39 : decode cX4_takes 39 = .ok (.ireturn, 1) := by decide +kernel
theorem dX4_takes_40 : decode cX4_takes 40 = .ok (.iconst 0, 1) := by decide +kernel
theorem dX4_takes_41 : decode cX4_takes 41 = .ok (.istore_n 3, 1) := by decide +kernel
theorem dX4_takes_42 : decode cX4_takes 42 = .ok (.iload_n 3, 1) := by decide +kernel
theorem dX4_takes_43 : decode cX4_takes 43 = .ok (.aload_n 1, 1) := by decide +kernel
theorem dX4_takes_44 : decode cX4_takes 44 = .ok (.invokevirtual 127, 3) := by decide +kernel
theorem dX4_takes_47 : decode cX4_takes 47 = .ok (.if_icmp .ge 30, 3) := by decide +kernel
theorem dX4_takes_50 : decode cX4_takes 50 = .ok (.aload_n 0, 1) := by decide +kernel
theorem dX4_takes_51 : decode cX4_takes 51 = .ok (.getfield 9, 3) := by decide +kernel
theorem dX4_takes_54 : decode cX4_takes 54 = .ok (.aload_n 0, 1) := by decide +kernel
theorem dX4_takes_55 : decode cX4_takes 55 = .ok (.getfield 29, 3) := by decide +kernel
theorem dX4_takes_58 : decode cX4_takes 58 = .ok (.iload_n 3, 1) := by decide +kernel
theorem dX4_takes_59 : decode cX4_takes 59 = .ok (.iadd, 1) := by decide +kernel
theorem dX4_takes_60 : decode cX4_takes 60 = .ok (.iaload, 1) := by decide +kernel
theorem dX4_takes_61 : decode cX4_takes 61 = .ok (.aload_n 1, 1) := by decide +kernel
theorem dX4_takes_62 : decode cX4_takes 62 = .ok (.iload_n 3, 1) := by decide +kernel
theorem dX4_takes_63 : decode cX4_takes 63 = .ok (.invokevirtual 131, 3) := by decide +kernel
theorem dX4_takes_66 : decode cX4_takes 66 = .ok (.if_icmp .eq 5, 3) := by decide +kernel
theorem dX4_takes_69 : decode cX4_takes 69 = .ok (.iconst 0, 1) := by decide +kernel
theorem dX4_takes_70 : decode cX4_takes 70 = .ok (.ireturn, 1) := by decide +kernel
theorem dX4_takes_71 : decode cX4_takes 71 = .ok (.iinc 3 1, 3) := by decide +kernel
theorem dX4_takes_74 : decode cX4_takes 74 = .ok (.goto (-32), 3) := by decide +kernel
theorem dX4_takes_77 : decode cX4_takes 77 = .ok (.aload_n 0, 1) := by decide +kernel
theorem dX4_takes_78 : decode cX4_takes 78 = .ok (.iload_n 2, 1) := by decide +kernel
theorem dX4_takes_79 : decode cX4_takes 79 = .ok (.putfield 29, 3) := by decide +kernel
theorem dX4_takes_82 : decode cX4_takes 82 = .ok (.iconst 1, 1) := by decide +kernel
theorem dX4_takes_83 : decode cX4_takes 83 = .ok (.ireturn, 1) := by decide +kernel
theorem dX4_skipBlanks_0 : decode cX4_skipBlanks 0 = .ok (.aload_n 0, 1) := by decide +kernel
theorem dX4_skipBlanks_1 : decode cX4_skipBlanks 1 = .ok (.getfield 29, 3) := by decide +kernel
theorem dX4_skipBlanks_4 : decode cX4_skipBlanks 4 = .ok (.aload_n 0, 1) := by decide +kernel
theorem dX4_skipBlanks_5 : decode cX4_skipBlanks 5 = .ok (.getfield 22, 3) := by decide +kernel
theorem dX4_skipBlanks_8 : decode cX4_skipBlanks 8 = .ok (.if_icmp .ge 30, 3) := by decide +kernel
theorem dX4_skipBlanks_11 : decode cX4_skipBlanks 11 = .ok (.aload_n 0, 1) := by decide +kernel
theorem dX4_skipBlanks_12 : decode cX4_skipBlanks 12 = .ok (.getfield 9, 3) := by decide +kernel
theorem dX4_skipBlanks_15 : decode cX4_skipBlanks 15 = .ok (.aload_n 0, 1) := by decide +kernel
theorem dX4_skipBlanks_16 : decode cX4_skipBlanks 16 = .ok (.getfield 29, 3) := by decide +kernel
theorem dX4_skipBlanks_19 : decode cX4_skipBlanks 19 = .ok (.iaload, 1) := by decide +kernel
theorem dX4_skipBlanks_20 : decode cX4_skipBlanks 20 = .ok (.bipush 32, 2) := by decide +kernel
theorem dX4_skipBlanks_22 : decode cX4_skipBlanks 22 = .ok (.if_icmp .ne 16, 3) := by decide +kernel
theorem dX4_skipBlanks_25 : decode cX4_skipBlanks 25 = .ok (.aload_n 0, 1) := by decide +kernel
theorem dX4_skipBlanks_26 : decode cX4_skipBlanks 26 = .ok (.dup, 1) := by decide +kernel
theorem dX4_skipBlanks_27 : decode cX4_skipBlanks 27 = .ok (.getfield 29, 3) := by decide +kernel
theorem dX4_skipBlanks_30 : decode cX4_skipBlanks 30 = .ok (.iconst 1, 1) := by decide +kernel
theorem dX4_skipBlanks_31 : decode cX4_skipBlanks 31 = .ok (.iadd, 1) := by decide +kernel
theorem dX4_skipBlanks_32 : decode cX4_skipBlanks 32 = .ok (.putfield 29, 3) := by decide +kernel
theorem dX4_skipBlanks_35 : decode cX4_skipBlanks 35 = .ok (.goto (-35), 3) := by decide +kernel
theorem dX4_skipBlanks_38 : decode cX4_skipBlanks 38 = .ok (.return_, 1) := by decide +kernel
theorem dX4_isLetter_0 : decode cX4_isLetter 0 = .ok (.iload_n 1, 1) := by decide +kernel
theorem dX4_isLetter_1 : decode cX4_isLetter 1 = .ok (.aload_n 0, 1) := by decide +kernel
theorem dX4_isLetter_2 : decode cX4_isLetter 2 = .ok (.getfield 22, 3) := by decide +kernel
theorem dX4_isLetter_5 : decode cX4_isLetter 5 = .ok (.if_icmp .ge 23, 3) := by decide +kernel
theorem dX4_isLetter_8 : decode cX4_isLetter 8 = .ok (.aload_n 0, 1) := by decide +kernel
theorem dX4_isLetter_9 : decode cX4_isLetter 9 = .ok (.getfield 9, 3) := by decide +kernel
theorem dX4_isLetter_12 : decode cX4_isLetter 12 = .ok (.iload_n 1, 1) := by decide +kernel
theorem dX4_isLetter_13 : decode cX4_isLetter 13 = .ok (.iaload, 1) := by decide +kernel
theorem dX4_isLetter_14 : decode cX4_isLetter 14 = .ok (.bipush 97, 2) := by decide +kernel
theorem dX4_isLetter_16 : decode cX4_isLetter 16 = .ok (.bipush 122, 2) := by decide +kernel
theorem dX4_isLetter_18 : decode cX4_isLetter 18 = .ok (.invokestatic 113, 3) := by decide +kernel
theorem dX4_isLetter_21 : decode cX4_isLetter 21 = .ok (.ifCond .eq 7, 3) := by decide +kernel
theorem dX4_isLetter_24 : decode cX4_isLetter 24 = .ok (.iconst 1, 1) := by decide +kernel
theorem dX4_isLetter_25 : decode cX4_isLetter 25 = .ok (.goto 4, 3) := by decide +kernel
theorem dX4_isLetter_28 : decode cX4_isLetter 28 = .ok (.iconst 0, 1) := by decide +kernel
theorem dX4_isLetter_29 : decode cX4_isLetter 29 = .ok (.ireturn, 1) := by decide +kernel
theorem dX4_meet_0 : decode cX4_meet 0 = .ok (.aload_n 0, 1) := by decide +kernel
theorem dX4_meet_1 : decode cX4_meet 1 = .ok (.getfield 32, 3) := by decide +kernel
theorem dX4_meet_4 : decode cX4_meet 4 = .ok (.iconst (-1), 1) := by decide +kernel
theorem dX4_meet_5 : decode cX4_meet 5 = .ok (.if_icmp .ne 13, 3) := by decide +kernel
theorem dX4_meet_8 : decode cX4_meet 8 = .ok (.aload_n 0, 1) := by decide +kernel
theorem dX4_meet_9 : decode cX4_meet 9 = .ok (.bipush 8, 2) := by decide +kernel
theorem dX4_meet_11 : decode cX4_meet 11 = .ok (.iload_n 1, 1) := by decide +kernel
theorem dX4_meet_12 : decode cX4_meet 12 = .ok (.imul, 1) := by decide +kernel
theorem dX4_meet_13 : decode cX4_meet 13 = .ok (.iload_n 2, 1) := by decide +kernel
theorem dX4_meet_14 : decode cX4_meet 14 = .ok (.iadd, 1) := by decide +kernel
theorem dX4_meet_15 : decode cX4_meet 15 = .ok (.putfield 32, 3) := by decide +kernel
theorem dX4_meet_18 : decode cX4_meet 18 = .ok (.return_, 1) := by decide +kernel
theorem dX5_init_0 : decode cX5_init 0 = .ok (.aload_n 0, 1) := by decide +kernel
theorem dX5_init_1 : decode cX5_init 1 = .ok (.invokespecial 3, 3) := by decide +kernel
theorem dX5_init_4 : decode cX5_init 4 = .ok (.return_, 1) := by decide +kernel
theorem dX5_kth_0 : decode cX5_kth 0 = .ok (.aload_n 0, 1) := by decide +kernel
theorem dX5_kth_1 : decode cX5_kth 1 = .ok (.iload_n 2, 1) := by decide +kernel
theorem dX5_kth_2 : decode cX5_kth 2 = .ok (.putfield 9, 3) := by decide +kernel
theorem dX5_kth_5 : decode cX5_kth 5 = .ok (.aload_n 0, 1) := by decide +kernel
theorem dX5_kth_6 : decode cX5_kth 6 = .ok (.bipush (-2), 2) := by decide +kernel
theorem dX5_kth_8 : decode cX5_kth 8 = .ok (.putfield 15, 3) := by decide +kernel
theorem dX5_kth_11 : decode cX5_kth 11 = .ok (.aload_n 0, 1) := by decide +kernel
theorem dX5_kth_12 : decode cX5_kth 12 = .ok (.iconst 0, 1) := by decide +kernel
theorem dX5_kth_13 : decode cX5_kth 13 = .ok (.putfield 18, 3) := by decide +kernel
theorem dX5_kth_16 : decode cX5_kth 16 = .ok (.aload_n 0, 1) := by decide +kernel
theorem dX5_kth_17 : decode cX5_kth 17 = .ok (.aload_n 1, 1) := by decide +kernel
theorem dX5_kth_18 : decode cX5_kth 18 = .ok (.invokevirtual 21, 3) := by decide +kernel
theorem dX5_kth_21 : decode cX5_kth 21 = .ok (.iconst 0, 1) := by decide +kernel
theorem dX5_kth_22 : decode cX5_kth 22 = .ok (.istore_n 3, 1) := by decide +kernel
theorem dX5_kth_23 : decode cX5_kth 23 = .ok (.iconst 0, 1) := by decide +kernel
theorem dX5_kth_24 : decode cX5_kth 24 = .ok (.istore 4, 2) := by decide +kernel
theorem dX5_kth_26 : decode cX5_kth 26 = .ok (.iload 4, 2) := by decide +kernel
theorem dX5_kth_28 : decode cX5_kth 28 = .ok (.aload_n 1, 1) := by decide +kernel
theorem dX5_kth_29 : decode cX5_kth 29 = .ok (.getfield 25, 3) := by decide +kernel
theorem dX5_kth_32 : decode cX5_kth 32 = .ok (.if_icmp .ge 47, 3) := by decide +kernel
theorem dX5_kth_35 : decode cX5_kth 35 = .ok (.aload_n 1, 1) := by decide +kernel
theorem dX5_kth_36 : decode cX5_kth 36 = .ok (.getfield 30, 3) := by decide +kernel
theorem dX5_kth_39 : decode cX5_kth 39 = .ok (.iload 4, 2) := by decide +kernel
theorem dX5_kth_41 : decode cX5_kth 41 = .ok (.baload, 1) := by decide +kernel
theorem dX5_kth_42 : decode cX5_kth 42 = .ok (.ifCond .ne 31, 3) := by decide +kernel
theorem dX5_kth_45 : decode cX5_kth 45 = .ok (.aload_n 0, 1) := by decide +kernel
theorem dX5_kth_46 : decode cX5_kth 46 = .ok (.aload_n 1, 1) := by decide +kernel
theorem dX5_kth_47 : decode cX5_kth 47 = .ok (.getfield 34, 3) := by decide +kernel
theorem dX5_kth_50 : decode cX5_kth 50 = .ok (.iload 4, 2) := by decide +kernel
theorem dX5_kth_52 : decode cX5_kth 52 = .ok (.iaload, 1) := by decide +kernel
theorem dX5_kth_53 : decode cX5_kth 53 = .ok (.iload_n 3, 1) := by decide +kernel
theorem dX5_kth_54 : decode cX5_kth 54 = .ok (.isub, 1) := by decide +kernel
theorem dX5_kth_55 : decode cX5_kth 55 = .ok (.invokevirtual 38, 3) := by decide +kernel
theorem dX5_kth_58 : decode cX5_kth 58 = .ok (.aload_n 1, 1) := by decide +kernel
theorem dX5_kth_59 : decode cX5_kth 59 = .ok (.getfield 34, 3) := by decide +kernel
theorem dX5_kth_62 : decode cX5_kth 62 = .ok (.iload 4, 2) := by decide +kernel
theorem dX5_kth_64 : decode cX5_kth 64 = .ok (.iaload, 1) := by decide +kernel
theorem dX5_kth_65 : decode cX5_kth 65 = .ok (.istore_n 3, 1) := by decide +kernel
theorem dX5_kth_66 : decode cX5_kth 66 = .ok (.aload_n 0, 1) := by decide +kernel
theorem dX5_kth_67 : decode cX5_kth 67 = .ok (.aload_n 1, 1) := by decide +kernel
theorem dX5_kth_68 : decode cX5_kth 68 = .ok (.iload 4, 2) := by decide +kernel
theorem dX5_kth_70 : decode cX5_kth 70 = .ok (.invokevirtual 42, 3) := by decide +kernel
theorem dX5_kth_73 : decode cX5_kth 73 = .ok (.iinc 4 1, 3) := by decide +kernel
theorem dX5_kth_76 : decode cX5_kth 76 = .ok (.goto (-50), 3) := by decide +kernel
theorem dX5_kth_79 : decode cX5_kth 79 = .ok (.aload_n 0, 1) := by decide +kernel
theorem dX5_kth_80 : decode cX5_kth 80 = .ok (.aload_n 1, 1) := by decide +kernel
theorem dX5_kth_81 : decode cX5_kth 81 = .ok (.getfield 46, 3) := by decide +kernel
theorem dX5_kth_84 : decode cX5_kth 84 = .ok (.iload_n 3, 1) := by decide +kernel
theorem dX5_kth_85 : decode cX5_kth 85 = .ok (.isub, 1) := by decide +kernel
theorem dX5_kth_86 : decode cX5_kth 86 = .ok (.invokevirtual 38, 3) := by decide +kernel
theorem dX5_kth_89 : decode cX5_kth 89 = .ok (.aload_n 0, 1) := by decide +kernel
theorem dX5_kth_90 : decode cX5_kth 90 = .ok (.ldc 49, 2) := by decide +kernel
theorem dX5_kth_92 : decode cX5_kth 92 = .ok (.invokevirtual 51, 3) := by decide +kernel
theorem dX5_kth_95 : decode cX5_kth 95 = .ok (.aload_n 0, 1) := by decide +kernel
theorem dX5_kth_96 : decode cX5_kth 96 = .ok (.aload_n 1, 1) := by decide +kernel
theorem dX5_kth_97 : decode cX5_kth 97 = .ok (.getfield 55, 3) := by decide +kernel
theorem dX5_kth_100 : decode cX5_kth 100 = .ok (.invokevirtual 57, 3) := by decide +kernel
theorem dX5_kth_103 : decode cX5_kth 103 = .ok (.iload_n 2, 1) := by decide +kernel
theorem dX5_kth_104 : decode cX5_kth 104 = .ok (.iconst (-1), 1) := by decide +kernel
theorem dX5_kth_105 : decode cX5_kth 105 = .ok (.if_icmp .ne 10, 3) := by decide +kernel
theorem dX5_kth_108 : decode cX5_kth 108 = .ok (.aload_n 0, 1) := by decide +kernel
theorem dX5_kth_109 : decode cX5_kth 109 = .ok (.getfield 18, 3) := by decide +kernel
theorem dX5_kth_112 : decode cX5_kth 112 = .ok (.goto 7, 3) := by decide +kernel
theorem dX5_kth_115 : decode cX5_kth 115 = .ok (.aload_n 0, 1) := by decide +kernel
theorem dX5_kth_116 : decode cX5_kth 116 = .ok (.getfield 15, 3) := by decide +kernel
theorem dX5_kth_119 : decode cX5_kth 119 = .ok (.ireturn, 1) := by decide +kernel
theorem dX5_tellShards_0 : decode cX5_tellShards 0 = .ok (.iconst 0, 1) := by decide +kernel
theorem dX5_tellShards_1 : decode cX5_tellShards 1 = .ok (.istore_n 2, 1) := by decide +kernel
theorem dX5_tellShards_2 : decode cX5_tellShards 2 = .ok (.iload_n 2, 1) := by decide +kernel
theorem dX5_tellShards_3 : decode cX5_tellShards 3 = .ok (.iconst 4, 1) := by decide +kernel
theorem dX5_tellShards_4 : decode cX5_tellShards 4 = .ok (.if_icmp .ge 51, 3) := by decide +kernel
theorem dX5_tellShards_7 : decode cX5_tellShards 7 = .ok (.aload_n 0, 1) := by decide +kernel
theorem dX5_tellShards_8 : decode cX5_tellShards 8 = .ok (.ldc 60, 2) := by decide +kernel
theorem dX5_tellShards_10 : decode cX5_tellShards 10 = .ok (.invokevirtual 51, 3) := by decide +kernel
theorem dX5_tellShards_13 : decode cX5_tellShards 13 = .ok (.aload_n 0, 1) := by decide +kernel
theorem dX5_tellShards_14 : decode cX5_tellShards 14 = .ok (.iload_n 2, 1) := by decide +kernel
theorem dX5_tellShards_15 : decode cX5_tellShards 15 = .ok (.invokevirtual 57, 3) := by decide +kernel
theorem dX5_tellShards_18 : decode cX5_tellShards 18 = .ok (.aload_n 0, 1) := by decide +kernel
theorem dX5_tellShards_19 : decode cX5_tellShards 19 = .ok (.aload_n 1, 1) := by decide +kernel
theorem dX5_tellShards_20 : decode cX5_tellShards 20 = .ok (.getfield 62, 3) := by decide +kernel
theorem dX5_tellShards_23 : decode cX5_tellShards 23 = .ok (.iload_n 2, 1) := by decide +kernel
theorem dX5_tellShards_24 : decode cX5_tellShards 24 = .ok (.iaload, 1) := by decide +kernel
theorem dX5_tellShards_25 : decode cX5_tellShards 25 = .ok (.invokevirtual 57, 3) := by decide +kernel
theorem dX5_tellShards_28 : decode cX5_tellShards 28 = .ok (.aload_n 0, 1) := by decide +kernel
theorem dX5_tellShards_29 : decode cX5_tellShards 29 = .ok (.ldc 65, 2) := by decide +kernel
theorem dX5_tellShards_31 : decode cX5_tellShards 31 = .ok (.invokevirtual 51, 3) := by decide +kernel
theorem dX5_tellShards_34 : decode cX5_tellShards 34 = .ok (.aload_n 0, 1) := by decide +kernel
theorem dX5_tellShards_35 : decode cX5_tellShards 35 = .ok (.iload_n 2, 1) := by decide +kernel
theorem dX5_tellShards_36 : decode cX5_tellShards 36 = .ok (.invokevirtual 57, 3) := by decide +kernel
theorem dX5_tellShards_39 : decode cX5_tellShards 39 = .ok (.aload_n 0, 1) := by decide +kernel
theorem dX5_tellShards_40 : decode cX5_tellShards 40 = .ok (.aload_n 1, 1) := by decide +kernel
theorem dX5_tellShards_41 : decode cX5_tellShards 41 = .ok (.getfield 67, 3) := by decide +kernel
theorem dX5_tellShards_44 : decode cX5_tellShards 44 = .ok (.iload_n 2, 1) := by decide +kernel
theorem dX5_tellShards_45 : decode cX5_tellShards 45 = .ok (.iaload, 1) := by decide +kernel
theorem dX5_tellShards_46 : decode cX5_tellShards 46 = .ok (.invokevirtual 57, 3) := by decide +kernel
theorem dX5_tellShards_49 : decode cX5_tellShards 49 = .ok (.iinc 2 1, 3) := by decide +kernel
theorem dX5_tellShards_52 : decode cX5_tellShards 52 = .ok (.goto (-50), 3) := by decide +kernel
theorem dX5_tellShards_55 : decode cX5_tellShards 55 = .ok (.return_, 1) := by decide +kernel
theorem dX5_tellItem_0 : decode cX5_tellItem 0 = .ok (.aload_n 0, 1) := by decide +kernel
theorem dX5_tellItem_1 : decode cX5_tellItem 1 = .ok (.ldc 70, 2) := by decide +kernel
theorem dX5_tellItem_3 : decode cX5_tellItem 3 = .ok (.invokevirtual 51, 3) := by decide +kernel
theorem dX5_tellItem_6 : decode cX5_tellItem 6 = .ok (.aload_n 0, 1) := by decide +kernel
theorem dX5_tellItem_7 : decode cX5_tellItem 7 = .ok (.aload_n 1, 1) := by decide +kernel
theorem dX5_tellItem_8 : decode cX5_tellItem 8 = .ok (.getfield 72, 3) := by decide +kernel
theorem dX5_tellItem_11 : decode cX5_tellItem 11 = .ok (.iload_n 2, 1) := by decide +kernel
theorem dX5_tellItem_12 : decode cX5_tellItem 12 = .ok (.iaload, 1) := by decide +kernel
theorem dX5_tellItem_13 : decode cX5_tellItem 13 = .ok (.invokevirtual 57, 3) := by decide +kernel
theorem dX5_tellItem_16 : decode cX5_tellItem 16 = .ok (.aload_n 0, 1) := by decide +kernel
theorem dX5_tellItem_17 : decode cX5_tellItem 17 = .ok (.bipush 32, 2) := by decide +kernel
theorem dX5_tellItem_19 : decode cX5_tellItem 19 = .ok (.invokevirtual 75, 3) := by decide +kernel
theorem dX5_tellItem_22 : decode cX5_tellItem 22 = .ok (.aload_n 0, 1) := by decide +kernel
theorem dX5_tellItem_23 : decode cX5_tellItem 23 = .ok (.bipush 97, 2) := by decide +kernel
theorem dX5_tellItem_25 : decode cX5_tellItem 25 = .ok (.aload_n 1, 1) := by decide +kernel
theorem dX5_tellItem_26 : decode cX5_tellItem 26 = .ok (.getfield 78, 3) := by decide +kernel
theorem dX5_tellItem_29 : decode cX5_tellItem 29 = .ok (.iload_n 2, 1) := by decide +kernel
theorem dX5_tellItem_30 : decode cX5_tellItem 30 = .ok (.iaload, 1) := by decide +kernel
theorem dX5_tellItem_31 : decode cX5_tellItem 31 = .ok (.iadd, 1) := by decide +kernel
theorem dX5_tellItem_32 : decode cX5_tellItem 32 = .ok (.invokevirtual 75, 3) := by decide +kernel
theorem dX5_tellItem_35 : decode cX5_tellItem 35 = .ok (.aload_n 0, 1) := by decide +kernel
theorem dX5_tellItem_36 : decode cX5_tellItem 36 = .ok (.aload_n 1, 1) := by decide +kernel
theorem dX5_tellItem_37 : decode cX5_tellItem 37 = .ok (.getfield 81, 3) := by decide +kernel
theorem dX5_tellItem_40 : decode cX5_tellItem 40 = .ok (.iload_n 2, 1) := by decide +kernel
theorem dX5_tellItem_41 : decode cX5_tellItem 41 = .ok (.iaload, 1) := by decide +kernel
theorem dX5_tellItem_42 : decode cX5_tellItem 42 = .ok (.invokevirtual 57, 3) := by decide +kernel
theorem dX5_tellItem_45 : decode cX5_tellItem 45 = .ok (.aload_n 0, 1) := by decide +kernel
theorem dX5_tellItem_46 : decode cX5_tellItem 46 = .ok (.aload_n 1, 1) := by decide +kernel
theorem dX5_tellItem_47 : decode cX5_tellItem 47 = .ok (.getfield 84, 3) := by decide +kernel
theorem dX5_tellItem_50 : decode cX5_tellItem 50 = .ok (.iload_n 2, 1) := by decide +kernel
theorem dX5_tellItem_51 : decode cX5_tellItem 51 = .ok (.iaload, 1) := by decide +kernel
theorem dX5_tellItem_52 : decode cX5_tellItem 52 = .ok (.invokevirtual 57, 3) := by decide +kernel
theorem dX5_tellItem_55 : decode cX5_tellItem 55 = .ok (.return_, 1) := by decide +kernel
theorem dX5_tellWaits_0 : decode cX5_tellWaits 0 = .ok (.iload_n 1, 1) := by decide +kernel
theorem dX5_tellWaits_1 : decode cX5_tellWaits 1 = .ok (.istore_n 2, 1) := by decide +kernel
theorem dX5_tellWaits_2 : decode cX5_tellWaits 2 = .ok (.iload_n 2, 1) := by decide +kernel
theorem dX5_tellWaits_3 : decode cX5_tellWaits 3 = .ok (.ifCond .le 29, 3) := by decide +kernel
theorem dX5_tellWaits_6 : decode cX5_tellWaits 6 = .ok (.aload_n 0, 1) := by decide +kernel
theorem dX5_tellWaits_7 : decode cX5_tellWaits 7 = .ok (.ldc 87, 2) := by decide +kernel
theorem dX5_tellWaits_9 : decode cX5_tellWaits 9 = .ok (.invokevirtual 51, 3) := by decide +kernel
theorem dX5_tellWaits_12 : decode cX5_tellWaits 12 = .ok (.aload_n 0, 1) := by decide +kernel
theorem dX5_tellWaits_13 : decode cX5_tellWaits 13 = .ok (.iload_n 2, 1) := by decide +kernel
theorem dX5_tellWaits_14 : decode cX5_tellWaits 14 = .ok (.sipush 9999, 3) := by decide +kernel
theorem dX5_tellWaits_17 : decode cX5_tellWaits 17 = .ok (.invokestatic 89, 3) := by decide +kernel
theorem dX5_tellWaits_20 : decode cX5_tellWaits 20 = .ok (.invokevirtual 57, 3) := by decide +kernel
theorem dX5_tellWaits_23 : decode cX5_tellWaits 23 = .ok (.iinc 2 (-9999), 6) := by decide +kernel
theorem dX5_tellWaits_29 : decode cX5_tellWaits 29 = .ok (.goto (-27), 3) := by decide +kernel
theorem dX5_tellWaits_32 : decode cX5_tellWaits 32 = .ok (.return_, 1) := by decide +kernel
theorem dX5_tellWord_0 : decode cX5_tellWord 0 = .ok (.aload_n 0, 1) := by decide +kernel
theorem dX5_tellWord_1 : decode cX5_tellWord 1 = .ok (.getfield 18, 3) := by decide +kernel
theorem dX5_tellWord_4 : decode cX5_tellWord 4 = .ok (.ifCond .le 9, 3) := by decide +kernel
theorem dX5_tellWord_7 : decode cX5_tellWord 7 = .ok (.aload_n 0, 1) := by decide +kernel
theorem dX5_tellWord_8 : decode cX5_tellWord 8 = .ok (.bipush 59, 2) := by decide +kernel
theorem dX5_tellWord_10 : decode cX5_tellWord 10 = .ok (.invokevirtual 75, 3) := by decide +kernel
theorem dX5_tellWord_13 : decode cX5_tellWord 13 = .ok (.iconst 0, 1) := by decide +kernel
theorem dX5_tellWord_14 : decode cX5_tellWord 14 = .ok (.istore_n 2, 1) := by decide +kernel
theorem dX5_tellWord_15 : decode cX5_tellWord 15 = .ok (.iload_n 2, 1) := by decide +kernel
theorem dX5_tellWord_16 : decode cX5_tellWord 16 = .ok (.aload_n 1, 1) := by decide +kernel
theorem dX5_tellWord_17 : decode cX5_tellWord 17 = .ok (.invokevirtual 95, 3) := by decide +kernel
theorem dX5_tellWord_20 : decode cX5_tellWord 20 = .ok (.if_icmp .ge 18, 3) := by decide +kernel
theorem dX5_tellWord_23 : decode cX5_tellWord 23 = .ok (.aload_n 0, 1) := by decide +kernel
theorem dX5_tellWord_24 : decode cX5_tellWord 24 = .ok (.aload_n 1, 1) := by decide +kernel
theorem dX5_tellWord_25 : decode cX5_tellWord 25 = .ok (.iload_n 2, 1) := by decide +kernel
theorem dX5_tellWord_26 : decode cX5_tellWord 26 = .ok (.invokevirtual 100, 3) := by decide +kernel
theorem dX5_tellWord_29 : decode cX5_tellWord 29 = .ok (.invokevirtual 75, 3) := by decide +kernel
theorem dX5_tellWord_32 : decode cX5_tellWord 32 = .ok (.iinc 2 1, 3) := by decide +kernel
theorem dX5_tellWord_35 : decode cX5_tellWord 35 = .ok (.goto (-20), 3) := by decide +kernel
theorem dX5_tellWord_38 : decode cX5_tellWord 38 = .ok (.return_, 1) := by decide +kernel
theorem dX5_tellNumber_0 : decode cX5_tellNumber 0 = .ok (.aload_n 0, 1) := by decide +kernel
theorem dX5_tellNumber_1 : decode cX5_tellNumber 1 = .ok (.bipush 32, 2) := by decide +kernel
theorem dX5_tellNumber_3 : decode cX5_tellNumber 3 = .ok (.invokevirtual 75, 3) := by decide +kernel
theorem dX5_tellNumber_6 : decode cX5_tellNumber 6 = .ok (.sipush 10000, 3) := by decide +kernel
theorem dX5_tellNumber_9 : decode cX5_tellNumber 9 = .ok (.istore_n 2, 1) := by decide +kernel
theorem dX5_tellNumber_10 : decode cX5_tellNumber 10 = .ok (.iload_n 2, 1) := by decide +kernel
theorem dX5_tellNumber_11 : decode cX5_tellNumber 11 = .ok (.ifCond .le 34, 3) := by decide +kernel
theorem dX5_tellNumber_14 : decode cX5_tellNumber 14 = .ok (.iload_n 1, 1) := by decide +kernel
theorem dX5_tellNumber_15 : decode cX5_tellNumber 15 = .ok (.iload_n 2, 1) := by decide +kernel
theorem dX5_tellNumber_16 : decode cX5_tellNumber 16 = .ok (.if_icmp .ge 8, 3) := by decide +kernel
theorem dX5_tellNumber_19 : decode cX5_tellNumber 19 = .ok (.iload_n 2, 1) := by decide +kernel
theorem dX5_tellNumber_20 : decode cX5_tellNumber 20 = .ok (.iconst 1, 1) := by decide +kernel
theorem dX5_tellNumber_21 : decode cX5_tellNumber 21 = .ok (.if_icmp .ne 16, 3) := by decide +kernel
theorem dX5_tellNumber_24 : decode cX5_tellNumber 24 = .ok (.aload_n 0, 1) := by decide +kernel
theorem dX5_tellNumber_25 : decode cX5_tellNumber 25 = .ok (.bipush 48, 2) := by decide +kernel
theorem dX5_tellNumber_27 : decode cX5_tellNumber 27 = .ok (.iload_n 1, 1) := by decide +kernel
theorem dX5_tellNumber_28 : decode cX5_tellNumber 28 = .ok (.iload_n 2, 1) := by decide +kernel
theorem dX5_tellNumber_29 : decode cX5_tellNumber 29 = .ok (.idiv, 1) := by decide +kernel
theorem dX5_tellNumber_30 : decode cX5_tellNumber 30 = .ok (.bipush 10, 2) := by decide +kernel
theorem dX5_tellNumber_32 : decode cX5_tellNumber 32 = .ok (.irem, 1) := by decide +kernel
theorem dX5_tellNumber_33 : decode cX5_tellNumber 33 = .ok (.iadd, 1) := by decide +kernel
theorem dX5_tellNumber_34 : decode cX5_tellNumber 34 = .ok (.invokevirtual 75, 3) := by decide +kernel
theorem dX5_tellNumber_37 : decode cX5_tellNumber 37 = .ok (.iload_n 2, 1) := by decide +kernel
theorem dX5_tellNumber_38 : decode cX5_tellNumber 38 = .ok (.bipush 10, 2) := by decide +kernel
theorem dX5_tellNumber_40 : decode cX5_tellNumber 40 = .ok (.idiv, 1) := by decide +kernel
theorem dX5_tellNumber_41 : decode cX5_tellNumber 41 = .ok (.istore_n 2, 1) := by decide +kernel
theorem dX5_tellNumber_42 : decode cX5_tellNumber 42 = .ok (.goto (-32), 3) := by decide +kernel
theorem dX5_tellNumber_45 : decode cX5_tellNumber 45 = .ok (.return_, 1) := by decide +kernel
theorem dX5_tellByte_0 : decode cX5_tellByte 0 = .ok (.aload_n 0, 1) := by decide +kernel
theorem dX5_tellByte_1 : decode cX5_tellByte 1 = .ok (.getfield 18, 3) := by decide +kernel
theorem dX5_tellByte_4 : decode cX5_tellByte 4 = .ok (.aload_n 0, 1) := by decide +kernel
theorem dX5_tellByte_5 : decode cX5_tellByte 5 = .ok (.getfield 9, 3) := by decide +kernel
theorem dX5_tellByte_8 : decode cX5_tellByte 8 = .ok (.if_icmp .ne 8, 3) := by decide +kernel
theorem dX5_tellByte_11 : decode cX5_tellByte 11 = .ok (.aload_n 0, 1) := by decide +kernel
theorem dX5_tellByte_12 : decode cX5_tellByte 12 = .ok (.iload_n 1, 1) := by decide +kernel
theorem dX5_tellByte_13 : decode cX5_tellByte 13 = .ok (.putfield 15, 3) := by decide +kernel
theorem dX5_tellByte_16 : decode cX5_tellByte 16 = .ok (.aload_n 0, 1) := by decide +kernel
theorem dX5_tellByte_17 : decode cX5_tellByte 17 = .ok (.dup, 1) := by decide +kernel
theorem dX5_tellByte_18 : decode cX5_tellByte 18 = .ok (.getfield 18, 3) := by decide +kernel
theorem dX5_tellByte_21 : decode cX5_tellByte 21 = .ok (.iconst 1, 1) := by decide +kernel
theorem dX5_tellByte_22 : decode cX5_tellByte 22 = .ok (.iadd, 1) := by decide +kernel
theorem dX5_tellByte_23 : decode cX5_tellByte 23 = .ok (.putfield 18, 3) := by decide +kernel
theorem dX5_tellByte_26 : decode cX5_tellByte 26 = .ok (.return_, 1) := by decide +kernel
theorem dJ6_compare_7cf53_0 : decode cJ6_compare_7cf53 0 = .ok (.iload_n 0, 1) := by decide +kernel
theorem dJ6_compare_7cf53_1 : decode cJ6_compare_7cf53 1 = .ok (.iload_n 1, 1) := by decide +kernel
theorem dJ6_compare_7cf53_2 : decode cJ6_compare_7cf53 2 = .ok (.if_icmp .ge 7, 3) := by decide +kernel
theorem dJ6_compare_7cf53_5 : decode cJ6_compare_7cf53 5 = .ok (.iconst (-1), 1) := by decide +kernel
theorem dJ6_compare_7cf53_6 : decode cJ6_compare_7cf53 6 = .ok (.goto 13, 3) := by decide +kernel
theorem dJ6_compare_7cf53_9 : decode cJ6_compare_7cf53 9 = .ok (.iload_n 0, 1) := by decide +kernel
theorem dJ6_compare_7cf53_10 : decode cJ6_compare_7cf53 10 = .ok (.iload_n 1, 1) := by decide +kernel
theorem dJ6_compare_7cf53_11 : decode cJ6_compare_7cf53 11 = .ok (.if_icmp .ne 7, 3) := by decide +kernel
theorem dJ6_compare_7cf53_14 : decode cJ6_compare_7cf53 14 = .ok (.iconst 0, 1) := by decide +kernel
theorem dJ6_compare_7cf53_15 : decode cJ6_compare_7cf53 15 = .ok (.goto 4, 3) := by decide +kernel
theorem dJ6_compare_7cf53_18 : decode cJ6_compare_7cf53 18 = .ok (.iconst 1, 1) := by decide +kernel
theorem dJ6_compare_7cf53_19 : decode cJ6_compare_7cf53 19 = .ok (.ireturn, 1) := by decide +kernel
theorem dJ13_compare_74951_0 : decode cJ13_compare_74951 0 = .ok (.lload_n 0, 1) := by decide +kernel
theorem dJ13_compare_74951_1 : decode cJ13_compare_74951 1 = .ok (.lload_n 2, 1) := by decide +kernel
theorem dJ13_compare_74951_2 : decode cJ13_compare_74951 2 = .ok (.lcmp, 1) := by decide +kernel
theorem dJ13_compare_74951_3 : decode cJ13_compare_74951 3 = .ok (.ifCond .ge 7, 3) := by decide +kernel
theorem dJ13_compare_74951_6 : decode cJ13_compare_74951 6 = .ok (.iconst (-1), 1) := by decide +kernel
theorem dJ13_compare_74951_7 : decode cJ13_compare_74951 7 = .ok (.goto 14, 3) := by decide +kernel
theorem dJ13_compare_74951_10 : decode cJ13_compare_74951 10 = .ok (.lload_n 0, 1) := by decide +kernel
theorem dJ13_compare_74951_11 : decode cJ13_compare_74951 11 = .ok (.lload_n 2, 1) := by decide +kernel
theorem dJ13_compare_74951_12 : decode cJ13_compare_74951 12 = .ok (.lcmp, 1) := by decide +kernel
theorem dJ13_compare_74951_13 : decode cJ13_compare_74951 13 = .ok (.ifCond .ne 7, 3) := by decide +kernel
theorem dJ13_compare_74951_16 : decode cJ13_compare_74951 16 = .ok (.iconst 0, 1) := by decide +kernel
theorem dJ13_compare_74951_17 : decode cJ13_compare_74951 17 = .ok (.goto 4, 3) := by decide +kernel
theorem dJ13_compare_74951_20 : decode cJ13_compare_74951 20 = .ok (.iconst 1, 1) := by decide +kernel
theorem dJ13_compare_74951_21 : decode cJ13_compare_74951 21 = .ok (.ireturn, 1) := by decide +kernel
theorem dJ9_abs_0f7a4_0 : decode cJ9_abs_0f7a4 0 = .ok (.iload_n 0, 1) := by decide +kernel
theorem dJ9_abs_0f7a4_1 : decode cJ9_abs_0f7a4 1 = .ok (.ifCond .ge 8, 3) := by decide +kernel
theorem dJ9_abs_0f7a4_4 : decode cJ9_abs_0f7a4 4 = .ok (.iload_n 0, 1) := by decide +kernel
theorem dJ9_abs_0f7a4_5 : decode cJ9_abs_0f7a4 5 = .ok (.ineg, 1) := by decide +kernel
theorem dJ9_abs_0f7a4_6 : decode cJ9_abs_0f7a4 6 = .ok (.goto 4, 3) := by decide +kernel
theorem dJ9_abs_0f7a4_9 : decode cJ9_abs_0f7a4 9 = .ok (.iload_n 0, 1) := by decide +kernel
theorem dJ9_abs_0f7a4_10 : decode cJ9_abs_0f7a4 10 = .ok (.ireturn, 1) := by decide +kernel
theorem dJ9_min_7cf53_0 : decode cJ9_min_7cf53 0 = .ok (.iload_n 0, 1) := by decide +kernel
theorem dJ9_min_7cf53_1 : decode cJ9_min_7cf53 1 = .ok (.iload_n 1, 1) := by decide +kernel
theorem dJ9_min_7cf53_2 : decode cJ9_min_7cf53 2 = .ok (.if_icmp .gt 7, 3) := by decide +kernel
theorem dJ9_min_7cf53_5 : decode cJ9_min_7cf53 5 = .ok (.iload_n 0, 1) := by decide +kernel
theorem dJ9_min_7cf53_6 : decode cJ9_min_7cf53 6 = .ok (.goto 4, 3) := by decide +kernel
theorem dJ9_min_7cf53_9 : decode cJ9_min_7cf53 9 = .ok (.iload_n 1, 1) := by decide +kernel
theorem dJ9_min_7cf53_10 : decode cJ9_min_7cf53 10 = .ok (.ireturn, 1) := by decide +kernel
theorem dJ0_length_8abf5_0 : decode cJ0_length_8abf5 0 = .ok (.aload_n 0, 1) := by decide +kernel
theorem dJ0_length_8abf5_1 : decode cJ0_length_8abf5 1 = .ok (.getfield 9, 3) := by decide +kernel
theorem dJ0_length_8abf5_4 : decode cJ0_length_8abf5 4 = .ok (.arraylength, 1) := by decide +kernel
theorem dJ0_length_8abf5_5 : decode cJ0_length_8abf5 5 = .ok (.aload_n 0, 1) := by decide +kernel
theorem dJ0_length_8abf5_6 : decode cJ0_length_8abf5 6 = .ok (.invokevirtual 335, 3) := by decide +kernel
theorem dJ0_length_8abf5_9 : decode cJ0_length_8abf5 9 = .ok (.ishr, 1) := by decide +kernel
theorem dJ0_length_8abf5_10 : decode cJ0_length_8abf5 10 = .ok (.ireturn, 1) := by decide +kernel
theorem dJ0_charAt_5068e_0 : decode cJ0_charAt_5068e 0 = .ok (.aload_n 0, 1) := by decide +kernel
theorem dJ0_charAt_5068e_1 : decode cJ0_charAt_5068e 1 = .ok (.invokevirtual 492, 3) := by decide +kernel
theorem dJ0_charAt_5068e_4 : decode cJ0_charAt_5068e 4 = .ok (.ifCond .eq 12, 3) := by decide +kernel
theorem dJ0_charAt_5068e_7 : decode cJ0_charAt_5068e 7 = .ok (.aload_n 0, 1) := by decide +kernel
theorem dJ0_charAt_5068e_8 : decode cJ0_charAt_5068e 8 = .ok (.getfield 9, 3) := by decide +kernel
theorem dJ0_charAt_5068e_11 : decode cJ0_charAt_5068e 11 = .ok (.iload_n 1, 1) := by decide +kernel
theorem dJ0_charAt_5068e_12 : decode cJ0_charAt_5068e 12 = .ok (.invokestatic 495, 3) := by decide +kernel
theorem dJ0_charAt_5068e_15 : decode cJ0_charAt_5068e 15 = .ok (.ireturn, 1) := by decide +kernel
theorem dJ0_charAt_5068e_16 : decode cJ0_charAt_5068e 16 = .ok (.aload_n 0, 1) := by decide +kernel
theorem dJ0_charAt_5068e_17 : decode cJ0_charAt_5068e 17 = .ok (.getfield 9, 3) := by decide +kernel
theorem dJ0_charAt_5068e_20 : decode cJ0_charAt_5068e 20 = .ok (.iload_n 1, 1) := by decide +kernel
theorem dJ0_charAt_5068e_21 : decode cJ0_charAt_5068e 21 = .ok (.invokestatic 498, 3) := by decide +kernel
theorem dJ0_charAt_5068e_24 : decode cJ0_charAt_5068e 24 = .ok (.ireturn, 1) := by decide +kernel
theorem dJ0_coder_7d493_0 : decode cJ0_coder_7d493 0 = .ok (.getstatic 38, 3) := by decide +kernel
theorem dJ0_coder_7d493_3 : decode cJ0_coder_7d493 3 = .ok (.ifCond .eq 10, 3) := by decide +kernel
theorem dJ0_coder_7d493_6 : decode cJ0_coder_7d493 6 = .ok (.aload_n 0, 1) := by decide +kernel
theorem dJ0_coder_7d493_7 : decode cJ0_coder_7d493 7 = .ok (.getfield 15, 3) := by decide +kernel
theorem dJ0_coder_7d493_10 : decode cJ0_coder_7d493 10 = .ok (.goto 4, 3) := by decide +kernel
theorem dJ0_coder_7d493_13 : decode cJ0_coder_7d493 13 = .ok (.iconst 1, 1) := by decide +kernel
theorem dJ0_coder_7d493_14 : decode cJ0_coder_7d493 14 = .ok (.ireturn, 1) := by decide +kernel
theorem dJ0_isLatin1_aae02_0 : decode cJ0_isLatin1_aae02 0 = .ok (.getstatic 38, 3) := by decide +kernel
theorem dJ0_isLatin1_aae02_3 : decode cJ0_isLatin1_aae02 3 = .ok (.ifCond .eq 14, 3) := by decide +kernel
theorem dJ0_isLatin1_aae02_6 : decode cJ0_isLatin1_aae02 6 = .ok (.aload_n 0, 1) := by decide +kernel
theorem dJ0_isLatin1_aae02_7 : decode cJ0_isLatin1_aae02 7 = .ok (.getfield 15, 3) := by decide +kernel
theorem dJ0_isLatin1_aae02_10 : decode cJ0_isLatin1_aae02 10 = .ok (.ifCond .ne 7, 3) := by decide +kernel
theorem dJ0_isLatin1_aae02_13 : decode cJ0_isLatin1_aae02 13 = .ok (.iconst 1, 1) := by decide +kernel
theorem dJ0_isLatin1_aae02_14 : decode cJ0_isLatin1_aae02 14 = .ok (.goto 4, 3) := by decide +kernel
theorem dJ0_isLatin1_aae02_17 : decode cJ0_isLatin1_aae02 17 = .ok (.iconst 0, 1) := by decide +kernel
theorem dJ0_isLatin1_aae02_18 : decode cJ0_isLatin1_aae02 18 = .ok (.ireturn, 1) := by decide +kernel
theorem dJ0_checkIndex_df160_0 : decode cJ0_checkIndex_df160 0 = .ok (.iload_n 0, 1) := by decide +kernel
theorem dJ0_checkIndex_df160_1 : decode cJ0_checkIndex_df160 1 = .ok (.iload_n 1, 1) := by decide +kernel
theorem dJ0_checkIndex_df160_2 : decode cJ0_checkIndex_df160 2 = .ok (.getstatic 1053, 3) := by decide +kernel
theorem dJ0_checkIndex_df160_5 : decode cJ0_checkIndex_df160 5 = .ok (.invokestatic 1059, 3) := by decide +kernel
theorem dJ0_checkIndex_df160_8 : decode cJ0_checkIndex_df160 8 = .ok (.pop, 1) := by decide +kernel
theorem dJ0_checkIndex_df160_9 : decode cJ0_checkIndex_df160 9 = .ok (.return_, 1) := by decide +kernel
theorem dJ1_charAt_3b067_0 : decode cJ1_charAt_3b067 0 = .ok (.iload_n 1, 1) := by decide +kernel
theorem dJ1_charAt_3b067_1 : decode cJ1_charAt_3b067 1 = .ok (.aload_n 0, 1) := by decide +kernel
theorem dJ1_charAt_3b067_2 : decode cJ1_charAt_3b067 2 = .ok (.arraylength, 1) := by decide +kernel
theorem dJ1_charAt_3b067_3 : decode cJ1_charAt_3b067 3 = .ok (.invokestatic 9, 3) := by decide +kernel
theorem dJ1_charAt_3b067_6 : decode cJ1_charAt_3b067 6 = .ok (.aload_n 0, 1) := by decide +kernel
theorem dJ1_charAt_3b067_7 : decode cJ1_charAt_3b067 7 = .ok (.iload_n 1, 1) := by decide +kernel
theorem dJ1_charAt_3b067_8 : decode cJ1_charAt_3b067 8 = .ok (.baload, 1) := by decide +kernel
theorem dJ1_charAt_3b067_9 : decode cJ1_charAt_3b067 9 = .ok (.sipush 255, 3) := by decide +kernel
theorem dJ1_charAt_3b067_12 : decode cJ1_charAt_3b067 12 = .ok (.iand, 1) := by decide +kernel
theorem dJ1_charAt_3b067_13 : decode cJ1_charAt_3b067 13 = .ok (.i2c, 1) := by decide +kernel
theorem dJ1_charAt_3b067_14 : decode cJ1_charAt_3b067 14 = .ok (.ireturn, 1) := by decide +kernel
theorem dJ2_getChar_3b067_0 : decode cJ2_getChar_3b067 0 = .ok (.getstatic 44, 3) := by decide +kernel
theorem dJ2_getChar_3b067_3 : decode cJ2_getChar_3b067 3 = .ok (.ifCond .ne 25, 3) := by decide +kernel
theorem dJ2_getChar_3b067_6 : decode cJ2_getChar_3b067 6 = .ok (.iload_n 1, 1) := by decide +kernel
theorem dJ2_getChar_3b067_7 : decode cJ2_getChar_3b067 7 = .ok (.ifCond .lt 11, 3) := by decide +kernel
theorem dJ2_getChar_3b067_10 : decode cJ2_getChar_3b067 10 = .ok (.iload_n 1, 1) := by decide +kernel
theorem dJ2_getChar_3b067_11 : decode cJ2_getChar_3b067 11 = .ok (.aload_n 0, 1) := by decide +kernel
theorem dJ2_getChar_3b067_12 : decode cJ2_getChar_3b067 12 = .ok (.invokestatic 48, 3) := by decide +kernel
theorem dJ2_getChar_3b067_15 : decode cJ2_getChar_3b067 15 = .ok (.if_icmp .lt 13, 3) := by decide +kernel
theorem dJ2_getChar_3b067_18 : decode cJ2_getChar_3b067 18 = .ok (.new 52, 3) := by decide +kernel
theorem dJ2_getChar_3b067_21 : decode cJ2_getChar_3b067 21 = .ok (.dup, 1) := by decide +kernel
theorem dJ2_getChar_3b067_22 : decode cJ2_getChar_3b067 22 = .ok (.ldc 54, 2) := by decide +kernel
theorem dJ2_getChar_3b067_24 : decode cJ2_getChar_3b067 24 = .ok (.invokespecial 56, 3) := by decide +kernel
theorem dJ2_getChar_3b067_27 : decode cJ2_getChar_3b067 27 = .ok (.athrow, 1) := by decide +kernel
theorem dJ2_getChar_3b067_28 : decode cJ2_getChar_3b067 28 = .ok (.iload_n 1, 1) := by decide +kernel
theorem dJ2_getChar_3b067_29 : decode cJ2_getChar_3b067 29 = .ok (.iconst 1, 1) := by decide +kernel
theorem dJ2_getChar_3b067_30 : decode cJ2_getChar_3b067 30 = .ok (.ishl, 1) := by decide +kernel
theorem dJ2_getChar_3b067_31 : decode cJ2_getChar_3b067 31 = .ok (.istore_n 1, 1) := by decide +kernel
theorem dJ2_getChar_3b067_32 : decode cJ2_getChar_3b067 32 = .ok (.aload_n 0, 1) := by decide +kernel
theorem dJ2_getChar_3b067_33 : decode cJ2_getChar_3b067 33 = .ok (.iload_n 1, 1) := by decide +kernel
theorem dJ2_getChar_3b067_34 : decode cJ2_getChar_3b067 34 = .ok (.iinc 1 1, 3) := by decide +kernel
theorem dJ2_getChar_3b067_37 : decode cJ2_getChar_3b067 37 = .ok (.baload, 1) := by decide +kernel
theorem dJ2_getChar_3b067_38 : decode cJ2_getChar_3b067 38 = .ok (.sipush 255, 3) := by decide +kernel
theorem dJ2_getChar_3b067_41 : decode cJ2_getChar_3b067 41 = .ok (.iand, 1) := by decide +kernel
theorem dJ2_getChar_3b067_42 : decode cJ2_getChar_3b067 42 = .ok (.getstatic 59, 3) := by decide +kernel
theorem dJ2_getChar_3b067_45 : decode cJ2_getChar_3b067 45 = .ok (.ishl, 1) := by decide +kernel
theorem dJ2_getChar_3b067_46 : decode cJ2_getChar_3b067 46 = .ok (.aload_n 0, 1) := by decide +kernel
theorem dJ2_getChar_3b067_47 : decode cJ2_getChar_3b067 47 = .ok (.iload_n 1, 1) := by decide +kernel
theorem dJ2_getChar_3b067_48 : decode cJ2_getChar_3b067 48 = .ok (.baload, 1) := by decide +kernel
theorem dJ2_getChar_3b067_49 : decode cJ2_getChar_3b067 49 = .ok (.sipush 255, 3) := by decide +kernel
theorem dJ2_getChar_3b067_52 : decode cJ2_getChar_3b067 52 = .ok (.iand, 1) := by decide +kernel
theorem dJ2_getChar_3b067_53 : decode cJ2_getChar_3b067 53 = .ok (.getstatic 63, 3) := by decide +kernel
theorem dJ2_getChar_3b067_56 : decode cJ2_getChar_3b067 56 = .ok (.ishl, 1) := by decide +kernel
theorem dJ2_getChar_3b067_57 : decode cJ2_getChar_3b067 57 = .ok (.ior, 1) := by decide +kernel
theorem dJ2_getChar_3b067_58 : decode cJ2_getChar_3b067 58 = .ok (.i2c, 1) := by decide +kernel
theorem dJ2_getChar_3b067_59 : decode cJ2_getChar_3b067 59 = .ok (.ireturn, 1) := by decide +kernel
theorem dJ2_length_9d52b_0 : decode cJ2_length_9d52b 0 = .ok (.aload_n 0, 1) := by decide +kernel
theorem dJ2_length_9d52b_1 : decode cJ2_length_9d52b 1 = .ok (.arraylength, 1) := by decide +kernel
theorem dJ2_length_9d52b_2 : decode cJ2_length_9d52b 2 = .ok (.iconst 1, 1) := by decide +kernel
theorem dJ2_length_9d52b_3 : decode cJ2_length_9d52b 3 = .ok (.ishr, 1) := by decide +kernel
theorem dJ2_length_9d52b_4 : decode cJ2_length_9d52b 4 = .ok (.ireturn, 1) := by decide +kernel
theorem dJ2_charAt_3b067_0 : decode cJ2_charAt_3b067 0 = .ok (.iload_n 1, 1) := by decide +kernel
theorem dJ2_charAt_3b067_1 : decode cJ2_charAt_3b067 1 = .ok (.aload_n 0, 1) := by decide +kernel
theorem dJ2_charAt_3b067_2 : decode cJ2_charAt_3b067 2 = .ok (.invokestatic 67, 3) := by decide +kernel
theorem dJ2_charAt_3b067_5 : decode cJ2_charAt_3b067 5 = .ok (.aload_n 0, 1) := by decide +kernel
theorem dJ2_charAt_3b067_6 : decode cJ2_charAt_3b067 6 = .ok (.iload_n 1, 1) := by decide +kernel
theorem dJ2_charAt_3b067_7 : decode cJ2_charAt_3b067 7 = .ok (.invokestatic 71, 3) := by decide +kernel
theorem dJ2_charAt_3b067_10 : decode cJ2_charAt_3b067 10 = .ok (.ireturn, 1) := by decide +kernel
theorem dJ2_checkIndex_2214a_0 : decode cJ2_checkIndex_2214a 0 = .ok (.iload_n 0, 1) := by decide +kernel
theorem dJ2_checkIndex_2214a_1 : decode cJ2_checkIndex_2214a 1 = .ok (.aload_n 1, 1) := by decide +kernel
theorem dJ2_checkIndex_2214a_2 : decode cJ2_checkIndex_2214a 2 = .ok (.invokestatic 48, 3) := by decide +kernel
theorem dJ2_checkIndex_2214a_5 : decode cJ2_checkIndex_2214a 5 = .ok (.invokestatic 414, 3) := by decide +kernel
theorem dJ2_checkIndex_2214a_8 : decode cJ2_checkIndex_2214a 8 = .ok (.return_, 1) := by decide +kernel
theorem dJ3_checkIndex_8e157_0 : decode cJ3_checkIndex_8e157 0 = .ok (.iload_n 0, 1) := by decide +kernel
theorem dJ3_checkIndex_8e157_1 : decode cJ3_checkIndex_8e157 1 = .ok (.ifCond .lt 8, 3) := by decide +kernel
theorem dJ3_checkIndex_8e157_4 : decode cJ3_checkIndex_8e157 4 = .ok (.iload_n 0, 1) := by decide +kernel
theorem dJ3_checkIndex_8e157_5 : decode cJ3_checkIndex_8e157 5 = .ok (.iload_n 1, 1) := by decide +kernel
theorem dJ3_checkIndex_8e157_6 : decode cJ3_checkIndex_8e157 6 = .ok (.if_icmp .lt 10, 3) := by decide +kernel
theorem dJ3_checkIndex_8e157_9 : decode cJ3_checkIndex_8e157 9 = .ok (.aload_n 2, 1) := by decide +kernel
theorem dJ3_checkIndex_8e157_10 : decode cJ3_checkIndex_8e157 10 = .ok (.iload_n 0, 1) := by decide +kernel
theorem dJ3_checkIndex_8e157_11 : decode cJ3_checkIndex_8e157 11 = .ok (.iload_n 1, 1) := by decide +kernel
theorem dJ3_checkIndex_8e157_12 : decode cJ3_checkIndex_8e157 12 = .ok (.invokestatic 95, 3) := by decide +kernel
theorem dJ3_checkIndex_8e157_15 : decode cJ3_checkIndex_8e157 15 = .ok (.athrow, 1) := by decide +kernel
theorem dJ3_checkIndex_8e157_16 : decode cJ3_checkIndex_8e157 16 = .ok (.iload_n 0, 1) := by decide +kernel
theorem dJ3_checkIndex_8e157_17 : decode cJ3_checkIndex_8e157 17 = .ok (.ireturn, 1) := by decide +kernel
