theorem dX7_sorrows_49 : decode cX7_sorrows 49 = .ok (.ireturn, 1) := by decide +kernel
theorem dX7_add_0 : decode cX7_add 0 = .ok (.aload_n 0, 1) := by decide +kernel
theorem dX7_add_1 : decode cX7_add 1 = .ok (.iload_n 1, 1) := by decide +kernel
theorem dX7_add_2 : decode cX7_add 2 = .ok (.invokestatic 187, 3) := by decide +kernel
theorem dX7_add_5 : decode cX7_add 5 = .ok (.ifCond .eq 19, 3) := by decide +kernel
theorem dX7_add_8 : decode cX7_add 8 = .ok (.iload_n 2, 1) := by decide +kernel
theorem dX7_add_9 : decode cX7_add 9 = .ok (.i2l, 1) := by decide +kernel
theorem dX7_add_10 : decode cX7_add 10 = .ok (.lconst 0, 1) := by decide +kernel
theorem dX7_add_11 : decode cX7_add 11 = .ok (.ldc2_w 213, 3) := by decide +kernel
theorem dX7_add_14 : decode cX7_add 14 = .ok (.invokestatic 50, 3) := by decide +kernel
theorem dX7_add_17 : decode cX7_add 17 = .ok (.ifCond .eq 7, 3) := by decide +kernel
theorem dX7_add_20 : decode cX7_add 20 = .ok (.iconst 1, 1) := by decide +kernel
theorem dX7_add_21 : decode cX7_add 21 = .ok (.goto 4, 3) := by decide +kernel
theorem dX7_add_24 : decode cX7_add 24 = .ok (.iconst 0, 1) := by decide +kernel
theorem dX7_add_25 : decode cX7_add 25 = .ok (.bipush 21, 2) := by decide +kernel
theorem dX7_add_27 : decode cX7_add 27 = .ok (.iload_n 1, 1) := by decide +kernel
theorem dX7_add_28 : decode cX7_add 28 = .ok (.iadd, 1) := by decide +kernel
theorem dX7_add_29 : decode cX7_add 29 = .ok (.iload_n 2, 1) := by decide +kernel
theorem dX7_add_30 : decode cX7_add 30 = .ok (.iconst 0, 1) := by decide +kernel
theorem dX7_add_31 : decode cX7_add 31 = .ok (.invokevirtual 204, 3) := by decide +kernel
theorem dX7_add_34 : decode cX7_add 34 = .ok (.ireturn, 1) := by decide +kernel
theorem dX7_ask_0 : decode cX7_ask 0 = .ok (.iload_n 1, 1) := by decide +kernel
theorem dX7_ask_1 : decode cX7_ask 1 = .ok (.ifCond .ne 26, 3) := by decide +kernel
theorem dX7_ask_4 : decode cX7_ask 4 = .ok (.aload_n 0, 1) := by decide +kernel
theorem dX7_ask_5 : decode cX7_ask 5 = .ok (.iload_n 2, 1) := by decide +kernel
theorem dX7_ask_6 : decode cX7_ask 6 = .ok (.i2l, 1) := by decide +kernel
theorem dX7_ask_7 : decode cX7_ask 7 = .ok (.ldc2_w 202, 3) := by decide +kernel
theorem dX7_ask_10 : decode cX7_ask 10 = .ok (.ldc2_w 215, 3) := by decide +kernel
theorem dX7_ask_13 : decode cX7_ask 13 = .ok (.invokestatic 50, 3) := by decide +kernel
theorem dX7_ask_16 : decode cX7_ask 16 = .ok (.bipush 24, 2) := by decide +kernel
theorem dX7_ask_18 : decode cX7_ask 18 = .ok (.iload_n 2, 1) := by decide +kernel
theorem dX7_ask_19 : decode cX7_ask 19 = .ok (.bipush 6, 2) := by decide +kernel
theorem dX7_ask_21 : decode cX7_ask 21 = .ok (.invokevirtual 204, 3) := by decide +kernel
theorem dX7_ask_24 : decode cX7_ask 24 = .ok (.goto 33, 3) := by decide +kernel
theorem dX7_ask_27 : decode cX7_ask 27 = .ok (.aload_n 0, 1) := by decide +kernel
theorem dX7_ask_28 : decode cX7_ask 28 = .ok (.iload_n 1, 1) := by decide +kernel
theorem dX7_ask_29 : decode cX7_ask 29 = .ok (.iconst 1, 1) := by decide +kernel
theorem dX7_ask_30 : decode cX7_ask 30 = .ok (.if_icmp .ne 19, 3) := by decide +kernel
theorem dX7_ask_33 : decode cX7_ask 33 = .ok (.iload_n 2, 1) := by decide +kernel
theorem dX7_ask_34 : decode cX7_ask 34 = .ok (.i2l, 1) := by decide +kernel
theorem dX7_ask_35 : decode cX7_ask 35 = .ok (.lconst 0, 1) := by decide +kernel
theorem dX7_ask_36 : decode cX7_ask 36 = .ok (.ldc2_w 217, 3) := by decide +kernel
theorem dX7_ask_39 : decode cX7_ask 39 = .ok (.invokestatic 50, 3) := by decide +kernel
theorem dX7_ask_42 : decode cX7_ask 42 = .ok (.ifCond .eq 7, 3) := by decide +kernel
theorem dX7_ask_45 : decode cX7_ask 45 = .ok (.iconst 1, 1) := by decide +kernel
theorem dX7_ask_46 : decode cX7_ask 46 = .ok (.goto 4, 3) := by decide +kernel
theorem dX7_ask_49 : decode cX7_ask 49 = .ok (.iconst 0, 1) := by decide +kernel
theorem dX7_ask_50 : decode cX7_ask 50 = .ok (.bipush 25, 2) := by decide +kernel
theorem dX7_ask_52 : decode cX7_ask 52 = .ok (.iload_n 2, 1) := by decide +kernel
theorem dX7_ask_53 : decode cX7_ask 53 = .ok (.iconst 0, 1) := by decide +kernel
theorem dX7_ask_54 : decode cX7_ask 54 = .ok (.invokevirtual 204, 3) := by decide +kernel
theorem dX7_ask_57 : decode cX7_ask 57 = .ok (.ireturn, 1) := by decide +kernel
theorem dX7_strikes_0 : decode cX7_strikes 0 = .ok (.aload_n 0, 1) := by decide +kernel
theorem dX7_strikes_1 : decode cX7_strikes 1 = .ok (.getfield 7, 3) := by decide +kernel
theorem dX7_strikes_4 : decode cX7_strikes 4 = .ok (.bipush 26, 2) := by decide +kernel
theorem dX7_strikes_6 : decode cX7_strikes 6 = .ok (.dup2, 1) := by decide +kernel
theorem dX7_strikes_7 : decode cX7_strikes 7 = .ok (.iaload, 1) := by decide +kernel
theorem dX7_strikes_8 : decode cX7_strikes 8 = .ok (.iconst 1, 1) := by decide +kernel
theorem dX7_strikes_9 : decode cX7_strikes 9 = .ok (.iadd, 1) := by decide +kernel
theorem dX7_strikes_10 : decode cX7_strikes 10 = .ok (.iastore, 1) := by decide +kernel
theorem dX7_strikes_11 : decode cX7_strikes 11 = .ok (.aload_n 0, 1) := by decide +kernel
theorem dX7_strikes_12 : decode cX7_strikes 12 = .ok (.getfield 7, 3) := by decide +kernel
theorem dX7_strikes_15 : decode cX7_strikes 15 = .ok (.bipush 26, 2) := by decide +kernel
theorem dX7_strikes_17 : decode cX7_strikes 17 = .ok (.iaload, 1) := by decide +kernel
theorem dX7_strikes_18 : decode cX7_strikes 18 = .ok (.iconst 5, 1) := by decide +kernel
theorem dX7_strikes_19 : decode cX7_strikes 19 = .ok (.irem, 1) := by decide +kernel
theorem dX7_strikes_20 : decode cX7_strikes 20 = .ok (.ifCond .ne 57, 3) := by decide +kernel
theorem dX7_strikes_23 : decode cX7_strikes 23 = .ok (.aload_n 0, 1) := by decide +kernel
theorem dX7_strikes_24 : decode cX7_strikes 24 = .ok (.invokevirtual 178, 3) := by decide +kernel
theorem dX7_strikes_27 : decode cX7_strikes 27 = .ok (.ifCond .le 50, 3) := by decide +kernel
theorem dX7_strikes_30 : decode cX7_strikes 30 = .ok (.iconst 0, 1) := by decide +kernel
theorem dX7_strikes_31 : decode cX7_strikes 31 = .ok (.istore_n 1, 1) := by decide +kernel
theorem dX7_strikes_32 : decode cX7_strikes 32 = .ok (.iconst 1, 1) := by decide +kernel
theorem dX7_strikes_33 : decode cX7_strikes 33 = .ok (.istore_n 2, 1) := by decide +kernel
theorem dX7_strikes_34 : decode cX7_strikes 34 = .ok (.iload_n 2, 1) := by decide +kernel
theorem dX7_strikes_35 : decode cX7_strikes 35 = .ok (.iconst 3, 1) := by decide +kernel
theorem dX7_strikes_36 : decode cX7_strikes 36 = .ok (.if_icmp .ge 28, 3) := by decide +kernel
theorem dX7_strikes_39 : decode cX7_strikes 39 = .ok (.aload_n 0, 1) := by decide +kernel
theorem dX7_strikes_40 : decode cX7_strikes 40 = .ok (.iload_n 2, 1) := by decide +kernel
theorem dX7_strikes_41 : decode cX7_strikes 41 = .ok (.invokevirtual 175, 3) := by decide +kernel
theorem dX7_strikes_44 : decode cX7_strikes 44 = .ok (.aload_n 0, 1) := by decide +kernel
theorem dX7_strikes_45 : decode cX7_strikes 45 = .ok (.iload_n 1, 1) := by decide +kernel
theorem dX7_strikes_46 : decode cX7_strikes 46 = .ok (.invokevirtual 175, 3) := by decide +kernel
theorem dX7_strikes_49 : decode cX7_strikes 49 = .ok (.if_icmp .le 7, 3) := by decide +kernel
theorem dX7_strikes_52 : decode cX7_strikes 52 = .ok (.iload_n 2, 1) := by decide +kernel
theorem dX7_strikes_53 : decode cX7_strikes 53 = .ok (.goto 4, 3) := by decide +kernel
theorem dX7_strikes_56 : decode cX7_strikes 56 = .ok (.iload_n 1, 1) := by decide +kernel
theorem dX7_strikes_57 : decode cX7_strikes 57 = .ok (.istore_n 1, 1) := by decide +kernel
theorem dX7_strikes_58 : decode cX7_strikes 58 = .ok (.iinc 2 1, 3) := by decide +kernel
theorem dX7_strikes_61 : decode cX7_strikes 61 = .ok (.goto (-27), 3) := by decide +kernel
theorem dX7_strikes_64 : decode cX7_strikes 64 = .ok (.aload_n 0, 1) := by decide +kernel
theorem dX7_strikes_65 : decode cX7_strikes 65 = .ok (.getfield 7, 3) := by decide +kernel
theorem dX7_strikes_68 : decode cX7_strikes 68 = .ok (.bipush 27, 2) := by decide +kernel
theorem dX7_strikes_70 : decode cX7_strikes 70 = .ok (.iload_n 1, 1) := by decide +kernel
theorem dX7_strikes_71 : decode cX7_strikes 71 = .ok (.iadd, 1) := by decide +kernel
theorem dX7_strikes_72 : decode cX7_strikes 72 = .ok (.dup2, 1) := by decide +kernel
theorem dX7_strikes_73 : decode cX7_strikes 73 = .ok (.iaload, 1) := by decide +kernel
theorem dX7_strikes_74 : decode cX7_strikes 74 = .ok (.iconst 1, 1) := by decide +kernel
theorem dX7_strikes_75 : decode cX7_strikes 75 = .ok (.iadd, 1) := by decide +kernel
theorem dX7_strikes_76 : decode cX7_strikes 76 = .ok (.iastore, 1) := by decide +kernel
theorem dX7_strikes_77 : decode cX7_strikes 77 = .ok (.return_, 1) := by decide +kernel
theorem dX7_ring_0 : decode cX7_ring 0 = .ok (.iload_n 1, 1) := by decide +kernel
theorem dX7_ring_1 : decode cX7_ring 1 = .ok (.i2l, 1) := by decide +kernel
theorem dX7_ring_2 : decode cX7_ring 2 = .ok (.lconst 0, 1) := by decide +kernel
theorem dX7_ring_3 : decode cX7_ring 3 = .ok (.ldc2_w 219, 3) := by decide +kernel
theorem dX7_ring_6 : decode cX7_ring 6 = .ok (.invokestatic 50, 3) := by decide +kernel
theorem dX7_ring_9 : decode cX7_ring 9 = .ok (.ifCond .ne 5, 3) := by decide +kernel
theorem dX7_ring_12 : decode cX7_ring 12 = .ok (.iconst (-1), 1) := by decide +kernel
theorem dX7_ring_13 : decode cX7_ring 13 = .ok (.ireturn, 1) := by decide +kernel
theorem dX7_ring_14 : decode cX7_ring 14 = .ok (.aload_n 0, 1) := by decide +kernel
theorem dX7_ring_15 : decode cX7_ring 15 = .ok (.getfield 7, 3) := by decide +kernel
theorem dX7_ring_18 : decode cX7_ring 18 = .ok (.bipush 26, 2) := by decide +kernel
theorem dX7_ring_20 : decode cX7_ring 20 = .ok (.iaload, 1) := by decide +kernel
theorem dX7_ring_21 : decode cX7_ring 21 = .ok (.iload_n 1, 1) := by decide +kernel
theorem dX7_ring_22 : decode cX7_ring 22 = .ok (.iadd, 1) := by decide +kernel
theorem dX7_ring_23 : decode cX7_ring 23 = .ok (.sipush 999, 3) := by decide +kernel
theorem dX7_ring_26 : decode cX7_ring 26 = .ok (.if_icmp .le 6, 3) := by decide +kernel
theorem dX7_ring_29 : decode cX7_ring 29 = .ok (.bipush (-3), 2) := by decide +kernel
theorem dX7_ring_31 : decode cX7_ring 31 = .ok (.ireturn, 1) := by decide +kernel
theorem dX7_ring_32 : decode cX7_ring 32 = .ok (.iconst 0, 1) := by decide +kernel
theorem dX7_ring_33 : decode cX7_ring 33 = .ok (.istore_n 2, 1) := by decide +kernel
theorem dX7_ring_34 : decode cX7_ring 34 = .ok (.iload_n 2, 1) := by decide +kernel
theorem dX7_ring_35 : decode cX7_ring 35 = .ok (.iload_n 1, 1) := by decide +kernel
theorem dX7_ring_36 : decode cX7_ring 36 = .ok (.if_icmp .ge 13, 3) := by decide +kernel
theorem dX7_ring_39 : decode cX7_ring 39 = .ok (.aload_n 0, 1) := by decide +kernel
theorem dX7_ring_40 : decode cX7_ring 40 = .ok (.invokevirtual 221, 3) := by decide +kernel
theorem dX7_ring_43 : decode cX7_ring 43 = .ok (.iinc 2 1, 3) := by decide +kernel
theorem dX7_ring_46 : decode cX7_ring 46 = .ok (.goto (-12), 3) := by decide +kernel
theorem dX7_ring_49 : decode cX7_ring 49 = .ok (.aload_n 0, 1) := by decide +kernel
theorem dX7_ring_50 : decode cX7_ring 50 = .ok (.invokevirtual 178, 3) := by decide +kernel
theorem dX7_ring_53 : decode cX7_ring 53 = .ok (.ireturn, 1) := by decide +kernel
theorem dX7_mine_0 : decode cX7_mine 0 = .ok (.aload_n 0, 1) := by decide +kernel
theorem dX7_mine_1 : decode cX7_mine 1 = .ok (.iload_n 1, 1) := by decide +kernel
theorem dX7_mine_2 : decode cX7_mine 2 = .ok (.invokevirtual 165, 3) := by decide +kernel
theorem dX7_mine_5 : decode cX7_mine 5 = .ok (.ifCond .ne 5, 3) := by decide +kernel
theorem dX7_mine_8 : decode cX7_mine 8 = .ok (.iconst (-1), 1) := by decide +kernel
theorem dX7_mine_9 : decode cX7_mine 9 = .ok (.ireturn, 1) := by decide +kernel
theorem dX7_mine_10 : decode cX7_mine 10 = .ok (.bipush (-4), 2) := by decide +kernel
theorem dX7_mine_12 : decode cX7_mine 12 = .ok (.istore_n 2, 1) := by decide +kernel
theorem dX7_mine_13 : decode cX7_mine 13 = .ok (.aload_n 0, 1) := by decide +kernel
theorem dX7_mine_14 : decode cX7_mine 14 = .ok (.iload_n 1, 1) := by decide +kernel
theorem dX7_mine_15 : decode cX7_mine 15 = .ok (.putfield 25, 3) := by decide +kernel
theorem dX7_mine_18 : decode cX7_mine 18 = .ok (.bipush 40, 2) := by decide +kernel
theorem dX7_mine_20 : decode cX7_mine 20 = .ok (.istore_n 3, 1) := by decide +kernel
theorem dX7_mine_21 : decode cX7_mine 21 = .ok (.iload_n 3, 1) := by decide +kernel
theorem dX7_mine_22 : decode cX7_mine 22 = .ok (.ifCond .lt 27, 3) := by decide +kernel
theorem dX7_mine_25 : decode cX7_mine 25 = .ok (.aload_n 0, 1) := by decide +kernel
theorem dX7_mine_26 : decode cX7_mine 26 = .ok (.iload_n 3, 1) := by decide +kernel
theorem dX7_mine_27 : decode cX7_mine 27 = .ok (.putfield 156, 3) := by decide +kernel
theorem dX7_mine_30 : decode cX7_mine 30 = .ok (.aload_n 0, 1) := by decide +kernel
theorem dX7_mine_31 : decode cX7_mine 31 = .ok (.invokevirtual 190, 3) := by decide +kernel
theorem dX7_mine_34 : decode cX7_mine 34 = .ok (.ifCond .eq 7, 3) := by decide +kernel
theorem dX7_mine_37 : decode cX7_mine 37 = .ok (.iload_n 3, 1) := by decide +kernel
theorem dX7_mine_38 : decode cX7_mine 38 = .ok (.goto 4, 3) := by decide +kernel
theorem dX7_mine_41 : decode cX7_mine 41 = .ok (.iload_n 2, 1) := by decide +kernel
theorem dX7_mine_42 : decode cX7_mine 42 = .ok (.istore_n 2, 1) := by decide +kernel
theorem dX7_mine_43 : decode cX7_mine 43 = .ok (.iinc 3 (-1), 3) := by decide +kernel
theorem dX7_mine_46 : decode cX7_mine 46 = .ok (.goto (-25), 3) := by decide +kernel
theorem dX7_mine_49 : decode cX7_mine 49 = .ok (.aload_n 0, 1) := by decide +kernel
theorem dX7_mine_50 : decode cX7_mine 50 = .ok (.bipush (-4), 2) := by decide +kernel
theorem dX7_mine_52 : decode cX7_mine 52 = .ok (.putfield 25, 3) := by decide +kernel
theorem dX7_mine_55 : decode cX7_mine 55 = .ok (.iload_n 2, 1) := by decide +kernel
theorem dX7_mine_56 : decode cX7_mine 56 = .ok (.ireturn, 1) := by decide +kernel
theorem dX7_least_0 : decode cX7_least 0 = .ok (.iload_n 1, 1) := by decide +kernel
theorem dX7_least_1 : decode cX7_least 1 = .ok (.invokestatic 187, 3) := by decide +kernel
theorem dX7_least_4 : decode cX7_least 4 = .ok (.ifCond .ne 5, 3) := by decide +kernel
theorem dX7_least_7 : decode cX7_least 7 = .ok (.iconst (-1), 1) := by decide +kernel
theorem dX7_least_8 : decode cX7_least 8 = .ok (.ireturn, 1) := by decide +kernel
theorem dX7_least_9 : decode cX7_least 9 = .ok (.aload_n 0, 1) := by decide +kernel
theorem dX7_least_10 : decode cX7_least 10 = .ok (.getfield 7, 3) := by decide +kernel
theorem dX7_least_13 : decode cX7_least 13 = .ok (.bipush 21, 2) := by decide +kernel
theorem dX7_least_15 : decode cX7_least 15 = .ok (.iload_n 1, 1) := by decide +kernel
theorem dX7_least_16 : decode cX7_least 16 = .ok (.iadd, 1) := by decide +kernel
theorem dX7_least_17 : decode cX7_least 17 = .ok (.iaload, 1) := by decide +kernel
theorem dX7_least_18 : decode cX7_least 18 = .ok (.istore_n 2, 1) := by decide +kernel
theorem dX7_least_19 : decode cX7_least 19 = .ok (.bipush (-4), 2) := by decide +kernel
theorem dX7_least_21 : decode cX7_least 21 = .ok (.istore_n 3, 1) := by decide +kernel
theorem dX7_least_22 : decode cX7_least 22 = .ok (.bipush 40, 2) := by decide +kernel
theorem dX7_least_24 : decode cX7_least 24 = .ok (.istore 4, 2) := by decide +kernel
theorem dX7_least_26 : decode cX7_least 26 = .ok (.iload 4, 2) := by decide +kernel
theorem dX7_least_28 : decode cX7_least 28 = .ok (.ifCond .lt 34, 3) := by decide +kernel
theorem dX7_least_31 : decode cX7_least 31 = .ok (.aload_n 0, 1) := by decide +kernel
theorem dX7_least_32 : decode cX7_least 32 = .ok (.getfield 7, 3) := by decide +kernel
theorem dX7_least_35 : decode cX7_least 35 = .ok (.bipush 21, 2) := by decide +kernel
theorem dX7_least_37 : decode cX7_least 37 = .ok (.iload_n 1, 1) := by decide +kernel
theorem dX7_least_38 : decode cX7_least 38 = .ok (.iadd, 1) := by decide +kernel
theorem dX7_least_39 : decode cX7_least 39 = .ok (.iload 4, 2) := by decide +kernel
theorem dX7_least_41 : decode cX7_least 41 = .ok (.iastore, 1) := by decide +kernel
theorem dX7_least_42 : decode cX7_least 42 = .ok (.aload_n 0, 1) := by decide +kernel
theorem dX7_least_43 : decode cX7_least 43 = .ok (.invokevirtual 190, 3) := by decide +kernel
theorem dX7_least_46 : decode cX7_least 46 = .ok (.ifCond .eq 8, 3) := by decide +kernel
theorem dX7_least_49 : decode cX7_least 49 = .ok (.iload 4, 2) := by decide +kernel
theorem dX7_least_51 : decode cX7_least 51 = .ok (.goto 4, 3) := by decide +kernel
theorem dX7_least_54 : decode cX7_least 54 = .ok (.iload_n 3, 1) := by decide +kernel
theorem dX7_least_55 : decode cX7_least 55 = .ok (.istore_n 3, 1) := by decide +kernel
theorem dX7_least_56 : decode cX7_least 56 = .ok (.iinc 4 (-1), 3) := by decide +kernel
theorem dX7_least_59 : decode cX7_least 59 = .ok (.goto (-33), 3) := by decide +kernel
theorem dX7_least_62 : decode cX7_least 62 = .ok (.aload_n 0, 1) := by decide +kernel
theorem dX7_least_63 : decode cX7_least 63 = .ok (.getfield 7, 3) := by decide +kernel
theorem dX7_least_66 : decode cX7_least 66 = .ok (.bipush 21, 2) := by decide +kernel
theorem dX7_least_68 : decode cX7_least 68 = .ok (.iload_n 1, 1) := by decide +kernel
theorem dX7_least_69 : decode cX7_least 69 = .ok (.iadd, 1) := by decide +kernel
theorem dX7_least_70 : decode cX7_least 70 = .ok (.iload_n 2, 1) := by decide +kernel
theorem dX7_least_71 : decode cX7_least 71 = .ok (.iastore, 1) := by decide +kernel
theorem dX7_least_72 : decode cX7_least 72 = .ok (.iload_n 3, 1) := by decide +kernel
theorem dX7_least_73 : decode cX7_least 73 = .ok (.ireturn, 1) := by decide +kernel
theorem dX7_copies_0 : decode cX7_copies 0 = .ok (.iconst 0, 1) := by decide +kernel
theorem dX7_copies_1 : decode cX7_copies 1 = .ok (.istore_n 3, 1) := by decide +kernel
theorem dX7_copies_2 : decode cX7_copies 2 = .ok (.iload_n 3, 1) := by decide +kernel
theorem dX7_copies_3 : decode cX7_copies 3 = .ok (.bipush 30, 2) := by decide +kernel
theorem dX7_copies_5 : decode cX7_copies 5 = .ok (.if_icmp .ge 25, 3) := by decide +kernel
theorem dX7_copies_8 : decode cX7_copies 8 = .ok (.aload_n 0, 1) := by decide +kernel
theorem dX7_copies_9 : decode cX7_copies 9 = .ok (.getfield 7, 3) := by decide +kernel
theorem dX7_copies_12 : decode cX7_copies 12 = .ok (.iload_n 2, 1) := by decide +kernel
theorem dX7_copies_13 : decode cX7_copies 13 = .ok (.iload_n 3, 1) := by decide +kernel
theorem dX7_copies_14 : decode cX7_copies 14 = .ok (.iadd, 1) := by decide +kernel
theorem dX7_copies_15 : decode cX7_copies 15 = .ok (.aload_n 0, 1) := by decide +kernel
theorem dX7_copies_16 : decode cX7_copies 16 = .ok (.getfield 7, 3) := by decide +kernel
theorem dX7_copies_19 : decode cX7_copies 19 = .ok (.iload_n 1, 1) := by decide +kernel
theorem dX7_copies_20 : decode cX7_copies 20 = .ok (.iload_n 3, 1) := by decide +kernel
theorem dX7_copies_21 : decode cX7_copies 21 = .ok (.iadd, 1) := by decide +kernel
theorem dX7_copies_22 : decode cX7_copies 22 = .ok (.iaload, 1) := by decide +kernel
theorem dX7_copies_23 : decode cX7_copies 23 = .ok (.iastore, 1) := by decide +kernel
theorem dX7_copies_24 : decode cX7_copies 24 = .ok (.iinc 3 1, 3) := by decide +kernel
theorem dX7_copies_27 : decode cX7_copies 27 = .ok (.goto (-25), 3) := by decide +kernel
theorem dX7_copies_30 : decode cX7_copies 30 = .ok (.return_, 1) := by decide +kernel
theorem dX7_mostHeld_0 : decode cX7_mostHeld 0 = .ok (.bipush (-4), 2) := by decide +kernel
theorem dX7_mostHeld_2 : decode cX7_mostHeld 2 = .ok (.istore_n 1, 1) := by decide +kernel
theorem dX7_mostHeld_3 : decode cX7_mostHeld 3 = .ok (.iconst 0, 1) := by decide +kernel
theorem dX7_mostHeld_4 : decode cX7_mostHeld 4 = .ok (.istore_n 2, 1) := by decide +kernel
theorem dX7_mostHeld_5 : decode cX7_mostHeld 5 = .ok (.iload_n 2, 1) := by decide +kernel
theorem dX7_mostHeld_6 : decode cX7_mostHeld 6 = .ok (.aload_n 0, 1) := by decide +kernel
theorem dX7_mostHeld_7 : decode cX7_mostHeld 7 = .ok (.getfield 136, 3) := by decide +kernel
theorem dX7_mostHeld_10 : decode cX7_mostHeld 10 = .ok (.if_icmp .ge 46, 3) := by decide +kernel
theorem dX7_mostHeld_13 : decode cX7_mostHeld 13 = .ok (.aload_n 0, 1) := by decide +kernel
theorem dX7_mostHeld_14 : decode cX7_mostHeld 14 = .ok (.getfield 7, 3) := by decide +kernel
theorem dX7_mostHeld_17 : decode cX7_mostHeld 17 = .ok (.bipush 16, 2) := by decide +kernel
theorem dX7_mostHeld_19 : decode cX7_mostHeld 19 = .ok (.iload_n 2, 1) := by decide +kernel
theorem dX7_mostHeld_20 : decode cX7_mostHeld 20 = .ok (.iadd, 1) := by decide +kernel
theorem dX7_mostHeld_21 : decode cX7_mostHeld 21 = .ok (.iaload, 1) := by decide +kernel
theorem dX7_mostHeld_22 : decode cX7_mostHeld 22 = .ok (.iload_n 1, 1) := by decide +kernel
theorem dX7_mostHeld_23 : decode cX7_mostHeld 23 = .ok (.bipush (-4), 2) := by decide +kernel
theorem dX7_mostHeld_25 : decode cX7_mostHeld 25 = .ok (.if_icmp .ne 7, 3) := by decide +kernel
theorem dX7_mostHeld_28 : decode cX7_mostHeld 28 = .ok (.iconst 0, 1) := by decide +kernel
theorem dX7_mostHeld_29 : decode cX7_mostHeld 29 = .ok (.goto 12, 3) := by decide +kernel
theorem dX7_mostHeld_32 : decode cX7_mostHeld 32 = .ok (.aload_n 0, 1) := by decide +kernel
theorem dX7_mostHeld_33 : decode cX7_mostHeld 33 = .ok (.getfield 7, 3) := by decide +kernel
theorem dX7_mostHeld_36 : decode cX7_mostHeld 36 = .ok (.bipush 16, 2) := by decide +kernel
theorem dX7_mostHeld_38 : decode cX7_mostHeld 38 = .ok (.iload_n 1, 1) := by decide +kernel
theorem dX7_mostHeld_39 : decode cX7_mostHeld 39 = .ok (.iadd, 1) := by decide +kernel
theorem dX7_mostHeld_40 : decode cX7_mostHeld 40 = .ok (.iaload, 1) := by decide +kernel
theorem dX7_mostHeld_41 : decode cX7_mostHeld 41 = .ok (.if_icmp .le 7, 3) := by decide +kernel
theorem dX7_mostHeld_44 : decode cX7_mostHeld 44 = .ok (.iload_n 2, 1) := by decide +kernel
theorem dX7_mostHeld_45 : decode cX7_mostHeld 45 = .ok (.goto 4, 3) := by decide +kernel
theorem dX7_mostHeld_48 : decode cX7_mostHeld 48 = .ok (.iload_n 1, 1) := by decide +kernel
theorem dX7_mostHeld_49 : decode cX7_mostHeld 49 = .ok (.istore_n 1, 1) := by decide +kernel
theorem dX7_mostHeld_50 : decode cX7_mostHeld 50 = .ok (.iinc 2 1, 3) := by decide +kernel
theorem dX7_mostHeld_53 : decode cX7_mostHeld 53 = .ok (.goto (-48), 3) := by decide +kernel
theorem dX7_mostHeld_56 : decode cX7_mostHeld 56 = .ok (.iload_n 1, 1) := by decide +kernel
theorem dX7_mostHeld_57 : decode cX7_mostHeld 57 = .ok (.ireturn, 1) := by decide +kernel
theorem dX7_casts_0 : decode cX7_casts 0 = .ok (.iload_n 1, 1) := by decide +kernel
theorem dX7_casts_1 : decode cX7_casts 1 = .ok (.i2l, 1) := by decide +kernel
theorem dX7_casts_2 : decode cX7_casts 2 = .ok (.lconst 0, 1) := by decide +kernel
theorem dX7_casts_3 : decode cX7_casts 3 = .ok (.lconst 1, 1) := by decide +kernel
theorem dX7_casts_4 : decode cX7_casts 4 = .ok (.invokestatic 50, 3) := by decide +kernel
theorem dX7_casts_7 : decode cX7_casts 7 = .ok (.ifCond .ne 5, 3) := by decide +kernel
theorem dX7_casts_10 : decode cX7_casts 10 = .ok (.iconst (-1), 1) := by decide +kernel
theorem dX7_casts_11 : decode cX7_casts 11 = .ok (.ireturn, 1) := by decide +kernel
theorem dX7_casts_12 : decode cX7_casts 12 = .ok (.aload_n 0, 1) := by decide +kernel
theorem dX7_casts_13 : decode cX7_casts 13 = .ok (.iconst 0, 1) := by decide +kernel
theorem dX7_casts_14 : decode cX7_casts 14 = .ok (.bipush 120, 2) := by decide +kernel
theorem dX7_casts_16 : decode cX7_casts 16 = .ok (.invokevirtual 224, 3) := by decide +kernel
theorem dX7_casts_19 : decode cX7_casts 19 = .ok (.iconst 0, 1) := by decide +kernel
theorem dX7_casts_20 : decode cX7_casts 20 = .ok (.istore_n 2, 1) := by decide +kernel
theorem dX7_casts_21 : decode cX7_casts 21 = .ok (.bipush (-4), 2) := by decide +kernel
theorem dX7_casts_23 : decode cX7_casts 23 = .ok (.istore_n 3, 1) := by decide +kernel
theorem dX7_casts_24 : decode cX7_casts 24 = .ok (.aload_n 0, 1) := by decide +kernel
theorem dX7_casts_25 : decode cX7_casts 25 = .ok (.invokevirtual 228, 3) := by decide +kernel
theorem dX7_casts_28 : decode cX7_casts 28 = .ok (.istore 4, 2) := by decide +kernel
theorem dX7_casts_30 : decode cX7_casts 30 = .ok (.aload_n 0, 1) := by decide +kernel
theorem dX7_casts_31 : decode cX7_casts 31 = .ok (.invokevirtual 190, 3) := by decide +kernel
theorem dX7_casts_34 : decode cX7_casts 34 = .ok (.ifCond .ne 39, 3) := by decide +kernel
theorem dX7_casts_37 : decode cX7_casts 37 = .ok (.iload 4, 2) := by decide +kernel
theorem dX7_casts_39 : decode cX7_casts 39 = .ok (.bipush (-4), 2) := by decide +kernel
theorem dX7_casts_41 : decode cX7_casts 41 = .ok (.if_icmp .eq 32, 3) := by decide +kernel
theorem dX7_casts_44 : decode cX7_casts 44 = .ok (.aload_n 0, 1) := by decide +kernel
theorem dX7_casts_45 : decode cX7_casts 45 = .ok (.getfield 7, 3) := by decide +kernel
theorem dX7_casts_48 : decode cX7_casts 48 = .ok (.bipush 16, 2) := by decide +kernel
theorem dX7_casts_50 : decode cX7_casts 50 = .ok (.iload 4, 2) := by decide +kernel
theorem dX7_casts_52 : decode cX7_casts 52 = .ok (.iadd, 1) := by decide +kernel
theorem dX7_casts_53 : decode cX7_casts 53 = .ok (.dup2, 1) := by decide +kernel
theorem dX7_casts_54 : decode cX7_casts 54 = .ok (.iaload, 1) := by decide +kernel
theorem dX7_casts_55 : decode cX7_casts 55 = .ok (.iconst 1, 1) := by decide +kernel
theorem dX7_casts_56 : decode cX7_casts 56 = .ok (.isub, 1) := by decide +kernel
theorem dX7_casts_57 : decode cX7_casts 57 = .ok (.iastore, 1) := by decide +kernel
theorem dX7_casts_58 : decode cX7_casts 58 = .ok (.iinc 2 1, 3) := by decide +kernel
theorem dX7_casts_61 : decode cX7_casts 61 = .ok (.iload 4, 2) := by decide +kernel
theorem dX7_casts_63 : decode cX7_casts 63 = .ok (.istore_n 3, 1) := by decide +kernel
theorem dX7_casts_64 : decode cX7_casts 64 = .ok (.aload_n 0, 1) := by decide +kernel
theorem dX7_casts_65 : decode cX7_casts 65 = .ok (.invokevirtual 228, 3) := by decide +kernel
theorem dX7_casts_68 : decode cX7_casts 68 = .ok (.istore 4, 2) := by decide +kernel
theorem dX7_casts_70 : decode cX7_casts 70 = .ok (.goto (-40), 3) := by decide +kernel
theorem dX7_casts_73 : decode cX7_casts 73 = .ok (.aload_n 0, 1) := by decide +kernel
theorem dX7_casts_74 : decode cX7_casts 74 = .ok (.invokevirtual 190, 3) := by decide +kernel
theorem dX7_casts_77 : decode cX7_casts 77 = .ok (.istore 5, 2) := by decide +kernel
theorem dX7_casts_79 : decode cX7_casts 79 = .ok (.aload_n 0, 1) := by decide +kernel
theorem dX7_casts_80 : decode cX7_casts 80 = .ok (.bipush 120, 2) := by decide +kernel
theorem dX7_casts_82 : decode cX7_casts 82 = .ok (.iconst 0, 1) := by decide +kernel
theorem dX7_casts_83 : decode cX7_casts 83 = .ok (.invokevirtual 224, 3) := by decide +kernel
theorem dX7_casts_86 : decode cX7_casts 86 = .ok (.iload 5, 2) := by decide +kernel
theorem dX7_casts_88 : decode cX7_casts 88 = .ok (.ifCond .ne 8, 3) := by decide +kernel
theorem dX7_casts_91 : decode cX7_casts 91 = .ok (.bipush (-4), 2) := by decide +kernel
theorem dX7_casts_93 : decode cX7_casts 93 = .ok (.goto 12, 3) := by decide +kernel
theorem dX7_casts_96 : decode cX7_casts 96 = .ok (.iload_n 1, 1) := by decide +kernel
theorem dX7_casts_97 : decode cX7_casts 97 = .ok (.ifCond .ne 7, 3) := by decide +kernel
theorem dX7_casts_100 : decode cX7_casts 100 = .ok (.iload_n 2, 1) := by decide +kernel
theorem dX7_casts_101 : decode cX7_casts 101 = .ok (.goto 4, 3) := by decide +kernel
theorem dX7_casts_104 : decode cX7_casts 104 = .ok (.iload_n 3, 1) := by decide +kernel
theorem dX7_casts_105 : decode cX7_casts 105 = .ok (.ireturn, 1) := by decide +kernel
theorem dX7_bitsOf_0 : decode cX7_bitsOf 0 = .ok (.iconst 0, 1) := by decide +kernel
theorem dX7_bitsOf_1 : decode cX7_bitsOf 1 = .ok (.istore_n 1, 1) := by decide +kernel
theorem dX7_bitsOf_2 : decode cX7_bitsOf 2 = .ok (.iconst 0, 1) := by decide +kernel
theorem dX7_bitsOf_3 : decode cX7_bitsOf 3 = .ok (.istore_n 2, 1) := by decide +kernel
theorem dX7_bitsOf_4 : decode cX7_bitsOf 4 = .ok (.iload_n 2, 1) := by decide +kernel
theorem dX7_bitsOf_5 : decode cX7_bitsOf 5 = .ok (.iconst 4, 1) := by decide +kernel
theorem dX7_bitsOf_6 : decode cX7_bitsOf 6 = .ok (.if_icmp .ge 17, 3) := by decide +kernel
theorem dX7_bitsOf_9 : decode cX7_bitsOf 9 = .ok (.iload_n 1, 1) := by decide +kernel
theorem dX7_bitsOf_10 : decode cX7_bitsOf 10 = .ok (.iload_n 0, 1) := by decide +kernel
theorem dX7_bitsOf_11 : decode cX7_bitsOf 11 = .ok (.iload_n 2, 1) := by decide +kernel
theorem dX7_bitsOf_12 : decode cX7_bitsOf 12 = .ok (.ishr, 1) := by decide +kernel
theorem dX7_bitsOf_13 : decode cX7_bitsOf 13 = .ok (.iconst 1, 1) := by decide +kernel
theorem dX7_bitsOf_14 : decode cX7_bitsOf 14 = .ok (.iand, 1) := by decide +kernel
theorem dX7_bitsOf_15 : decode cX7_bitsOf 15 = .ok (.iadd, 1) := by decide +kernel
theorem dX7_bitsOf_16 : decode cX7_bitsOf 16 = .ok (.istore_n 1, 1) := by decide +kernel
theorem dX7_bitsOf_17 : decode cX7_bitsOf 17 = .ok (.iinc 2 1, 3) := by decide +kernel
theorem dX7_bitsOf_20 : decode cX7_bitsOf 20 = .ok (.goto (-16), 3) := by decide +kernel
theorem dX7_bitsOf_23 : decode cX7_bitsOf 23 = .ok (.iload_n 1, 1) := by decide +kernel
theorem dX7_bitsOf_24 : decode cX7_bitsOf 24 = .ok (.ireturn, 1) := by decide +kernel
theorem dX7_spare_0 : decode cX7_spare 0 = .ok (.iload_n 1, 1) := by decide +kernel
theorem dX7_spare_1 : decode cX7_spare 1 = .ok (.i2l, 1) := by decide +kernel
theorem dX7_spare_2 : decode cX7_spare 2 = .ok (.lconst 0, 1) := by decide +kernel
theorem dX7_spare_3 : decode cX7_spare 3 = .ok (.lconst 1, 1) := by decide +kernel
theorem dX7_spare_4 : decode cX7_spare 4 = .ok (.invokestatic 50, 3) := by decide +kernel
theorem dX7_spare_7 : decode cX7_spare 7 = .ok (.ifCond .ne 5, 3) := by decide +kernel
theorem dX7_spare_10 : decode cX7_spare 10 = .ok (.iconst (-1), 1) := by decide +kernel
theorem dX7_spare_11 : decode cX7_spare 11 = .ok (.ireturn, 1) := by decide +kernel
theorem dX7_spare_12 : decode cX7_spare 12 = .ok (.bipush (-4), 2) := by decide +kernel
theorem dX7_spare_14 : decode cX7_spare 14 = .ok (.istore_n 2, 1) := by decide +kernel
theorem dX7_spare_15 : decode cX7_spare 15 = .ok (.iconst 0, 1) := by decide +kernel
theorem dX7_spare_16 : decode cX7_spare 16 = .ok (.istore_n 3, 1) := by decide +kernel
theorem dX7_spare_17 : decode cX7_spare 17 = .ok (.iload_n 3, 1) := by decide +kernel
theorem dX7_spare_18 : decode cX7_spare 18 = .ok (.iconst 1, 1) := by decide +kernel
theorem dX7_spare_19 : decode cX7_spare 19 = .ok (.aload_n 0, 1) := by decide +kernel
theorem dX7_spare_20 : decode cX7_spare 20 = .ok (.getfield 136, 3) := by decide +kernel
theorem dX7_spare_23 : decode cX7_spare 23 = .ok (.ishl, 1) := by decide +kernel
theorem dX7_spare_24 : decode cX7_spare 24 = .ok (.if_icmp .ge 44, 3) := by decide +kernel
theorem dX7_spare_27 : decode cX7_spare 27 = .ok (.aload_n 0, 1) := by decide +kernel
theorem dX7_spare_28 : decode cX7_spare 28 = .ok (.iload_n 3, 1) := by decide +kernel
theorem dX7_spare_29 : decode cX7_spare 29 = .ok (.putfield 162, 3) := by decide +kernel
theorem dX7_spare_32 : decode cX7_spare 32 = .ok (.aload_n 0, 1) := by decide +kernel
theorem dX7_spare_33 : decode cX7_spare 33 = .ok (.invokevirtual 190, 3) := by decide +kernel
theorem dX7_spare_36 : decode cX7_spare 36 = .ok (.ifCond .eq 24, 3) := by decide +kernel
theorem dX7_spare_39 : decode cX7_spare 39 = .ok (.iload_n 2, 1) := by decide +kernel
theorem dX7_spare_40 : decode cX7_spare 40 = .ok (.bipush (-4), 2) := by decide +kernel
theorem dX7_spare_42 : decode cX7_spare 42 = .ok (.if_icmp .eq 14, 3) := by decide +kernel
theorem dX7_spare_45 : decode cX7_spare 45 = .ok (.iload_n 3, 1) := by decide +kernel
theorem dX7_spare_46 : decode cX7_spare 46 = .ok (.invokestatic 231, 3) := by decide +kernel
theorem dX7_spare_49 : decode cX7_spare 49 = .ok (.iload_n 2, 1) := by decide +kernel
theorem dX7_spare_50 : decode cX7_spare 50 = .ok (.invokestatic 231, 3) := by decide +kernel
theorem dX7_spare_53 : decode cX7_spare 53 = .ok (.if_icmp .le 7, 3) := by decide +kernel
theorem dX7_spare_56 : decode cX7_spare 56 = .ok (.iload_n 3, 1) := by decide +kernel
theorem dX7_spare_57 : decode cX7_spare 57 = .ok (.goto 4, 3) := by decide +kernel
theorem dX7_spare_60 : decode cX7_spare 60 = .ok (.iload_n 2, 1) := by decide +kernel
theorem dX7_spare_61 : decode cX7_spare 61 = .ok (.istore_n 2, 1) := by decide +kernel
theorem dX7_spare_62 : decode cX7_spare 62 = .ok (.iinc 3 1, 3) := by decide +kernel
theorem dX7_spare_65 : decode cX7_spare 65 = .ok (.goto (-48), 3) := by decide +kernel
theorem dX7_spare_68 : decode cX7_spare 68 = .ok (.aload_n 0, 1) := by decide +kernel
theorem dX7_spare_69 : decode cX7_spare 69 = .ok (.iconst 0, 1) := by decide +kernel
theorem dX7_spare_70 : decode cX7_spare 70 = .ok (.putfield 162, 3) := by decide +kernel
theorem dX7_spare_73 : decode cX7_spare 73 = .ok (.iload_n 2, 1) := by decide +kernel
theorem dX7_spare_74 : decode cX7_spare 74 = .ok (.bipush (-4), 2) := by decide +kernel
theorem dX7_spare_76 : decode cX7_spare 76 = .ok (.if_icmp .eq 8, 3) := by decide +kernel
theorem dX7_spare_79 : decode cX7_spare 79 = .ok (.iload_n 1, 1) := by decide +kernel
theorem dX7_spare_80 : decode cX7_spare 80 = .ok (.iconst 1, 1) := by decide +kernel
theorem dX7_spare_81 : decode cX7_spare 81 = .ok (.if_icmp .ne 7, 3) := by decide +kernel
theorem dX7_spare_84 : decode cX7_spare 84 = .ok (.iload_n 2, 1) := by decide +kernel
theorem dX7_spare_85 : decode cX7_spare 85 = .ok (.goto 7, 3) := by decide +kernel
theorem dX7_spare_88 : decode cX7_spare 88 = .ok (.iload_n 2, 1) := by decide +kernel
theorem dX7_spare_89 : decode cX7_spare 89 = .ok (.invokestatic 231, 3) := by decide +kernel
theorem dX7_spare_92 : decode cX7_spare 92 = .ok (.ireturn, 1) := by decide +kernel
theorem dX7_without_0 : decode cX7_without 0 = .ok (.aload_n 0, 1) := by decide +kernel
theorem dX7_without_1 : decode cX7_without 1 = .ok (.iload_n 1, 1) := by decide +kernel
theorem dX7_without_2 : decode cX7_without 2 = .ok (.invokevirtual 165, 3) := by decide +kernel
theorem dX7_without_5 : decode cX7_without 5 = .ok (.ifCond .ne 5, 3) := by decide +kernel
theorem dX7_without_8 : decode cX7_without 8 = .ok (.iconst (-1), 1) := by decide +kernel
theorem dX7_without_9 : decode cX7_without 9 = .ok (.ireturn, 1) := by decide +kernel
theorem dX7_without_10 : decode cX7_without 10 = .ok (.aload_n 0, 1) := by decide +kernel
theorem dX7_without_11 : decode cX7_without 11 = .ok (.iconst 1, 1) := by decide +kernel
theorem dX7_without_12 : decode cX7_without 12 = .ok (.iload_n 1, 1) := by decide +kernel
theorem dX7_without_13 : decode cX7_without 13 = .ok (.ishl, 1) := by decide +kernel
theorem dX7_without_14 : decode cX7_without 14 = .ok (.putfield 162, 3) := by decide +kernel
theorem dX7_without_17 : decode cX7_without 17 = .ok (.aload_n 0, 1) := by decide +kernel
theorem dX7_without_18 : decode cX7_without 18 = .ok (.invokevirtual 181, 3) := by decide +kernel
theorem dX7_without_21 : decode cX7_without 21 = .ok (.istore_n 2, 1) := by decide +kernel
theorem dX7_without_22 : decode cX7_without 22 = .ok (.aload_n 0, 1) := by decide +kernel
theorem dX7_without_23 : decode cX7_without 23 = .ok (.iconst 0, 1) := by decide +kernel
theorem dX7_without_24 : decode cX7_without 24 = .ok (.putfield 162, 3) := by decide +kernel
theorem dX7_without_27 : decode cX7_without 27 = .ok (.iload_n 2, 1) := by decide +kernel
theorem dX7_without_28 : decode cX7_without 28 = .ok (.ireturn, 1) := by decide +kernel
theorem dX7_lasts_0 : decode cX7_lasts 0 = .ok (.aload_n 0, 1) := by decide +kernel
theorem dX7_lasts_1 : decode cX7_lasts 1 = .ok (.iconst 0, 1) := by decide +kernel
theorem dX7_lasts_2 : decode cX7_lasts 2 = .ok (.bipush 120, 2) := by decide +kernel
theorem dX7_lasts_4 : decode cX7_lasts 4 = .ok (.invokevirtual 224, 3) := by decide +kernel
theorem dX7_lasts_7 : decode cX7_lasts 7 = .ok (.iconst 0, 1) := by decide +kernel
theorem dX7_lasts_8 : decode cX7_lasts 8 = .ok (.istore_n 1, 1) := by decide +kernel
theorem dX7_lasts_9 : decode cX7_lasts 9 = .ok (.aload_n 0, 1) := by decide +kernel
theorem dX7_lasts_10 : decode cX7_lasts 10 = .ok (.invokevirtual 190, 3) := by decide +kernel
theorem dX7_lasts_13 : decode cX7_lasts 13 = .ok (.ifCond .eq 20, 3) := by decide +kernel
theorem dX7_lasts_16 : decode cX7_lasts 16 = .ok (.iload_n 1, 1) := by decide +kernel
theorem dX7_lasts_17 : decode cX7_lasts 17 = .ok (.sipush 500, 3) := by decide +kernel
theorem dX7_lasts_20 : decode cX7_lasts 20 = .ok (.if_icmp .ge 13, 3) := by decide +kernel
theorem dX7_lasts_23 : decode cX7_lasts 23 = .ok (.aload_n 0, 1) := by decide +kernel
theorem dX7_lasts_24 : decode cX7_lasts 24 = .ok (.invokevirtual 221, 3) := by decide +kernel
theorem dX7_lasts_27 : decode cX7_lasts 27 = .ok (.iinc 1 1, 3) := by decide +kernel
theorem dX7_lasts_30 : decode cX7_lasts 30 = .ok (.goto (-21), 3) := by decide +kernel
theorem dX7_lasts_33 : decode cX7_lasts 33 = .ok (.aload_n 0, 1) := by decide +kernel
theorem dX7_lasts_34 : decode cX7_lasts 34 = .ok (.invokevirtual 190, 3) := by decide +kernel
theorem dX7_lasts_37 : decode cX7_lasts 37 = .ok (.ifCond .eq 8, 3) := by decide +kernel
theorem dX7_lasts_40 : decode cX7_lasts 40 = .ok (.bipush (-4), 2) := by decide +kernel
theorem dX7_lasts_42 : decode cX7_lasts 42 = .ok (.goto 4, 3) := by decide +kernel
theorem dX7_lasts_45 : decode cX7_lasts 45 = .ok (.iload_n 1, 1) := by decide +kernel
theorem dX7_lasts_46 : decode cX7_lasts 46 = .ok (.istore_n 2, 1) := by decide +kernel
theorem dX7_lasts_47 : decode cX7_lasts 47 = .ok (.aload_n 0, 1) := by decide +kernel
theorem dX7_lasts_48 : decode cX7_lasts 48 = .ok (.bipush 120, 2) := by decide +kernel
theorem dX7_lasts_50 : decode cX7_lasts 50 = .ok (.iconst 0, 1) := by decide +kernel
theorem dX7_lasts_51 : decode cX7_lasts 51 = .ok (.invokevirtual 224, 3) := by decide +kernel
theorem dX7_lasts_54 : decode cX7_lasts 54 = .ok (.iload_n 2, 1) := by decide +kernel
theorem dX7_lasts_55 : decode cX7_lasts 55 = .ok (.ireturn, 1) := by decide +kernel
theorem dX7_changes_0 : decode cX7_changes 0 = .ok (.aload_n 0, 1) := by decide +kernel
theorem dX7_changes_1 : decode cX7_changes 1 = .ok (.getfield 7, 3) := by decide +kernel
theorem dX7_changes_4 : decode cX7_changes 4 = .ok (.bipush 8, 2) := by decide +kernel
theorem dX7_changes_6 : decode cX7_changes 6 = .ok (.iload_n 1, 1) := by decide +kernel
theorem dX7_changes_7 : decode cX7_changes 7 = .ok (.iadd, 1) := by decide +kernel
theorem dX7_changes_8 : decode cX7_changes 8 = .ok (.iaload, 1) := by decide +kernel
theorem dX7_changes_9 : decode cX7_changes 9 = .ok (.istore_n 3, 1) := by decide +kernel
theorem dX7_changes_10 : decode cX7_changes 10 = .ok (.aload_n 0, 1) := by decide +kernel
theorem dX7_changes_11 : decode cX7_changes 11 = .ok (.getfield 7, 3) := by decide +kernel
theorem dX7_changes_14 : decode cX7_changes 14 = .ok (.bipush 8, 2) := by decide +kernel
theorem dX7_changes_16 : decode cX7_changes 16 = .ok (.iload_n 1, 1) := by decide +kernel
theorem dX7_changes_17 : decode cX7_changes 17 = .ok (.iadd, 1) := by decide +kernel
theorem dX7_changes_18 : decode cX7_changes 18 = .ok (.aload_n 0, 1) := by decide +kernel
theorem dX7_changes_19 : decode cX7_changes 19 = .ok (.getfield 7, 3) := by decide +kernel
theorem dX7_changes_22 : decode cX7_changes 22 = .ok (.bipush 8, 2) := by decide +kernel
theorem dX7_changes_24 : decode cX7_changes 24 = .ok (.iload_n 2, 1) := by decide +kernel
theorem dX7_changes_25 : decode cX7_changes 25 = .ok (.iadd, 1) := by decide +kernel
theorem dX7_changes_26 : decode cX7_changes 26 = .ok (.iaload, 1) := by decide +kernel
theorem dX7_changes_27 : decode cX7_changes 27 = .ok (.iastore, 1) := by decide +kernel
theorem dX7_changes_28 : decode cX7_changes 28 = .ok (.aload_n 0, 1) := by decide +kernel
theorem dX7_changes_29 : decode cX7_changes 29 = .ok (.getfield 7, 3) := by decide +kernel
theorem dX7_changes_32 : decode cX7_changes 32 = .ok (.bipush 8, 2) := by decide +kernel
theorem dX7_changes_34 : decode cX7_changes 34 = .ok (.iload_n 2, 1) := by decide +kernel
theorem dX7_changes_35 : decode cX7_changes 35 = .ok (.iadd, 1) := by decide +kernel
theorem dX7_changes_36 : decode cX7_changes 36 = .ok (.iload_n 3, 1) := by decide +kernel
theorem dX7_changes_37 : decode cX7_changes 37 = .ok (.iastore, 1) := by decide +kernel
theorem dX7_changes_38 : decode cX7_changes 38 = .ok (.return_, 1) := by decide +kernel
theorem dX7_swap_0 : decode cX7_swap 0 = .ok (.aload_n 0, 1) := by decide +kernel
theorem dX7_swap_1 : decode cX7_swap 1 = .ok (.invokevirtual 190, 3) := by decide +kernel
theorem dX7_swap_4 : decode cX7_swap 4 = .ok (.ifCond .eq 6, 3) := by decide +kernel
theorem dX7_swap_7 : decode cX7_swap 7 = .ok (.bipush (-2), 2) := by decide +kernel
theorem dX7_swap_9 : decode cX7_swap 9 = .ok (.ireturn, 1) := by decide +kernel
theorem dX7_swap_10 : decode cX7_swap 10 = .ok (.bipush (-4), 2) := by decide +kernel
theorem dX7_swap_12 : decode cX7_swap 12 = .ok (.istore_n 1, 1) := by decide +kernel
theorem dX7_swap_13 : decode cX7_swap 13 = .ok (.aload_n 0, 1) := by decide +kernel
theorem dX7_swap_14 : decode cX7_swap 14 = .ok (.getfield 136, 3) := by decide +kernel
theorem dX7_swap_17 : decode cX7_swap 17 = .ok (.iconst 1, 1) := by decide +kernel
theorem dX7_swap_18 : decode cX7_swap 18 = .ok (.isub, 1) := by decide +kernel
theorem dX7_swap_19 : decode cX7_swap 19 = .ok (.istore_n 2, 1) := by decide +kernel
theorem dX7_swap_20 : decode cX7_swap 20 = .ok (.iload_n 2, 1) := by decide +kernel
theorem dX7_swap_21 : decode cX7_swap 21 = .ok (.ifCond .lt 57, 3) := by decide +kernel
theorem dX7_swap_24 : decode cX7_swap 24 = .ok (.aload_n 0, 1) := by decide +kernel
theorem dX7_swap_25 : decode cX7_swap 25 = .ok (.getfield 136, 3) := by decide +kernel
theorem dX7_swap_28 : decode cX7_swap 28 = .ok (.iconst 1, 1) := by decide +kernel
theorem dX7_swap_29 : decode cX7_swap 29 = .ok (.isub, 1) := by decide +kernel
theorem dX7_swap_30 : decode cX7_swap 30 = .ok (.istore_n 3, 1) := by decide +kernel
theorem dX7_swap_31 : decode cX7_swap 31 = .ok (.iload_n 3, 1) := by decide +kernel
theorem dX7_swap_32 : decode cX7_swap 32 = .ok (.iload_n 2, 1) := by decide +kernel
theorem dX7_swap_33 : decode cX7_swap 33 = .ok (.if_icmp .le 39, 3) := by decide +kernel
theorem dX7_swap_36 : decode cX7_swap 36 = .ok (.aload_n 0, 1) := by decide +kernel
theorem dX7_swap_37 : decode cX7_swap 37 = .ok (.iload_n 2, 1) := by decide +kernel
theorem dX7_swap_38 : decode cX7_swap 38 = .ok (.iload_n 3, 1) := by decide +kernel
theorem dX7_swap_39 : decode cX7_swap 39 = .ok (.invokevirtual 234, 3) := by decide +kernel
theorem dX7_swap_42 : decode cX7_swap 42 = .ok (.aload_n 0, 1) := by decide +kernel
theorem dX7_swap_43 : decode cX7_swap 43 = .ok (.invokevirtual 190, 3) := by decide +kernel
theorem dX7_swap_46 : decode cX7_swap 46 = .ok (.ifCond .eq 12, 3) := by decide +kernel
theorem dX7_swap_49 : decode cX7_swap 49 = .ok (.bipush 10, 2) := by decide +kernel
theorem dX7_swap_51 : decode cX7_swap 51 = .ok (.iload_n 2, 1) := by decide +kernel
theorem dX7_swap_52 : decode cX7_swap 52 = .ok (.imul, 1) := by decide +kernel
theorem dX7_swap_53 : decode cX7_swap 53 = .ok (.iload_n 3, 1) := by decide +kernel
theorem dX7_swap_54 : decode cX7_swap 54 = .ok (.iadd, 1) := by decide +kernel
theorem dX7_swap_55 : decode cX7_swap 55 = .ok (.goto 4, 3) := by decide +kernel
theorem dX7_swap_58 : decode cX7_swap 58 = .ok (.iload_n 1, 1) := by decide +kernel
theorem dX7_swap_59 : decode cX7_swap 59 = .ok (.istore_n 1, 1) := by decide +kernel
theorem dX7_swap_60 : decode cX7_swap 60 = .ok (.aload_n 0, 1) := by decide +kernel
theorem dX7_swap_61 : decode cX7_swap 61 = .ok (.iload_n 2, 1) := by decide +kernel
theorem dX7_swap_62 : decode cX7_swap 62 = .ok (.iload_n 3, 1) := by decide +kernel
theorem dX7_swap_63 : decode cX7_swap 63 = .ok (.invokevirtual 234, 3) := by decide +kernel
theorem dX7_swap_66 : decode cX7_swap 66 = .ok (.iinc 3 (-1), 3) := by decide +kernel
theorem dX7_swap_69 : decode cX7_swap 69 = .ok (.goto (-38), 3) := by decide +kernel
theorem dX7_swap_72 : decode cX7_swap 72 = .ok (.iinc 2 (-1), 3) := by decide +kernel
theorem dX7_swap_75 : decode cX7_swap 75 = .ok (.goto (-55), 3) := by decide +kernel
theorem dX7_swap_78 : decode cX7_swap 78 = .ok (.iload_n 1, 1) := by decide +kernel
theorem dX7_swap_79 : decode cX7_swap 79 = .ok (.ireturn, 1) := by decide +kernel
theorem dX7_lowest_0 : decode cX7_lowest 0 = .ok (.lload_n 0, 1) := by decide +kernel
theorem dX7_lowest_1 : decode cX7_lowest 1 = .ok (.lstore 5, 2) := by decide +kernel
theorem dX7_lowest_3 : decode cX7_lowest 3 = .ok (.lload_n 2, 1) := by decide +kernel
theorem dX7_lowest_4 : decode cX7_lowest 4 = .ok (.lstore 7, 2) := by decide +kernel
theorem dX7_lowest_6 : decode cX7_lowest 6 = .ok (.lload 7, 2) := by decide +kernel
theorem dX7_lowest_8 : decode cX7_lowest 8 = .ok (.lconst 0, 1) := by decide +kernel
theorem dX7_lowest_9 : decode cX7_lowest 9 = .ok (.lcmp, 1) := by decide +kernel
theorem dX7_lowest_10 : decode cX7_lowest 10 = .ok (.ifCond .eq 21, 3) := by decide +kernel
theorem dX7_lowest_13 : decode cX7_lowest 13 = .ok (.lload 5, 2) := by decide +kernel
theorem dX7_lowest_15 : decode cX7_lowest 15 = .ok (.lload 7, 2) := by decide +kernel
theorem dX7_lowest_17 : decode cX7_lowest 17 = .ok (.lrem, 1) := by decide +kernel
theorem dX7_lowest_18 : decode cX7_lowest 18 = .ok (.lstore 9, 2) := by decide +kernel
theorem dX7_lowest_20 : decode cX7_lowest 20 = .ok (.lload 7, 2) := by decide +kernel
theorem dX7_lowest_22 : decode cX7_lowest 22 = .ok (.lstore 5, 2) := by decide +kernel
theorem dX7_lowest_24 : decode cX7_lowest 24 = .ok (.lload 9, 2) := by decide +kernel
theorem dX7_lowest_26 : decode cX7_lowest 26 = .ok (.lstore 7, 2) := by decide +kernel
theorem dX7_lowest_28 : decode cX7_lowest 28 = .ok (.goto (-22), 3) := by decide +kernel
theorem dX7_lowest_31 : decode cX7_lowest 31 = .ok (.iload 4, 2) := by decide +kernel
theorem dX7_lowest_33 : decode cX7_lowest 33 = .ok (.ifCond .ne 7, 3) := by decide +kernel
theorem dX7_lowest_36 : decode cX7_lowest 36 = .ok (.lload_n 0, 1) := by decide +kernel
theorem dX7_lowest_37 : decode cX7_lowest 37 = .ok (.goto 4, 3) := by decide +kernel
theorem dX7_lowest_40 : decode cX7_lowest 40 = .ok (.lload_n 2, 1) := by decide +kernel
theorem dX7_lowest_41 : decode cX7_lowest 41 = .ok (.lload 5, 2) := by decide +kernel
theorem dX7_lowest_43 : decode cX7_lowest 43 = .ok (.ldiv, 1) := by decide +kernel
theorem dX7_lowest_44 : decode cX7_lowest 44 = .ok (.lreturn, 1) := by decide +kernel
theorem dX7_byLies_0 : decode cX7_byLies 0 = .ok (.lconst 0, 1) := by decide +kernel
theorem dX7_byLies_1 : decode cX7_byLies 1 = .ok (.lstore 4, 2) := by decide +kernel
theorem dX7_byLies_3 : decode cX7_byLies 3 = .ok (.lconst 1, 1) := by decide +kernel
theorem dX7_byLies_4 : decode cX7_byLies 4 = .ok (.lstore 6, 2) := by decide +kernel
theorem dX7_byLies_6 : decode cX7_byLies 6 = .ok (.iconst 0, 1) := by decide +kernel
theorem dX7_byLies_7 : decode cX7_byLies 7 = .ok (.istore 8, 2) := by decide +kernel
theorem dX7_byLies_9 : decode cX7_byLies 9 = .ok (.iload 8, 2) := by decide +kernel
theorem dX7_byLies_11 : decode cX7_byLies 11 = .ok (.aload_n 0, 1) := by decide +kernel
theorem dX7_byLies_12 : decode cX7_byLies 12 = .ok (.getfield 136, 3) := by decide +kernel
theorem dX7_byLies_15 : decode cX7_byLies 15 = .ok (.if_icmp .ge 17, 3) := by decide +kernel
theorem dX7_byLies_18 : decode cX7_byLies 18 = .ok (.lload 6, 2) := by decide +kernel
theorem dX7_byLies_20 : decode cX7_byLies 20 = .ok (.ldc2_w 217, 3) := by decide +kernel
theorem dX7_byLies_23 : decode cX7_byLies 23 = .ok (.lmul, 1) := by decide +kernel
theorem dX7_byLies_24 : decode cX7_byLies 24 = .ok (.lstore 6, 2) := by decide +kernel
theorem dX7_byLies_26 : decode cX7_byLies 26 = .ok (.iinc 8 1, 3) := by decide +kernel
theorem dX7_byLies_29 : decode cX7_byLies 29 = .ok (.goto (-20), 3) := by decide +kernel
theorem dX7_byLies_32 : decode cX7_byLies 32 = .ok (.iconst 0, 1) := by decide +kernel
theorem dX7_byLies_33 : decode cX7_byLies 33 = .ok (.istore 8, 2) := by decide +kernel
theorem dX7_byLies_35 : decode cX7_byLies 35 = .ok (.iload 8, 2) := by decide +kernel
theorem dX7_byLies_37 : decode cX7_byLies 37 = .ok (.iconst 1, 1) := by decide +kernel
theorem dX7_byLies_38 : decode cX7_byLies 38 = .ok (.aload_n 0, 1) := by decide +kernel
theorem dX7_byLies_39 : decode cX7_byLies 39 = .ok (.getfield 136, 3) := by decide +kernel
theorem dX7_byLies_42 : decode cX7_byLies 42 = .ok (.ishl, 1) := by decide +kernel
theorem dX7_byLies_43 : decode cX7_byLies 43 = .ok (.if_icmp .ge 94, 3) := by decide +kernel
theorem dX7_byLies_46 : decode cX7_byLies 46 = .ok (.lconst 1, 1) := by decide +kernel
theorem dX7_byLies_47 : decode cX7_byLies 47 = .ok (.lstore 9, 2) := by decide +kernel
theorem dX7_byLies_49 : decode cX7_byLies 49 = .ok (.iconst 0, 1) := by decide +kernel
theorem dX7_byLies_50 : decode cX7_byLies 50 = .ok (.istore 11, 2) := by decide +kernel
theorem dX7_byLies_52 : decode cX7_byLies 52 = .ok (.iload 11, 2) := by decide +kernel
theorem dX7_byLies_54 : decode cX7_byLies 54 = .ok (.aload_n 0, 1) := by decide +kernel
theorem dX7_byLies_55 : decode cX7_byLies 55 = .ok (.getfield 136, 3) := by decide +kernel
theorem dX7_byLies_58 : decode cX7_byLies 58 = .ok (.if_icmp .ge 35, 3) := by decide +kernel
theorem dX7_byLies_61 : decode cX7_byLies 61 = .ok (.lload 9, 2) := by decide +kernel
theorem dX7_byLies_63 : decode cX7_byLies 63 = .ok (.iload 8, 2) := by decide +kernel
theorem dX7_byLies_65 : decode cX7_byLies 65 = .ok (.iload 11, 2) := by decide +kernel
theorem dX7_byLies_67 : decode cX7_byLies 67 = .ok (.ishr, 1) := by decide +kernel
theorem dX7_byLies_68 : decode cX7_byLies 68 = .ok (.iconst 1, 1) := by decide +kernel
theorem dX7_byLies_69 : decode cX7_byLies 69 = .ok (.iand, 1) := by decide +kernel
theorem dX7_byLies_70 : decode cX7_byLies 70 = .ok (.iconst 1, 1) := by decide +kernel
theorem dX7_byLies_71 : decode cX7_byLies 71 = .ok (.if_icmp .ne 8, 3) := by decide +kernel
theorem dX7_byLies_74 : decode cX7_byLies 74 = .ok (.iload_n 1, 1) := by decide +kernel
theorem dX7_byLies_75 : decode cX7_byLies 75 = .ok (.i2l, 1) := by decide +kernel
theorem dX7_byLies_76 : decode cX7_byLies 76 = .ok (.goto 8, 3) := by decide +kernel
theorem dX7_byLies_79 : decode cX7_byLies 79 = .ok (.bipush 10, 2) := by decide +kernel
theorem dX7_byLies_81 : decode cX7_byLies 81 = .ok (.iload_n 1, 1) := by decide +kernel
theorem dX7_byLies_82 : decode cX7_byLies 82 = .ok (.isub, 1) := by decide +kernel
theorem dX7_byLies_83 : decode cX7_byLies 83 = .ok (.i2l, 1) := by decide +kernel
theorem dX7_byLies_84 : decode cX7_byLies 84 = .ok (.lmul, 1) := by decide +kernel
theorem dX7_byLies_85 : decode cX7_byLies 85 = .ok (.lstore 9, 2) := by decide +kernel
theorem dX7_byLies_87 : decode cX7_byLies 87 = .ok (.iinc 11 1, 3) := by decide +kernel
theorem dX7_byLies_90 : decode cX7_byLies 90 = .ok (.goto (-38), 3) := by decide +kernel
theorem dX7_byLies_93 : decode cX7_byLies 93 = .ok (.aload_n 0, 1) := by decide +kernel
theorem dX7_byLies_94 : decode cX7_byLies 94 = .ok (.iload 8, 2) := by decide +kernel
theorem dX7_byLies_96 : decode cX7_byLies 96 = .ok (.putfield 159, 3) := by decide +kernel
theorem dX7_byLies_99 : decode cX7_byLies 99 = .ok (.lload 4, 2) := by decide +kernel
theorem dX7_byLies_101 : decode cX7_byLies 101 = .ok (.lload 9, 2) := by decide +kernel
theorem dX7_byLies_103 : decode cX7_byLies 103 = .ok (.iload_n 2, 1) := by decide +kernel
theorem dX7_byLies_104 : decode cX7_byLies 104 = .ok (.ifCond .eq 10, 3) := by decide +kernel
theorem dX7_byLies_107 : decode cX7_byLies 107 = .ok (.aload_n 0, 1) := by decide +kernel
theorem dX7_byLies_108 : decode cX7_byLies 108 = .ok (.invokevirtual 178, 3) := by decide +kernel
theorem dX7_byLies_111 : decode cX7_byLies 111 = .ok (.goto 15, 3) := by decide +kernel
theorem dX7_byLies_114 : decode cX7_byLies 114 = .ok (.aload_n 0, 1) := by decide +kernel
theorem dX7_byLies_115 : decode cX7_byLies 115 = .ok (.invokevirtual 190, 3) := by decide +kernel
theorem dX7_byLies_118 : decode cX7_byLies 118 = .ok (.ifCond .eq 7, 3) := by decide +kernel
theorem dX7_byLies_121 : decode cX7_byLies 121 = .ok (.iconst 1, 1) := by decide +kernel
theorem dX7_byLies_122 : decode cX7_byLies 122 = .ok (.goto 4, 3) := by decide +kernel
theorem dX7_byLies_125 : decode cX7_byLies 125 = .ok (.iconst 0, 1) := by decide +kernel
theorem dX7_byLies_126 : decode cX7_byLies 126 = .ok (.i2l, 1) := by decide +kernel
theorem dX7_byLies_127 : decode cX7_byLies 127 = .ok (.lmul, 1) := by decide +kernel
theorem dX7_byLies_128 : decode cX7_byLies 128 = .ok (.ladd, 1) := by decide +kernel
theorem dX7_byLies_129 : decode cX7_byLies 129 = .ok (.lstore 4, 2) := by decide +kernel
theorem dX7_byLies_131 : decode cX7_byLies 131 = .ok (.iinc 8 1, 3) := by decide +kernel
theorem dX7_byLies_134 : decode cX7_byLies 134 = .ok (.goto (-99), 3) := by decide +kernel
theorem dX7_byLies_137 : decode cX7_byLies 137 = .ok (.aload_n 0, 1) := by decide +kernel
theorem dX7_byLies_138 : decode cX7_byLies 138 = .ok (.iconst 0, 1) := by decide +kernel
theorem dX7_byLies_139 : decode cX7_byLies 139 = .ok (.putfield 159, 3) := by decide +kernel
theorem dX7_byLies_142 : decode cX7_byLies 142 = .ok (.lload 4, 2) := by decide +kernel
theorem dX7_byLies_144 : decode cX7_byLies 144 = .ok (.lload 6, 2) := by decide +kernel
theorem dX7_byLies_146 : decode cX7_byLies 146 = .ok (.iload_n 3, 1) := by decide +kernel
theorem dX7_byLies_147 : decode cX7_byLies 147 = .ok (.invokestatic 237, 3) := by decide +kernel
theorem dX7_byLies_150 : decode cX7_byLies 150 = .ok (.lreturn, 1) := by decide +kernel
theorem dX7_mean_0 : decode cX7_mean 0 = .ok (.iload_n 1, 1) := by decide +kernel
theorem dX7_mean_1 : decode cX7_mean 1 = .ok (.i2l, 1) := by decide +kernel
theorem dX7_mean_2 : decode cX7_mean 2 = .ok (.lconst 0, 1) := by decide +kernel
theorem dX7_mean_3 : decode cX7_mean 3 = .ok (.ldc2_w 217, 3) := by decide +kernel
theorem dX7_mean_6 : decode cX7_mean 6 = .ok (.invokestatic 50, 3) := by decide +kernel
theorem dX7_mean_9 : decode cX7_mean 9 = .ok (.ifCond .eq 23, 3) := by decide +kernel
theorem dX7_mean_12 : decode cX7_mean 12 = .ok (.iload_n 2, 1) := by decide +kernel
theorem dX7_mean_13 : decode cX7_mean 13 = .ok (.i2l, 1) := by decide +kernel
theorem dX7_mean_14 : decode cX7_mean 14 = .ok (.lconst 0, 1) := by decide +kernel
theorem dX7_mean_15 : decode cX7_mean 15 = .ok (.lconst 1, 1) := by decide +kernel
theorem dX7_mean_16 : decode cX7_mean 16 = .ok (.invokestatic 50, 3) := by decide +kernel
theorem dX7_mean_19 : decode cX7_mean 19 = .ok (.ifCond .eq 13, 3) := by decide +kernel
theorem dX7_mean_22 : decode cX7_mean 22 = .ok (.aload_n 0, 1) := by decide +kernel
theorem dX7_mean_23 : decode cX7_mean 23 = .ok (.iload_n 1, 1) := by decide +kernel
theorem dX7_mean_24 : decode cX7_mean 24 = .ok (.iconst 1, 1) := by decide +kernel
theorem dX7_mean_25 : decode cX7_mean 25 = .ok (.iload_n 2, 1) := by decide +kernel
theorem dX7_mean_26 : decode cX7_mean 26 = .ok (.invokevirtual 241, 3) := by decide +kernel
theorem dX7_mean_29 : decode cX7_mean 29 = .ok (.goto 6, 3) := by decide +kernel
theorem dX7_mean_32 : decode cX7_mean 32 = .ok (.ldc2_w 245, 3) := by decide +kernel
theorem dX7_mean_35 : decode cX7_mean 35 = .ok (.lreturn, 1) := by decide +kernel
theorem dX7_luck_0 : decode cX7_luck 0 = .ok (.iload_n 1, 1) := by decide +kernel
theorem dX7_luck_1 : decode cX7_luck 1 = .ok (.i2l, 1) := by decide +kernel
theorem dX7_luck_2 : decode cX7_luck 2 = .ok (.lconst 0, 1) := by decide +kernel
theorem dX7_luck_3 : decode cX7_luck 3 = .ok (.ldc2_w 217, 3) := by decide +kernel
theorem dX7_luck_6 : decode cX7_luck 6 = .ok (.invokestatic 50, 3) := by decide +kernel
theorem dX7_luck_9 : decode cX7_luck 9 = .ok (.ifCond .eq 23, 3) := by decide +kernel
theorem dX7_luck_12 : decode cX7_luck 12 = .ok (.iload_n 2, 1) := by decide +kernel
theorem dX7_luck_13 : decode cX7_luck 13 = .ok (.i2l, 1) := by decide +kernel
theorem dX7_luck_14 : decode cX7_luck 14 = .ok (.lconst 0, 1) := by decide +kernel
theorem dX7_luck_15 : decode cX7_luck 15 = .ok (.lconst 1, 1) := by decide +kernel
theorem dX7_luck_16 : decode cX7_luck 16 = .ok (.invokestatic 50, 3) := by decide +kernel
theorem dX7_luck_19 : decode cX7_luck 19 = .ok (.ifCond .eq 13, 3) := by decide +kernel
theorem dX7_luck_22 : decode cX7_luck 22 = .ok (.aload_n 0, 1) := by decide +kernel
theorem dX7_luck_23 : decode cX7_luck 23 = .ok (.iload_n 1, 1) := by decide +kernel
theorem dX7_luck_24 : decode cX7_luck 24 = .ok (.iconst 0, 1) := by decide +kernel
theorem dX7_luck_25 : decode cX7_luck 25 = .ok (.iload_n 2, 1) := by decide +kernel
theorem dX7_luck_26 : decode cX7_luck 26 = .ok (.invokevirtual 241, 3) := by decide +kernel
theorem dX7_luck_29 : decode cX7_luck 29 = .ok (.goto 6, 3) := by decide +kernel
theorem dX7_luck_32 : decode cX7_luck 32 = .ok (.ldc2_w 245, 3) := by decide +kernel
theorem dX7_luck_35 : decode cX7_luck 35 = .ok (.lreturn, 1) := by decide +kernel
theorem dX7_see_0 : decode cX7_see 0 = .ok (.iload_n 1, 1) := by decide +kernel
theorem dX7_see_1 : decode cX7_see 1 = .ok (.i2l, 1) := by decide +kernel
theorem dX7_see_2 : decode cX7_see 2 = .ok (.lconst 0, 1) := by decide +kernel
theorem dX7_see_3 : decode cX7_see 3 = .ok (.ldc2_w 197, 3) := by decide +kernel
theorem dX7_see_6 : decode cX7_see 6 = .ok (.invokestatic 50, 3) := by decide +kernel
theorem dX7_see_9 : decode cX7_see 9 = .ok (.ifCond .eq 15, 3) := by decide +kernel
theorem dX7_see_12 : decode cX7_see 12 = .ok (.iload_n 2, 1) := by decide +kernel
theorem dX7_see_13 : decode cX7_see 13 = .ok (.i2l, 1) := by decide +kernel
theorem dX7_see_14 : decode cX7_see 14 = .ok (.lconst 0, 1) := by decide +kernel
theorem dX7_see_15 : decode cX7_see 15 = .ok (.ldc2_w 208, 3) := by decide +kernel
theorem dX7_see_18 : decode cX7_see 18 = .ok (.invokestatic 50, 3) := by decide +kernel
theorem dX7_see_21 : decode cX7_see 21 = .ok (.ifCond .ne 5, 3) := by decide +kernel
theorem dX7_see_24 : decode cX7_see 24 = .ok (.iconst (-1), 1) := by decide +kernel
theorem dX7_see_25 : decode cX7_see 25 = .ok (.ireturn, 1) := by decide +kernel
theorem dX7_see_26 : decode cX7_see 26 = .ok (.aload_n 0, 1) := by decide +kernel
theorem dX7_see_27 : decode cX7_see 27 = .ok (.getfield 139, 3) := by decide +kernel
theorem dX7_see_30 : decode cX7_see 30 = .ok (.bipush 6, 2) := by decide +kernel
theorem dX7_see_32 : decode cX7_see 32 = .ok (.if_icmp .ne 6, 3) := by decide +kernel
theorem dX7_see_35 : decode cX7_see 35 = .ok (.bipush (-3), 2) := by decide +kernel
theorem dX7_see_37 : decode cX7_see 37 = .ok (.ireturn, 1) := by decide +kernel
theorem dX7_see_38 : decode cX7_see 38 = .ok (.aload_n 0, 1) := by decide +kernel
theorem dX7_see_39 : decode cX7_see 39 = .ok (.getfield 29, 3) := by decide +kernel
theorem dX7_see_42 : decode cX7_see 42 = .ok (.iconst 2, 1) := by decide +kernel
theorem dX7_see_43 : decode cX7_see 43 = .ok (.aload_n 0, 1) := by decide +kernel
theorem dX7_see_44 : decode cX7_see 44 = .ok (.getfield 139, 3) := by decide +kernel
theorem dX7_see_47 : decode cX7_see 47 = .ok (.imul, 1) := by decide +kernel
theorem dX7_see_48 : decode cX7_see 48 = .ok (.iload_n 1, 1) := by decide +kernel
theorem dX7_see_49 : decode cX7_see 49 = .ok (.iastore, 1) := by decide +kernel
theorem dX7_see_50 : decode cX7_see 50 = .ok (.aload_n 0, 1) := by decide +kernel
theorem dX7_see_51 : decode cX7_see 51 = .ok (.getfield 29, 3) := by decide +kernel
theorem dX7_see_54 : decode cX7_see 54 = .ok (.iconst 2, 1) := by decide +kernel
theorem dX7_see_55 : decode cX7_see 55 = .ok (.aload_n 0, 1) := by decide +kernel
theorem dX7_see_56 : decode cX7_see 56 = .ok (.getfield 139, 3) := by decide +kernel
theorem dX7_see_59 : decode cX7_see 59 = .ok (.imul, 1) := by decide +kernel
theorem dX7_see_60 : decode cX7_see 60 = .ok (.iconst 1, 1) := by decide +kernel
theorem dX7_see_61 : decode cX7_see 61 = .ok (.iadd, 1) := by decide +kernel
theorem dX7_see_62 : decode cX7_see 62 = .ok (.iload_n 2, 1) := by decide +kernel
theorem dX7_see_63 : decode cX7_see 63 = .ok (.iastore, 1) := by decide +kernel
theorem dX7_see_64 : decode cX7_see 64 = .ok (.aload_n 0, 1) := by decide +kernel
theorem dX7_see_65 : decode cX7_see 65 = .ok (.dup, 1) := by decide +kernel
theorem dX7_see_66 : decode cX7_see 66 = .ok (.getfield 139, 3) := by decide +kernel
theorem dX7_see_69 : decode cX7_see 69 = .ok (.iconst 1, 1) := by decide +kernel
theorem dX7_see_70 : decode cX7_see 70 = .ok (.iadd, 1) := by decide +kernel
theorem dX7_see_71 : decode cX7_see 71 = .ok (.putfield 139, 3) := by decide +kernel
theorem dX7_see_74 : decode cX7_see 74 = .ok (.aload_n 0, 1) := by decide +kernel
theorem dX7_see_75 : decode cX7_see 75 = .ok (.getfield 139, 3) := by decide +kernel
theorem dX7_see_78 : decode cX7_see 78 = .ok (.ireturn, 1) := by decide +kernel
theorem dX7_forget_0 : decode cX7_forget 0 = .ok (.iload_n 1, 1) := by decide +kernel
theorem dX7_forget_1 : decode cX7_forget 1 = .ok (.i2l, 1) := by decide +kernel
theorem dX7_forget_2 : decode cX7_forget 2 = .ok (.lconst 0, 1) := by decide +kernel
theorem dX7_forget_3 : decode cX7_forget 3 = .ok (.aload_n 0, 1) := by decide +kernel
theorem dX7_forget_4 : decode cX7_forget 4 = .ok (.getfield 139, 3) := by decide +kernel
theorem dX7_forget_7 : decode cX7_forget 7 = .ok (.i2l, 1) := by decide +kernel
theorem dX7_forget_8 : decode cX7_forget 8 = .ok (.invokestatic 50, 3) := by decide +kernel
theorem dX7_forget_11 : decode cX7_forget 11 = .ok (.ifCond .ne 5, 3) := by decide +kernel
theorem dX7_forget_14 : decode cX7_forget 14 = .ok (.iconst (-1), 1) := by decide +kernel
theorem dX7_forget_15 : decode cX7_forget 15 = .ok (.ireturn, 1) := by decide +kernel
theorem dX7_forget_16 : decode cX7_forget 16 = .ok (.aload_n 0, 1) := by decide +kernel
theorem dX7_forget_17 : decode cX7_forget 17 = .ok (.getfield 139, 3) := by decide +kernel
theorem dX7_forget_20 : decode cX7_forget 20 = .ok (.istore_n 2, 1) := by decide +kernel
theorem dX7_forget_21 : decode cX7_forget 21 = .ok (.aload_n 0, 1) := by decide +kernel
theorem dX7_forget_22 : decode cX7_forget 22 = .ok (.iload_n 1, 1) := by decide +kernel
theorem dX7_forget_23 : decode cX7_forget 23 = .ok (.putfield 139, 3) := by decide +kernel
theorem dX7_forget_26 : decode cX7_forget 26 = .ok (.iload_n 2, 1) := by decide +kernel
theorem dX7_forget_27 : decode cX7_forget 27 = .ok (.ireturn, 1) := by decide +kernel
theorem dX7_numbers_0 : decode cX7_numbers 0 = .ok (.iconst 1, 1) := by decide +kernel
theorem dX7_numbers_1 : decode cX7_numbers 1 = .ok (.istore_n 1, 1) := by decide +kernel
theorem dX7_numbers_2 : decode cX7_numbers 2 = .ok (.iconst 0, 1) := by decide +kernel
theorem dX7_numbers_3 : decode cX7_numbers 3 = .ok (.istore_n 2, 1) := by decide +kernel
theorem dX7_numbers_4 : decode cX7_numbers 4 = .ok (.iload_n 2, 1) := by decide +kernel
theorem dX7_numbers_5 : decode cX7_numbers 5 = .ok (.aload_n 0, 1) := by decide +kernel
theorem dX7_numbers_6 : decode cX7_numbers 6 = .ok (.getfield 136, 3) := by decide +kernel
theorem dX7_numbers_9 : decode cX7_numbers 9 = .ok (.if_icmp .ge 14, 3) := by decide +kernel
theorem dX7_numbers_12 : decode cX7_numbers 12 = .ok (.iload_n 1, 1) := by decide +kernel
theorem dX7_numbers_13 : decode cX7_numbers 13 = .ok (.bipush 10, 2) := by decide +kernel
theorem dX7_numbers_15 : decode cX7_numbers 15 = .ok (.imul, 1) := by decide +kernel
theorem dX7_numbers_16 : decode cX7_numbers 16 = .ok (.istore_n 1, 1) := by decide +kernel
theorem dX7_numbers_17 : decode cX7_numbers 17 = .ok (.iinc 2 1, 3) := by decide +kernel
theorem dX7_numbers_20 : decode cX7_numbers 20 = .ok (.goto (-16), 3) := by decide +kernel
theorem dX7_numbers_23 : decode cX7_numbers 23 = .ok (.iload_n 1, 1) := by decide +kernel
theorem dX7_numbers_24 : decode cX7_numbers 24 = .ok (.ireturn, 1) := by decide +kernel
theorem dX7_laysGuilts_0 : decode cX7_laysGuilts 0 = .ok (.iload_n 1, 1) := by decide +kernel
theorem dX7_laysGuilts_1 : decode cX7_laysGuilts 1 = .ok (.istore_n 2, 1) := by decide +kernel
theorem dX7_laysGuilts_2 : decode cX7_laysGuilts 2 = .ok (.aload_n 0, 1) := by decide +kernel
theorem dX7_laysGuilts_3 : decode cX7_laysGuilts 3 = .ok (.getfield 136, 3) := by decide +kernel
theorem dX7_laysGuilts_6 : decode cX7_laysGuilts 6 = .ok (.iconst 1, 1) := by decide +kernel
theorem dX7_laysGuilts_7 : decode cX7_laysGuilts 7 = .ok (.isub, 1) := by decide +kernel
theorem dX7_laysGuilts_8 : decode cX7_laysGuilts 8 = .ok (.istore_n 3, 1) := by decide +kernel
theorem dX7_laysGuilts_9 : decode cX7_laysGuilts 9 = .ok (.iload_n 3, 1) := by decide +kernel
theorem dX7_laysGuilts_10 : decode cX7_laysGuilts 10 = .ok (.ifCond .lt 26, 3) := by decide +kernel
theorem dX7_laysGuilts_13 : decode cX7_laysGuilts 13 = .ok (.aload_n 0, 1) := by decide +kernel
theorem dX7_laysGuilts_14 : decode cX7_laysGuilts 14 = .ok (.getfield 7, 3) := by decide +kernel
theorem dX7_laysGuilts_17 : decode cX7_laysGuilts 17 = .ok (.iconst 4, 1) := by decide +kernel
theorem dX7_laysGuilts_18 : decode cX7_laysGuilts 18 = .ok (.iload_n 3, 1) := by decide +kernel
theorem dX7_laysGuilts_19 : decode cX7_laysGuilts 19 = .ok (.iadd, 1) := by decide +kernel
theorem dX7_laysGuilts_20 : decode cX7_laysGuilts 20 = .ok (.iload_n 2, 1) := by decide +kernel
theorem dX7_laysGuilts_21 : decode cX7_laysGuilts 21 = .ok (.bipush 10, 2) := by decide +kernel
theorem dX7_laysGuilts_23 : decode cX7_laysGuilts 23 = .ok (.irem, 1) := by decide +kernel
theorem dX7_laysGuilts_24 : decode cX7_laysGuilts 24 = .ok (.iastore, 1) := by decide +kernel
theorem dX7_laysGuilts_25 : decode cX7_laysGuilts 25 = .ok (.iload_n 2, 1) := by decide +kernel
theorem dX7_laysGuilts_26 : decode cX7_laysGuilts 26 = .ok (.bipush 10, 2) := by decide +kernel
theorem dX7_laysGuilts_28 : decode cX7_laysGuilts 28 = .ok (.idiv, 1) := by decide +kernel
theorem dX7_laysGuilts_29 : decode cX7_laysGuilts 29 = .ok (.istore_n 2, 1) := by decide +kernel
theorem dX7_laysGuilts_30 : decode cX7_laysGuilts 30 = .ok (.iinc 3 (-1), 3) := by decide +kernel
theorem dX7_laysGuilts_33 : decode cX7_laysGuilts 33 = .ok (.goto (-24), 3) := by decide +kernel
theorem dX7_laysGuilts_36 : decode cX7_laysGuilts 36 = .ok (.iconst 1, 1) := by decide +kernel
theorem dX7_laysGuilts_37 : decode cX7_laysGuilts 37 = .ok (.istore_n 3, 1) := by decide +kernel
theorem dX7_laysGuilts_38 : decode cX7_laysGuilts 38 = .ok (.iconst 0, 1) := by decide +kernel
theorem dX7_laysGuilts_39 : decode cX7_laysGuilts 39 = .ok (.istore 4, 2) := by decide +kernel
theorem dX7_laysGuilts_41 : decode cX7_laysGuilts 41 = .ok (.iload 4, 2) := by decide +kernel
theorem dX7_laysGuilts_43 : decode cX7_laysGuilts 43 = .ok (.aload_n 0, 1) := by decide +kernel
theorem dX7_laysGuilts_44 : decode cX7_laysGuilts 44 = .ok (.getfield 139, 3) := by decide +kernel
theorem dX7_laysGuilts_47 : decode cX7_laysGuilts 47 = .ok (.if_icmp .ge 46, 3) := by decide +kernel
theorem dX7_laysGuilts_50 : decode cX7_laysGuilts 50 = .ok (.iload_n 3, 1) := by decide +kernel
theorem dX7_laysGuilts_51 : decode cX7_laysGuilts 51 = .ok (.ifCond .eq 42, 3) := by decide +kernel
theorem dX7_laysGuilts_54 : decode cX7_laysGuilts 54 = .ok (.aload_n 0, 1) := by decide +kernel
theorem dX7_laysGuilts_55 : decode cX7_laysGuilts 55 = .ok (.aload_n 0, 1) := by decide +kernel
theorem dX7_laysGuilts_56 : decode cX7_laysGuilts 56 = .ok (.getfield 29, 3) := by decide +kernel
theorem dX7_laysGuilts_59 : decode cX7_laysGuilts 59 = .ok (.iconst 2, 1) := by decide +kernel
theorem dX7_laysGuilts_60 : decode cX7_laysGuilts 60 = .ok (.iload 4, 2) := by decide +kernel
theorem dX7_laysGuilts_62 : decode cX7_laysGuilts 62 = .ok (.imul, 1) := by decide +kernel
theorem dX7_laysGuilts_63 : decode cX7_laysGuilts 63 = .ok (.iaload, 1) := by decide +kernel
theorem dX7_laysGuilts_64 : decode cX7_laysGuilts 64 = .ok (.invokevirtual 199, 3) := by decide +kernel
theorem dX7_laysGuilts_67 : decode cX7_laysGuilts 67 = .ok (.aload_n 0, 1) := by decide +kernel
theorem dX7_laysGuilts_68 : decode cX7_laysGuilts 68 = .ok (.getfield 29, 3) := by decide +kernel
theorem dX7_laysGuilts_71 : decode cX7_laysGuilts 71 = .ok (.iconst 2, 1) := by decide +kernel
theorem dX7_laysGuilts_72 : decode cX7_laysGuilts 72 = .ok (.iload 4, 2) := by decide +kernel
theorem dX7_laysGuilts_74 : decode cX7_laysGuilts 74 = .ok (.imul, 1) := by decide +kernel
theorem dX7_laysGuilts_75 : decode cX7_laysGuilts 75 = .ok (.iconst 1, 1) := by decide +kernel
theorem dX7_laysGuilts_76 : decode cX7_laysGuilts 76 = .ok (.iadd, 1) := by decide +kernel
theorem dX7_laysGuilts_77 : decode cX7_laysGuilts 77 = .ok (.iaload, 1) := by decide +kernel
theorem dX7_laysGuilts_78 : decode cX7_laysGuilts 78 = .ok (.if_icmp .ne 7, 3) := by decide +kernel
theorem dX7_laysGuilts_81 : decode cX7_laysGuilts 81 = .ok (.iconst 1, 1) := by decide +kernel
theorem dX7_laysGuilts_82 : decode cX7_laysGuilts 82 = .ok (.goto 4, 3) := by decide +kernel
theorem dX7_laysGuilts_85 : decode cX7_laysGuilts 85 = .ok (.iconst 0, 1) := by decide +kernel
theorem dX7_laysGuilts_86 : decode cX7_laysGuilts 86 = .ok (.istore_n 3, 1) := by decide +kernel
theorem dX7_laysGuilts_87 : decode cX7_laysGuilts 87 = .ok (.iinc 4 1, 3) := by decide +kernel
theorem dX7_laysGuilts_90 : decode cX7_laysGuilts 90 = .ok (.goto (-49), 3) := by decide +kernel
theorem dX7_laysGuilts_93 : decode cX7_laysGuilts 93 = .ok (.iload_n 3, 1) := by decide +kernel
theorem dX7_laysGuilts_94 : decode cX7_laysGuilts 94 = .ok (.ireturn, 1) := by decide +kernel
theorem dX7_fits_0 : decode cX7_fits 0 = .ok (.iload_n 1, 1) := by decide +kernel
theorem dX7_fits_1 : decode cX7_fits 1 = .ok (.i2l, 1) := by decide +kernel
theorem dX7_fits_2 : decode cX7_fits 2 = .ok (.lconst 0, 1) := by decide +kernel
theorem dX7_fits_3 : decode cX7_fits 3 = .ok (.lconst 1, 1) := by decide +kernel
theorem dX7_fits_4 : decode cX7_fits 4 = .ok (.invokestatic 50, 3) := by decide +kernel
theorem dX7_fits_7 : decode cX7_fits 7 = .ok (.ifCond .ne 5, 3) := by decide +kernel
theorem dX7_fits_10 : decode cX7_fits 10 = .ok (.iconst (-1), 1) := by decide +kernel
theorem dX7_fits_11 : decode cX7_fits 11 = .ok (.ireturn, 1) := by decide +kernel
theorem dX7_fits_12 : decode cX7_fits 12 = .ok (.aload_n 0, 1) := by decide +kernel
theorem dX7_fits_13 : decode cX7_fits 13 = .ok (.iconst 0, 1) := by decide +kernel
theorem dX7_fits_14 : decode cX7_fits 14 = .ok (.bipush 120, 2) := by decide +kernel
theorem dX7_fits_16 : decode cX7_fits 16 = .ok (.invokevirtual 224, 3) := by decide +kernel
theorem dX7_fits_19 : decode cX7_fits 19 = .ok (.iconst 0, 1) := by decide +kernel
theorem dX7_fits_20 : decode cX7_fits 20 = .ok (.istore_n 2, 1) := by decide +kernel
theorem dX7_fits_21 : decode cX7_fits 21 = .ok (.bipush (-4), 2) := by decide +kernel
theorem dX7_fits_23 : decode cX7_fits 23 = .ok (.istore_n 3, 1) := by decide +kernel
theorem dX7_fits_24 : decode cX7_fits 24 = .ok (.iconst 0, 1) := by decide +kernel
theorem dX7_fits_25 : decode cX7_fits 25 = .ok (.istore 4, 2) := by decide +kernel
theorem dX7_fits_27 : decode cX7_fits 27 = .ok (.iload 4, 2) := by decide +kernel
theorem dX7_fits_29 : decode cX7_fits 29 = .ok (.aload_n 0, 1) := by decide +kernel
theorem dX7_fits_30 : decode cX7_fits 30 = .ok (.invokevirtual 247, 3) := by decide +kernel
theorem dX7_fits_33 : decode cX7_fits 33 = .ok (.if_icmp .ge 46, 3) := by decide +kernel
theorem dX7_fits_36 : decode cX7_fits 36 = .ok (.aload_n 0, 1) := by decide +kernel
theorem dX7_fits_37 : decode cX7_fits 37 = .ok (.iload 4, 2) := by decide +kernel
theorem dX7_fits_39 : decode cX7_fits 39 = .ok (.invokevirtual 250, 3) := by decide +kernel
theorem dX7_fits_42 : decode cX7_fits 42 = .ok (.istore 5, 2) := by decide +kernel
theorem dX7_fits_44 : decode cX7_fits 44 = .ok (.iload 5, 2) := by decide +kernel
theorem dX7_fits_46 : decode cX7_fits 46 = .ok (.ifCond .eq 12, 3) := by decide +kernel
theorem dX7_fits_49 : decode cX7_fits 49 = .ok (.iload_n 2, 1) := by decide +kernel
theorem dX7_fits_50 : decode cX7_fits 50 = .ok (.ifCond .ne 8, 3) := by decide +kernel
theorem dX7_fits_53 : decode cX7_fits 53 = .ok (.iload 4, 2) := by decide +kernel
theorem dX7_fits_55 : decode cX7_fits 55 = .ok (.goto 4, 3) := by decide +kernel
theorem dX7_fits_58 : decode cX7_fits 58 = .ok (.iload_n 3, 1) := by decide +kernel
theorem dX7_fits_59 : decode cX7_fits 59 = .ok (.istore_n 3, 1) := by decide +kernel
theorem dX7_fits_60 : decode cX7_fits 60 = .ok (.iload_n 2, 1) := by decide +kernel
theorem dX7_fits_61 : decode cX7_fits 61 = .ok (.iload 5, 2) := by decide +kernel
theorem dX7_fits_63 : decode cX7_fits 63 = .ok (.ifCond .eq 7, 3) := by decide +kernel
theorem dX7_fits_66 : decode cX7_fits 66 = .ok (.iconst 1, 1) := by decide +kernel
theorem dX7_fits_67 : decode cX7_fits 67 = .ok (.goto 4, 3) := by decide +kernel
theorem dX7_fits_70 : decode cX7_fits 70 = .ok (.iconst 0, 1) := by decide +kernel
theorem dX7_fits_71 : decode cX7_fits 71 = .ok (.iadd, 1) := by decide +kernel
theorem dX7_fits_72 : decode cX7_fits 72 = .ok (.istore_n 2, 1) := by decide +kernel
theorem dX7_fits_73 : decode cX7_fits 73 = .ok (.iinc 4 1, 3) := by decide +kernel
theorem dX7_fits_76 : decode cX7_fits 76 = .ok (.goto (-49), 3) := by decide +kernel
theorem dX7_fits_79 : decode cX7_fits 79 = .ok (.aload_n 0, 1) := by decide +kernel
theorem dX7_fits_80 : decode cX7_fits 80 = .ok (.bipush 120, 2) := by decide +kernel
theorem dX7_fits_82 : decode cX7_fits 82 = .ok (.iconst 0, 1) := by decide +kernel
theorem dX7_fits_83 : decode cX7_fits 83 = .ok (.invokevirtual 224, 3) := by decide +kernel
theorem dX7_fits_86 : decode cX7_fits 86 = .ok (.iload_n 1, 1) := by decide +kernel
theorem dX7_fits_87 : decode cX7_fits 87 = .ok (.ifCond .ne 7, 3) := by decide +kernel
theorem dX7_fits_90 : decode cX7_fits 90 = .ok (.iload_n 2, 1) := by decide +kernel
theorem dX7_fits_91 : decode cX7_fits 91 = .ok (.goto 4, 3) := by decide +kernel
