theorem dX6_luck_22 : decode cX6_luck 22 = .ok (.lreturn, 1) := by decide +kernel
theorem dX6_luck_23 : decode cX6_luck 23 = .ok (.aload_n 0, 1) := by decide +kernel
theorem dX6_luck_24 : decode cX6_luck 24 = .ok (.aload_n 0, 1) := by decide +kernel
theorem dX6_luck_25 : decode cX6_luck 25 = .ok (.iload_n 1, 1) := by decide +kernel
theorem dX6_luck_26 : decode cX6_luck 26 = .ok (.iconst 0, 1) := by decide +kernel
theorem dX6_luck_27 : decode cX6_luck 27 = .ok (.invokevirtual 195, 3) := by decide +kernel
theorem dX6_luck_30 : decode cX6_luck 30 = .ok (.iload_n 2, 1) := by decide +kernel
theorem dX6_luck_31 : decode cX6_luck 31 = .ok (.invokevirtual 199, 3) := by decide +kernel
theorem dX6_luck_34 : decode cX6_luck 34 = .ok (.lreturn, 1) := by decide +kernel
theorem dX6_see_0 : decode cX6_see 0 = .ok (.iload_n 1, 1) := by decide +kernel
theorem dX6_see_1 : decode cX6_see 1 = .ok (.iconst 0, 1) := by decide +kernel
theorem dX6_see_2 : decode cX6_see 2 = .ok (.bipush 8, 2) := by decide +kernel
theorem dX6_see_4 : decode cX6_see 4 = .ok (.invokestatic 66, 3) := by decide +kernel
theorem dX6_see_7 : decode cX6_see 7 = .ok (.ifCond .eq 13, 3) := by decide +kernel
theorem dX6_see_10 : decode cX6_see 10 = .ok (.iload_n 2, 1) := by decide +kernel
theorem dX6_see_11 : decode cX6_see 11 = .ok (.iconst 0, 1) := by decide +kernel
theorem dX6_see_12 : decode cX6_see 12 = .ok (.bipush 9, 2) := by decide +kernel
theorem dX6_see_14 : decode cX6_see 14 = .ok (.invokestatic 66, 3) := by decide +kernel
theorem dX6_see_17 : decode cX6_see 17 = .ok (.ifCond .ne 5, 3) := by decide +kernel
theorem dX6_see_20 : decode cX6_see 20 = .ok (.iconst (-1), 1) := by decide +kernel
theorem dX6_see_21 : decode cX6_see 21 = .ok (.ireturn, 1) := by decide +kernel
theorem dX6_see_22 : decode cX6_see 22 = .ok (.aload_n 0, 1) := by decide +kernel
theorem dX6_see_23 : decode cX6_see 23 = .ok (.getfield 43, 3) := by decide +kernel
theorem dX6_see_26 : decode cX6_see 26 = .ok (.getfield 91, 3) := by decide +kernel
theorem dX6_see_29 : decode cX6_see 29 = .ok (.bipush 6, 2) := by decide +kernel
theorem dX6_see_31 : decode cX6_see 31 = .ok (.if_icmp .lt 6, 3) := by decide +kernel
theorem dX6_see_34 : decode cX6_see 34 = .ok (.bipush (-3), 2) := by decide +kernel
theorem dX6_see_36 : decode cX6_see 36 = .ok (.ireturn, 1) := by decide +kernel
theorem dX6_see_37 : decode cX6_see 37 = .ok (.aload_n 0, 1) := by decide +kernel
theorem dX6_see_38 : decode cX6_see 38 = .ok (.getfield 43, 3) := by decide +kernel
theorem dX6_see_41 : decode cX6_see 41 = .ok (.getfield 203, 3) := by decide +kernel
theorem dX6_see_44 : decode cX6_see 44 = .ok (.aload_n 0, 1) := by decide +kernel
theorem dX6_see_45 : decode cX6_see 45 = .ok (.getfield 43, 3) := by decide +kernel
theorem dX6_see_48 : decode cX6_see 48 = .ok (.getfield 91, 3) := by decide +kernel
theorem dX6_see_51 : decode cX6_see 51 = .ok (.iload_n 1, 1) := by decide +kernel
theorem dX6_see_52 : decode cX6_see 52 = .ok (.iastore, 1) := by decide +kernel
theorem dX6_see_53 : decode cX6_see 53 = .ok (.aload_n 0, 1) := by decide +kernel
theorem dX6_see_54 : decode cX6_see 54 = .ok (.getfield 43, 3) := by decide +kernel
theorem dX6_see_57 : decode cX6_see 57 = .ok (.getfield 206, 3) := by decide +kernel
theorem dX6_see_60 : decode cX6_see 60 = .ok (.aload_n 0, 1) := by decide +kernel
theorem dX6_see_61 : decode cX6_see 61 = .ok (.getfield 43, 3) := by decide +kernel
theorem dX6_see_64 : decode cX6_see 64 = .ok (.getfield 91, 3) := by decide +kernel
theorem dX6_see_67 : decode cX6_see 67 = .ok (.iload_n 2, 1) := by decide +kernel
theorem dX6_see_68 : decode cX6_see 68 = .ok (.iastore, 1) := by decide +kernel
theorem dX6_see_69 : decode cX6_see 69 = .ok (.aload_n 0, 1) := by decide +kernel
theorem dX6_see_70 : decode cX6_see 70 = .ok (.getfield 43, 3) := by decide +kernel
theorem dX6_see_73 : decode cX6_see 73 = .ok (.dup, 1) := by decide +kernel
theorem dX6_see_74 : decode cX6_see 74 = .ok (.getfield 91, 3) := by decide +kernel
theorem dX6_see_77 : decode cX6_see 77 = .ok (.iconst 1, 1) := by decide +kernel
theorem dX6_see_78 : decode cX6_see 78 = .ok (.iadd, 1) := by decide +kernel
theorem dX6_see_79 : decode cX6_see 79 = .ok (.putfield 91, 3) := by decide +kernel
theorem dX6_see_82 : decode cX6_see 82 = .ok (.aload_n 0, 1) := by decide +kernel
theorem dX6_see_83 : decode cX6_see 83 = .ok (.getfield 43, 3) := by decide +kernel
theorem dX6_see_86 : decode cX6_see 86 = .ok (.getfield 91, 3) := by decide +kernel
theorem dX6_see_89 : decode cX6_see 89 = .ok (.ireturn, 1) := by decide +kernel
theorem dX6_forget_0 : decode cX6_forget 0 = .ok (.iload_n 1, 1) := by decide +kernel
theorem dX6_forget_1 : decode cX6_forget 1 = .ok (.iconst 0, 1) := by decide +kernel
theorem dX6_forget_2 : decode cX6_forget 2 = .ok (.aload_n 0, 1) := by decide +kernel
theorem dX6_forget_3 : decode cX6_forget 3 = .ok (.getfield 43, 3) := by decide +kernel
theorem dX6_forget_6 : decode cX6_forget 6 = .ok (.getfield 91, 3) := by decide +kernel
theorem dX6_forget_9 : decode cX6_forget 9 = .ok (.invokestatic 66, 3) := by decide +kernel
theorem dX6_forget_12 : decode cX6_forget 12 = .ok (.ifCond .ne 5, 3) := by decide +kernel
theorem dX6_forget_15 : decode cX6_forget 15 = .ok (.iconst (-1), 1) := by decide +kernel
theorem dX6_forget_16 : decode cX6_forget 16 = .ok (.ireturn, 1) := by decide +kernel
theorem dX6_forget_17 : decode cX6_forget 17 = .ok (.aload_n 0, 1) := by decide +kernel
theorem dX6_forget_18 : decode cX6_forget 18 = .ok (.getfield 43, 3) := by decide +kernel
theorem dX6_forget_21 : decode cX6_forget 21 = .ok (.getfield 91, 3) := by decide +kernel
theorem dX6_forget_24 : decode cX6_forget 24 = .ok (.istore_n 2, 1) := by decide +kernel
theorem dX6_forget_25 : decode cX6_forget 25 = .ok (.aload_n 0, 1) := by decide +kernel
theorem dX6_forget_26 : decode cX6_forget 26 = .ok (.getfield 43, 3) := by decide +kernel
theorem dX6_forget_29 : decode cX6_forget 29 = .ok (.iload_n 1, 1) := by decide +kernel
theorem dX6_forget_30 : decode cX6_forget 30 = .ok (.putfield 91, 3) := by decide +kernel
theorem dX6_forget_33 : decode cX6_forget 33 = .ok (.iload_n 2, 1) := by decide +kernel
theorem dX6_forget_34 : decode cX6_forget 34 = .ok (.ireturn, 1) := by decide +kernel
theorem dX6_fits_0 : decode cX6_fits 0 = .ok (.iload_n 1, 1) := by decide +kernel
theorem dX6_fits_1 : decode cX6_fits 1 = .ok (.iconst 0, 1) := by decide +kernel
theorem dX6_fits_2 : decode cX6_fits 2 = .ok (.iconst 1, 1) := by decide +kernel
theorem dX6_fits_3 : decode cX6_fits 3 = .ok (.invokestatic 66, 3) := by decide +kernel
theorem dX6_fits_6 : decode cX6_fits 6 = .ok (.ifCond .ne 5, 3) := by decide +kernel
theorem dX6_fits_9 : decode cX6_fits 9 = .ok (.iconst (-1), 1) := by decide +kernel
theorem dX6_fits_10 : decode cX6_fits 10 = .ok (.ireturn, 1) := by decide +kernel
theorem dX6_fits_11 : decode cX6_fits 11 = .ok (.aload_n 0, 1) := by decide +kernel
theorem dX6_fits_12 : decode cX6_fits 12 = .ok (.getfield 43, 3) := by decide +kernel
theorem dX6_fits_15 : decode cX6_fits 15 = .ok (.aload_n 0, 1) := by decide +kernel
theorem dX6_fits_16 : decode cX6_fits 16 = .ok (.getfield 10, 3) := by decide +kernel
theorem dX6_fits_19 : decode cX6_fits 19 = .ok (.aload_n 0, 1) := by decide +kernel
theorem dX6_fits_20 : decode cX6_fits 20 = .ok (.getfield 16, 3) := by decide +kernel
theorem dX6_fits_23 : decode cX6_fits 23 = .ok (.iconst 0, 1) := by decide +kernel
theorem dX6_fits_24 : decode cX6_fits 24 = .ok (.invokevirtual 209, 3) := by decide +kernel
theorem dX6_fits_27 : decode cX6_fits 27 = .ok (.iload_n 1, 1) := by decide +kernel
theorem dX6_fits_28 : decode cX6_fits 28 = .ok (.ifCond .ne 13, 3) := by decide +kernel
theorem dX6_fits_31 : decode cX6_fits 31 = .ok (.aload_n 0, 1) := by decide +kernel
theorem dX6_fits_32 : decode cX6_fits 32 = .ok (.getfield 43, 3) := by decide +kernel
theorem dX6_fits_35 : decode cX6_fits 35 = .ok (.getfield 213, 3) := by decide +kernel
theorem dX6_fits_38 : decode cX6_fits 38 = .ok (.goto 10, 3) := by decide +kernel
theorem dX6_fits_41 : decode cX6_fits 41 = .ok (.aload_n 0, 1) := by decide +kernel
theorem dX6_fits_42 : decode cX6_fits 42 = .ok (.getfield 43, 3) := by decide +kernel
theorem dX6_fits_45 : decode cX6_fits 45 = .ok (.getfield 216, 3) := by decide +kernel
theorem dX6_fits_48 : decode cX6_fits 48 = .ok (.ireturn, 1) := by decide +kernel
theorem dX6_range_0 : decode cX6_range 0 = .ok (.aload_n 0, 1) := by decide +kernel
theorem dX6_range_1 : decode cX6_range 1 = .ok (.iload_n 1, 1) := by decide +kernel
theorem dX6_range_2 : decode cX6_range 2 = .ok (.invokevirtual 110, 3) := by decide +kernel
theorem dX6_range_5 : decode cX6_range 5 = .ok (.ifCond .eq 12, 3) := by decide +kernel
theorem dX6_range_8 : decode cX6_range 8 = .ok (.iload_n 2, 1) := by decide +kernel
theorem dX6_range_9 : decode cX6_range 9 = .ok (.iconst 0, 1) := by decide +kernel
theorem dX6_range_10 : decode cX6_range 10 = .ok (.iconst 1, 1) := by decide +kernel
theorem dX6_range_11 : decode cX6_range 11 = .ok (.invokestatic 66, 3) := by decide +kernel
theorem dX6_range_14 : decode cX6_range 14 = .ok (.ifCond .ne 5, 3) := by decide +kernel
theorem dX6_range_17 : decode cX6_range 17 = .ok (.iconst (-1), 1) := by decide +kernel
theorem dX6_range_18 : decode cX6_range 18 = .ok (.ireturn, 1) := by decide +kernel
theorem dX6_range_19 : decode cX6_range 19 = .ok (.aload_n 0, 1) := by decide +kernel
theorem dX6_range_20 : decode cX6_range 20 = .ok (.getfield 43, 3) := by decide +kernel
theorem dX6_range_23 : decode cX6_range 23 = .ok (.aload_n 0, 1) := by decide +kernel
theorem dX6_range_24 : decode cX6_range 24 = .ok (.getfield 10, 3) := by decide +kernel
theorem dX6_range_27 : decode cX6_range 27 = .ok (.aload_n 0, 1) := by decide +kernel
theorem dX6_range_28 : decode cX6_range 28 = .ok (.getfield 16, 3) := by decide +kernel
theorem dX6_range_31 : decode cX6_range 31 = .ok (.iconst 0, 1) := by decide +kernel
theorem dX6_range_32 : decode cX6_range 32 = .ok (.invokevirtual 209, 3) := by decide +kernel
theorem dX6_range_35 : decode cX6_range 35 = .ok (.aload_n 0, 1) := by decide +kernel
theorem dX6_range_36 : decode cX6_range 36 = .ok (.getfield 43, 3) := by decide +kernel
theorem dX6_range_39 : decode cX6_range 39 = .ok (.getfield 213, 3) := by decide +kernel
theorem dX6_range_42 : decode cX6_range 42 = .ok (.ifCond .ne 6, 3) := by decide +kernel
theorem dX6_range_45 : decode cX6_range 45 = .ok (.bipush (-4), 2) := by decide +kernel
theorem dX6_range_47 : decode cX6_range 47 = .ok (.ireturn, 1) := by decide +kernel
theorem dX6_range_48 : decode cX6_range 48 = .ok (.iload_n 2, 1) := by decide +kernel
theorem dX6_range_49 : decode cX6_range 49 = .ok (.ifCond .ne 15, 3) := by decide +kernel
theorem dX6_range_52 : decode cX6_range 52 = .ok (.aload_n 0, 1) := by decide +kernel
theorem dX6_range_53 : decode cX6_range 53 = .ok (.getfield 43, 3) := by decide +kernel
theorem dX6_range_56 : decode cX6_range 56 = .ok (.getfield 219, 3) := by decide +kernel
theorem dX6_range_59 : decode cX6_range 59 = .ok (.iload_n 1, 1) := by decide +kernel
theorem dX6_range_60 : decode cX6_range 60 = .ok (.iaload, 1) := by decide +kernel
theorem dX6_range_61 : decode cX6_range 61 = .ok (.goto 12, 3) := by decide +kernel
theorem dX6_range_64 : decode cX6_range 64 = .ok (.aload_n 0, 1) := by decide +kernel
theorem dX6_range_65 : decode cX6_range 65 = .ok (.getfield 43, 3) := by decide +kernel
theorem dX6_range_68 : decode cX6_range 68 = .ok (.getfield 222, 3) := by decide +kernel
theorem dX6_range_71 : decode cX6_range 71 = .ok (.iload_n 1, 1) := by decide +kernel
theorem dX6_range_72 : decode cX6_range 72 = .ok (.iaload, 1) := by decide +kernel
theorem dX6_range_73 : decode cX6_range 73 = .ok (.ireturn, 1) := by decide +kernel
theorem dX6_next_0 : decode cX6_next 0 = .ok (.iload_n 1, 1) := by decide +kernel
theorem dX6_next_1 : decode cX6_next 1 = .ok (.iconst 0, 1) := by decide +kernel
theorem dX6_next_2 : decode cX6_next 2 = .ok (.iconst 1, 1) := by decide +kernel
theorem dX6_next_3 : decode cX6_next 3 = .ok (.invokestatic 66, 3) := by decide +kernel
theorem dX6_next_6 : decode cX6_next 6 = .ok (.ifCond .ne 5, 3) := by decide +kernel
theorem dX6_next_9 : decode cX6_next 9 = .ok (.iconst (-1), 1) := by decide +kernel
theorem dX6_next_10 : decode cX6_next 10 = .ok (.ireturn, 1) := by decide +kernel
theorem dX6_next_11 : decode cX6_next 11 = .ok (.aload_n 0, 1) := by decide +kernel
theorem dX6_next_12 : decode cX6_next 12 = .ok (.getfield 43, 3) := by decide +kernel
theorem dX6_next_15 : decode cX6_next 15 = .ok (.aload_n 0, 1) := by decide +kernel
theorem dX6_next_16 : decode cX6_next 16 = .ok (.getfield 10, 3) := by decide +kernel
theorem dX6_next_19 : decode cX6_next 19 = .ok (.aload_n 0, 1) := by decide +kernel
theorem dX6_next_20 : decode cX6_next 20 = .ok (.getfield 16, 3) := by decide +kernel
theorem dX6_next_23 : decode cX6_next 23 = .ok (.iconst 1, 1) := by decide +kernel
theorem dX6_next_24 : decode cX6_next 24 = .ok (.invokevirtual 209, 3) := by decide +kernel
theorem dX6_next_27 : decode cX6_next 27 = .ok (.bipush (-4), 2) := by decide +kernel
theorem dX6_next_29 : decode cX6_next 29 = .ok (.istore_n 2, 1) := by decide +kernel
theorem dX6_next_30 : decode cX6_next 30 = .ok (.aload_n 0, 1) := by decide +kernel
theorem dX6_next_31 : decode cX6_next 31 = .ok (.getfield 43, 3) := by decide +kernel
theorem dX6_next_34 : decode cX6_next 34 = .ok (.getfield 213, 3) := by decide +kernel
theorem dX6_next_37 : decode cX6_next 37 = .ok (.istore_n 3, 1) := by decide +kernel
theorem dX6_next_38 : decode cX6_next 38 = .ok (.iconst 0, 1) := by decide +kernel
theorem dX6_next_39 : decode cX6_next 39 = .ok (.istore 4, 2) := by decide +kernel
theorem dX6_next_41 : decode cX6_next 41 = .ok (.iload 4, 2) := by decide +kernel
theorem dX6_next_43 : decode cX6_next 43 = .ok (.bipush 9, 2) := by decide +kernel
theorem dX6_next_45 : decode cX6_next 45 = .ok (.if_icmp .ge 32, 3) := by decide +kernel
theorem dX6_next_48 : decode cX6_next 48 = .ok (.aload_n 0, 1) := by decide +kernel
theorem dX6_next_49 : decode cX6_next 49 = .ok (.getfield 43, 3) := by decide +kernel
theorem dX6_next_52 : decode cX6_next 52 = .ok (.iload 4, 2) := by decide +kernel
theorem dX6_next_54 : decode cX6_next 54 = .ok (.invokevirtual 225, 3) := by decide +kernel
theorem dX6_next_57 : decode cX6_next 57 = .ok (.istore 5, 2) := by decide +kernel
theorem dX6_next_59 : decode cX6_next 59 = .ok (.iload 5, 2) := by decide +kernel
theorem dX6_next_61 : decode cX6_next 61 = .ok (.iload_n 3, 1) := by decide +kernel
theorem dX6_next_62 : decode cX6_next 62 = .ok (.if_icmp .ge 9, 3) := by decide +kernel
theorem dX6_next_65 : decode cX6_next 65 = .ok (.iload 5, 2) := by decide +kernel
theorem dX6_next_67 : decode cX6_next 67 = .ok (.istore_n 3, 1) := by decide +kernel
theorem dX6_next_68 : decode cX6_next 68 = .ok (.iload 4, 2) := by decide +kernel
theorem dX6_next_70 : decode cX6_next 70 = .ok (.istore_n 2, 1) := by decide +kernel
theorem dX6_next_71 : decode cX6_next 71 = .ok (.iinc 4 1, 3) := by decide +kernel
theorem dX6_next_74 : decode cX6_next 74 = .ok (.goto (-33), 3) := by decide +kernel
theorem dX6_next_77 : decode cX6_next 77 = .ok (.iload_n 2, 1) := by decide +kernel
theorem dX6_next_78 : decode cX6_next 78 = .ok (.bipush (-4), 2) := by decide +kernel
theorem dX6_next_80 : decode cX6_next 80 = .ok (.if_icmp .eq 7, 3) := by decide +kernel
theorem dX6_next_83 : decode cX6_next 83 = .ok (.iload_n 1, 1) := by decide +kernel
theorem dX6_next_84 : decode cX6_next 84 = .ok (.ifCond .ne 7, 3) := by decide +kernel
theorem dX6_next_87 : decode cX6_next 87 = .ok (.iload_n 2, 1) := by decide +kernel
theorem dX6_next_88 : decode cX6_next 88 = .ok (.goto 4, 3) := by decide +kernel
theorem dX6_next_91 : decode cX6_next 91 = .ok (.iload_n 3, 1) := by decide +kernel
theorem dX6_next_92 : decode cX6_next 92 = .ok (.ireturn, 1) := by decide +kernel
theorem dX6_drift_0 : decode cX6_drift 0 = .ok (.iload_n 2, 1) := by decide +kernel
theorem dX6_drift_1 : decode cX6_drift 1 = .ok (.iconst 1, 1) := by decide +kernel
theorem dX6_drift_2 : decode cX6_drift 2 = .ok (.bipush 60, 2) := by decide +kernel
theorem dX6_drift_4 : decode cX6_drift 4 = .ok (.invokestatic 66, 3) := by decide +kernel
theorem dX6_drift_7 : decode cX6_drift 7 = .ok (.ifCond .eq 12, 3) := by decide +kernel
theorem dX6_drift_10 : decode cX6_drift 10 = .ok (.iload_n 3, 1) := by decide +kernel
theorem dX6_drift_11 : decode cX6_drift 11 = .ok (.iconst 0, 1) := by decide +kernel
theorem dX6_drift_12 : decode cX6_drift 12 = .ok (.iconst 1, 1) := by decide +kernel
theorem dX6_drift_13 : decode cX6_drift 13 = .ok (.invokestatic 66, 3) := by decide +kernel
theorem dX6_drift_16 : decode cX6_drift 16 = .ok (.ifCond .ne 5, 3) := by decide +kernel
theorem dX6_drift_19 : decode cX6_drift 19 = .ok (.iconst (-1), 1) := by decide +kernel
theorem dX6_drift_20 : decode cX6_drift 20 = .ok (.ireturn, 1) := by decide +kernel
theorem dX6_drift_21 : decode cX6_drift 21 = .ok (.aload_n 0, 1) := by decide +kernel
theorem dX6_drift_22 : decode cX6_drift 22 = .ok (.getfield 10, 3) := by decide +kernel
theorem dX6_drift_25 : decode cX6_drift 25 = .ok (.getfield 94, 3) := by decide +kernel
theorem dX6_drift_28 : decode cX6_drift 28 = .ok (.iconst 1, 1) := by decide +kernel
theorem dX6_drift_29 : decode cX6_drift 29 = .ok (.if_icmp .ge 6, 3) := by decide +kernel
theorem dX6_drift_32 : decode cX6_drift 32 = .ok (.bipush (-2), 2) := by decide +kernel
theorem dX6_drift_34 : decode cX6_drift 34 = .ok (.ireturn, 1) := by decide +kernel
theorem dX6_drift_35 : decode cX6_drift 35 = .ok (.aload_n 0, 1) := by decide +kernel
theorem dX6_drift_36 : decode cX6_drift 36 = .ok (.getfield 16, 3) := by decide +kernel
theorem dX6_drift_39 : decode cX6_drift 39 = .ok (.aload_n 0, 1) := by decide +kernel
theorem dX6_drift_40 : decode cX6_drift 40 = .ok (.getfield 10, 3) := by decide +kernel
theorem dX6_drift_43 : decode cX6_drift 43 = .ok (.invokevirtual 87, 3) := by decide +kernel
theorem dX6_drift_46 : decode cX6_drift 46 = .ok (.iload_n 1, 1) := by decide +kernel
theorem dX6_drift_47 : decode cX6_drift 47 = .ok (.istore 4, 2) := by decide +kernel
theorem dX6_drift_49 : decode cX6_drift 49 = .ok (.iconst 0, 1) := by decide +kernel
theorem dX6_drift_50 : decode cX6_drift 50 = .ok (.istore 5, 2) := by decide +kernel
theorem dX6_drift_52 : decode cX6_drift 52 = .ok (.iconst 0, 1) := by decide +kernel
theorem dX6_drift_53 : decode cX6_drift 53 = .ok (.istore 6, 2) := by decide +kernel
theorem dX6_drift_55 : decode cX6_drift 55 = .ok (.iload 6, 2) := by decide +kernel
theorem dX6_drift_57 : decode cX6_drift 57 = .ok (.iload_n 2, 1) := by decide +kernel
theorem dX6_drift_58 : decode cX6_drift 58 = .ok (.if_icmp .ge 104, 3) := by decide +kernel
theorem dX6_drift_61 : decode cX6_drift 61 = .ok (.iload 4, 2) := by decide +kernel
theorem dX6_drift_63 : decode cX6_drift 63 = .ok (.invokestatic 228, 3) := by decide +kernel
theorem dX6_drift_66 : decode cX6_drift 66 = .ok (.istore 4, 2) := by decide +kernel
theorem dX6_drift_68 : decode cX6_drift 68 = .ok (.iload 4, 2) := by decide +kernel
theorem dX6_drift_70 : decode cX6_drift 70 = .ok (.invokestatic 231, 3) := by decide +kernel
theorem dX6_drift_73 : decode cX6_drift 73 = .ok (.aload_n 0, 1) := by decide +kernel
theorem dX6_drift_74 : decode cX6_drift 74 = .ok (.getfield 10, 3) := by decide +kernel
theorem dX6_drift_77 : decode cX6_drift 77 = .ok (.getfield 94, 3) := by decide +kernel
theorem dX6_drift_80 : decode cX6_drift 80 = .ok (.irem, 1) := by decide +kernel
theorem dX6_drift_81 : decode cX6_drift 81 = .ok (.istore 7, 2) := by decide +kernel
theorem dX6_drift_83 : decode cX6_drift 83 = .ok (.iload 4, 2) := by decide +kernel
theorem dX6_drift_85 : decode cX6_drift 85 = .ok (.invokestatic 228, 3) := by decide +kernel
theorem dX6_drift_88 : decode cX6_drift 88 = .ok (.istore 4, 2) := by decide +kernel
theorem dX6_drift_90 : decode cX6_drift 90 = .ok (.aload_n 0, 1) := by decide +kernel
theorem dX6_drift_91 : decode cX6_drift 91 = .ok (.getfield 16, 3) := by decide +kernel
theorem dX6_drift_94 : decode cX6_drift 94 = .ok (.iload 7, 2) := by decide +kernel
theorem dX6_drift_96 : decode cX6_drift 96 = .ok (.iconst 1, 1) := by decide +kernel
theorem dX6_drift_97 : decode cX6_drift 97 = .ok (.iload 4, 2) := by decide +kernel
theorem dX6_drift_99 : decode cX6_drift 99 = .ok (.invokestatic 231, 3) := by decide +kernel
theorem dX6_drift_102 : decode cX6_drift 102 = .ok (.bipush 10, 2) := by decide +kernel
theorem dX6_drift_104 : decode cX6_drift 104 = .ok (.irem, 1) := by decide +kernel
theorem dX6_drift_105 : decode cX6_drift 105 = .ok (.invokevirtual 162, 3) := by decide +kernel
theorem dX6_drift_108 : decode cX6_drift 108 = .ok (.aload_n 0, 1) := by decide +kernel
theorem dX6_drift_109 : decode cX6_drift 109 = .ok (.aload_n 0, 1) := by decide +kernel
theorem dX6_drift_110 : decode cX6_drift 110 = .ok (.getfield 16, 3) := by decide +kernel
theorem dX6_drift_113 : decode cX6_drift 113 = .ok (.invokevirtual 175, 3) := by decide +kernel
theorem dX6_drift_116 : decode cX6_drift 116 = .ok (.istore 8, 2) := by decide +kernel
theorem dX6_drift_118 : decode cX6_drift 118 = .ok (.iload_n 3, 1) := by decide +kernel
theorem dX6_drift_119 : decode cX6_drift 119 = .ok (.ifCond .ne 21, 3) := by decide +kernel
theorem dX6_drift_122 : decode cX6_drift 122 = .ok (.iload 5, 2) := by decide +kernel
theorem dX6_drift_124 : decode cX6_drift 124 = .ok (.iload 8, 2) := by decide +kernel
theorem dX6_drift_126 : decode cX6_drift 126 = .ok (.ifCond .eq 7, 3) := by decide +kernel
theorem dX6_drift_129 : decode cX6_drift 129 = .ok (.iconst 1, 1) := by decide +kernel
theorem dX6_drift_130 : decode cX6_drift 130 = .ok (.goto 4, 3) := by decide +kernel
theorem dX6_drift_133 : decode cX6_drift 133 = .ok (.iconst 0, 1) := by decide +kernel
theorem dX6_drift_134 : decode cX6_drift 134 = .ok (.iadd, 1) := by decide +kernel
theorem dX6_drift_135 : decode cX6_drift 135 = .ok (.istore 5, 2) := by decide +kernel
theorem dX6_drift_137 : decode cX6_drift 137 = .ok (.goto 19, 3) := by decide +kernel
theorem dX6_drift_140 : decode cX6_drift 140 = .ok (.iload 5, 2) := by decide +kernel
theorem dX6_drift_142 : decode cX6_drift 142 = .ok (.iconst 0, 1) := by decide +kernel
theorem dX6_drift_143 : decode cX6_drift 143 = .ok (.aload_n 0, 1) := by decide +kernel
theorem dX6_drift_144 : decode cX6_drift 144 = .ok (.getfield 22, 3) := by decide +kernel
theorem dX6_drift_147 : decode cX6_drift 147 = .ok (.invokevirtual 139, 3) := by decide +kernel
theorem dX6_drift_150 : decode cX6_drift 150 = .ok (.invokestatic 234, 3) := by decide +kernel
theorem dX6_drift_153 : decode cX6_drift 153 = .ok (.iadd, 1) := by decide +kernel
theorem dX6_drift_154 : decode cX6_drift 154 = .ok (.istore 5, 2) := by decide +kernel
theorem dX6_drift_156 : decode cX6_drift 156 = .ok (.iinc 6 1, 3) := by decide +kernel
theorem dX6_drift_159 : decode cX6_drift 159 = .ok (.goto (-104), 3) := by decide +kernel
theorem dX6_drift_162 : decode cX6_drift 162 = .ok (.iload 5, 2) := by decide +kernel
theorem dX6_drift_164 : decode cX6_drift 164 = .ok (.ireturn, 1) := by decide +kernel
theorem dX6_keep_0 : decode cX6_keep 0 = .ok (.iload_n 1, 1) := by decide +kernel
theorem dX6_keep_1 : decode cX6_keep 1 = .ok (.iconst 0, 1) := by decide +kernel
theorem dX6_keep_2 : decode cX6_keep 2 = .ok (.iconst 1, 1) := by decide +kernel
theorem dX6_keep_3 : decode cX6_keep 3 = .ok (.invokestatic 66, 3) := by decide +kernel
theorem dX6_keep_6 : decode cX6_keep 6 = .ok (.ifCond .ne 5, 3) := by decide +kernel
theorem dX6_keep_9 : decode cX6_keep 9 = .ok (.iconst (-1), 1) := by decide +kernel
theorem dX6_keep_10 : decode cX6_keep 10 = .ok (.ireturn, 1) := by decide +kernel
theorem dX6_keep_11 : decode cX6_keep 11 = .ok (.aload_n 0, 1) := by decide +kernel
theorem dX6_keep_12 : decode cX6_keep 12 = .ok (.getfield 51, 3) := by decide +kernel
theorem dX6_keep_15 : decode cX6_keep 15 = .ok (.iload_n 1, 1) := by decide +kernel
theorem dX6_keep_16 : decode cX6_keep 16 = .ok (.baload, 1) := by decide +kernel
theorem dX6_keep_17 : decode cX6_keep 17 = .ok (.ifCond .eq 7, 3) := by decide +kernel
theorem dX6_keep_20 : decode cX6_keep 20 = .ok (.iconst 1, 1) := by decide +kernel
theorem dX6_keep_21 : decode cX6_keep 21 = .ok (.goto 4, 3) := by decide +kernel
theorem dX6_keep_24 : decode cX6_keep 24 = .ok (.iconst 0, 1) := by decide +kernel
theorem dX6_keep_25 : decode cX6_keep 25 = .ok (.istore_n 2, 1) := by decide +kernel
theorem dX6_keep_26 : decode cX6_keep 26 = .ok (.aload_n 0, 1) := by decide +kernel
theorem dX6_keep_27 : decode cX6_keep 27 = .ok (.getfield 47, 3) := by decide +kernel
theorem dX6_keep_30 : decode cX6_keep 30 = .ok (.iload_n 1, 1) := by decide +kernel
theorem dX6_keep_31 : decode cX6_keep 31 = .ok (.aaload, 1) := by decide +kernel
theorem dX6_keep_32 : decode cX6_keep 32 = .ok (.aload_n 0, 1) := by decide +kernel
theorem dX6_keep_33 : decode cX6_keep 33 = .ok (.getfield 10, 3) := by decide +kernel
theorem dX6_keep_36 : decode cX6_keep 36 = .ok (.invokevirtual 87, 3) := by decide +kernel
theorem dX6_keep_39 : decode cX6_keep 39 = .ok (.aload_n 0, 1) := by decide +kernel
theorem dX6_keep_40 : decode cX6_keep 40 = .ok (.getfield 51, 3) := by decide +kernel
theorem dX6_keep_43 : decode cX6_keep 43 = .ok (.iload_n 1, 1) := by decide +kernel
theorem dX6_keep_44 : decode cX6_keep 44 = .ok (.iconst 1, 1) := by decide +kernel
theorem dX6_keep_45 : decode cX6_keep 45 = .ok (.bastore, 1) := by decide +kernel
theorem dX6_keep_46 : decode cX6_keep 46 = .ok (.iload_n 2, 1) := by decide +kernel
theorem dX6_keep_47 : decode cX6_keep 47 = .ok (.ireturn, 1) := by decide +kernel
theorem dX6_back_0 : decode cX6_back 0 = .ok (.iload_n 1, 1) := by decide +kernel
theorem dX6_back_1 : decode cX6_back 1 = .ok (.iconst 0, 1) := by decide +kernel
theorem dX6_back_2 : decode cX6_back 2 = .ok (.iconst 1, 1) := by decide +kernel
theorem dX6_back_3 : decode cX6_back 3 = .ok (.invokestatic 66, 3) := by decide +kernel
theorem dX6_back_6 : decode cX6_back 6 = .ok (.ifCond .ne 5, 3) := by decide +kernel
theorem dX6_back_9 : decode cX6_back 9 = .ok (.iconst (-1), 1) := by decide +kernel
theorem dX6_back_10 : decode cX6_back 10 = .ok (.ireturn, 1) := by decide +kernel
theorem dX6_back_11 : decode cX6_back 11 = .ok (.aload_n 0, 1) := by decide +kernel
theorem dX6_back_12 : decode cX6_back 12 = .ok (.getfield 51, 3) := by decide +kernel
theorem dX6_back_15 : decode cX6_back 15 = .ok (.iload_n 1, 1) := by decide +kernel
theorem dX6_back_16 : decode cX6_back 16 = .ok (.baload, 1) := by decide +kernel
theorem dX6_back_17 : decode cX6_back 17 = .ok (.ifCond .ne 6, 3) := by decide +kernel
theorem dX6_back_20 : decode cX6_back 20 = .ok (.bipush (-2), 2) := by decide +kernel
theorem dX6_back_22 : decode cX6_back 22 = .ok (.ireturn, 1) := by decide +kernel
theorem dX6_back_23 : decode cX6_back 23 = .ok (.aload_n 0, 1) := by decide +kernel
theorem dX6_back_24 : decode cX6_back 24 = .ok (.getfield 10, 3) := by decide +kernel
theorem dX6_back_27 : decode cX6_back 27 = .ok (.aload_n 0, 1) := by decide +kernel
theorem dX6_back_28 : decode cX6_back 28 = .ok (.getfield 47, 3) := by decide +kernel
theorem dX6_back_31 : decode cX6_back 31 = .ok (.iload_n 1, 1) := by decide +kernel
theorem dX6_back_32 : decode cX6_back 32 = .ok (.aaload, 1) := by decide +kernel
theorem dX6_back_33 : decode cX6_back 33 = .ok (.invokevirtual 87, 3) := by decide +kernel
theorem dX6_back_36 : decode cX6_back 36 = .ok (.aload_n 0, 1) := by decide +kernel
theorem dX6_back_37 : decode cX6_back 37 = .ok (.getfield 10, 3) := by decide +kernel
theorem dX6_back_40 : decode cX6_back 40 = .ok (.getfield 103, 3) := by decide +kernel
theorem dX6_back_43 : decode cX6_back 43 = .ok (.ireturn, 1) := by decide +kernel
theorem dX6_sheet_0 : decode cX6_sheet 0 = .ok (.iload_n 1, 1) := by decide +kernel
theorem dX6_sheet_1 : decode cX6_sheet 1 = .ok (.invokestatic 239, 3) := by decide +kernel
theorem dX6_sheet_4 : decode cX6_sheet 4 = .ok (.ifCond .eq 18, 3) := by decide +kernel
theorem dX6_sheet_7 : decode cX6_sheet 7 = .ok (.iload_n 2, 1) := by decide +kernel
theorem dX6_sheet_8 : decode cX6_sheet 8 = .ok (.iconst 0, 1) := by decide +kernel
theorem dX6_sheet_9 : decode cX6_sheet 9 = .ok (.iconst 2, 1) := by decide +kernel
theorem dX6_sheet_10 : decode cX6_sheet 10 = .ok (.invokestatic 66, 3) := by decide +kernel
theorem dX6_sheet_13 : decode cX6_sheet 13 = .ok (.ifCond .eq 9, 3) := by decide +kernel
theorem dX6_sheet_16 : decode cX6_sheet 16 = .ok (.iload_n 3, 1) := by decide +kernel
theorem dX6_sheet_17 : decode cX6_sheet 17 = .ok (.bipush 40, 2) := by decide +kernel
theorem dX6_sheet_19 : decode cX6_sheet 19 = .ok (.if_icmp .le 5, 3) := by decide +kernel
theorem dX6_sheet_22 : decode cX6_sheet 22 = .ok (.iconst (-1), 1) := by decide +kernel
theorem dX6_sheet_23 : decode cX6_sheet 23 = .ok (.ireturn, 1) := by decide +kernel
theorem dX6_sheet_24 : decode cX6_sheet 24 = .ok (.iload_n 3, 1) := by decide +kernel
theorem dX6_sheet_25 : decode cX6_sheet 25 = .ok (.ifCond .ge 6, 3) := by decide +kernel
theorem dX6_sheet_28 : decode cX6_sheet 28 = .ok (.bipush (-14), 2) := by decide +kernel
theorem dX6_sheet_30 : decode cX6_sheet 30 = .ok (.ireturn, 1) := by decide +kernel
theorem dX6_sheet_31 : decode cX6_sheet 31 = .ok (.aload_n 0, 1) := by decide +kernel
theorem dX6_sheet_32 : decode cX6_sheet 32 = .ok (.getfield 58, 3) := by decide +kernel
theorem dX6_sheet_35 : decode cX6_sheet 35 = .ok (.iload_n 1, 1) := by decide +kernel
theorem dX6_sheet_36 : decode cX6_sheet 36 = .ok (.aaload, 1) := by decide +kernel
theorem dX6_sheet_37 : decode cX6_sheet 37 = .ok (.iload_n 2, 1) := by decide +kernel
theorem dX6_sheet_38 : decode cX6_sheet 38 = .ok (.iload_n 3, 1) := by decide +kernel
theorem dX6_sheet_39 : decode cX6_sheet 39 = .ok (.invokevirtual 242, 3) := by decide +kernel
theorem dX6_sheet_42 : decode cX6_sheet 42 = .ok (.iconst 1, 1) := by decide +kernel
theorem dX6_sheet_43 : decode cX6_sheet 43 = .ok (.ireturn, 1) := by decide +kernel
theorem dX6_lay_0 : decode cX6_lay 0 = .ok (.iload_n 1, 1) := by decide +kernel
theorem dX6_lay_1 : decode cX6_lay 1 = .ok (.invokestatic 239, 3) := by decide +kernel
theorem dX6_lay_4 : decode cX6_lay 4 = .ok (.ifCond .ne 5, 3) := by decide +kernel
theorem dX6_lay_7 : decode cX6_lay 7 = .ok (.iconst (-1), 1) := by decide +kernel
theorem dX6_lay_8 : decode cX6_lay 8 = .ok (.ireturn, 1) := by decide +kernel
theorem dX6_lay_9 : decode cX6_lay 9 = .ok (.aload_n 0, 1) := by decide +kernel
theorem dX6_lay_10 : decode cX6_lay 10 = .ok (.getfield 58, 3) := by decide +kernel
theorem dX6_lay_13 : decode cX6_lay 13 = .ok (.iload_n 1, 1) := by decide +kernel
theorem dX6_lay_14 : decode cX6_lay 14 = .ok (.aaload, 1) := by decide +kernel
theorem dX6_lay_15 : decode cX6_lay 15 = .ok (.iload_n 2, 1) := by decide +kernel
theorem dX6_lay_16 : decode cX6_lay 16 = .ok (.invokevirtual 246, 3) := by decide +kernel
theorem dX6_lay_19 : decode cX6_lay 19 = .ok (.istore 4, 2) := by decide +kernel
theorem dX6_lay_21 : decode cX6_lay 21 = .ok (.iload 4, 2) := by decide +kernel
theorem dX6_lay_23 : decode cX6_lay 23 = .ok (.ifCond .eq 9, 3) := by decide +kernel
theorem dX6_lay_26 : decode cX6_lay 26 = .ok (.bipush (-10), 2) := by decide +kernel
theorem dX6_lay_28 : decode cX6_lay 28 = .ok (.iload 4, 2) := by decide +kernel
theorem dX6_lay_30 : decode cX6_lay 30 = .ok (.isub, 1) := by decide +kernel
theorem dX6_lay_31 : decode cX6_lay 31 = .ok (.ireturn, 1) := by decide +kernel
theorem dX6_lay_32 : decode cX6_lay 32 = .ok (.aload_n 0, 1) := by decide +kernel
theorem dX6_lay_33 : decode cX6_lay 33 = .ok (.getfield 58, 3) := by decide +kernel
theorem dX6_lay_36 : decode cX6_lay 36 = .ok (.iload_n 1, 1) := by decide +kernel
theorem dX6_lay_37 : decode cX6_lay 37 = .ok (.aaload, 1) := by decide +kernel
theorem dX6_lay_38 : decode cX6_lay 38 = .ok (.iload_n 2, 1) := by decide +kernel
theorem dX6_lay_39 : decode cX6_lay 39 = .ok (.iload_n 3, 1) := by decide +kernel
theorem dX6_lay_40 : decode cX6_lay 40 = .ok (.invokevirtual 249, 3) := by decide +kernel
theorem dX6_lay_43 : decode cX6_lay 43 = .ok (.iconst 1, 1) := by decide +kernel
theorem dX6_lay_44 : decode cX6_lay 44 = .ok (.ireturn, 1) := by decide +kernel
theorem dX6_read_0 : decode cX6_read 0 = .ok (.iload_n 1, 1) := by decide +kernel
theorem dX6_read_1 : decode cX6_read 1 = .ok (.invokestatic 239, 3) := by decide +kernel
theorem dX6_read_4 : decode cX6_read 4 = .ok (.ifCond .eq 23, 3) := by decide +kernel
theorem dX6_read_7 : decode cX6_read 7 = .ok (.iload_n 2, 1) := by decide +kernel
theorem dX6_read_8 : decode cX6_read 8 = .ok (.iconst 0, 1) := by decide +kernel
theorem dX6_read_9 : decode cX6_read 9 = .ok (.iconst 2, 1) := by decide +kernel
theorem dX6_read_10 : decode cX6_read 10 = .ok (.invokestatic 66, 3) := by decide +kernel
theorem dX6_read_13 : decode cX6_read 13 = .ok (.ifCond .eq 14, 3) := by decide +kernel
theorem dX6_read_16 : decode cX6_read 16 = .ok (.iload 4, 2) := by decide +kernel
theorem dX6_read_18 : decode cX6_read 18 = .ok (.iconst 0, 1) := by decide +kernel
theorem dX6_read_19 : decode cX6_read 19 = .ok (.bipush 20, 2) := by decide +kernel
theorem dX6_read_21 : decode cX6_read 21 = .ok (.invokestatic 66, 3) := by decide +kernel
theorem dX6_read_24 : decode cX6_read 24 = .ok (.ifCond .ne 5, 3) := by decide +kernel
theorem dX6_read_27 : decode cX6_read 27 = .ok (.iconst (-1), 1) := by decide +kernel
theorem dX6_read_28 : decode cX6_read 28 = .ok (.ireturn, 1) := by decide +kernel
theorem dX6_read_29 : decode cX6_read 29 = .ok (.aload_n 0, 1) := by decide +kernel
theorem dX6_read_30 : decode cX6_read 30 = .ok (.getfield 58, 3) := by decide +kernel
theorem dX6_read_33 : decode cX6_read 33 = .ok (.iload_n 1, 1) := by decide +kernel
theorem dX6_read_34 : decode cX6_read 34 = .ok (.aaload, 1) := by decide +kernel
theorem dX6_read_35 : decode cX6_read 35 = .ok (.astore 5, 2) := by decide +kernel
theorem dX6_read_37 : decode cX6_read 37 = .ok (.aload 5, 2) := by decide +kernel
theorem dX6_read_39 : decode cX6_read 39 = .ok (.iload_n 2, 1) := by decide +kernel
theorem dX6_read_40 : decode cX6_read 40 = .ok (.iload_n 3, 1) := by decide +kernel
theorem dX6_read_41 : decode cX6_read 41 = .ok (.iload 4, 2) := by decide +kernel
theorem dX6_read_43 : decode cX6_read 43 = .ok (.invokevirtual 252, 3) := by decide +kernel
theorem dX6_read_46 : decode cX6_read 46 = .ok (.istore 6, 2) := by decide +kernel
theorem dX6_read_48 : decode cX6_read 48 = .ok (.iconst 0, 1) := by decide +kernel
theorem dX6_read_49 : decode cX6_read 49 = .ok (.istore 7, 2) := by decide +kernel
theorem dX6_read_51 : decode cX6_read 51 = .ok (.iload 7, 2) := by decide +kernel
theorem dX6_read_53 : decode cX6_read 53 = .ok (.iload 6, 2) := by decide +kernel
theorem dX6_read_55 : decode cX6_read 55 = .ok (.if_icmp .ge 48, 3) := by decide +kernel
theorem dX6_read_58 : decode cX6_read 58 = .ok (.aload_n 0, 1) := by decide +kernel
theorem dX6_read_59 : decode cX6_read 59 = .ok (.aload 5, 2) := by decide +kernel
theorem dX6_read_61 : decode cX6_read 61 = .ok (.getfield 256, 3) := by decide +kernel
theorem dX6_read_64 : decode cX6_read 64 = .ok (.iload_n 3, 1) := by decide +kernel
theorem dX6_read_65 : decode cX6_read 65 = .ok (.iconst 2, 1) := by decide +kernel
theorem dX6_read_66 : decode cX6_read 66 = .ok (.iload 7, 2) := by decide +kernel
theorem dX6_read_68 : decode cX6_read 68 = .ok (.imul, 1) := by decide +kernel
theorem dX6_read_69 : decode cX6_read 69 = .ok (.iadd, 1) := by decide +kernel
theorem dX6_read_70 : decode cX6_read 70 = .ok (.iaload, 1) := by decide +kernel
theorem dX6_read_71 : decode cX6_read 71 = .ok (.aload 5, 2) := by decide +kernel
theorem dX6_read_73 : decode cX6_read 73 = .ok (.getfield 256, 3) := by decide +kernel
theorem dX6_read_76 : decode cX6_read 76 = .ok (.iload_n 3, 1) := by decide +kernel
theorem dX6_read_77 : decode cX6_read 77 = .ok (.iconst 2, 1) := by decide +kernel
theorem dX6_read_78 : decode cX6_read 78 = .ok (.iload 7, 2) := by decide +kernel
theorem dX6_read_80 : decode cX6_read 80 = .ok (.imul, 1) := by decide +kernel
theorem dX6_read_81 : decode cX6_read 81 = .ok (.iadd, 1) := by decide +kernel
theorem dX6_read_82 : decode cX6_read 82 = .ok (.iconst 1, 1) := by decide +kernel
theorem dX6_read_83 : decode cX6_read 83 = .ok (.iadd, 1) := by decide +kernel
theorem dX6_read_84 : decode cX6_read 84 = .ok (.iaload, 1) := by decide +kernel
theorem dX6_read_85 : decode cX6_read 85 = .ok (.invokevirtual 259, 3) := by decide +kernel
theorem dX6_read_88 : decode cX6_read 88 = .ok (.ifCond .ne 9, 3) := by decide +kernel
theorem dX6_read_91 : decode cX6_read 91 = .ok (.bipush (-20), 2) := by decide +kernel
theorem dX6_read_93 : decode cX6_read 93 = .ok (.iload 7, 2) := by decide +kernel
theorem dX6_read_95 : decode cX6_read 95 = .ok (.isub, 1) := by decide +kernel
theorem dX6_read_96 : decode cX6_read 96 = .ok (.ireturn, 1) := by decide +kernel
theorem dX6_read_97 : decode cX6_read 97 = .ok (.iinc 7 1, 3) := by decide +kernel
theorem dX6_read_100 : decode cX6_read 100 = .ok (.goto (-49), 3) := by decide +kernel
theorem dX6_read_103 : decode cX6_read 103 = .ok (.iconst 0, 1) := by decide +kernel
theorem dX6_read_104 : decode cX6_read 104 = .ok (.istore 7, 2) := by decide +kernel
theorem dX6_read_106 : decode cX6_read 106 = .ok (.iload 7, 2) := by decide +kernel
theorem dX6_read_108 : decode cX6_read 108 = .ok (.iload 6, 2) := by decide +kernel
theorem dX6_read_110 : decode cX6_read 110 = .ok (.if_icmp .ge 43, 3) := by decide +kernel
theorem dX6_read_113 : decode cX6_read 113 = .ok (.aload_n 0, 1) := by decide +kernel
theorem dX6_read_114 : decode cX6_read 114 = .ok (.getfield 10, 3) := by decide +kernel
theorem dX6_read_117 : decode cX6_read 117 = .ok (.aload 5, 2) := by decide +kernel
theorem dX6_read_119 : decode cX6_read 119 = .ok (.getfield 256, 3) := by decide +kernel
theorem dX6_read_122 : decode cX6_read 122 = .ok (.iload_n 3, 1) := by decide +kernel
theorem dX6_read_123 : decode cX6_read 123 = .ok (.iconst 2, 1) := by decide +kernel
theorem dX6_read_124 : decode cX6_read 124 = .ok (.iload 7, 2) := by decide +kernel
theorem dX6_read_126 : decode cX6_read 126 = .ok (.imul, 1) := by decide +kernel
theorem dX6_read_127 : decode cX6_read 127 = .ok (.iadd, 1) := by decide +kernel
theorem dX6_read_128 : decode cX6_read 128 = .ok (.iaload, 1) := by decide +kernel
theorem dX6_read_129 : decode cX6_read 129 = .ok (.iconst 1, 1) := by decide +kernel
theorem dX6_read_130 : decode cX6_read 130 = .ok (.aload 5, 2) := by decide +kernel
theorem dX6_read_132 : decode cX6_read 132 = .ok (.getfield 256, 3) := by decide +kernel
theorem dX6_read_135 : decode cX6_read 135 = .ok (.iload_n 3, 1) := by decide +kernel
theorem dX6_read_136 : decode cX6_read 136 = .ok (.iconst 2, 1) := by decide +kernel
theorem dX6_read_137 : decode cX6_read 137 = .ok (.iload 7, 2) := by decide +kernel
theorem dX6_read_139 : decode cX6_read 139 = .ok (.imul, 1) := by decide +kernel
theorem dX6_read_140 : decode cX6_read 140 = .ok (.iadd, 1) := by decide +kernel
theorem dX6_read_141 : decode cX6_read 141 = .ok (.iconst 1, 1) := by decide +kernel
theorem dX6_read_142 : decode cX6_read 142 = .ok (.iadd, 1) := by decide +kernel
theorem dX6_read_143 : decode cX6_read 143 = .ok (.iaload, 1) := by decide +kernel
theorem dX6_read_144 : decode cX6_read 144 = .ok (.invokevirtual 162, 3) := by decide +kernel
theorem dX6_read_147 : decode cX6_read 147 = .ok (.iinc 7 1, 3) := by decide +kernel
theorem dX6_read_150 : decode cX6_read 150 = .ok (.goto (-44), 3) := by decide +kernel
theorem dX6_read_153 : decode cX6_read 153 = .ok (.aload_n 0, 1) := by decide +kernel
theorem dX6_read_154 : decode cX6_read 154 = .ok (.aload 5, 2) := by decide +kernel
theorem dX6_read_156 : decode cX6_read 156 = .ok (.getfield 262, 3) := by decide +kernel
theorem dX6_read_159 : decode cX6_read 159 = .ok (.putfield 62, 3) := by decide +kernel
theorem dX6_read_162 : decode cX6_read 162 = .ok (.iload 6, 2) := by decide +kernel
theorem dX6_read_164 : decode cX6_read 164 = .ok (.ireturn, 1) := by decide +kernel
theorem dX6_torn_0 : decode cX6_torn 0 = .ok (.aload_n 0, 1) := by decide +kernel
theorem dX6_torn_1 : decode cX6_torn 1 = .ok (.getfield 62, 3) := by decide +kernel
theorem dX6_torn_4 : decode cX6_torn 4 = .ok (.ireturn, 1) := by decide +kernel
theorem dX6_count_0 : decode cX6_count 0 = .ok (.iload_n 1, 1) := by decide +kernel
theorem dX6_count_1 : decode cX6_count 1 = .ok (.tableswitch 130 0 5 #[39, 47, 77, 85, 113, 121], 39) := by decide +kernel
theorem dX6_count_40 : decode cX6_count 40 = .ok (.aload_n 0, 1) := by decide +kernel
theorem dX6_count_41 : decode cX6_count 41 = .ok (.getfield 43, 3) := by decide +kernel
theorem dX6_count_44 : decode cX6_count 44 = .ok (.getfield 91, 3) := by decide +kernel
theorem dX6_count_47 : decode cX6_count 47 = .ok (.ireturn, 1) := by decide +kernel
theorem dX6_count_48 : decode cX6_count 48 = .ok (.aload_n 0, 1) := by decide +kernel
theorem dX6_count_49 : decode cX6_count 49 = .ok (.getfield 51, 3) := by decide +kernel
theorem dX6_count_52 : decode cX6_count 52 = .ok (.iconst 0, 1) := by decide +kernel
theorem dX6_count_53 : decode cX6_count 53 = .ok (.baload, 1) := by decide +kernel
theorem dX6_count_54 : decode cX6_count 54 = .ok (.ifCond .eq 7, 3) := by decide +kernel
theorem dX6_count_57 : decode cX6_count 57 = .ok (.iconst 1, 1) := by decide +kernel
theorem dX6_count_58 : decode cX6_count 58 = .ok (.goto 4, 3) := by decide +kernel
theorem dX6_count_61 : decode cX6_count 61 = .ok (.iconst 0, 1) := by decide +kernel
theorem dX6_count_62 : decode cX6_count 62 = .ok (.aload_n 0, 1) := by decide +kernel
theorem dX6_count_63 : decode cX6_count 63 = .ok (.getfield 51, 3) := by decide +kernel
theorem dX6_count_66 : decode cX6_count 66 = .ok (.iconst 1, 1) := by decide +kernel
theorem dX6_count_67 : decode cX6_count 67 = .ok (.baload, 1) := by decide +kernel
theorem dX6_count_68 : decode cX6_count 68 = .ok (.ifCond .eq 7, 3) := by decide +kernel
theorem dX6_count_71 : decode cX6_count 71 = .ok (.iconst 1, 1) := by decide +kernel
theorem dX6_count_72 : decode cX6_count 72 = .ok (.goto 4, 3) := by decide +kernel
theorem dX6_count_75 : decode cX6_count 75 = .ok (.iconst 0, 1) := by decide +kernel
theorem dX6_count_76 : decode cX6_count 76 = .ok (.iadd, 1) := by decide +kernel
theorem dX6_count_77 : decode cX6_count 77 = .ok (.ireturn, 1) := by decide +kernel
theorem dX6_count_78 : decode cX6_count 78 = .ok (.aload_n 0, 1) := by decide +kernel
theorem dX6_count_79 : decode cX6_count 79 = .ok (.getfield 29, 3) := by decide +kernel
theorem dX6_count_82 : decode cX6_count 82 = .ok (.getfield 70, 3) := by decide +kernel
theorem dX6_count_85 : decode cX6_count 85 = .ok (.ireturn, 1) := by decide +kernel
theorem dX6_count_86 : decode cX6_count 86 = .ok (.aload_n 0, 1) := by decide +kernel
theorem dX6_count_87 : decode cX6_count 87 = .ok (.getfield 58, 3) := by decide +kernel
theorem dX6_count_90 : decode cX6_count 90 = .ok (.iconst 0, 1) := by decide +kernel
theorem dX6_count_91 : decode cX6_count 91 = .ok (.aaload, 1) := by decide +kernel
theorem dX6_count_92 : decode cX6_count 92 = .ok (.getfield 265, 3) := by decide +kernel
theorem dX6_count_95 : decode cX6_count 95 = .ok (.iconst (-1), 1) := by decide +kernel
theorem dX6_count_96 : decode cX6_count 96 = .ok (.if_icmp .ne 8, 3) := by decide +kernel
theorem dX6_count_99 : decode cX6_count 99 = .ok (.bipush (-4), 2) := by decide +kernel
theorem dX6_count_101 : decode cX6_count 101 = .ok (.goto 12, 3) := by decide +kernel
theorem dX6_count_104 : decode cX6_count 104 = .ok (.aload_n 0, 1) := by decide +kernel
theorem dX6_count_105 : decode cX6_count 105 = .ok (.getfield 58, 3) := by decide +kernel
theorem dX6_count_108 : decode cX6_count 108 = .ok (.iconst 0, 1) := by decide +kernel
theorem dX6_count_109 : decode cX6_count 109 = .ok (.aaload, 1) := by decide +kernel
theorem dX6_count_110 : decode cX6_count 110 = .ok (.getfield 265, 3) := by decide +kernel
theorem dX6_count_113 : decode cX6_count 113 = .ok (.ireturn, 1) := by decide +kernel
theorem dX6_count_114 : decode cX6_count 114 = .ok (.aload_n 0, 1) := by decide +kernel
theorem dX6_count_115 : decode cX6_count 115 = .ok (.getfield 10, 3) := by decide +kernel
theorem dX6_count_118 : decode cX6_count 118 = .ok (.invokevirtual 268, 3) := by decide +kernel
theorem dX6_count_121 : decode cX6_count 121 = .ok (.ireturn, 1) := by decide +kernel
theorem dX6_count_122 : decode cX6_count 122 = .ok (.aload_n 0, 1) := by decide +kernel
theorem dX6_count_123 : decode cX6_count 123 = .ok (.getfield 10, 3) := by decide +kernel
theorem dX6_count_126 : decode cX6_count 126 = .ok (.iconst 1, 1) := by decide +kernel
theorem dX6_count_127 : decode cX6_count 127 = .ok (.invokevirtual 178, 3) := by decide +kernel
theorem dX6_count_130 : decode cX6_count 130 = .ok (.ireturn, 1) := by decide +kernel
theorem dX6_count_131 : decode cX6_count 131 = .ok (.iconst (-1), 1) := by decide +kernel
theorem dX6_count_132 : decode cX6_count 132 = .ok (.ireturn, 1) := by decide +kernel
theorem dX6_within_0 : decode cX6_within 0 = .ok (.iload_n 0, 1) := by decide +kernel
theorem dX6_within_1 : decode cX6_within 1 = .ok (.iload_n 1, 1) := by decide +kernel
theorem dX6_within_2 : decode cX6_within 2 = .ok (.if_icmp .lt 12, 3) := by decide +kernel
theorem dX6_within_5 : decode cX6_within 5 = .ok (.iload_n 0, 1) := by decide +kernel
theorem dX6_within_6 : decode cX6_within 6 = .ok (.iload_n 2, 1) := by decide +kernel
theorem dX6_within_7 : decode cX6_within 7 = .ok (.if_icmp .gt 7, 3) := by decide +kernel
theorem dX6_within_10 : decode cX6_within 10 = .ok (.iconst 1, 1) := by decide +kernel
theorem dX6_within_11 : decode cX6_within 11 = .ok (.goto 4, 3) := by decide +kernel
theorem dX6_within_14 : decode cX6_within 14 = .ok (.iconst 0, 1) := by decide +kernel
theorem dX6_within_15 : decode cX6_within 15 = .ok (.ireturn, 1) := by decide +kernel
theorem dX6_has_0 : decode cX6_has 0 = .ok (.iload_n 0, 1) := by decide +kernel
theorem dX6_has_1 : decode cX6_has 1 = .ok (.iload_n 1, 1) := by decide +kernel
theorem dX6_has_2 : decode cX6_has 2 = .ok (.ishr, 1) := by decide +kernel
theorem dX6_has_3 : decode cX6_has 3 = .ok (.iconst 1, 1) := by decide +kernel
theorem dX6_has_4 : decode cX6_has 4 = .ok (.iand, 1) := by decide +kernel
theorem dX6_has_5 : decode cX6_has 5 = .ok (.iconst 1, 1) := by decide +kernel
theorem dX6_has_6 : decode cX6_has 6 = .ok (.if_icmp .ne 7, 3) := by decide +kernel
theorem dX6_has_9 : decode cX6_has 9 = .ok (.iconst 1, 1) := by decide +kernel
theorem dX6_has_10 : decode cX6_has 10 = .ok (.goto 4, 3) := by decide +kernel
theorem dX6_has_13 : decode cX6_has 13 = .ok (.iconst 0, 1) := by decide +kernel
theorem dX6_has_14 : decode cX6_has 14 = .ok (.ireturn, 1) := by decide +kernel
theorem dX6_isGiver_0 : decode cX6_isGiver 0 = .ok (.iload_n 1, 1) := by decide +kernel
theorem dX6_isGiver_1 : decode cX6_isGiver 1 = .ok (.iconst 0, 1) := by decide +kernel
theorem dX6_isGiver_2 : decode cX6_isGiver 2 = .ok (.aload_n 0, 1) := by decide +kernel
theorem dX6_isGiver_3 : decode cX6_isGiver 3 = .ok (.getfield 10, 3) := by decide +kernel
theorem dX6_isGiver_6 : decode cX6_isGiver 6 = .ok (.getfield 94, 3) := by decide +kernel
theorem dX6_isGiver_9 : decode cX6_isGiver 9 = .ok (.iconst 1, 1) := by decide +kernel
theorem dX6_isGiver_10 : decode cX6_isGiver 10 = .ok (.isub, 1) := by decide +kernel
theorem dX6_isGiver_11 : decode cX6_isGiver 11 = .ok (.invokestatic 66, 3) := by decide +kernel
theorem dX6_isGiver_14 : decode cX6_isGiver 14 = .ok (.ireturn, 1) := by decide +kernel
theorem dX6_isSheet_0 : decode cX6_isSheet 0 = .ok (.iload_n 0, 1) := by decide +kernel
theorem dX6_isSheet_1 : decode cX6_isSheet 1 = .ok (.iconst 0, 1) := by decide +kernel
theorem dX6_isSheet_2 : decode cX6_isSheet 2 = .ok (.iconst 3, 1) := by decide +kernel
theorem dX6_isSheet_3 : decode cX6_isSheet 3 = .ok (.invokestatic 66, 3) := by decide +kernel
theorem dX6_isSheet_6 : decode cX6_isSheet 6 = .ok (.ireturn, 1) := by decide +kernel
theorem dX6_tapFactor_0 : decode cX6_tapFactor 0 = .ok (.iconst 1, 1) := by decide +kernel
theorem dX6_tapFactor_1 : decode cX6_tapFactor 1 = .ok (.iload_n 0, 1) := by decide +kernel
theorem dX6_tapFactor_2 : decode cX6_tapFactor 2 = .ok (.iload_n 1, 1) := by decide +kernel
theorem dX6_tapFactor_3 : decode cX6_tapFactor 3 = .ok (.iadd, 1) := by decide +kernel
theorem dX6_tapFactor_4 : decode cX6_tapFactor 4 = .ok (.iconst 3, 1) := by decide +kernel
theorem dX6_tapFactor_5 : decode cX6_tapFactor 5 = .ok (.irem, 1) := by decide +kernel
theorem dX6_tapFactor_6 : decode cX6_tapFactor 6 = .ok (.iadd, 1) := by decide +kernel
theorem dX6_tapFactor_7 : decode cX6_tapFactor 7 = .ok (.ireturn, 1) := by decide +kernel
theorem dX6_cast_0 : decode cX6_cast 0 = .ok (.aload_n 0, 1) := by decide +kernel
theorem dX6_cast_1 : decode cX6_cast 1 = .ok (.getfield 22, 3) := by decide +kernel
theorem dX6_cast_4 : decode cX6_cast 4 = .ok (.aload_n 1, 1) := by decide +kernel
theorem dX6_cast_5 : decode cX6_cast 5 = .ok (.invokevirtual 169, 3) := by decide +kernel
theorem dX6_cast_8 : decode cX6_cast 8 = .ok (.aload_n 0, 1) := by decide +kernel
theorem dX6_cast_9 : decode cX6_cast 9 = .ok (.getfield 22, 3) := by decide +kernel
theorem dX6_cast_12 : decode cX6_cast 12 = .ok (.aload_n 1, 1) := by decide +kernel
theorem dX6_cast_13 : decode cX6_cast 13 = .ok (.invokevirtual 172, 3) := by decide +kernel
theorem dX6_cast_16 : decode cX6_cast 16 = .ok (.return_, 1) := by decide +kernel
theorem dX6_castsTrue_0 : decode cX6_castsTrue 0 = .ok (.aload_n 0, 1) := by decide +kernel
theorem dX6_castsTrue_1 : decode cX6_castsTrue 1 = .ok (.aload_n 1, 1) := by decide +kernel
theorem dX6_castsTrue_2 : decode cX6_castsTrue 2 = .ok (.invokevirtual 130, 3) := by decide +kernel
theorem dX6_castsTrue_5 : decode cX6_castsTrue 5 = .ok (.aload_n 0, 1) := by decide +kernel
theorem dX6_castsTrue_6 : decode cX6_castsTrue 6 = .ok (.getfield 22, 3) := by decide +kernel
theorem dX6_castsTrue_9 : decode cX6_castsTrue 9 = .ok (.aload_n 1, 1) := by decide +kernel
theorem dX6_castsTrue_10 : decode cX6_castsTrue 10 = .ok (.invokevirtual 146, 3) := by decide +kernel
theorem dX6_castsTrue_13 : decode cX6_castsTrue 13 = .ok (.ireturn, 1) := by decide +kernel
theorem dX6_strikeOnce_0 : decode cX6_strikeOnce 0 = .ok (.aload_n 1, 1) := by decide +kernel
theorem dX6_strikeOnce_1 : decode cX6_strikeOnce 1 = .ok (.dup, 1) := by decide +kernel
theorem dX6_strikeOnce_2 : decode cX6_strikeOnce 2 = .ok (.getfield 103, 3) := by decide +kernel
theorem dX6_strikeOnce_5 : decode cX6_strikeOnce 5 = .ok (.iconst 1, 1) := by decide +kernel
theorem dX6_strikeOnce_6 : decode cX6_strikeOnce 6 = .ok (.iadd, 1) := by decide +kernel
theorem dX6_strikeOnce_7 : decode cX6_strikeOnce 7 = .ok (.putfield 103, 3) := by decide +kernel
theorem dX6_strikeOnce_10 : decode cX6_strikeOnce 10 = .ok (.aload_n 1, 1) := by decide +kernel
theorem dX6_strikeOnce_11 : decode cX6_strikeOnce 11 = .ok (.getfield 103, 3) := by decide +kernel
theorem dX6_strikeOnce_14 : decode cX6_strikeOnce 14 = .ok (.iconst 5, 1) := by decide +kernel
theorem dX6_strikeOnce_15 : decode cX6_strikeOnce 15 = .ok (.irem, 1) := by decide +kernel
theorem dX6_strikeOnce_16 : decode cX6_strikeOnce 16 = .ok (.ifCond .eq 4, 3) := by decide +kernel
theorem dX6_strikeOnce_19 : decode cX6_strikeOnce 19 = .ok (.return_, 1) := by decide +kernel
theorem dX6_strikeOnce_20 : decode cX6_strikeOnce 20 = .ok (.aload_n 0, 1) := by decide +kernel
theorem dX6_strikeOnce_21 : decode cX6_strikeOnce 21 = .ok (.aload_n 1, 1) := by decide +kernel
theorem dX6_strikeOnce_22 : decode cX6_strikeOnce 22 = .ok (.invokevirtual 130, 3) := by decide +kernel
theorem dX6_strikeOnce_25 : decode cX6_strikeOnce 25 = .ok (.aload_n 0, 1) := by decide +kernel
theorem dX6_strikeOnce_26 : decode cX6_strikeOnce 26 = .ok (.getfield 22, 3) := by decide +kernel
theorem dX6_strikeOnce_29 : decode cX6_strikeOnce 29 = .ok (.getfield 136, 3) := by decide +kernel
theorem dX6_strikeOnce_32 : decode cX6_strikeOnce 32 = .ok (.ifCond .le 19, 3) := by decide +kernel
theorem dX6_strikeOnce_35 : decode cX6_strikeOnce 35 = .ok (.aload_n 1, 1) := by decide +kernel
theorem dX6_strikeOnce_36 : decode cX6_strikeOnce 36 = .ok (.getfield 127, 3) := by decide +kernel
theorem dX6_strikeOnce_39 : decode cX6_strikeOnce 39 = .ok (.aload_n 0, 1) := by decide +kernel
theorem dX6_strikeOnce_40 : decode cX6_strikeOnce 40 = .ok (.getfield 22, 3) := by decide +kernel
theorem dX6_strikeOnce_43 : decode cX6_strikeOnce 43 = .ok (.invokevirtual 271, 3) := by decide +kernel
theorem dX6_strikeOnce_46 : decode cX6_strikeOnce 46 = .ok (.dup2, 1) := by decide +kernel
theorem dX6_strikeOnce_47 : decode cX6_strikeOnce 47 = .ok (.iaload, 1) := by decide +kernel
theorem dX6_strikeOnce_48 : decode cX6_strikeOnce 48 = .ok (.iconst 1, 1) := by decide +kernel
theorem dX6_strikeOnce_49 : decode cX6_strikeOnce 49 = .ok (.iadd, 1) := by decide +kernel
theorem dX6_strikeOnce_50 : decode cX6_strikeOnce 50 = .ok (.iastore, 1) := by decide +kernel
theorem dX6_strikeOnce_51 : decode cX6_strikeOnce 51 = .ok (.return_, 1) := by decide +kernel
theorem dX6_sumOverLiars_0 : decode cX6_sumOverLiars 0 = .ok (.lconst 0, 1) := by decide +kernel
theorem dX6_sumOverLiars_1 : decode cX6_sumOverLiars 1 = .ok (.lstore_n 3, 1) := by decide +kernel
theorem dX6_sumOverLiars_2 : decode cX6_sumOverLiars 2 = .ok (.iconst 0, 1) := by decide +kernel
theorem dX6_sumOverLiars_3 : decode cX6_sumOverLiars 3 = .ok (.istore 5, 2) := by decide +kernel
theorem dX6_sumOverLiars_5 : decode cX6_sumOverLiars 5 = .ok (.iload 5, 2) := by decide +kernel
theorem dX6_sumOverLiars_7 : decode cX6_sumOverLiars 7 = .ok (.iconst 1, 1) := by decide +kernel
theorem dX6_sumOverLiars_8 : decode cX6_sumOverLiars 8 = .ok (.aload_n 0, 1) := by decide +kernel
theorem dX6_sumOverLiars_9 : decode cX6_sumOverLiars 9 = .ok (.getfield 10, 3) := by decide +kernel
theorem dX6_sumOverLiars_12 : decode cX6_sumOverLiars 12 = .ok (.getfield 94, 3) := by decide +kernel
theorem dX6_sumOverLiars_15 : decode cX6_sumOverLiars 15 = .ok (.ishl, 1) := by decide +kernel
theorem dX6_sumOverLiars_16 : decode cX6_sumOverLiars 16 = .ok (.if_icmp .ge 152, 3) := by decide +kernel
theorem dX6_sumOverLiars_19 : decode cX6_sumOverLiars 19 = .ok (.lconst 1, 1) := by decide +kernel
theorem dX6_sumOverLiars_20 : decode cX6_sumOverLiars 20 = .ok (.lstore 6, 2) := by decide +kernel
theorem dX6_sumOverLiars_22 : decode cX6_sumOverLiars 22 = .ok (.aload_n 0, 1) := by decide +kernel
theorem dX6_sumOverLiars_23 : decode cX6_sumOverLiars 23 = .ok (.getfield 22, 3) := by decide +kernel
theorem dX6_sumOverLiars_26 : decode cX6_sumOverLiars 26 = .ok (.aload_n 0, 1) := by decide +kernel
theorem dX6_sumOverLiars_27 : decode cX6_sumOverLiars 27 = .ok (.getfield 10, 3) := by decide +kernel
theorem dX6_sumOverLiars_30 : decode cX6_sumOverLiars 30 = .ok (.invokevirtual 169, 3) := by decide +kernel
theorem dX6_sumOverLiars_33 : decode cX6_sumOverLiars 33 = .ok (.iconst 0, 1) := by decide +kernel
theorem dX6_sumOverLiars_34 : decode cX6_sumOverLiars 34 = .ok (.istore 8, 2) := by decide +kernel
theorem dX6_sumOverLiars_36 : decode cX6_sumOverLiars 36 = .ok (.iload 8, 2) := by decide +kernel
theorem dX6_sumOverLiars_38 : decode cX6_sumOverLiars 38 = .ok (.aload_n 0, 1) := by decide +kernel
theorem dX6_sumOverLiars_39 : decode cX6_sumOverLiars 39 = .ok (.getfield 10, 3) := by decide +kernel
theorem dX6_sumOverLiars_42 : decode cX6_sumOverLiars 42 = .ok (.getfield 94, 3) := by decide +kernel
theorem dX6_sumOverLiars_45 : decode cX6_sumOverLiars 45 = .ok (.if_icmp .ge 66, 3) := by decide +kernel
theorem dX6_sumOverLiars_48 : decode cX6_sumOverLiars 48 = .ok (.lload 6, 2) := by decide +kernel
theorem dX6_sumOverLiars_50 : decode cX6_sumOverLiars 50 = .ok (.iload 5, 2) := by decide +kernel
theorem dX6_sumOverLiars_52 : decode cX6_sumOverLiars 52 = .ok (.iload 8, 2) := by decide +kernel
theorem dX6_sumOverLiars_54 : decode cX6_sumOverLiars 54 = .ok (.invokestatic 184, 3) := by decide +kernel
theorem dX6_sumOverLiars_57 : decode cX6_sumOverLiars 57 = .ok (.ifCond .eq 8, 3) := by decide +kernel
theorem dX6_sumOverLiars_60 : decode cX6_sumOverLiars 60 = .ok (.iload_n 1, 1) := by decide +kernel
theorem dX6_sumOverLiars_61 : decode cX6_sumOverLiars 61 = .ok (.i2l, 1) := by decide +kernel
theorem dX6_sumOverLiars_62 : decode cX6_sumOverLiars 62 = .ok (.goto 8, 3) := by decide +kernel
theorem dX6_sumOverLiars_65 : decode cX6_sumOverLiars 65 = .ok (.bipush 10, 2) := by decide +kernel
theorem dX6_sumOverLiars_67 : decode cX6_sumOverLiars 67 = .ok (.iload_n 1, 1) := by decide +kernel
theorem dX6_sumOverLiars_68 : decode cX6_sumOverLiars 68 = .ok (.isub, 1) := by decide +kernel
theorem dX6_sumOverLiars_69 : decode cX6_sumOverLiars 69 = .ok (.i2l, 1) := by decide +kernel
theorem dX6_sumOverLiars_70 : decode cX6_sumOverLiars 70 = .ok (.lmul, 1) := by decide +kernel
theorem dX6_sumOverLiars_71 : decode cX6_sumOverLiars 71 = .ok (.lstore 6, 2) := by decide +kernel
theorem dX6_sumOverLiars_73 : decode cX6_sumOverLiars 73 = .ok (.iload 5, 2) := by decide +kernel
theorem dX6_sumOverLiars_75 : decode cX6_sumOverLiars 75 = .ok (.iload 8, 2) := by decide +kernel
theorem dX6_sumOverLiars_77 : decode cX6_sumOverLiars 77 = .ok (.invokestatic 184, 3) := by decide +kernel
theorem dX6_sumOverLiars_80 : decode cX6_sumOverLiars 80 = .ok (.ifCond .eq 25, 3) := by decide +kernel
theorem dX6_sumOverLiars_83 : decode cX6_sumOverLiars 83 = .ok (.aload_n 0, 1) := by decide +kernel
theorem dX6_sumOverLiars_84 : decode cX6_sumOverLiars 84 = .ok (.getfield 22, 3) := by decide +kernel
theorem dX6_sumOverLiars_87 : decode cX6_sumOverLiars 87 = .ok (.getfield 153, 3) := by decide +kernel
theorem dX6_sumOverLiars_90 : decode cX6_sumOverLiars 90 = .ok (.iload 8, 2) := by decide +kernel
theorem dX6_sumOverLiars_92 : decode cX6_sumOverLiars 92 = .ok (.aload_n 0, 1) := by decide +kernel
theorem dX6_sumOverLiars_93 : decode cX6_sumOverLiars 93 = .ok (.getfield 22, 3) := by decide +kernel
theorem dX6_sumOverLiars_96 : decode cX6_sumOverLiars 96 = .ok (.getfield 153, 3) := by decide +kernel
theorem dX6_sumOverLiars_99 : decode cX6_sumOverLiars 99 = .ok (.iload 8, 2) := by decide +kernel
theorem dX6_sumOverLiars_101 : decode cX6_sumOverLiars 101 = .ok (.iaload, 1) := by decide +kernel
theorem dX6_sumOverLiars_102 : decode cX6_sumOverLiars 102 = .ok (.iconst 2, 1) := by decide +kernel
theorem dX6_sumOverLiars_103 : decode cX6_sumOverLiars 103 = .ok (.idiv, 1) := by decide +kernel
theorem dX6_sumOverLiars_104 : decode cX6_sumOverLiars 104 = .ok (.iastore, 1) := by decide +kernel
theorem dX6_sumOverLiars_105 : decode cX6_sumOverLiars 105 = .ok (.iinc 8 1, 3) := by decide +kernel
theorem dX6_sumOverLiars_108 : decode cX6_sumOverLiars 108 = .ok (.goto (-72), 3) := by decide +kernel
theorem dX6_sumOverLiars_111 : decode cX6_sumOverLiars 111 = .ok (.aload_n 0, 1) := by decide +kernel
theorem dX6_sumOverLiars_112 : decode cX6_sumOverLiars 112 = .ok (.getfield 22, 3) := by decide +kernel
theorem dX6_sumOverLiars_115 : decode cX6_sumOverLiars 115 = .ok (.aload_n 0, 1) := by decide +kernel
theorem dX6_sumOverLiars_116 : decode cX6_sumOverLiars 116 = .ok (.getfield 10, 3) := by decide +kernel
theorem dX6_sumOverLiars_119 : decode cX6_sumOverLiars 119 = .ok (.invokevirtual 172, 3) := by decide +kernel
theorem dX6_sumOverLiars_122 : decode cX6_sumOverLiars 122 = .ok (.iload_n 2, 1) := by decide +kernel
theorem dX6_sumOverLiars_123 : decode cX6_sumOverLiars 123 = .ok (.ifCond .eq 20, 3) := by decide +kernel
theorem dX6_sumOverLiars_126 : decode cX6_sumOverLiars 126 = .ok (.lload_n 3, 1) := by decide +kernel
theorem dX6_sumOverLiars_127 : decode cX6_sumOverLiars 127 = .ok (.lload 6, 2) := by decide +kernel
theorem dX6_sumOverLiars_129 : decode cX6_sumOverLiars 129 = .ok (.aload_n 0, 1) := by decide +kernel
theorem dX6_sumOverLiars_130 : decode cX6_sumOverLiars 130 = .ok (.getfield 22, 3) := by decide +kernel
theorem dX6_sumOverLiars_133 : decode cX6_sumOverLiars 133 = .ok (.getfield 136, 3) := by decide +kernel
theorem dX6_sumOverLiars_136 : decode cX6_sumOverLiars 136 = .ok (.i2l, 1) := by decide +kernel
theorem dX6_sumOverLiars_137 : decode cX6_sumOverLiars 137 = .ok (.lmul, 1) := by decide +kernel
theorem dX6_sumOverLiars_138 : decode cX6_sumOverLiars 138 = .ok (.ladd, 1) := by decide +kernel
theorem dX6_sumOverLiars_139 : decode cX6_sumOverLiars 139 = .ok (.lstore_n 3, 1) := by decide +kernel
theorem dX6_sumOverLiars_140 : decode cX6_sumOverLiars 140 = .ok (.goto 22, 3) := by decide +kernel
theorem dX6_sumOverLiars_143 : decode cX6_sumOverLiars 143 = .ok (.aload_n 0, 1) := by decide +kernel
theorem dX6_sumOverLiars_144 : decode cX6_sumOverLiars 144 = .ok (.getfield 22, 3) := by decide +kernel
theorem dX6_sumOverLiars_147 : decode cX6_sumOverLiars 147 = .ok (.aload_n 0, 1) := by decide +kernel
theorem dX6_sumOverLiars_148 : decode cX6_sumOverLiars 148 = .ok (.getfield 10, 3) := by decide +kernel
theorem dX6_sumOverLiars_151 : decode cX6_sumOverLiars 151 = .ok (.invokevirtual 146, 3) := by decide +kernel
theorem dX6_sumOverLiars_154 : decode cX6_sumOverLiars 154 = .ok (.ifCond .eq 8, 3) := by decide +kernel
theorem dX6_sumOverLiars_157 : decode cX6_sumOverLiars 157 = .ok (.lload_n 3, 1) := by decide +kernel
theorem dX6_sumOverLiars_158 : decode cX6_sumOverLiars 158 = .ok (.lload 6, 2) := by decide +kernel
theorem dX6_sumOverLiars_160 : decode cX6_sumOverLiars 160 = .ok (.ladd, 1) := by decide +kernel
theorem dX6_sumOverLiars_161 : decode cX6_sumOverLiars 161 = .ok (.lstore_n 3, 1) := by decide +kernel
theorem dX6_sumOverLiars_162 : decode cX6_sumOverLiars 162 = .ok (.iinc 5 1, 3) := by decide +kernel
theorem dX6_sumOverLiars_165 : decode cX6_sumOverLiars 165 = .ok (.goto (-160), 3) := by decide +kernel
theorem dX6_sumOverLiars_168 : decode cX6_sumOverLiars 168 = .ok (.lload_n 3, 1) := by decide +kernel
theorem dX6_sumOverLiars_169 : decode cX6_sumOverLiars 169 = .ok (.lreturn, 1) := by decide +kernel
theorem dX6_fraction_0 : decode cX6_fraction 0 = .ok (.lconst 1, 1) := by decide +kernel
theorem dX6_fraction_1 : decode cX6_fraction 1 = .ok (.lstore 4, 2) := by decide +kernel
theorem dX6_fraction_3 : decode cX6_fraction 3 = .ok (.iconst 0, 1) := by decide +kernel
theorem dX6_fraction_4 : decode cX6_fraction 4 = .ok (.istore 6, 2) := by decide +kernel
theorem dX6_fraction_6 : decode cX6_fraction 6 = .ok (.iload 6, 2) := by decide +kernel
theorem dX6_fraction_8 : decode cX6_fraction 8 = .ok (.aload_n 0, 1) := by decide +kernel
theorem dX6_fraction_9 : decode cX6_fraction 9 = .ok (.getfield 10, 3) := by decide +kernel
theorem dX6_fraction_12 : decode cX6_fraction 12 = .ok (.getfield 94, 3) := by decide +kernel
theorem dX6_fraction_15 : decode cX6_fraction 15 = .ok (.if_icmp .ge 17, 3) := by decide +kernel
theorem dX6_fraction_18 : decode cX6_fraction 18 = .ok (.lload 4, 2) := by decide +kernel
theorem dX6_fraction_20 : decode cX6_fraction 20 = .ok (.ldc2_w 274, 3) := by decide +kernel
theorem dX6_fraction_23 : decode cX6_fraction 23 = .ok (.lmul, 1) := by decide +kernel
theorem dX6_fraction_24 : decode cX6_fraction 24 = .ok (.lstore 4, 2) := by decide +kernel
theorem dX6_fraction_26 : decode cX6_fraction 26 = .ok (.iinc 6 1, 3) := by decide +kernel
theorem dX6_fraction_29 : decode cX6_fraction 29 = .ok (.goto (-23), 3) := by decide +kernel
theorem dX6_fraction_32 : decode cX6_fraction 32 = .ok (.lload_n 1, 1) := by decide +kernel
theorem dX6_fraction_33 : decode cX6_fraction 33 = .ok (.lload 4, 2) := by decide +kernel
theorem dX6_fraction_35 : decode cX6_fraction 35 = .ok (.invokestatic 276, 3) := by decide +kernel
theorem dX6_fraction_38 : decode cX6_fraction 38 = .ok (.lstore 6, 2) := by decide +kernel
theorem dX6_fraction_40 : decode cX6_fraction 40 = .ok (.iload_n 3, 1) := by decide +kernel
theorem dX6_fraction_41 : decode cX6_fraction 41 = .ok (.ifCond .ne 7, 3) := by decide +kernel
theorem dX6_fraction_44 : decode cX6_fraction 44 = .ok (.lload_n 1, 1) := by decide +kernel
theorem dX6_fraction_45 : decode cX6_fraction 45 = .ok (.goto 5, 3) := by decide +kernel
theorem dX6_fraction_48 : decode cX6_fraction 48 = .ok (.lload 4, 2) := by decide +kernel
theorem dX6_fraction_50 : decode cX6_fraction 50 = .ok (.lload 6, 2) := by decide +kernel
theorem dX6_fraction_52 : decode cX6_fraction 52 = .ok (.ldiv, 1) := by decide +kernel
theorem dX6_fraction_53 : decode cX6_fraction 53 = .ok (.lreturn, 1) := by decide +kernel
theorem dX6_commonDivisor_0 : decode cX6_commonDivisor 0 = .ok (.lload_n 0, 1) := by decide +kernel
theorem dX6_commonDivisor_1 : decode cX6_commonDivisor 1 = .ok (.lstore 4, 2) := by decide +kernel
theorem dX6_commonDivisor_3 : decode cX6_commonDivisor 3 = .ok (.lload_n 2, 1) := by decide +kernel
theorem dX6_commonDivisor_4 : decode cX6_commonDivisor 4 = .ok (.lstore 6, 2) := by decide +kernel
theorem dX6_commonDivisor_6 : decode cX6_commonDivisor 6 = .ok (.iconst 0, 1) := by decide +kernel
theorem dX6_commonDivisor_7 : decode cX6_commonDivisor 7 = .ok (.istore 8, 2) := by decide +kernel
theorem dX6_commonDivisor_9 : decode cX6_commonDivisor 9 = .ok (.iload 8, 2) := by decide +kernel
theorem dX6_commonDivisor_11 : decode cX6_commonDivisor 11 = .ok (.bipush 100, 2) := by decide +kernel
theorem dX6_commonDivisor_13 : decode cX6_commonDivisor 13 = .ok (.if_icmp .ge 31, 3) := by decide +kernel
theorem dX6_commonDivisor_16 : decode cX6_commonDivisor 16 = .ok (.lload 6, 2) := by decide +kernel
theorem dX6_commonDivisor_18 : decode cX6_commonDivisor 18 = .ok (.lconst 0, 1) := by decide +kernel
theorem dX6_commonDivisor_19 : decode cX6_commonDivisor 19 = .ok (.lcmp, 1) := by decide +kernel
theorem dX6_commonDivisor_20 : decode cX6_commonDivisor 20 = .ok (.ifCond .le 24, 3) := by decide +kernel
theorem dX6_commonDivisor_23 : decode cX6_commonDivisor 23 = .ok (.lload 4, 2) := by decide +kernel
theorem dX6_commonDivisor_25 : decode cX6_commonDivisor 25 = .ok (.lload 6, 2) := by decide +kernel
theorem dX6_commonDivisor_27 : decode cX6_commonDivisor 27 = .ok (.lrem, 1) := by decide +kernel
theorem dX6_commonDivisor_28 : decode cX6_commonDivisor 28 = .ok (.lstore 9, 2) := by decide +kernel
theorem dX6_commonDivisor_30 : decode cX6_commonDivisor 30 = .ok (.lload 6, 2) := by decide +kernel
theorem dX6_commonDivisor_32 : decode cX6_commonDivisor 32 = .ok (.lstore 4, 2) := by decide +kernel
theorem dX6_commonDivisor_34 : decode cX6_commonDivisor 34 = .ok (.lload 9, 2) := by decide +kernel
theorem dX6_commonDivisor_36 : decode cX6_commonDivisor 36 = .ok (.lstore 6, 2) := by decide +kernel
theorem dX6_commonDivisor_38 : decode cX6_commonDivisor 38 = .ok (.iinc 8 1, 3) := by decide +kernel
theorem dX6_commonDivisor_41 : decode cX6_commonDivisor 41 = .ok (.goto (-32), 3) := by decide +kernel
theorem dX6_commonDivisor_44 : decode cX6_commonDivisor 44 = .ok (.lconst 1, 1) := by decide +kernel
theorem dX6_commonDivisor_45 : decode cX6_commonDivisor 45 = .ok (.lload 4, 2) := by decide +kernel
theorem dX6_commonDivisor_47 : decode cX6_commonDivisor 47 = .ok (.invokestatic 280, 3) := by decide +kernel
theorem dX6_commonDivisor_50 : decode cX6_commonDivisor 50 = .ok (.lreturn, 1) := by decide +kernel
theorem dX6_stepSeed_0 : decode cX6_stepSeed 0 = .ok (.iload_n 0, 1) := by decide +kernel
theorem dX6_stepSeed_1 : decode cX6_stepSeed 1 = .ok (.ldc_w 282, 3) := by decide +kernel
theorem dX6_stepSeed_4 : decode cX6_stepSeed 4 = .ok (.imul, 1) := by decide +kernel
theorem dX6_stepSeed_5 : decode cX6_stepSeed 5 = .ok (.sipush 12345, 3) := by decide +kernel
theorem dX6_stepSeed_8 : decode cX6_stepSeed 8 = .ok (.iadd, 1) := by decide +kernel
theorem dX6_stepSeed_9 : decode cX6_stepSeed 9 = .ok (.ireturn, 1) := by decide +kernel
theorem dX6_seedBits_0 : decode cX6_seedBits 0 = .ok (.iload_n 0, 1) := by decide +kernel
theorem dX6_seedBits_1 : decode cX6_seedBits 1 = .ok (.bipush 16, 2) := by decide +kernel
theorem dX6_seedBits_3 : decode cX6_seedBits 3 = .ok (.ishr, 1) := by decide +kernel
theorem dX6_seedBits_4 : decode cX6_seedBits 4 = .ok (.sipush 32767, 3) := by decide +kernel
theorem dX6_seedBits_7 : decode cX6_seedBits 7 = .ok (.iand, 1) := by decide +kernel
theorem dX6_seedBits_8 : decode cX6_seedBits 8 = .ok (.ireturn, 1) := by decide +kernel
theorem dX6_isConfession_0 : decode cX6_isConfession 0 = .ok (.aload_n 0, 1) := by decide +kernel
theorem dX6_isConfession_1 : decode cX6_isConfession 1 = .ok (.iload_n 1, 1) := by decide +kernel
theorem dX6_isConfession_2 : decode cX6_isConfession 2 = .ok (.invokevirtual 110, 3) := by decide +kernel
theorem dX6_isConfession_5 : decode cX6_isConfession 5 = .ok (.ifCond .eq 20, 3) := by decide +kernel
theorem dX6_isConfession_8 : decode cX6_isConfession 8 = .ok (.iload_n 2, 1) := by decide +kernel
theorem dX6_isConfession_9 : decode cX6_isConfession 9 = .ok (.iconst 0, 1) := by decide +kernel
theorem dX6_isConfession_10 : decode cX6_isConfession 10 = .ok (.getstatic 159, 3) := by decide +kernel
theorem dX6_isConfession_13 : decode cX6_isConfession 13 = .ok (.iconst 1, 1) := by decide +kernel
theorem dX6_isConfession_14 : decode cX6_isConfession 14 = .ok (.iaload, 1) := by decide +kernel
theorem dX6_isConfession_15 : decode cX6_isConfession 15 = .ok (.invokestatic 66, 3) := by decide +kernel
theorem dX6_isConfession_18 : decode cX6_isConfession 18 = .ok (.ifCond .eq 7, 3) := by decide +kernel
theorem dX6_isConfession_21 : decode cX6_isConfession 21 = .ok (.iconst 1, 1) := by decide +kernel
theorem dX6_isConfession_22 : decode cX6_isConfession 22 = .ok (.goto 4, 3) := by decide +kernel
theorem dX6_isConfession_25 : decode cX6_isConfession 25 = .ok (.iconst 0, 1) := by decide +kernel
theorem dX6_isConfession_26 : decode cX6_isConfession 26 = .ok (.ireturn, 1) := by decide +kernel
