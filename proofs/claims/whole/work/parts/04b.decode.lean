theorem dX2_readHold_36 : decode cX2_readHold 36 = .ok (.aload_n 0, 1) := by decide +kernel
theorem dX2_readHold_37 : decode cX2_readHold 37 = .ok (.aload_n 1, 1) := by decide +kernel
theorem dX2_readHold_38 : decode cX2_readHold 38 = .ok (.iconst 0, 1) := by decide +kernel
theorem dX2_readHold_39 : decode cX2_readHold 39 = .ok (.getstatic 116, 3) := by decide +kernel
theorem dX2_readHold_42 : decode cX2_readHold 42 = .ok (.iconst 5, 1) := by decide +kernel
theorem dX2_readHold_43 : decode cX2_readHold 43 = .ok (.iaload, 1) := by decide +kernel
theorem dX2_readHold_44 : decode cX2_readHold 44 = .ok (.invokevirtual 120, 3) := by decide +kernel
theorem dX2_readHold_47 : decode cX2_readHold 47 = .ok (.ifCond .eq 16, 3) := by decide +kernel
theorem dX2_readHold_50 : decode cX2_readHold 50 = .ok (.aload_n 0, 1) := by decide +kernel
theorem dX2_readHold_51 : decode cX2_readHold 51 = .ok (.getfield 12, 3) := by decide +kernel
theorem dX2_readHold_54 : decode cX2_readHold 54 = .ok (.iload_n 2, 1) := by decide +kernel
theorem dX2_readHold_55 : decode cX2_readHold 55 = .ok (.iconst 5, 1) := by decide +kernel
theorem dX2_readHold_56 : decode cX2_readHold 56 = .ok (.aload_n 1, 1) := by decide +kernel
theorem dX2_readHold_57 : decode cX2_readHold 57 = .ok (.getfield 113, 3) := by decide +kernel
theorem dX2_readHold_60 : decode cX2_readHold 60 = .ok (.invokevirtual 105, 3) := by decide +kernel
theorem dX2_readHold_63 : decode cX2_readHold 63 = .ok (.return_, 1) := by decide +kernel
theorem dX2_readAdded_0 : decode cX2_readAdded 0 = .ok (.aload_n 0, 1) := by decide +kernel
theorem dX2_readAdded_1 : decode cX2_readAdded 1 = .ok (.aload_n 1, 1) := by decide +kernel
theorem dX2_readAdded_2 : decode cX2_readAdded 2 = .ok (.iconst 2, 1) := by decide +kernel
theorem dX2_readAdded_3 : decode cX2_readAdded 3 = .ok (.invokevirtual 109, 3) := by decide +kernel
theorem dX2_readAdded_6 : decode cX2_readAdded 6 = .ok (.ifCond .ne 4, 3) := by decide +kernel
theorem dX2_readAdded_9 : decode cX2_readAdded 9 = .ok (.return_, 1) := by decide +kernel
theorem dX2_readAdded_10 : decode cX2_readAdded 10 = .ok (.aload_n 1, 1) := by decide +kernel
theorem dX2_readAdded_11 : decode cX2_readAdded 11 = .ok (.getfield 113, 3) := by decide +kernel
theorem dX2_readAdded_14 : decode cX2_readAdded 14 = .ok (.istore_n 2, 1) := by decide +kernel
theorem dX2_readAdded_15 : decode cX2_readAdded 15 = .ok (.aload_n 0, 1) := by decide +kernel
theorem dX2_readAdded_16 : decode cX2_readAdded 16 = .ok (.aload_n 0, 1) := by decide +kernel
theorem dX2_readAdded_17 : decode cX2_readAdded 17 = .ok (.aload_n 1, 1) := by decide +kernel
theorem dX2_readAdded_18 : decode cX2_readAdded 18 = .ok (.aload_n 0, 1) := by decide +kernel
theorem dX2_readAdded_19 : decode cX2_readAdded 19 = .ok (.getfield 31, 3) := by decide +kernel
theorem dX2_readAdded_22 : decode cX2_readAdded 22 = .ok (.invokevirtual 124, 3) := by decide +kernel
theorem dX2_readAdded_25 : decode cX2_readAdded 25 = .ok (.putfield 31, 3) := by decide +kernel
theorem dX2_readAdded_28 : decode cX2_readAdded 28 = .ok (.aload_n 0, 1) := by decide +kernel
theorem dX2_readAdded_29 : decode cX2_readAdded 29 = .ok (.getfield 18, 3) := by decide +kernel
theorem dX2_readAdded_32 : decode cX2_readAdded 32 = .ok (.ifCond .ne 27, 3) := by decide +kernel
theorem dX2_readAdded_35 : decode cX2_readAdded 35 = .ok (.aload_n 0, 1) := by decide +kernel
theorem dX2_readAdded_36 : decode cX2_readAdded 36 = .ok (.aload_n 1, 1) := by decide +kernel
theorem dX2_readAdded_37 : decode cX2_readAdded 37 = .ok (.iconst 0, 1) := by decide +kernel
theorem dX2_readAdded_38 : decode cX2_readAdded 38 = .ok (.bipush 40, 2) := by decide +kernel
theorem dX2_readAdded_40 : decode cX2_readAdded 40 = .ok (.invokevirtual 120, 3) := by decide +kernel
theorem dX2_readAdded_43 : decode cX2_readAdded 43 = .ok (.ifCond .eq 16, 3) := by decide +kernel
theorem dX2_readAdded_46 : decode cX2_readAdded 46 = .ok (.aload_n 0, 1) := by decide +kernel
theorem dX2_readAdded_47 : decode cX2_readAdded 47 = .ok (.getfield 12, 3) := by decide +kernel
theorem dX2_readAdded_50 : decode cX2_readAdded 50 = .ok (.getfield 128, 3) := by decide +kernel
theorem dX2_readAdded_53 : decode cX2_readAdded 53 = .ok (.iload_n 2, 1) := by decide +kernel
theorem dX2_readAdded_54 : decode cX2_readAdded 54 = .ok (.aload_n 1, 1) := by decide +kernel
theorem dX2_readAdded_55 : decode cX2_readAdded 55 = .ok (.getfield 113, 3) := by decide +kernel
theorem dX2_readAdded_58 : decode cX2_readAdded 58 = .ok (.iastore, 1) := by decide +kernel
theorem dX2_readAdded_59 : decode cX2_readAdded 59 = .ok (.return_, 1) := by decide +kernel
theorem dX2_readAsked_0 : decode cX2_readAsked 0 = .ok (.aload_n 0, 1) := by decide +kernel
theorem dX2_readAsked_1 : decode cX2_readAsked 1 = .ok (.getfield 34, 3) := by decide +kernel
theorem dX2_readAsked_4 : decode cX2_readAsked 4 = .ok (.ifCond .eq 14, 3) := by decide +kernel
theorem dX2_readAsked_7 : decode cX2_readAsked 7 = .ok (.aload_n 0, 1) := by decide +kernel
theorem dX2_readAsked_8 : decode cX2_readAsked 8 = .ok (.iconst 4, 1) := by decide +kernel
theorem dX2_readAsked_9 : decode cX2_readAsked 9 = .ok (.aload_n 1, 1) := by decide +kernel
theorem dX2_readAsked_10 : decode cX2_readAsked 10 = .ok (.getfield 102, 3) := by decide +kernel
theorem dX2_readAsked_13 : decode cX2_readAsked 13 = .ok (.invokevirtual 60, 3) := by decide +kernel
theorem dX2_readAsked_16 : decode cX2_readAsked 16 = .ok (.pop, 1) := by decide +kernel
theorem dX2_readAsked_17 : decode cX2_readAsked 17 = .ok (.return_, 1) := by decide +kernel
theorem dX2_readAsked_18 : decode cX2_readAsked 18 = .ok (.aload_n 0, 1) := by decide +kernel
theorem dX2_readAsked_19 : decode cX2_readAsked 19 = .ok (.iconst 1, 1) := by decide +kernel
theorem dX2_readAsked_20 : decode cX2_readAsked 20 = .ok (.putfield 34, 3) := by decide +kernel
theorem dX2_readAsked_23 : decode cX2_readAsked 23 = .ok (.aload_n 0, 1) := by decide +kernel
theorem dX2_readAsked_24 : decode cX2_readAsked 24 = .ok (.aload_n 1, 1) := by decide +kernel
theorem dX2_readAsked_25 : decode cX2_readAsked 25 = .ok (.iconst 3, 1) := by decide +kernel
theorem dX2_readAsked_26 : decode cX2_readAsked 26 = .ok (.bipush 12, 2) := by decide +kernel
theorem dX2_readAsked_28 : decode cX2_readAsked 28 = .ok (.invokevirtual 120, 3) := by decide +kernel
theorem dX2_readAsked_31 : decode cX2_readAsked 31 = .ok (.ifCond .ne 4, 3) := by decide +kernel
theorem dX2_readAsked_34 : decode cX2_readAsked 34 = .ok (.return_, 1) := by decide +kernel
theorem dX2_readAsked_35 : decode cX2_readAsked 35 = .ok (.aload_n 0, 1) := by decide +kernel
theorem dX2_readAsked_36 : decode cX2_readAsked 36 = .ok (.getfield 12, 3) := by decide +kernel
theorem dX2_readAsked_39 : decode cX2_readAsked 39 = .ok (.aload_n 1, 1) := by decide +kernel
theorem dX2_readAsked_40 : decode cX2_readAsked 40 = .ok (.getfield 113, 3) := by decide +kernel
theorem dX2_readAsked_43 : decode cX2_readAsked 43 = .ok (.putfield 131, 3) := by decide +kernel
theorem dX2_readAsked_46 : decode cX2_readAsked 46 = .ok (.aload_n 0, 1) := by decide +kernel
theorem dX2_readAsked_47 : decode cX2_readAsked 47 = .ok (.aload_n 1, 1) := by decide +kernel
theorem dX2_readAsked_48 : decode cX2_readAsked 48 = .ok (.iconst 0, 1) := by decide +kernel
theorem dX2_readAsked_49 : decode cX2_readAsked 49 = .ok (.bipush 10, 2) := by decide +kernel
theorem dX2_readAsked_51 : decode cX2_readAsked 51 = .ok (.invokevirtual 120, 3) := by decide +kernel
theorem dX2_readAsked_54 : decode cX2_readAsked 54 = .ok (.ifCond .eq 14, 3) := by decide +kernel
theorem dX2_readAsked_57 : decode cX2_readAsked 57 = .ok (.aload_n 0, 1) := by decide +kernel
theorem dX2_readAsked_58 : decode cX2_readAsked 58 = .ok (.getfield 12, 3) := by decide +kernel
theorem dX2_readAsked_61 : decode cX2_readAsked 61 = .ok (.aload_n 1, 1) := by decide +kernel
theorem dX2_readAsked_62 : decode cX2_readAsked 62 = .ok (.getfield 113, 3) := by decide +kernel
theorem dX2_readAsked_65 : decode cX2_readAsked 65 = .ok (.putfield 134, 3) := by decide +kernel
theorem dX2_readAsked_68 : decode cX2_readAsked 68 = .ok (.return_, 1) := by decide +kernel
theorem dX2_tellOnce_0 : decode cX2_tellOnce 0 = .ok (.iload_n 2, 1) := by decide +kernel
theorem dX2_tellOnce_1 : decode cX2_tellOnce 1 = .ok (.aload_n 1, 1) := by decide +kernel
theorem dX2_tellOnce_2 : decode cX2_tellOnce 2 = .ok (.getfield 113, 3) := by decide +kernel
theorem dX2_tellOnce_5 : decode cX2_tellOnce 5 = .ok (.invokestatic 137, 3) := by decide +kernel
theorem dX2_tellOnce_8 : decode cX2_tellOnce 8 = .ok (.ifCond .eq 13, 3) := by decide +kernel
theorem dX2_tellOnce_11 : decode cX2_tellOnce 11 = .ok (.aload_n 0, 1) := by decide +kernel
theorem dX2_tellOnce_12 : decode cX2_tellOnce 12 = .ok (.iconst 4, 1) := by decide +kernel
theorem dX2_tellOnce_13 : decode cX2_tellOnce 13 = .ok (.aload_n 1, 1) := by decide +kernel
theorem dX2_tellOnce_14 : decode cX2_tellOnce 14 = .ok (.getfield 102, 3) := by decide +kernel
theorem dX2_tellOnce_17 : decode cX2_tellOnce 17 = .ok (.invokevirtual 60, 3) := by decide +kernel
theorem dX2_tellOnce_20 : decode cX2_tellOnce 20 = .ok (.pop, 1) := by decide +kernel
theorem dX2_tellOnce_21 : decode cX2_tellOnce 21 = .ok (.iload_n 2, 1) := by decide +kernel
theorem dX2_tellOnce_22 : decode cX2_tellOnce 22 = .ok (.iconst 1, 1) := by decide +kernel
theorem dX2_tellOnce_23 : decode cX2_tellOnce 23 = .ok (.aload_n 1, 1) := by decide +kernel
theorem dX2_tellOnce_24 : decode cX2_tellOnce 24 = .ok (.getfield 113, 3) := by decide +kernel
theorem dX2_tellOnce_27 : decode cX2_tellOnce 27 = .ok (.ishl, 1) := by decide +kernel
theorem dX2_tellOnce_28 : decode cX2_tellOnce 28 = .ok (.ior, 1) := by decide +kernel
theorem dX2_tellOnce_29 : decode cX2_tellOnce 29 = .ok (.ireturn, 1) := by decide +kernel
theorem dX2_readNumber_0 : decode cX2_readNumber 0 = .ok (.aload_n 0, 1) := by decide +kernel
theorem dX2_readNumber_1 : decode cX2_readNumber 1 = .ok (.aload_n 1, 1) := by decide +kernel
theorem dX2_readNumber_2 : decode cX2_readNumber 2 = .ok (.invokevirtual 42, 3) := by decide +kernel
theorem dX2_readNumber_5 : decode cX2_readNumber 5 = .ok (.ifCond .ne 5, 3) := by decide +kernel
theorem dX2_readNumber_8 : decode cX2_readNumber 8 = .ok (.iconst 0, 1) := by decide +kernel
theorem dX2_readNumber_9 : decode cX2_readNumber 9 = .ok (.ireturn, 1) := by decide +kernel
theorem dX2_readNumber_10 : decode cX2_readNumber 10 = .ok (.aload_n 1, 1) := by decide +kernel
theorem dX2_readNumber_11 : decode cX2_readNumber 11 = .ok (.getfield 46, 3) := by decide +kernel
theorem dX2_readNumber_14 : decode cX2_readNumber 14 = .ok (.iconst 3, 1) := by decide +kernel
theorem dX2_readNumber_15 : decode cX2_readNumber 15 = .ok (.if_icmp .eq 13, 3) := by decide +kernel
theorem dX2_readNumber_18 : decode cX2_readNumber 18 = .ok (.aload_n 0, 1) := by decide +kernel
theorem dX2_readNumber_19 : decode cX2_readNumber 19 = .ok (.iconst 2, 1) := by decide +kernel
theorem dX2_readNumber_20 : decode cX2_readNumber 20 = .ok (.aload_n 1, 1) := by decide +kernel
theorem dX2_readNumber_21 : decode cX2_readNumber 21 = .ok (.getfield 102, 3) := by decide +kernel
theorem dX2_readNumber_24 : decode cX2_readNumber 24 = .ok (.invokevirtual 60, 3) := by decide +kernel
theorem dX2_readNumber_27 : decode cX2_readNumber 27 = .ok (.ireturn, 1) := by decide +kernel
theorem dX2_readNumber_28 : decode cX2_readNumber 28 = .ok (.aload_n 1, 1) := by decide +kernel
theorem dX2_readNumber_29 : decode cX2_readNumber 29 = .ok (.getfield 113, 3) := by decide +kernel
theorem dX2_readNumber_32 : decode cX2_readNumber 32 = .ok (.iload_n 2, 1) := by decide +kernel
theorem dX2_readNumber_33 : decode cX2_readNumber 33 = .ok (.iload_n 3, 1) := by decide +kernel
theorem dX2_readNumber_34 : decode cX2_readNumber 34 = .ok (.invokestatic 140, 3) := by decide +kernel
theorem dX2_readNumber_37 : decode cX2_readNumber 37 = .ok (.ifCond .ne 15, 3) := by decide +kernel
theorem dX2_readNumber_40 : decode cX2_readNumber 40 = .ok (.aload_n 0, 1) := by decide +kernel
theorem dX2_readNumber_41 : decode cX2_readNumber 41 = .ok (.iconst 3, 1) := by decide +kernel
theorem dX2_readNumber_42 : decode cX2_readNumber 42 = .ok (.aload_n 1, 1) := by decide +kernel
theorem dX2_readNumber_43 : decode cX2_readNumber 43 = .ok (.getfield 102, 3) := by decide +kernel
theorem dX2_readNumber_46 : decode cX2_readNumber 46 = .ok (.invokevirtual 60, 3) := by decide +kernel
theorem dX2_readNumber_49 : decode cX2_readNumber 49 = .ok (.ifCond .eq 7, 3) := by decide +kernel
theorem dX2_readNumber_52 : decode cX2_readNumber 52 = .ok (.iconst 1, 1) := by decide +kernel
theorem dX2_readNumber_53 : decode cX2_readNumber 53 = .ok (.goto 4, 3) := by decide +kernel
theorem dX2_readNumber_56 : decode cX2_readNumber 56 = .ok (.iconst 0, 1) := by decide +kernel
theorem dX2_readNumber_57 : decode cX2_readNumber 57 = .ok (.ireturn, 1) := by decide +kernel
theorem dX2_readMetal_0 : decode cX2_readMetal 0 = .ok (.aload_n 0, 1) := by decide +kernel
theorem dX2_readMetal_1 : decode cX2_readMetal 1 = .ok (.aload_n 1, 1) := by decide +kernel
theorem dX2_readMetal_2 : decode cX2_readMetal 2 = .ok (.invokevirtual 42, 3) := by decide +kernel
theorem dX2_readMetal_5 : decode cX2_readMetal 5 = .ok (.ifCond .ne 5, 3) := by decide +kernel
theorem dX2_readMetal_8 : decode cX2_readMetal 8 = .ok (.iconst 0, 1) := by decide +kernel
theorem dX2_readMetal_9 : decode cX2_readMetal 9 = .ok (.ireturn, 1) := by decide +kernel
theorem dX2_readMetal_10 : decode cX2_readMetal 10 = .ok (.aload_n 1, 1) := by decide +kernel
theorem dX2_readMetal_11 : decode cX2_readMetal 11 = .ok (.invokestatic 144, 3) := by decide +kernel
theorem dX2_readMetal_14 : decode cX2_readMetal 14 = .ok (.istore_n 3, 1) := by decide +kernel
theorem dX2_readMetal_15 : decode cX2_readMetal 15 = .ok (.iload_n 3, 1) := by decide +kernel
theorem dX2_readMetal_16 : decode cX2_readMetal 16 = .ok (.iconst 0, 1) := by decide +kernel
theorem dX2_readMetal_17 : decode cX2_readMetal 17 = .ok (.iload_n 2, 1) := by decide +kernel
theorem dX2_readMetal_18 : decode cX2_readMetal 18 = .ok (.invokestatic 140, 3) := by decide +kernel
theorem dX2_readMetal_21 : decode cX2_readMetal 21 = .ok (.ifCond .ne 13, 3) := by decide +kernel
theorem dX2_readMetal_24 : decode cX2_readMetal 24 = .ok (.aload_n 0, 1) := by decide +kernel
theorem dX2_readMetal_25 : decode cX2_readMetal 25 = .ok (.iconst 2, 1) := by decide +kernel
theorem dX2_readMetal_26 : decode cX2_readMetal 26 = .ok (.aload_n 1, 1) := by decide +kernel
theorem dX2_readMetal_27 : decode cX2_readMetal 27 = .ok (.getfield 102, 3) := by decide +kernel
theorem dX2_readMetal_30 : decode cX2_readMetal 30 = .ok (.invokevirtual 60, 3) := by decide +kernel
theorem dX2_readMetal_33 : decode cX2_readMetal 33 = .ok (.ireturn, 1) := by decide +kernel
theorem dX2_readMetal_34 : decode cX2_readMetal 34 = .ok (.aload_n 1, 1) := by decide +kernel
theorem dX2_readMetal_35 : decode cX2_readMetal 35 = .ok (.iload_n 3, 1) := by decide +kernel
theorem dX2_readMetal_36 : decode cX2_readMetal 36 = .ok (.putfield 113, 3) := by decide +kernel
theorem dX2_readMetal_39 : decode cX2_readMetal 39 = .ok (.iconst 1, 1) := by decide +kernel
theorem dX2_readMetal_40 : decode cX2_readMetal 40 = .ok (.ireturn, 1) := by decide +kernel
theorem dX2_readOn_0 : decode cX2_readOn 0 = .ok (.aload_n 0, 1) := by decide +kernel
theorem dX2_readOn_1 : decode cX2_readOn 1 = .ok (.getfield 18, 3) := by decide +kernel
theorem dX2_readOn_4 : decode cX2_readOn 4 = .ok (.ifCond .eq 5, 3) := by decide +kernel
theorem dX2_readOn_7 : decode cX2_readOn 7 = .ok (.iconst 0, 1) := by decide +kernel
theorem dX2_readOn_8 : decode cX2_readOn 8 = .ok (.ireturn, 1) := by decide +kernel
theorem dX2_readOn_9 : decode cX2_readOn 9 = .ok (.aload_n 1, 1) := by decide +kernel
theorem dX2_readOn_10 : decode cX2_readOn 10 = .ok (.invokevirtual 147, 3) := by decide +kernel
theorem dX2_readOn_13 : decode cX2_readOn 13 = .ok (.aload_n 1, 1) := by decide +kernel
theorem dX2_readOn_14 : decode cX2_readOn 14 = .ok (.getfield 46, 3) := by decide +kernel
theorem dX2_readOn_17 : decode cX2_readOn 17 = .ok (.ifCond .ne 15, 3) := by decide +kernel
theorem dX2_readOn_20 : decode cX2_readOn 20 = .ok (.aload_n 0, 1) := by decide +kernel
theorem dX2_readOn_21 : decode cX2_readOn 21 = .ok (.iconst 1, 1) := by decide +kernel
theorem dX2_readOn_22 : decode cX2_readOn 22 = .ok (.aload_n 1, 1) := by decide +kernel
theorem dX2_readOn_23 : decode cX2_readOn 23 = .ok (.getfield 102, 3) := by decide +kernel
theorem dX2_readOn_26 : decode cX2_readOn 26 = .ok (.invokevirtual 60, 3) := by decide +kernel
theorem dX2_readOn_29 : decode cX2_readOn 29 = .ok (.ifCond .eq 7, 3) := by decide +kernel
theorem dX2_readOn_32 : decode cX2_readOn 32 = .ok (.iconst 1, 1) := by decide +kernel
theorem dX2_readOn_33 : decode cX2_readOn 33 = .ok (.goto 4, 3) := by decide +kernel
theorem dX2_readOn_36 : decode cX2_readOn 36 = .ok (.iconst 0, 1) := by decide +kernel
theorem dX2_readOn_37 : decode cX2_readOn 37 = .ok (.ireturn, 1) := by decide +kernel
theorem dX2_refuse_0 : decode cX2_refuse 0 = .ok (.aload_n 0, 1) := by decide +kernel
theorem dX2_refuse_1 : decode cX2_refuse 1 = .ok (.iload_n 1, 1) := by decide +kernel
theorem dX2_refuse_2 : decode cX2_refuse 2 = .ok (.putfield 18, 3) := by decide +kernel
theorem dX2_refuse_5 : decode cX2_refuse 5 = .ok (.aload_n 0, 1) := by decide +kernel
theorem dX2_refuse_6 : decode cX2_refuse 6 = .ok (.iload_n 2, 1) := by decide +kernel
theorem dX2_refuse_7 : decode cX2_refuse 7 = .ok (.putfield 22, 3) := by decide +kernel
theorem dX2_refuse_10 : decode cX2_refuse 10 = .ok (.iconst 0, 1) := by decide +kernel
theorem dX2_refuse_11 : decode cX2_refuse 11 = .ok (.ireturn, 1) := by decide +kernel
theorem dX2_kindOf_0 : decode cX2_kindOf 0 = .ok (.aload_n 0, 1) := by decide +kernel
theorem dX2_kindOf_1 : decode cX2_kindOf 1 = .ok (.ldc 150, 2) := by decide +kernel
theorem dX2_kindOf_3 : decode cX2_kindOf 3 = .ok (.invokevirtual 80, 3) := by decide +kernel
theorem dX2_kindOf_6 : decode cX2_kindOf 6 = .ok (.ifCond .eq 5, 3) := by decide +kernel
theorem dX2_kindOf_9 : decode cX2_kindOf 9 = .ok (.iconst 0, 1) := by decide +kernel
theorem dX2_kindOf_10 : decode cX2_kindOf 10 = .ok (.ireturn, 1) := by decide +kernel
theorem dX2_kindOf_11 : decode cX2_kindOf 11 = .ok (.aload_n 0, 1) := by decide +kernel
theorem dX2_kindOf_12 : decode cX2_kindOf 12 = .ok (.ldc 152, 2) := by decide +kernel
theorem dX2_kindOf_14 : decode cX2_kindOf 14 = .ok (.invokevirtual 80, 3) := by decide +kernel
theorem dX2_kindOf_17 : decode cX2_kindOf 17 = .ok (.ifCond .eq 5, 3) := by decide +kernel
theorem dX2_kindOf_20 : decode cX2_kindOf 20 = .ok (.iconst 1, 1) := by decide +kernel
theorem dX2_kindOf_21 : decode cX2_kindOf 21 = .ok (.ireturn, 1) := by decide +kernel
theorem dX2_kindOf_22 : decode cX2_kindOf 22 = .ok (.aload_n 0, 1) := by decide +kernel
theorem dX2_kindOf_23 : decode cX2_kindOf 23 = .ok (.ldc 154, 2) := by decide +kernel
theorem dX2_kindOf_25 : decode cX2_kindOf 25 = .ok (.invokevirtual 80, 3) := by decide +kernel
theorem dX2_kindOf_28 : decode cX2_kindOf 28 = .ok (.ifCond .eq 5, 3) := by decide +kernel
theorem dX2_kindOf_31 : decode cX2_kindOf 31 = .ok (.iconst 2, 1) := by decide +kernel
theorem dX2_kindOf_32 : decode cX2_kindOf 32 = .ok (.ireturn, 1) := by decide +kernel
theorem dX2_kindOf_33 : decode cX2_kindOf 33 = .ok (.aload_n 0, 1) := by decide +kernel
theorem dX2_kindOf_34 : decode cX2_kindOf 34 = .ok (.ldc 156, 2) := by decide +kernel
theorem dX2_kindOf_36 : decode cX2_kindOf 36 = .ok (.invokevirtual 80, 3) := by decide +kernel
theorem dX2_kindOf_39 : decode cX2_kindOf 39 = .ok (.ifCond .eq 7, 3) := by decide +kernel
theorem dX2_kindOf_42 : decode cX2_kindOf 42 = .ok (.iconst 3, 1) := by decide +kernel
theorem dX2_kindOf_43 : decode cX2_kindOf 43 = .ok (.goto 5, 3) := by decide +kernel
theorem dX2_kindOf_46 : decode cX2_kindOf 46 = .ok (.bipush (-4), 2) := by decide +kernel
theorem dX2_kindOf_48 : decode cX2_kindOf 48 = .ok (.ireturn, 1) := by decide +kernel
theorem dX2_metalOf_0 : decode cX2_metalOf 0 = .ok (.aload_n 0, 1) := by decide +kernel
theorem dX2_metalOf_1 : decode cX2_metalOf 1 = .ok (.ldc 158, 2) := by decide +kernel
theorem dX2_metalOf_3 : decode cX2_metalOf 3 = .ok (.invokevirtual 80, 3) := by decide +kernel
theorem dX2_metalOf_6 : decode cX2_metalOf 6 = .ok (.ifCond .eq 5, 3) := by decide +kernel
theorem dX2_metalOf_9 : decode cX2_metalOf 9 = .ok (.iconst 0, 1) := by decide +kernel
theorem dX2_metalOf_10 : decode cX2_metalOf 10 = .ok (.ireturn, 1) := by decide +kernel
theorem dX2_metalOf_11 : decode cX2_metalOf 11 = .ok (.aload_n 0, 1) := by decide +kernel
theorem dX2_metalOf_12 : decode cX2_metalOf 12 = .ok (.ldc 160, 2) := by decide +kernel
theorem dX2_metalOf_14 : decode cX2_metalOf 14 = .ok (.invokevirtual 80, 3) := by decide +kernel
theorem dX2_metalOf_17 : decode cX2_metalOf 17 = .ok (.ifCond .eq 5, 3) := by decide +kernel
theorem dX2_metalOf_20 : decode cX2_metalOf 20 = .ok (.iconst 1, 1) := by decide +kernel
theorem dX2_metalOf_21 : decode cX2_metalOf 21 = .ok (.ireturn, 1) := by decide +kernel
theorem dX2_metalOf_22 : decode cX2_metalOf 22 = .ok (.aload_n 0, 1) := by decide +kernel
theorem dX2_metalOf_23 : decode cX2_metalOf 23 = .ok (.ldc 162, 2) := by decide +kernel
theorem dX2_metalOf_25 : decode cX2_metalOf 25 = .ok (.invokevirtual 80, 3) := by decide +kernel
theorem dX2_metalOf_28 : decode cX2_metalOf 28 = .ok (.ifCond .eq 5, 3) := by decide +kernel
theorem dX2_metalOf_31 : decode cX2_metalOf 31 = .ok (.iconst 2, 1) := by decide +kernel
theorem dX2_metalOf_32 : decode cX2_metalOf 32 = .ok (.ireturn, 1) := by decide +kernel
theorem dX2_metalOf_33 : decode cX2_metalOf 33 = .ok (.aload_n 0, 1) := by decide +kernel
theorem dX2_metalOf_34 : decode cX2_metalOf 34 = .ok (.ldc 164, 2) := by decide +kernel
theorem dX2_metalOf_36 : decode cX2_metalOf 36 = .ok (.invokevirtual 80, 3) := by decide +kernel
theorem dX2_metalOf_39 : decode cX2_metalOf 39 = .ok (.ifCond .eq 7, 3) := by decide +kernel
theorem dX2_metalOf_42 : decode cX2_metalOf 42 = .ok (.iconst 3, 1) := by decide +kernel
theorem dX2_metalOf_43 : decode cX2_metalOf 43 = .ok (.goto 5, 3) := by decide +kernel
theorem dX2_metalOf_46 : decode cX2_metalOf 46 = .ok (.bipush (-4), 2) := by decide +kernel
theorem dX2_metalOf_48 : decode cX2_metalOf 48 = .ok (.ireturn, 1) := by decide +kernel
theorem dX3_init_0 : decode cX3_init 0 = .ok (.aload_n 0, 1) := by decide +kernel
theorem dX3_init_1 : decode cX3_init 1 = .ok (.invokespecial 3, 3) := by decide +kernel
theorem dX3_init_4 : decode cX3_init 4 = .ok (.aload_n 0, 1) := by decide +kernel
theorem dX3_init_5 : decode cX3_init 5 = .ok (.bipush 40, 2) := by decide +kernel
theorem dX3_init_7 : decode cX3_init 7 = .ok (.newarray .int, 2) := by decide +kernel
theorem dX3_init_9 : decode cX3_init 9 = .ok (.putfield 9, 3) := by decide +kernel
theorem dX3_init_12 : decode cX3_init 12 = .ok (.aload_n 0, 1) := by decide +kernel
theorem dX3_init_13 : decode cX3_init 13 = .ok (.iconst (-1), 1) := by decide +kernel
theorem dX3_init_14 : decode cX3_init 14 = .ok (.putfield 15, 3) := by decide +kernel
theorem dX3_init_17 : decode cX3_init 17 = .ok (.aload_n 0, 1) := by decide +kernel
theorem dX3_init_18 : decode cX3_init 18 = .ok (.iconst 0, 1) := by decide +kernel
theorem dX3_init_19 : decode cX3_init 19 = .ok (.putfield 19, 3) := by decide +kernel
theorem dX3_init_22 : decode cX3_init 22 = .ok (.aload_n 0, 1) := by decide +kernel
theorem dX3_init_23 : decode cX3_init 23 = .ok (.iconst 0, 1) := by decide +kernel
theorem dX3_init_24 : decode cX3_init 24 = .ok (.putfield 22, 3) := by decide +kernel
theorem dX3_init_27 : decode cX3_init 27 = .ok (.return_, 1) := by decide +kernel
theorem dX3_renew_0 : decode cX3_renew 0 = .ok (.aload_n 0, 1) := by decide +kernel
theorem dX3_renew_1 : decode cX3_renew 1 = .ok (.getfield 9, 3) := by decide +kernel
theorem dX3_renew_4 : decode cX3_renew 4 = .ok (.iconst 0, 1) := by decide +kernel
theorem dX3_renew_5 : decode cX3_renew 5 = .ok (.invokestatic 25, 3) := by decide +kernel
theorem dX3_renew_8 : decode cX3_renew 8 = .ok (.aload_n 0, 1) := by decide +kernel
theorem dX3_renew_9 : decode cX3_renew 9 = .ok (.iload_n 1, 1) := by decide +kernel
theorem dX3_renew_10 : decode cX3_renew 10 = .ok (.putfield 22, 3) := by decide +kernel
theorem dX3_renew_13 : decode cX3_renew 13 = .ok (.aload_n 0, 1) := by decide +kernel
theorem dX3_renew_14 : decode cX3_renew 14 = .ok (.iload_n 2, 1) := by decide +kernel
theorem dX3_renew_15 : decode cX3_renew 15 = .ok (.putfield 15, 3) := by decide +kernel
theorem dX3_renew_18 : decode cX3_renew 18 = .ok (.return_, 1) := by decide +kernel
theorem dX3_faultAt_0 : decode cX3_faultAt 0 = .ok (.aload_n 0, 1) := by decide +kernel
theorem dX3_faultAt_1 : decode cX3_faultAt 1 = .ok (.getfield 15, 3) := by decide +kernel
theorem dX3_faultAt_4 : decode cX3_faultAt 4 = .ok (.iconst (-1), 1) := by decide +kernel
theorem dX3_faultAt_5 : decode cX3_faultAt 5 = .ok (.if_icmp .ne 5, 3) := by decide +kernel
theorem dX3_faultAt_8 : decode cX3_faultAt 8 = .ok (.iconst 1, 1) := by decide +kernel
theorem dX3_faultAt_9 : decode cX3_faultAt 9 = .ok (.ireturn, 1) := by decide +kernel
theorem dX3_faultAt_10 : decode cX3_faultAt 10 = .ok (.iload_n 1, 1) := by decide +kernel
theorem dX3_faultAt_11 : decode cX3_faultAt 11 = .ok (.ifCond .lt 11, 3) := by decide +kernel
theorem dX3_faultAt_14 : decode cX3_faultAt 14 = .ok (.iload_n 1, 1) := by decide +kernel
theorem dX3_faultAt_15 : decode cX3_faultAt 15 = .ok (.aload_n 0, 1) := by decide +kernel
theorem dX3_faultAt_16 : decode cX3_faultAt 16 = .ok (.getfield 15, 3) := by decide +kernel
theorem dX3_faultAt_19 : decode cX3_faultAt 19 = .ok (.if_icmp .lt 7, 3) := by decide +kernel
theorem dX3_faultAt_22 : decode cX3_faultAt 22 = .ok (.iconst 2, 1) := by decide +kernel
theorem dX3_faultAt_23 : decode cX3_faultAt 23 = .ok (.goto 4, 3) := by decide +kernel
theorem dX3_faultAt_26 : decode cX3_faultAt 26 = .ok (.iconst 0, 1) := by decide +kernel
theorem dX3_faultAt_27 : decode cX3_faultAt 27 = .ok (.ireturn, 1) := by decide +kernel
theorem dX3_pairFaultAt_0 : decode cX3_pairFaultAt 0 = .ok (.aload_n 0, 1) := by decide +kernel
theorem dX3_pairFaultAt_1 : decode cX3_pairFaultAt 1 = .ok (.getfield 15, 3) := by decide +kernel
theorem dX3_pairFaultAt_4 : decode cX3_pairFaultAt 4 = .ok (.iconst (-1), 1) := by decide +kernel
theorem dX3_pairFaultAt_5 : decode cX3_pairFaultAt 5 = .ok (.if_icmp .eq 13, 3) := by decide +kernel
theorem dX3_pairFaultAt_8 : decode cX3_pairFaultAt 8 = .ok (.aload_n 0, 1) := by decide +kernel
theorem dX3_pairFaultAt_9 : decode cX3_pairFaultAt 9 = .ok (.getfield 22, 3) := by decide +kernel
theorem dX3_pairFaultAt_12 : decode cX3_pairFaultAt 12 = .ok (.iload_n 1, 1) := by decide +kernel
theorem dX3_pairFaultAt_13 : decode cX3_pairFaultAt 13 = .ok (.if_icmp .eq 5, 3) := by decide +kernel
theorem dX3_pairFaultAt_16 : decode cX3_pairFaultAt 16 = .ok (.iconst 3, 1) := by decide +kernel
theorem dX3_pairFaultAt_17 : decode cX3_pairFaultAt 17 = .ok (.ireturn, 1) := by decide +kernel
theorem dX3_pairFaultAt_18 : decode cX3_pairFaultAt 18 = .ok (.aload_n 0, 1) := by decide +kernel
theorem dX3_pairFaultAt_19 : decode cX3_pairFaultAt 19 = .ok (.iload_n 2, 1) := by decide +kernel
theorem dX3_pairFaultAt_20 : decode cX3_pairFaultAt 20 = .ok (.invokevirtual 31, 3) := by decide +kernel
theorem dX3_pairFaultAt_23 : decode cX3_pairFaultAt 23 = .ok (.istore_n 3, 1) := by decide +kernel
theorem dX3_pairFaultAt_24 : decode cX3_pairFaultAt 24 = .ok (.iload_n 3, 1) := by decide +kernel
theorem dX3_pairFaultAt_25 : decode cX3_pairFaultAt 25 = .ok (.ifCond .eq 7, 3) := by decide +kernel
theorem dX3_pairFaultAt_28 : decode cX3_pairFaultAt 28 = .ok (.iload_n 3, 1) := by decide +kernel
theorem dX3_pairFaultAt_29 : decode cX3_pairFaultAt 29 = .ok (.goto 10, 3) := by decide +kernel
theorem dX3_pairFaultAt_32 : decode cX3_pairFaultAt 32 = .ok (.aload_n 0, 1) := by decide +kernel
theorem dX3_pairFaultAt_33 : decode cX3_pairFaultAt 33 = .ok (.iload_n 2, 1) := by decide +kernel
theorem dX3_pairFaultAt_34 : decode cX3_pairFaultAt 34 = .ok (.iconst 1, 1) := by decide +kernel
theorem dX3_pairFaultAt_35 : decode cX3_pairFaultAt 35 = .ok (.iadd, 1) := by decide +kernel
theorem dX3_pairFaultAt_36 : decode cX3_pairFaultAt 36 = .ok (.invokevirtual 31, 3) := by decide +kernel
theorem dX3_pairFaultAt_39 : decode cX3_pairFaultAt 39 = .ok (.ireturn, 1) := by decide +kernel
theorem dX3_wholePairs_0 : decode cX3_wholePairs 0 = .ok (.aload_n 0, 1) := by decide +kernel
theorem dX3_wholePairs_1 : decode cX3_wholePairs 1 = .ok (.iconst 0, 1) := by decide +kernel
theorem dX3_wholePairs_2 : decode cX3_wholePairs 2 = .ok (.putfield 19, 3) := by decide +kernel
theorem dX3_wholePairs_5 : decode cX3_wholePairs 5 = .ok (.iconst 0, 1) := by decide +kernel
theorem dX3_wholePairs_6 : decode cX3_wholePairs 6 = .ok (.istore 4, 2) := by decide +kernel
theorem dX3_wholePairs_8 : decode cX3_wholePairs 8 = .ok (.iload 4, 2) := by decide +kernel
theorem dX3_wholePairs_10 : decode cX3_wholePairs 10 = .ok (.iload_n 3, 1) := by decide +kernel
theorem dX3_wholePairs_11 : decode cX3_wholePairs 11 = .ok (.if_icmp .ge 34, 3) := by decide +kernel
theorem dX3_wholePairs_14 : decode cX3_wholePairs 14 = .ok (.aload_n 0, 1) := by decide +kernel
theorem dX3_wholePairs_15 : decode cX3_wholePairs 15 = .ok (.aload_n 0, 1) := by decide +kernel
theorem dX3_wholePairs_16 : decode cX3_wholePairs 16 = .ok (.iload_n 1, 1) := by decide +kernel
theorem dX3_wholePairs_17 : decode cX3_wholePairs 17 = .ok (.iload_n 2, 1) := by decide +kernel
theorem dX3_wholePairs_18 : decode cX3_wholePairs 18 = .ok (.iconst 2, 1) := by decide +kernel
theorem dX3_wholePairs_19 : decode cX3_wholePairs 19 = .ok (.iload 4, 2) := by decide +kernel
theorem dX3_wholePairs_21 : decode cX3_wholePairs 21 = .ok (.imul, 1) := by decide +kernel
theorem dX3_wholePairs_22 : decode cX3_wholePairs 22 = .ok (.iadd, 1) := by decide +kernel
theorem dX3_wholePairs_23 : decode cX3_wholePairs 23 = .ok (.invokevirtual 35, 3) := by decide +kernel
theorem dX3_wholePairs_26 : decode cX3_wholePairs 26 = .ok (.putfield 19, 3) := by decide +kernel
theorem dX3_wholePairs_29 : decode cX3_wholePairs 29 = .ok (.aload_n 0, 1) := by decide +kernel
theorem dX3_wholePairs_30 : decode cX3_wholePairs 30 = .ok (.getfield 19, 3) := by decide +kernel
theorem dX3_wholePairs_33 : decode cX3_wholePairs 33 = .ok (.ifCond .eq 6, 3) := by decide +kernel
theorem dX3_wholePairs_36 : decode cX3_wholePairs 36 = .ok (.iload 4, 2) := by decide +kernel
theorem dX3_wholePairs_38 : decode cX3_wholePairs 38 = .ok (.ireturn, 1) := by decide +kernel
theorem dX3_wholePairs_39 : decode cX3_wholePairs 39 = .ok (.iinc 4 1, 3) := by decide +kernel
theorem dX3_wholePairs_42 : decode cX3_wholePairs 42 = .ok (.goto (-34), 3) := by decide +kernel
theorem dX3_wholePairs_45 : decode cX3_wholePairs 45 = .ok (.iload_n 3, 1) := by decide +kernel
theorem dX3_wholePairs_46 : decode cX3_wholePairs 46 = .ok (.ireturn, 1) := by decide +kernel
theorem dX3_put_0 : decode cX3_put 0 = .ok (.aload_n 0, 1) := by decide +kernel
theorem dX3_put_1 : decode cX3_put 1 = .ok (.getfield 22, 3) := by decide +kernel
theorem dX3_put_4 : decode cX3_put 4 = .ok (.ifCond .ne 14, 3) := by decide +kernel
theorem dX3_put_7 : decode cX3_put 7 = .ok (.aload_n 0, 1) := by decide +kernel
theorem dX3_put_8 : decode cX3_put 8 = .ok (.getfield 9, 3) := by decide +kernel
theorem dX3_put_11 : decode cX3_put 11 = .ok (.iload_n 1, 1) := by decide +kernel
theorem dX3_put_12 : decode cX3_put 12 = .ok (.iload_n 2, 1) := by decide +kernel
theorem dX3_put_13 : decode cX3_put 13 = .ok (.i2b, 1) := by decide +kernel
theorem dX3_put_14 : decode cX3_put 14 = .ok (.iastore, 1) := by decide +kernel
theorem dX3_put_15 : decode cX3_put 15 = .ok (.goto 29, 3) := by decide +kernel
theorem dX3_put_18 : decode cX3_put 18 = .ok (.aload_n 0, 1) := by decide +kernel
theorem dX3_put_19 : decode cX3_put 19 = .ok (.getfield 22, 3) := by decide +kernel
theorem dX3_put_22 : decode cX3_put 22 = .ok (.iconst 1, 1) := by decide +kernel
theorem dX3_put_23 : decode cX3_put 23 = .ok (.if_icmp .ne 14, 3) := by decide +kernel
theorem dX3_put_26 : decode cX3_put 26 = .ok (.aload_n 0, 1) := by decide +kernel
theorem dX3_put_27 : decode cX3_put 27 = .ok (.getfield 9, 3) := by decide +kernel
theorem dX3_put_30 : decode cX3_put 30 = .ok (.iload_n 1, 1) := by decide +kernel
theorem dX3_put_31 : decode cX3_put 31 = .ok (.iload_n 2, 1) := by decide +kernel
theorem dX3_put_32 : decode cX3_put 32 = .ok (.i2s, 1) := by decide +kernel
theorem dX3_put_33 : decode cX3_put 33 = .ok (.iastore, 1) := by decide +kernel
theorem dX3_put_34 : decode cX3_put 34 = .ok (.goto 10, 3) := by decide +kernel
theorem dX3_put_37 : decode cX3_put 37 = .ok (.aload_n 0, 1) := by decide +kernel
theorem dX3_put_38 : decode cX3_put 38 = .ok (.getfield 9, 3) := by decide +kernel
theorem dX3_put_41 : decode cX3_put 41 = .ok (.iload_n 1, 1) := by decide +kernel
theorem dX3_put_42 : decode cX3_put 42 = .ok (.iload_n 2, 1) := by decide +kernel
theorem dX3_put_43 : decode cX3_put 43 = .ok (.iastore, 1) := by decide +kernel
theorem dX3_put_44 : decode cX3_put 44 = .ok (.return_, 1) := by decide +kernel
theorem dX4_init_0 : decode cX4_init 0 = .ok (.aload_n 0, 1) := by decide +kernel
theorem dX4_init_1 : decode cX4_init 1 = .ok (.invokespecial 3, 3) := by decide +kernel
theorem dX4_init_4 : decode cX4_init 4 = .ok (.aload_n 0, 1) := by decide +kernel
theorem dX4_init_5 : decode cX4_init 5 = .ok (.sipush 160, 3) := by decide +kernel
theorem dX4_init_8 : decode cX4_init 8 = .ok (.newarray .int, 2) := by decide +kernel
theorem dX4_init_10 : decode cX4_init 10 = .ok (.putfield 9, 3) := by decide +kernel
theorem dX4_init_13 : decode cX4_init 13 = .ok (.aload_n 0, 1) := by decide +kernel
theorem dX4_init_14 : decode cX4_init 14 = .ok (.iconst 0, 1) := by decide +kernel
theorem dX4_init_15 : decode cX4_init 15 = .ok (.putfield 15, 3) := by decide +kernel
theorem dX4_init_18 : decode cX4_init 18 = .ok (.aload_n 0, 1) := by decide +kernel
theorem dX4_init_19 : decode cX4_init 19 = .ok (.iconst 0, 1) := by decide +kernel
theorem dX4_init_20 : decode cX4_init 20 = .ok (.putfield 19, 3) := by decide +kernel
theorem dX4_init_23 : decode cX4_init 23 = .ok (.aload_n 0, 1) := by decide +kernel
theorem dX4_init_24 : decode cX4_init 24 = .ok (.iconst 1, 1) := by decide +kernel
theorem dX4_init_25 : decode cX4_init 25 = .ok (.putfield 22, 3) := by decide +kernel
theorem dX4_init_28 : decode cX4_init 28 = .ok (.aload_n 0, 1) := by decide +kernel
theorem dX4_init_29 : decode cX4_init 29 = .ok (.iconst 0, 1) := by decide +kernel
theorem dX4_init_30 : decode cX4_init 30 = .ok (.putfield 25, 3) := by decide +kernel
theorem dX4_init_33 : decode cX4_init 33 = .ok (.aload_n 0, 1) := by decide +kernel
theorem dX4_init_34 : decode cX4_init 34 = .ok (.iconst 0, 1) := by decide +kernel
theorem dX4_init_35 : decode cX4_init 35 = .ok (.putfield 28, 3) := by decide +kernel
theorem dX4_init_38 : decode cX4_init 38 = .ok (.return_, 1) := by decide +kernel
theorem dX4_rewind_0 : decode cX4_rewind 0 = .ok (.aload_n 0, 1) := by decide +kernel
theorem dX4_rewind_1 : decode cX4_rewind 1 = .ok (.iconst 0, 1) := by decide +kernel
theorem dX4_rewind_2 : decode cX4_rewind 2 = .ok (.putfield 19, 3) := by decide +kernel
theorem dX4_rewind_5 : decode cX4_rewind 5 = .ok (.return_, 1) := by decide +kernel
theorem dX4_readToken_0 : decode cX4_readToken 0 = .ok (.aload_n 0, 1) := by decide +kernel
theorem dX4_readToken_1 : decode cX4_readToken 1 = .ok (.bipush 32, 2) := by decide +kernel
theorem dX4_readToken_3 : decode cX4_readToken 3 = .ok (.bipush 32, 2) := by decide +kernel
theorem dX4_readToken_5 : decode cX4_readToken 5 = .ok (.invokevirtual 31, 3) := by decide +kernel
theorem dX4_readToken_8 : decode cX4_readToken 8 = .ok (.pop, 1) := by decide +kernel
theorem dX4_readToken_9 : decode cX4_readToken 9 = .ok (.aload_n 0, 1) := by decide +kernel
theorem dX4_readToken_10 : decode cX4_readToken 10 = .ok (.aload_n 0, 1) := by decide +kernel
theorem dX4_readToken_11 : decode cX4_readToken 11 = .ok (.getfield 19, 3) := by decide +kernel
theorem dX4_readToken_14 : decode cX4_readToken 14 = .ok (.putfield 25, 3) := by decide +kernel
theorem dX4_readToken_17 : decode cX4_readToken 17 = .ok (.aload_n 0, 1) := by decide +kernel
theorem dX4_readToken_18 : decode cX4_readToken 18 = .ok (.getfield 19, 3) := by decide +kernel
theorem dX4_readToken_21 : decode cX4_readToken 21 = .ok (.aload_n 0, 1) := by decide +kernel
theorem dX4_readToken_22 : decode cX4_readToken 22 = .ok (.getfield 15, 3) := by decide +kernel
theorem dX4_readToken_25 : decode cX4_readToken 25 = .ok (.if_icmp .lt 11, 3) := by decide +kernel
theorem dX4_readToken_28 : decode cX4_readToken 28 = .ok (.aload_n 0, 1) := by decide +kernel
theorem dX4_readToken_29 : decode cX4_readToken 29 = .ok (.iconst 1, 1) := by decide +kernel
theorem dX4_readToken_30 : decode cX4_readToken 30 = .ok (.putfield 22, 3) := by decide +kernel
theorem dX4_readToken_33 : decode cX4_readToken 33 = .ok (.goto 44, 3) := by decide +kernel
theorem dX4_readToken_36 : decode cX4_readToken 36 = .ok (.aload_n 0, 1) := by decide +kernel
theorem dX4_readToken_37 : decode cX4_readToken 37 = .ok (.bipush 97, 2) := by decide +kernel
theorem dX4_readToken_39 : decode cX4_readToken 39 = .ok (.bipush 122, 2) := by decide +kernel
theorem dX4_readToken_41 : decode cX4_readToken 41 = .ok (.invokevirtual 31, 3) := by decide +kernel
theorem dX4_readToken_44 : decode cX4_readToken 44 = .ok (.ifCond .eq 11, 3) := by decide +kernel
theorem dX4_readToken_47 : decode cX4_readToken 47 = .ok (.aload_n 0, 1) := by decide +kernel
theorem dX4_readToken_48 : decode cX4_readToken 48 = .ok (.iconst 2, 1) := by decide +kernel
theorem dX4_readToken_49 : decode cX4_readToken 49 = .ok (.putfield 22, 3) := by decide +kernel
theorem dX4_readToken_52 : decode cX4_readToken 52 = .ok (.goto 25, 3) := by decide +kernel
theorem dX4_readToken_55 : decode cX4_readToken 55 = .ok (.aload_n 0, 1) := by decide +kernel
theorem dX4_readToken_56 : decode cX4_readToken 56 = .ok (.bipush 48, 2) := by decide +kernel
theorem dX4_readToken_58 : decode cX4_readToken 58 = .ok (.bipush 57, 2) := by decide +kernel
theorem dX4_readToken_60 : decode cX4_readToken 60 = .ok (.invokevirtual 31, 3) := by decide +kernel
theorem dX4_readToken_63 : decode cX4_readToken 63 = .ok (.ifCond .eq 10, 3) := by decide +kernel
theorem dX4_readToken_66 : decode cX4_readToken 66 = .ok (.aload_n 0, 1) := by decide +kernel
theorem dX4_readToken_67 : decode cX4_readToken 67 = .ok (.invokevirtual 35, 3) := by decide +kernel
theorem dX4_readToken_70 : decode cX4_readToken 70 = .ok (.goto 7, 3) := by decide +kernel
theorem dX4_readToken_73 : decode cX4_readToken 73 = .ok (.aload_n 0, 1) := by decide +kernel
theorem dX4_readToken_74 : decode cX4_readToken 74 = .ok (.invokevirtual 38, 3) := by decide +kernel
theorem dX4_readToken_77 : decode cX4_readToken 77 = .ok (.return_, 1) := by decide +kernel
theorem dX4_takeRun_0 : decode cX4_takeRun 0 = .ok (.aload_n 0, 1) := by decide +kernel
theorem dX4_takeRun_1 : decode cX4_takeRun 1 = .ok (.getfield 19, 3) := by decide +kernel
theorem dX4_takeRun_4 : decode cX4_takeRun 4 = .ok (.aload_n 0, 1) := by decide +kernel
theorem dX4_takeRun_5 : decode cX4_takeRun 5 = .ok (.getfield 15, 3) := by decide +kernel
theorem dX4_takeRun_8 : decode cX4_takeRun 8 = .ok (.if_icmp .ge 42, 3) := by decide +kernel
theorem dX4_takeRun_11 : decode cX4_takeRun 11 = .ok (.aload_n 0, 1) := by decide +kernel
theorem dX4_takeRun_12 : decode cX4_takeRun 12 = .ok (.getfield 9, 3) := by decide +kernel
theorem dX4_takeRun_15 : decode cX4_takeRun 15 = .ok (.aload_n 0, 1) := by decide +kernel
theorem dX4_takeRun_16 : decode cX4_takeRun 16 = .ok (.getfield 19, 3) := by decide +kernel
theorem dX4_takeRun_19 : decode cX4_takeRun 19 = .ok (.iaload, 1) := by decide +kernel
theorem dX4_takeRun_20 : decode cX4_takeRun 20 = .ok (.iload_n 1, 1) := by decide +kernel
theorem dX4_takeRun_21 : decode cX4_takeRun 21 = .ok (.if_icmp .lt 29, 3) := by decide +kernel
theorem dX4_takeRun_24 : decode cX4_takeRun 24 = .ok (.aload_n 0, 1) := by decide +kernel
theorem dX4_takeRun_25 : decode cX4_takeRun 25 = .ok (.getfield 9, 3) := by decide +kernel
theorem dX4_takeRun_28 : decode cX4_takeRun 28 = .ok (.aload_n 0, 1) := by decide +kernel
theorem dX4_takeRun_29 : decode cX4_takeRun 29 = .ok (.getfield 19, 3) := by decide +kernel
theorem dX4_takeRun_32 : decode cX4_takeRun 32 = .ok (.iaload, 1) := by decide +kernel
theorem dX4_takeRun_33 : decode cX4_takeRun 33 = .ok (.iload_n 2, 1) := by decide +kernel
theorem dX4_takeRun_34 : decode cX4_takeRun 34 = .ok (.if_icmp .gt 16, 3) := by decide +kernel
theorem dX4_takeRun_37 : decode cX4_takeRun 37 = .ok (.aload_n 0, 1) := by decide +kernel
theorem dX4_takeRun_38 : decode cX4_takeRun 38 = .ok (.dup, 1) := by decide +kernel
theorem dX4_takeRun_39 : decode cX4_takeRun 39 = .ok (.getfield 19, 3) := by decide +kernel
theorem dX4_takeRun_42 : decode cX4_takeRun 42 = .ok (.iconst 1, 1) := by decide +kernel
theorem dX4_takeRun_43 : decode cX4_takeRun 43 = .ok (.iadd, 1) := by decide +kernel
theorem dX4_takeRun_44 : decode cX4_takeRun 44 = .ok (.putfield 19, 3) := by decide +kernel
theorem dX4_takeRun_47 : decode cX4_takeRun 47 = .ok (.goto (-47), 3) := by decide +kernel
theorem dX4_takeRun_50 : decode cX4_takeRun 50 = .ok (.aload_n 0, 1) := by decide +kernel
theorem dX4_takeRun_51 : decode cX4_takeRun 51 = .ok (.getfield 19, 3) := by decide +kernel
theorem dX4_takeRun_54 : decode cX4_takeRun 54 = .ok (.aload_n 0, 1) := by decide +kernel
theorem dX4_takeRun_55 : decode cX4_takeRun 55 = .ok (.getfield 25, 3) := by decide +kernel
theorem dX4_takeRun_58 : decode cX4_takeRun 58 = .ok (.if_icmp .le 7, 3) := by decide +kernel
theorem dX4_takeRun_61 : decode cX4_takeRun 61 = .ok (.iconst 1, 1) := by decide +kernel
theorem dX4_takeRun_62 : decode cX4_takeRun 62 = .ok (.goto 4, 3) := by decide +kernel
theorem dX4_takeRun_65 : decode cX4_takeRun 65 = .ok (.iconst 0, 1) := by decide +kernel
theorem dX4_takeRun_66 : decode cX4_takeRun 66 = .ok (.ireturn, 1) := by decide +kernel
theorem dX4_readNumber_0 : decode cX4_readNumber 0 = .ok (.aload_n 0, 1) := by decide +kernel
theorem dX4_readNumber_1 : decode cX4_readNumber 1 = .ok (.getfield 19, 3) := by decide +kernel
theorem dX4_readNumber_4 : decode cX4_readNumber 4 = .ok (.aload_n 0, 1) := by decide +kernel
theorem dX4_readNumber_5 : decode cX4_readNumber 5 = .ok (.getfield 25, 3) := by decide +kernel
theorem dX4_readNumber_8 : decode cX4_readNumber 8 = .ok (.isub, 1) := by decide +kernel
theorem dX4_readNumber_9 : decode cX4_readNumber 9 = .ok (.istore_n 1, 1) := by decide +kernel
theorem dX4_readNumber_10 : decode cX4_readNumber 10 = .ok (.aload_n 0, 1) := by decide +kernel
theorem dX4_readNumber_11 : decode cX4_readNumber 11 = .ok (.iload_n 1, 1) := by decide +kernel
theorem dX4_readNumber_12 : decode cX4_readNumber 12 = .ok (.iconst 2, 1) := by decide +kernel
theorem dX4_readNumber_13 : decode cX4_readNumber 13 = .ok (.if_icmp .gt 7, 3) := by decide +kernel
theorem dX4_readNumber_16 : decode cX4_readNumber 16 = .ok (.iconst 3, 1) := by decide +kernel
theorem dX4_readNumber_17 : decode cX4_readNumber 17 = .ok (.goto 4, 3) := by decide +kernel
theorem dX4_readNumber_20 : decode cX4_readNumber 20 = .ok (.iconst 0, 1) := by decide +kernel
theorem dX4_readNumber_21 : decode cX4_readNumber 21 = .ok (.putfield 22, 3) := by decide +kernel
theorem dX4_readNumber_24 : decode cX4_readNumber 24 = .ok (.aload_n 0, 1) := by decide +kernel
theorem dX4_readNumber_25 : decode cX4_readNumber 25 = .ok (.aload_n 0, 1) := by decide +kernel
theorem dX4_readNumber_26 : decode cX4_readNumber 26 = .ok (.getfield 9, 3) := by decide +kernel
theorem dX4_readNumber_29 : decode cX4_readNumber 29 = .ok (.aload_n 0, 1) := by decide +kernel
theorem dX4_readNumber_30 : decode cX4_readNumber 30 = .ok (.getfield 25, 3) := by decide +kernel
theorem dX4_readNumber_33 : decode cX4_readNumber 33 = .ok (.iaload, 1) := by decide +kernel
theorem dX4_readNumber_34 : decode cX4_readNumber 34 = .ok (.bipush 48, 2) := by decide +kernel
theorem dX4_readNumber_36 : decode cX4_readNumber 36 = .ok (.isub, 1) := by decide +kernel
theorem dX4_readNumber_37 : decode cX4_readNumber 37 = .ok (.putfield 28, 3) := by decide +kernel
theorem dX4_readNumber_40 : decode cX4_readNumber 40 = .ok (.iload_n 1, 1) := by decide +kernel
theorem dX4_readNumber_41 : decode cX4_readNumber 41 = .ok (.iconst 2, 1) := by decide +kernel
theorem dX4_readNumber_42 : decode cX4_readNumber 42 = .ok (.if_icmp .ne 29, 3) := by decide +kernel
theorem dX4_readNumber_45 : decode cX4_readNumber 45 = .ok (.aload_n 0, 1) := by decide +kernel
theorem dX4_readNumber_46 : decode cX4_readNumber 46 = .ok (.bipush 10, 2) := by decide +kernel
theorem dX4_readNumber_48 : decode cX4_readNumber 48 = .ok (.aload_n 0, 1) := by decide +kernel
theorem dX4_readNumber_49 : decode cX4_readNumber 49 = .ok (.getfield 28, 3) := by decide +kernel
theorem dX4_readNumber_52 : decode cX4_readNumber 52 = .ok (.imul, 1) := by decide +kernel
theorem dX4_readNumber_53 : decode cX4_readNumber 53 = .ok (.aload_n 0, 1) := by decide +kernel
theorem dX4_readNumber_54 : decode cX4_readNumber 54 = .ok (.getfield 9, 3) := by decide +kernel
theorem dX4_readNumber_57 : decode cX4_readNumber 57 = .ok (.aload_n 0, 1) := by decide +kernel
theorem dX4_readNumber_58 : decode cX4_readNumber 58 = .ok (.getfield 25, 3) := by decide +kernel
theorem dX4_readNumber_61 : decode cX4_readNumber 61 = .ok (.iconst 1, 1) := by decide +kernel
theorem dX4_readNumber_62 : decode cX4_readNumber 62 = .ok (.iadd, 1) := by decide +kernel
theorem dX4_readNumber_63 : decode cX4_readNumber 63 = .ok (.iaload, 1) := by decide +kernel
theorem dX4_readNumber_64 : decode cX4_readNumber 64 = .ok (.iadd, 1) := by decide +kernel
theorem dX4_readNumber_65 : decode cX4_readNumber 65 = .ok (.bipush 48, 2) := by decide +kernel
theorem dX4_readNumber_67 : decode cX4_readNumber 67 = .ok (.isub, 1) := by decide +kernel
theorem dX4_readNumber_68 : decode cX4_readNumber 68 = .ok (.putfield 28, 3) := by decide +kernel
theorem dX4_readNumber_71 : decode cX4_readNumber 71 = .ok (.return_, 1) := by decide +kernel
theorem dX4_readSign_0 : decode cX4_readSign 0 = .ok (.aload_n 0, 1) := by decide +kernel
theorem dX4_readSign_1 : decode cX4_readSign 1 = .ok (.aload_n 0, 1) := by decide +kernel
theorem dX4_readSign_2 : decode cX4_readSign 2 = .ok (.getfield 9, 3) := by decide +kernel
theorem dX4_readSign_5 : decode cX4_readSign 5 = .ok (.aload_n 0, 1) := by decide +kernel
theorem dX4_readSign_6 : decode cX4_readSign 6 = .ok (.getfield 19, 3) := by decide +kernel
theorem dX4_readSign_9 : decode cX4_readSign 9 = .ok (.iaload, 1) := by decide +kernel
theorem dX4_readSign_10 : decode cX4_readSign 10 = .ok (.bipush 59, 2) := by decide +kernel
theorem dX4_readSign_12 : decode cX4_readSign 12 = .ok (.if_icmp .ne 7, 3) := by decide +kernel
theorem dX4_readSign_15 : decode cX4_readSign 15 = .ok (.iconst 4, 1) := by decide +kernel
theorem dX4_readSign_16 : decode cX4_readSign 16 = .ok (.goto 4, 3) := by decide +kernel
theorem dX4_readSign_19 : decode cX4_readSign 19 = .ok (.iconst 0, 1) := by decide +kernel
theorem dX4_readSign_20 : decode cX4_readSign 20 = .ok (.putfield 22, 3) := by decide +kernel
theorem dX4_readSign_23 : decode cX4_readSign 23 = .ok (.aload_n 0, 1) := by decide +kernel
theorem dX4_readSign_24 : decode cX4_readSign 24 = .ok (.dup, 1) := by decide +kernel
theorem dX4_readSign_25 : decode cX4_readSign 25 = .ok (.getfield 19, 3) := by decide +kernel
theorem dX4_readSign_28 : decode cX4_readSign 28 = .ok (.iconst 1, 1) := by decide +kernel
theorem dX4_readSign_29 : decode cX4_readSign 29 = .ok (.iadd, 1) := by decide +kernel
theorem dX4_readSign_30 : decode cX4_readSign 30 = .ok (.putfield 19, 3) := by decide +kernel
theorem dX4_readSign_33 : decode cX4_readSign 33 = .ok (.return_, 1) := by decide +kernel
theorem dX4_isName_0 : decode cX4_isName 0 = .ok (.aload_n 0, 1) := by decide +kernel
theorem dX4_isName_1 : decode cX4_isName 1 = .ok (.getfield 22, 3) := by decide +kernel
theorem dX4_isName_4 : decode cX4_isName 4 = .ok (.iconst 2, 1) := by decide +kernel
theorem dX4_isName_5 : decode cX4_isName 5 = .ok (.if_icmp .ne 19, 3) := by decide +kernel
theorem dX4_isName_8 : decode cX4_isName 8 = .ok (.aload_n 0, 1) := by decide +kernel
theorem dX4_isName_9 : decode cX4_isName 9 = .ok (.getfield 19, 3) := by decide +kernel
theorem dX4_isName_12 : decode cX4_isName 12 = .ok (.aload_n 0, 1) := by decide +kernel
theorem dX4_isName_13 : decode cX4_isName 13 = .ok (.getfield 25, 3) := by decide +kernel
theorem dX4_isName_16 : decode cX4_isName 16 = .ok (.isub, 1) := by decide +kernel
theorem dX4_isName_17 : decode cX4_isName 17 = .ok (.aload_n 1, 1) := by decide +kernel
theorem dX4_isName_18 : decode cX4_isName 18 = .ok (.invokevirtual 41, 3) := by decide +kernel
theorem dX4_isName_21 : decode cX4_isName 21 = .ok (.if_icmp .eq 5, 3) := by decide +kernel
theorem dX4_isName_24 : decode cX4_isName 24 = .ok (.iconst 0, 1) := by decide +kernel
theorem dX4_isName_25 : decode cX4_isName 25 = .ok (.ireturn, 1) := by decide +kernel
theorem dX4_isName_26 : decode cX4_isName 26 = .ok (.iconst 0, 1) := by decide +kernel
theorem dX4_isName_27 : decode cX4_isName 27 = .ok (.istore_n 2, 1) := by decide +kernel
theorem dX4_isName_28 : decode cX4_isName 28 = .ok (.iload_n 2, 1) := by decide +kernel
theorem dX4_isName_29 : decode cX4_isName 29 = .ok (.aload_n 1, 1) := by decide +kernel
theorem dX4_isName_30 : decode cX4_isName 30 = .ok (.invokevirtual 41, 3) := by decide +kernel
theorem dX4_isName_33 : decode cX4_isName 33 = .ok (.if_icmp .ge 30, 3) := by decide +kernel
theorem dX4_isName_36 : decode cX4_isName 36 = .ok (.aload_n 0, 1) := by decide +kernel
theorem dX4_isName_37 : decode cX4_isName 37 = .ok (.getfield 9, 3) := by decide +kernel
theorem dX4_isName_40 : decode cX4_isName 40 = .ok (.aload_n 0, 1) := by decide +kernel
theorem dX4_isName_41 : decode cX4_isName 41 = .ok (.getfield 25, 3) := by decide +kernel
theorem dX4_isName_44 : decode cX4_isName 44 = .ok (.iload_n 2, 1) := by decide +kernel
theorem dX4_isName_45 : decode cX4_isName 45 = .ok (.iadd, 1) := by decide +kernel
theorem dX4_isName_46 : decode cX4_isName 46 = .ok (.iaload, 1) := by decide +kernel
theorem dX4_isName_47 : decode cX4_isName 47 = .ok (.aload_n 1, 1) := by decide +kernel
theorem dX4_isName_48 : decode cX4_isName 48 = .ok (.iload_n 2, 1) := by decide +kernel
theorem dX4_isName_49 : decode cX4_isName 49 = .ok (.invokevirtual 46, 3) := by decide +kernel
theorem dX4_isName_52 : decode cX4_isName 52 = .ok (.if_icmp .eq 5, 3) := by decide +kernel
theorem dX4_isName_55 : decode cX4_isName 55 = .ok (.iconst 0, 1) := by decide +kernel
theorem dX4_isName_56 : decode cX4_isName 56 = .ok (.ireturn, 1) := by decide +kernel
theorem dX4_isName_57 : decode cX4_isName 57 = .ok (.iinc 2 1, 3) := by decide +kernel
theorem dX4_isName_60 : decode cX4_isName 60 = .ok (.goto (-32), 3) := by decide +kernel
theorem dX4_isName_63 : decode cX4_isName 63 = .ok (.iconst 1, 1) := by decide +kernel
theorem dX4_isName_64 : decode cX4_isName 64 = .ok (.ireturn, 1) := by decide +kernel
theorem dX5_init_0 : decode cX5_init 0 = .ok (.aload_n 0, 1) := by decide +kernel
theorem dX5_init_1 : decode cX5_init 1 = .ok (.invokespecial 3, 3) := by decide +kernel
theorem dX5_init_4 : decode cX5_init 4 = .ok (.aload_n 0, 1) := by decide +kernel
theorem dX5_init_5 : decode cX5_init 5 = .ok (.bipush 24, 2) := by decide +kernel
theorem dX5_init_7 : decode cX5_init 7 = .ok (.newarray .int, 2) := by decide +kernel
theorem dX5_init_9 : decode cX5_init 9 = .ok (.putfield 9, 3) := by decide +kernel
theorem dX5_init_12 : decode cX5_init 12 = .ok (.aload_n 0, 1) := by decide +kernel
theorem dX5_init_13 : decode cX5_init 13 = .ok (.iconst 3, 1) := by decide +kernel
theorem dX5_init_14 : decode cX5_init 14 = .ok (.newarray .int, 2) := by decide +kernel
theorem dX5_init_16 : decode cX5_init 16 = .ok (.putfield 15, 3) := by decide +kernel
theorem dX5_init_19 : decode cX5_init 19 = .ok (.aload_n 0, 1) := by decide +kernel
theorem dX5_init_20 : decode cX5_init 20 = .ok (.iconst 3, 1) := by decide +kernel
theorem dX5_init_21 : decode cX5_init 21 = .ok (.newarray .int, 2) := by decide +kernel
theorem dX5_init_23 : decode cX5_init 23 = .ok (.putfield 18, 3) := by decide +kernel
theorem dX5_init_26 : decode cX5_init 26 = .ok (.aload_n 0, 1) := by decide +kernel
theorem dX5_init_27 : decode cX5_init 27 = .ok (.iconst 0, 1) := by decide +kernel
theorem dX5_init_28 : decode cX5_init 28 = .ok (.putfield 21, 3) := by decide +kernel
theorem dX5_init_31 : decode cX5_init 31 = .ok (.aload_n 0, 1) := by decide +kernel
theorem dX5_init_32 : decode cX5_init 32 = .ok (.bipush 6, 2) := by decide +kernel
theorem dX5_init_34 : decode cX5_init 34 = .ok (.putfield 25, 3) := by decide +kernel
theorem dX5_init_37 : decode cX5_init 37 = .ok (.aload_n 0, 1) := by decide +kernel
theorem dX5_init_38 : decode cX5_init 38 = .ok (.iconst 0, 1) := by decide +kernel
theorem dX5_init_39 : decode cX5_init 39 = .ok (.putfield 28, 3) := by decide +kernel
theorem dX5_init_42 : decode cX5_init 42 = .ok (.aload_n 0, 1) := by decide +kernel
theorem dX5_init_43 : decode cX5_init 43 = .ok (.iconst 0, 1) := by decide +kernel
theorem dX5_init_44 : decode cX5_init 44 = .ok (.putfield 31, 3) := by decide +kernel
theorem dX5_init_47 : decode cX5_init 47 = .ok (.return_, 1) := by decide +kernel
theorem dX5_clear_0 : decode cX5_clear 0 = .ok (.aload_n 0, 1) := by decide +kernel
theorem dX5_clear_1 : decode cX5_clear 1 = .ok (.getfield 9, 3) := by decide +kernel
theorem dX5_clear_4 : decode cX5_clear 4 = .ok (.iconst 0, 1) := by decide +kernel
theorem dX5_clear_5 : decode cX5_clear 5 = .ok (.invokestatic 34, 3) := by decide +kernel
theorem dX5_clear_8 : decode cX5_clear 8 = .ok (.aload_n 0, 1) := by decide +kernel
theorem dX5_clear_9 : decode cX5_clear 9 = .ok (.getfield 15, 3) := by decide +kernel
theorem dX5_clear_12 : decode cX5_clear 12 = .ok (.iconst 0, 1) := by decide +kernel
theorem dX5_clear_13 : decode cX5_clear 13 = .ok (.invokestatic 34, 3) := by decide +kernel
theorem dX5_clear_16 : decode cX5_clear 16 = .ok (.aload_n 0, 1) := by decide +kernel
theorem dX5_clear_17 : decode cX5_clear 17 = .ok (.getfield 18, 3) := by decide +kernel
theorem dX5_clear_20 : decode cX5_clear 20 = .ok (.iconst 0, 1) := by decide +kernel
theorem dX5_clear_21 : decode cX5_clear 21 = .ok (.invokestatic 34, 3) := by decide +kernel
theorem dX5_clear_24 : decode cX5_clear 24 = .ok (.aload_n 0, 1) := by decide +kernel
theorem dX5_clear_25 : decode cX5_clear 25 = .ok (.iconst 0, 1) := by decide +kernel
theorem dX5_clear_26 : decode cX5_clear 26 = .ok (.putfield 21, 3) := by decide +kernel
theorem dX5_clear_29 : decode cX5_clear 29 = .ok (.aload_n 0, 1) := by decide +kernel
theorem dX5_clear_30 : decode cX5_clear 30 = .ok (.bipush 6, 2) := by decide +kernel
theorem dX5_clear_32 : decode cX5_clear 32 = .ok (.putfield 25, 3) := by decide +kernel
theorem dX5_clear_35 : decode cX5_clear 35 = .ok (.aload_n 0, 1) := by decide +kernel
theorem dX5_clear_36 : decode cX5_clear 36 = .ok (.iconst 0, 1) := by decide +kernel
theorem dX5_clear_37 : decode cX5_clear 37 = .ok (.putfield 28, 3) := by decide +kernel
theorem dX5_clear_40 : decode cX5_clear 40 = .ok (.aload_n 0, 1) := by decide +kernel
theorem dX5_clear_41 : decode cX5_clear 41 = .ok (.iconst 0, 1) := by decide +kernel
theorem dX5_clear_42 : decode cX5_clear 42 = .ok (.putfield 31, 3) := by decide +kernel
theorem dX5_clear_45 : decode cX5_clear 45 = .ok (.return_, 1) := by decide +kernel
theorem dX5_becomes_0 : decode cX5_becomes 0 = .ok (.aload_n 1, 1) := by decide +kernel
theorem dX5_becomes_1 : decode cX5_becomes 1 = .ok (.getfield 9, 3) := by decide +kernel
theorem dX5_becomes_4 : decode cX5_becomes 4 = .ok (.iconst 0, 1) := by decide +kernel
theorem dX5_becomes_5 : decode cX5_becomes 5 = .ok (.aload_n 0, 1) := by decide +kernel
theorem dX5_becomes_6 : decode cX5_becomes 6 = .ok (.getfield 9, 3) := by decide +kernel
theorem dX5_becomes_9 : decode cX5_becomes 9 = .ok (.iconst 0, 1) := by decide +kernel
theorem dX5_becomes_10 : decode cX5_becomes 10 = .ok (.aload_n 0, 1) := by decide +kernel
theorem dX5_becomes_11 : decode cX5_becomes 11 = .ok (.getfield 9, 3) := by decide +kernel
theorem dX5_becomes_14 : decode cX5_becomes 14 = .ok (.arraylength, 1) := by decide +kernel
theorem dX5_becomes_15 : decode cX5_becomes 15 = .ok (.invokestatic 40, 3) := by decide +kernel
theorem dX5_becomes_18 : decode cX5_becomes 18 = .ok (.aload_n 1, 1) := by decide +kernel
theorem dX5_becomes_19 : decode cX5_becomes 19 = .ok (.getfield 15, 3) := by decide +kernel
theorem dX5_becomes_22 : decode cX5_becomes 22 = .ok (.iconst 0, 1) := by decide +kernel
theorem dX5_becomes_23 : decode cX5_becomes 23 = .ok (.aload_n 0, 1) := by decide +kernel
theorem dX5_becomes_24 : decode cX5_becomes 24 = .ok (.getfield 15, 3) := by decide +kernel
theorem dX5_becomes_27 : decode cX5_becomes 27 = .ok (.iconst 0, 1) := by decide +kernel
theorem dX5_becomes_28 : decode cX5_becomes 28 = .ok (.aload_n 0, 1) := by decide +kernel
theorem dX5_becomes_29 : decode cX5_becomes 29 = .ok (.getfield 15, 3) := by decide +kernel
theorem dX5_becomes_32 : decode cX5_becomes 32 = .ok (.arraylength, 1) := by decide +kernel
theorem dX5_becomes_33 : decode cX5_becomes 33 = .ok (.invokestatic 40, 3) := by decide +kernel
theorem dX5_becomes_36 : decode cX5_becomes 36 = .ok (.aload_n 1, 1) := by decide +kernel
theorem dX5_becomes_37 : decode cX5_becomes 37 = .ok (.getfield 18, 3) := by decide +kernel
theorem dX5_becomes_40 : decode cX5_becomes 40 = .ok (.iconst 0, 1) := by decide +kernel
theorem dX5_becomes_41 : decode cX5_becomes 41 = .ok (.aload_n 0, 1) := by decide +kernel
theorem dX5_becomes_42 : decode cX5_becomes 42 = .ok (.getfield 18, 3) := by decide +kernel
theorem dX5_becomes_45 : decode cX5_becomes 45 = .ok (.iconst 0, 1) := by decide +kernel
theorem dX5_becomes_46 : decode cX5_becomes 46 = .ok (.aload_n 0, 1) := by decide +kernel
theorem dX5_becomes_47 : decode cX5_becomes 47 = .ok (.getfield 18, 3) := by decide +kernel
theorem dX5_becomes_50 : decode cX5_becomes 50 = .ok (.arraylength, 1) := by decide +kernel
theorem dX5_becomes_51 : decode cX5_becomes 51 = .ok (.invokestatic 40, 3) := by decide +kernel
theorem dX5_becomes_54 : decode cX5_becomes 54 = .ok (.aload_n 0, 1) := by decide +kernel
theorem dX5_becomes_55 : decode cX5_becomes 55 = .ok (.aload_n 1, 1) := by decide +kernel
theorem dX5_becomes_56 : decode cX5_becomes 56 = .ok (.getfield 21, 3) := by decide +kernel
theorem dX5_becomes_59 : decode cX5_becomes 59 = .ok (.putfield 21, 3) := by decide +kernel
theorem dX5_becomes_62 : decode cX5_becomes 62 = .ok (.aload_n 0, 1) := by decide +kernel
theorem dX5_becomes_63 : decode cX5_becomes 63 = .ok (.aload_n 1, 1) := by decide +kernel
theorem dX5_becomes_64 : decode cX5_becomes 64 = .ok (.getfield 25, 3) := by decide +kernel
theorem dX5_becomes_67 : decode cX5_becomes 67 = .ok (.putfield 25, 3) := by decide +kernel
theorem dX5_becomes_70 : decode cX5_becomes 70 = .ok (.aload_n 0, 1) := by decide +kernel
theorem dX5_becomes_71 : decode cX5_becomes 71 = .ok (.aload_n 1, 1) := by decide +kernel
theorem dX5_becomes_72 : decode cX5_becomes 72 = .ok (.getfield 28, 3) := by decide +kernel
theorem dX5_becomes_75 : decode cX5_becomes 75 = .ok (.putfield 28, 3) := by decide +kernel
theorem dX5_becomes_78 : decode cX5_becomes 78 = .ok (.aload_n 0, 1) := by decide +kernel
theorem dX5_becomes_79 : decode cX5_becomes 79 = .ok (.aload_n 1, 1) := by decide +kernel
theorem dX5_becomes_80 : decode cX5_becomes 80 = .ok (.getfield 31, 3) := by decide +kernel
theorem dX5_becomes_83 : decode cX5_becomes 83 = .ok (.putfield 31, 3) := by decide +kernel
theorem dX5_becomes_86 : decode cX5_becomes 86 = .ok (.return_, 1) := by decide +kernel
theorem dX5_trait_0 : decode cX5_trait 0 = .ok (.aload_n 0, 1) := by decide +kernel
theorem dX5_trait_1 : decode cX5_trait 1 = .ok (.getfield 9, 3) := by decide +kernel
theorem dX5_trait_4 : decode cX5_trait 4 = .ok (.iload_n 1, 1) := by decide +kernel
theorem dX5_trait_5 : decode cX5_trait 5 = .ok (.bipush 6, 2) := by decide +kernel
theorem dX5_trait_7 : decode cX5_trait 7 = .ok (.imul, 1) := by decide +kernel
theorem dX5_trait_8 : decode cX5_trait 8 = .ok (.iload_n 2, 1) := by decide +kernel
theorem dX5_trait_9 : decode cX5_trait 9 = .ok (.iadd, 1) := by decide +kernel
theorem dX5_trait_10 : decode cX5_trait 10 = .ok (.iaload, 1) := by decide +kernel
theorem dX5_trait_11 : decode cX5_trait 11 = .ok (.ireturn, 1) := by decide +kernel
theorem dX5_setTrait_0 : decode cX5_setTrait 0 = .ok (.aload_n 0, 1) := by decide +kernel
theorem dX5_setTrait_1 : decode cX5_setTrait 1 = .ok (.getfield 9, 3) := by decide +kernel
theorem dX5_setTrait_4 : decode cX5_setTrait 4 = .ok (.iload_n 1, 1) := by decide +kernel
theorem dX5_setTrait_5 : decode cX5_setTrait 5 = .ok (.bipush 6, 2) := by decide +kernel
theorem dX5_setTrait_7 : decode cX5_setTrait 7 = .ok (.imul, 1) := by decide +kernel
theorem dX5_setTrait_8 : decode cX5_setTrait 8 = .ok (.iload_n 2, 1) := by decide +kernel
theorem dX5_setTrait_9 : decode cX5_setTrait 9 = .ok (.iadd, 1) := by decide +kernel
theorem dX5_setTrait_10 : decode cX5_setTrait 10 = .ok (.iload_n 3, 1) := by decide +kernel
theorem dX5_setTrait_11 : decode cX5_setTrait 11 = .ok (.iastore, 1) := by decide +kernel
theorem dX5_setTrait_12 : decode cX5_setTrait 12 = .ok (.return_, 1) := by decide +kernel
theorem dX5_owes_0 : decode cX5_owes 0 = .ok (.aload_n 0, 1) := by decide +kernel
theorem dX5_owes_1 : decode cX5_owes 1 = .ok (.iload_n 1, 1) := by decide +kernel
theorem dX5_owes_2 : decode cX5_owes 2 = .ok (.iconst 1, 1) := by decide +kernel
theorem dX5_owes_3 : decode cX5_owes 3 = .ok (.invokevirtual 46, 3) := by decide +kernel
theorem dX5_owes_6 : decode cX5_owes 6 = .ok (.istore_n 2, 1) := by decide +kernel
theorem dX5_owes_7 : decode cX5_owes 7 = .ok (.aload_n 0, 1) := by decide +kernel
theorem dX5_owes_8 : decode cX5_owes 8 = .ok (.iload_n 1, 1) := by decide +kernel
theorem dX5_owes_9 : decode cX5_owes 9 = .ok (.iconst 0, 1) := by decide +kernel
theorem dX5_owes_10 : decode cX5_owes 10 = .ok (.invokevirtual 46, 3) := by decide +kernel
theorem dX5_owes_13 : decode cX5_owes 13 = .ok (.tableswitch 41 1 3 #[27, 31, 35], 27) := by decide +kernel
theorem dX5_owes_40 : decode cX5_owes 40 = .ok (.iload_n 2, 1) := by decide +kernel
theorem dX5_owes_41 : decode cX5_owes 41 = .ok (.iconst 2, 1) := by decide +kernel
theorem dX5_owes_42 : decode cX5_owes 42 = .ok (.idiv, 1) := by decide +kernel
theorem dX5_owes_43 : decode cX5_owes 43 = .ok (.ireturn, 1) := by decide +kernel
theorem dX5_owes_44 : decode cX5_owes 44 = .ok (.iconst 2, 1) := by decide +kernel
theorem dX5_owes_45 : decode cX5_owes 45 = .ok (.iload_n 2, 1) := by decide +kernel
theorem dX5_owes_46 : decode cX5_owes 46 = .ok (.imul, 1) := by decide +kernel
theorem dX5_owes_47 : decode cX5_owes 47 = .ok (.ireturn, 1) := by decide +kernel
theorem dX5_owes_48 : decode cX5_owes 48 = .ok (.iconst 2, 1) := by decide +kernel
theorem dX5_owes_49 : decode cX5_owes 49 = .ok (.iload_n 2, 1) := by decide +kernel
theorem dX5_owes_50 : decode cX5_owes 50 = .ok (.imul, 1) := by decide +kernel
theorem dX5_owes_51 : decode cX5_owes 51 = .ok (.iconst 3, 1) := by decide +kernel
theorem dX5_owes_52 : decode cX5_owes 52 = .ok (.iadd, 1) := by decide +kernel
theorem dX5_owes_53 : decode cX5_owes 53 = .ok (.ireturn, 1) := by decide +kernel
theorem dX5_owes_54 : decode cX5_owes 54 = .ok (.iload_n 2, 1) := by decide +kernel
theorem dX5_owes_55 : decode cX5_owes 55 = .ok (.ireturn, 1) := by decide +kernel
theorem dX5_isHalved_0 : decode cX5_isHalved 0 = .ok (.iconst 0, 1) := by decide +kernel
theorem dX5_isHalved_1 : decode cX5_isHalved 1 = .ok (.istore_n 2, 1) := by decide +kernel
theorem dX5_isHalved_2 : decode cX5_isHalved 2 = .ok (.iconst 0, 1) := by decide +kernel
theorem dX5_isHalved_3 : decode cX5_isHalved 3 = .ok (.istore_n 3, 1) := by decide +kernel
theorem dX5_isHalved_4 : decode cX5_isHalved 4 = .ok (.iload_n 3, 1) := by decide +kernel
theorem dX5_isHalved_5 : decode cX5_isHalved 5 = .ok (.aload_n 0, 1) := by decide +kernel
theorem dX5_isHalved_6 : decode cX5_isHalved 6 = .ok (.getfield 21, 3) := by decide +kernel
theorem dX5_isHalved_9 : decode cX5_isHalved 9 = .ok (.if_icmp .ge 43, 3) := by decide +kernel
theorem dX5_isHalved_12 : decode cX5_isHalved 12 = .ok (.aload_n 0, 1) := by decide +kernel
theorem dX5_isHalved_13 : decode cX5_isHalved 13 = .ok (.iload_n 3, 1) := by decide +kernel
theorem dX5_isHalved_14 : decode cX5_isHalved 14 = .ok (.iconst 3, 1) := by decide +kernel
theorem dX5_isHalved_15 : decode cX5_isHalved 15 = .ok (.invokevirtual 46, 3) := by decide +kernel
theorem dX5_isHalved_18 : decode cX5_isHalved 18 = .ok (.aload_n 0, 1) := by decide +kernel
theorem dX5_isHalved_19 : decode cX5_isHalved 19 = .ok (.iload_n 1, 1) := by decide +kernel
theorem dX5_isHalved_20 : decode cX5_isHalved 20 = .ok (.iconst 3, 1) := by decide +kernel
theorem dX5_isHalved_21 : decode cX5_isHalved 21 = .ok (.invokevirtual 46, 3) := by decide +kernel
theorem dX5_isHalved_24 : decode cX5_isHalved 24 = .ok (.if_icmp .ne 22, 3) := by decide +kernel
theorem dX5_isHalved_27 : decode cX5_isHalved 27 = .ok (.aload_n 0, 1) := by decide +kernel
theorem dX5_isHalved_28 : decode cX5_isHalved 28 = .ok (.iload_n 3, 1) := by decide +kernel
theorem dX5_isHalved_29 : decode cX5_isHalved 29 = .ok (.iconst 4, 1) := by decide +kernel
theorem dX5_isHalved_30 : decode cX5_isHalved 30 = .ok (.invokevirtual 46, 3) := by decide +kernel
theorem dX5_isHalved_33 : decode cX5_isHalved 33 = .ok (.ifCond .ne 5, 3) := by decide +kernel
theorem dX5_isHalved_36 : decode cX5_isHalved 36 = .ok (.iconst 0, 1) := by decide +kernel
theorem dX5_isHalved_37 : decode cX5_isHalved 37 = .ok (.ireturn, 1) := by decide +kernel
theorem dX5_isHalved_38 : decode cX5_isHalved 38 = .ok (.iload_n 3, 1) := by decide +kernel
theorem dX5_isHalved_39 : decode cX5_isHalved 39 = .ok (.iload_n 1, 1) := by decide +kernel
theorem dX5_isHalved_40 : decode cX5_isHalved 40 = .ok (.if_icmp .eq 6, 3) := by decide +kernel
theorem dX5_isHalved_43 : decode cX5_isHalved 43 = .ok (.iinc 2 1, 3) := by decide +kernel
theorem dX5_isHalved_46 : decode cX5_isHalved 46 = .ok (.iinc 3 1, 3) := by decide +kernel
theorem dX5_isHalved_49 : decode cX5_isHalved 49 = .ok (.goto (-45), 3) := by decide +kernel
theorem dX5_isHalved_52 : decode cX5_isHalved 52 = .ok (.iload_n 2, 1) := by decide +kernel
theorem dX5_isHalved_53 : decode cX5_isHalved 53 = .ok (.ifCond .le 7, 3) := by decide +kernel
theorem dX5_isHalved_56 : decode cX5_isHalved 56 = .ok (.iconst 1, 1) := by decide +kernel
theorem dX5_isHalved_57 : decode cX5_isHalved 57 = .ok (.goto 4, 3) := by decide +kernel
theorem dX5_isHalved_60 : decode cX5_isHalved 60 = .ok (.iconst 0, 1) := by decide +kernel
theorem dX5_isHalved_61 : decode cX5_isHalved 61 = .ok (.ireturn, 1) := by decide +kernel
theorem dX5_share_0 : decode cX5_share 0 = .ok (.aload_n 0, 1) := by decide +kernel
theorem dX5_share_1 : decode cX5_share 1 = .ok (.iload_n 1, 1) := by decide +kernel
theorem dX5_share_2 : decode cX5_share 2 = .ok (.invokevirtual 50, 3) := by decide +kernel
theorem dX5_share_5 : decode cX5_share 5 = .ok (.ifCond .eq 15, 3) := by decide +kernel
theorem dX5_share_8 : decode cX5_share 8 = .ok (.aload_n 0, 1) := by decide +kernel
theorem dX5_share_9 : decode cX5_share 9 = .ok (.iload_n 1, 1) := by decide +kernel
theorem dX5_share_10 : decode cX5_share 10 = .ok (.invokevirtual 54, 3) := by decide +kernel
theorem dX5_share_13 : decode cX5_share 13 = .ok (.iconst 1, 1) := by decide +kernel
theorem dX5_share_14 : decode cX5_share 14 = .ok (.iadd, 1) := by decide +kernel
theorem dX5_share_15 : decode cX5_share 15 = .ok (.iconst 2, 1) := by decide +kernel
theorem dX5_share_16 : decode cX5_share 16 = .ok (.idiv, 1) := by decide +kernel
theorem dX5_share_17 : decode cX5_share 17 = .ok (.goto 8, 3) := by decide +kernel
theorem dX5_share_20 : decode cX5_share 20 = .ok (.aload_n 0, 1) := by decide +kernel
theorem dX5_share_21 : decode cX5_share 21 = .ok (.iload_n 1, 1) := by decide +kernel
theorem dX5_share_22 : decode cX5_share 22 = .ok (.invokevirtual 54, 3) := by decide +kernel
theorem dX5_share_25 : decode cX5_share 25 = .ok (.ireturn, 1) := by decide +kernel
theorem dX5_gives_0 : decode cX5_gives 0 = .ok (.iconst 0, 1) := by decide +kernel
theorem dX5_gives_1 : decode cX5_gives 1 = .ok (.aload_n 0, 1) := by decide +kernel
theorem dX5_gives_2 : decode cX5_gives 2 = .ok (.iload_n 1, 1) := by decide +kernel
theorem dX5_gives_3 : decode cX5_gives 3 = .ok (.invokevirtual 58, 3) := by decide +kernel
theorem dX5_gives_6 : decode cX5_gives 6 = .ok (.aload_n 0, 1) := by decide +kernel
theorem dX5_gives_7 : decode cX5_gives 7 = .ok (.iload_n 1, 1) := by decide +kernel
theorem dX5_gives_8 : decode cX5_gives 8 = .ok (.iconst 5, 1) := by decide +kernel
theorem dX5_gives_9 : decode cX5_gives 9 = .ok (.invokevirtual 46, 3) := by decide +kernel
theorem dX5_gives_12 : decode cX5_gives 12 = .ok (.isub, 1) := by decide +kernel
theorem dX5_gives_13 : decode cX5_gives 13 = .ok (.invokestatic 61, 3) := by decide +kernel
theorem dX5_gives_16 : decode cX5_gives 16 = .ok (.ireturn, 1) := by decide +kernel
theorem dX5_allGiven_0 : decode cX5_allGiven 0 = .ok (.iconst 0, 1) := by decide +kernel
theorem dX5_allGiven_1 : decode cX5_allGiven 1 = .ok (.istore_n 1, 1) := by decide +kernel
theorem dX5_allGiven_2 : decode cX5_allGiven 2 = .ok (.iconst 0, 1) := by decide +kernel
theorem dX5_allGiven_3 : decode cX5_allGiven 3 = .ok (.istore_n 2, 1) := by decide +kernel
theorem dX5_allGiven_4 : decode cX5_allGiven 4 = .ok (.iload_n 2, 1) := by decide +kernel
theorem dX5_allGiven_5 : decode cX5_allGiven 5 = .ok (.aload_n 0, 1) := by decide +kernel
theorem dX5_allGiven_6 : decode cX5_allGiven 6 = .ok (.getfield 21, 3) := by decide +kernel
theorem dX5_allGiven_9 : decode cX5_allGiven 9 = .ok (.if_icmp .ge 17, 3) := by decide +kernel
theorem dX5_allGiven_12 : decode cX5_allGiven 12 = .ok (.iload_n 1, 1) := by decide +kernel
theorem dX5_allGiven_13 : decode cX5_allGiven 13 = .ok (.aload_n 0, 1) := by decide +kernel
theorem dX5_allGiven_14 : decode cX5_allGiven 14 = .ok (.iload_n 2, 1) := by decide +kernel
theorem dX5_allGiven_15 : decode cX5_allGiven 15 = .ok (.invokevirtual 66, 3) := by decide +kernel
theorem dX5_allGiven_18 : decode cX5_allGiven 18 = .ok (.iadd, 1) := by decide +kernel
theorem dX5_allGiven_19 : decode cX5_allGiven 19 = .ok (.istore_n 1, 1) := by decide +kernel
theorem dX5_allGiven_20 : decode cX5_allGiven 20 = .ok (.iinc 2 1, 3) := by decide +kernel
theorem dX5_allGiven_23 : decode cX5_allGiven 23 = .ok (.goto (-19), 3) := by decide +kernel
theorem dX5_allGiven_26 : decode cX5_allGiven 26 = .ok (.iload_n 1, 1) := by decide +kernel
theorem dX5_allGiven_27 : decode cX5_allGiven 27 = .ok (.ireturn, 1) := by decide +kernel
theorem dX5_sum_0 : decode cX5_sum 0 = .ok (.iconst 0, 1) := by decide +kernel
theorem dX5_sum_1 : decode cX5_sum 1 = .ok (.istore_n 2, 1) := by decide +kernel
theorem dX5_sum_2 : decode cX5_sum 2 = .ok (.iconst 0, 1) := by decide +kernel
theorem dX5_sum_3 : decode cX5_sum 3 = .ok (.istore_n 3, 1) := by decide +kernel
theorem dX5_sum_4 : decode cX5_sum 4 = .ok (.iload_n 3, 1) := by decide +kernel
theorem dX5_sum_5 : decode cX5_sum 5 = .ok (.aload_n 0, 1) := by decide +kernel
theorem dX5_sum_6 : decode cX5_sum 6 = .ok (.getfield 21, 3) := by decide +kernel
theorem dX5_sum_9 : decode cX5_sum 9 = .ok (.if_icmp .ge 18, 3) := by decide +kernel
theorem dX5_sum_12 : decode cX5_sum 12 = .ok (.iload_n 2, 1) := by decide +kernel
theorem dX5_sum_13 : decode cX5_sum 13 = .ok (.aload_n 0, 1) := by decide +kernel
theorem dX5_sum_14 : decode cX5_sum 14 = .ok (.iload_n 3, 1) := by decide +kernel
theorem dX5_sum_15 : decode cX5_sum 15 = .ok (.iload_n 1, 1) := by decide +kernel
theorem dX5_sum_16 : decode cX5_sum 16 = .ok (.invokevirtual 46, 3) := by decide +kernel
theorem dX5_sum_19 : decode cX5_sum 19 = .ok (.iadd, 1) := by decide +kernel
theorem dX5_sum_20 : decode cX5_sum 20 = .ok (.istore_n 2, 1) := by decide +kernel
theorem dX5_sum_21 : decode cX5_sum 21 = .ok (.iinc 3 1, 3) := by decide +kernel
theorem dX5_sum_24 : decode cX5_sum 24 = .ok (.goto (-20), 3) := by decide +kernel
theorem dX5_sum_27 : decode cX5_sum 27 = .ok (.iload_n 2, 1) := by decide +kernel
theorem dX5_sum_28 : decode cX5_sum 28 = .ok (.ireturn, 1) := by decide +kernel
theorem dX5_whoHas_0 : decode cX5_whoHas 0 = .ok (.iconst 0, 1) := by decide +kernel
theorem dX5_whoHas_1 : decode cX5_whoHas 1 = .ok (.istore_n 2, 1) := by decide +kernel
theorem dX5_whoHas_2 : decode cX5_whoHas 2 = .ok (.iconst 0, 1) := by decide +kernel
theorem dX5_whoHas_3 : decode cX5_whoHas 3 = .ok (.istore_n 3, 1) := by decide +kernel
theorem dX5_whoHas_4 : decode cX5_whoHas 4 = .ok (.iload_n 3, 1) := by decide +kernel
theorem dX5_whoHas_5 : decode cX5_whoHas 5 = .ok (.aload_n 0, 1) := by decide +kernel
theorem dX5_whoHas_6 : decode cX5_whoHas 6 = .ok (.getfield 21, 3) := by decide +kernel
theorem dX5_whoHas_9 : decode cX5_whoHas 9 = .ok (.if_icmp .ge 24, 3) := by decide +kernel
theorem dX5_whoHas_12 : decode cX5_whoHas 12 = .ok (.aload_n 0, 1) := by decide +kernel
theorem dX5_whoHas_13 : decode cX5_whoHas 13 = .ok (.iload_n 3, 1) := by decide +kernel
theorem dX5_whoHas_14 : decode cX5_whoHas 14 = .ok (.iload_n 1, 1) := by decide +kernel
theorem dX5_whoHas_15 : decode cX5_whoHas 15 = .ok (.invokevirtual 46, 3) := by decide +kernel
theorem dX5_whoHas_18 : decode cX5_whoHas 18 = .ok (.ifCond .le 9, 3) := by decide +kernel
theorem dX5_whoHas_21 : decode cX5_whoHas 21 = .ok (.iload_n 2, 1) := by decide +kernel
theorem dX5_whoHas_22 : decode cX5_whoHas 22 = .ok (.iconst 1, 1) := by decide +kernel
theorem dX5_whoHas_23 : decode cX5_whoHas 23 = .ok (.iload_n 3, 1) := by decide +kernel
theorem dX5_whoHas_24 : decode cX5_whoHas 24 = .ok (.ishl, 1) := by decide +kernel
theorem dX5_whoHas_25 : decode cX5_whoHas 25 = .ok (.ior, 1) := by decide +kernel
theorem dX5_whoHas_26 : decode cX5_whoHas 26 = .ok (.istore_n 2, 1) := by decide +kernel
theorem dX5_whoHas_27 : decode cX5_whoHas 27 = .ok (.iinc 3 1, 3) := by decide +kernel
theorem dX5_whoHas_30 : decode cX5_whoHas 30 = .ok (.goto (-26), 3) := by decide +kernel
theorem dX5_whoHas_33 : decode cX5_whoHas 33 = .ok (.iload_n 2, 1) := by decide +kernel
theorem dX5_whoHas_34 : decode cX5_whoHas 34 = .ok (.ireturn, 1) := by decide +kernel
theorem dX5_flaws_0 : decode cX5_flaws 0 = .ok (.iconst 0, 1) := by decide +kernel
theorem dX5_flaws_1 : decode cX5_flaws 1 = .ok (.istore_n 1, 1) := by decide +kernel
theorem dX5_flaws_2 : decode cX5_flaws 2 = .ok (.iconst 0, 1) := by decide +kernel
theorem dX5_flaws_3 : decode cX5_flaws 3 = .ok (.istore_n 2, 1) := by decide +kernel
theorem dX5_flaws_4 : decode cX5_flaws 4 = .ok (.iload_n 2, 1) := by decide +kernel
theorem dX5_flaws_5 : decode cX5_flaws 5 = .ok (.aload_n 0, 1) := by decide +kernel
theorem dX5_flaws_6 : decode cX5_flaws 6 = .ok (.getfield 21, 3) := by decide +kernel
theorem dX5_flaws_9 : decode cX5_flaws 9 = .ok (.if_icmp .ge 28, 3) := by decide +kernel
theorem dX5_flaws_12 : decode cX5_flaws 12 = .ok (.aload_n 0, 1) := by decide +kernel
theorem dX5_flaws_13 : decode cX5_flaws 13 = .ok (.iload_n 2, 1) := by decide +kernel
theorem dX5_flaws_14 : decode cX5_flaws 14 = .ok (.invokevirtual 66, 3) := by decide +kernel
theorem dX5_flaws_17 : decode cX5_flaws 17 = .ok (.aload_n 0, 1) := by decide +kernel
theorem dX5_flaws_18 : decode cX5_flaws 18 = .ok (.iload_n 2, 1) := by decide +kernel
theorem dX5_flaws_19 : decode cX5_flaws 19 = .ok (.invokevirtual 58, 3) := by decide +kernel
theorem dX5_flaws_22 : decode cX5_flaws 22 = .ok (.if_icmp .ge 9, 3) := by decide +kernel
theorem dX5_flaws_25 : decode cX5_flaws 25 = .ok (.iload_n 1, 1) := by decide +kernel
theorem dX5_flaws_26 : decode cX5_flaws 26 = .ok (.iconst 1, 1) := by decide +kernel
theorem dX5_flaws_27 : decode cX5_flaws 27 = .ok (.iload_n 2, 1) := by decide +kernel
theorem dX5_flaws_28 : decode cX5_flaws 28 = .ok (.ishl, 1) := by decide +kernel
theorem dX5_flaws_29 : decode cX5_flaws 29 = .ok (.ior, 1) := by decide +kernel
theorem dX5_flaws_30 : decode cX5_flaws 30 = .ok (.istore_n 1, 1) := by decide +kernel
theorem dX5_flaws_31 : decode cX5_flaws 31 = .ok (.iinc 2 1, 3) := by decide +kernel
theorem dX5_flaws_34 : decode cX5_flaws 34 = .ok (.goto (-30), 3) := by decide +kernel
