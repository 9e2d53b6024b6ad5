theorem dX6_init_0 : decode cX6_init 0 = .ok (.aload_n 0, 1) := by decide +kernel
theorem dX6_init_1 : decode cX6_init 1 = .ok (.invokespecial 1, 3) := by decide +kernel
theorem dX6_init_4 : decode cX6_init 4 = .ok (.aload_n 0, 1) := by decide +kernel
theorem dX6_init_5 : decode cX6_init 5 = .ok (.new 7, 3) := by decide +kernel
theorem dX6_init_8 : decode cX6_init 8 = .ok (.dup, 1) := by decide +kernel
theorem dX6_init_9 : decode cX6_init 9 = .ok (.invokespecial 9, 3) := by decide +kernel
theorem dX6_init_12 : decode cX6_init 12 = .ok (.putfield 10, 3) := by decide +kernel
theorem dX6_init_15 : decode cX6_init 15 = .ok (.aload_n 0, 1) := by decide +kernel
theorem dX6_init_16 : decode cX6_init 16 = .ok (.new 7, 3) := by decide +kernel
theorem dX6_init_19 : decode cX6_init 19 = .ok (.dup, 1) := by decide +kernel
theorem dX6_init_20 : decode cX6_init 20 = .ok (.invokespecial 9, 3) := by decide +kernel
theorem dX6_init_23 : decode cX6_init 23 = .ok (.putfield 16, 3) := by decide +kernel
theorem dX6_init_26 : decode cX6_init 26 = .ok (.aload_n 0, 1) := by decide +kernel
theorem dX6_init_27 : decode cX6_init 27 = .ok (.new 19, 3) := by decide +kernel
theorem dX6_init_30 : decode cX6_init 30 = .ok (.dup, 1) := by decide +kernel
theorem dX6_init_31 : decode cX6_init 31 = .ok (.invokespecial 21, 3) := by decide +kernel
theorem dX6_init_34 : decode cX6_init 34 = .ok (.putfield 22, 3) := by decide +kernel
theorem dX6_init_37 : decode cX6_init 37 = .ok (.aload_n 0, 1) := by decide +kernel
theorem dX6_init_38 : decode cX6_init 38 = .ok (.new 26, 3) := by decide +kernel
theorem dX6_init_41 : decode cX6_init 41 = .ok (.dup, 1) := by decide +kernel
theorem dX6_init_42 : decode cX6_init 42 = .ok (.invokespecial 28, 3) := by decide +kernel
theorem dX6_init_45 : decode cX6_init 45 = .ok (.putfield 29, 3) := by decide +kernel
theorem dX6_init_48 : decode cX6_init 48 = .ok (.aload_n 0, 1) := by decide +kernel
theorem dX6_init_49 : decode cX6_init 49 = .ok (.new 33, 3) := by decide +kernel
theorem dX6_init_52 : decode cX6_init 52 = .ok (.dup, 1) := by decide +kernel
theorem dX6_init_53 : decode cX6_init 53 = .ok (.invokespecial 35, 3) := by decide +kernel
theorem dX6_init_56 : decode cX6_init 56 = .ok (.putfield 36, 3) := by decide +kernel
theorem dX6_init_59 : decode cX6_init 59 = .ok (.aload_n 0, 1) := by decide +kernel
theorem dX6_init_60 : decode cX6_init 60 = .ok (.new 40, 3) := by decide +kernel
theorem dX6_init_63 : decode cX6_init 63 = .ok (.dup, 1) := by decide +kernel
theorem dX6_init_64 : decode cX6_init 64 = .ok (.invokespecial 42, 3) := by decide +kernel
theorem dX6_init_67 : decode cX6_init 67 = .ok (.putfield 43, 3) := by decide +kernel
theorem dX6_init_70 : decode cX6_init 70 = .ok (.aload_n 0, 1) := by decide +kernel
theorem dX6_init_71 : decode cX6_init 71 = .ok (.iconst 2, 1) := by decide +kernel
theorem dX6_init_72 : decode cX6_init 72 = .ok (.anewarray 7, 3) := by decide +kernel
theorem dX6_init_75 : decode cX6_init 75 = .ok (.dup, 1) := by decide +kernel
theorem dX6_init_76 : decode cX6_init 76 = .ok (.iconst 0, 1) := by decide +kernel
theorem dX6_init_77 : decode cX6_init 77 = .ok (.new 7, 3) := by decide +kernel
theorem dX6_init_80 : decode cX6_init 80 = .ok (.dup, 1) := by decide +kernel
theorem dX6_init_81 : decode cX6_init 81 = .ok (.invokespecial 9, 3) := by decide +kernel
theorem dX6_init_84 : decode cX6_init 84 = .ok (.aastore, 1) := by decide +kernel
theorem dX6_init_85 : decode cX6_init 85 = .ok (.dup, 1) := by decide +kernel
theorem dX6_init_86 : decode cX6_init 86 = .ok (.iconst 1, 1) := by decide +kernel
theorem dX6_init_87 : decode cX6_init 87 = .ok (.new 7, 3) := by decide +kernel
theorem dX6_init_90 : decode cX6_init 90 = .ok (.dup, 1) := by decide +kernel
theorem dX6_init_91 : decode cX6_init 91 = .ok (.invokespecial 9, 3) := by decide +kernel
theorem dX6_init_94 : decode cX6_init 94 = .ok (.aastore, 1) := by decide +kernel
theorem dX6_init_95 : decode cX6_init 95 = .ok (.putfield 47, 3) := by decide +kernel
theorem dX6_init_98 : decode cX6_init 98 = .ok (.aload_n 0, 1) := by decide +kernel
theorem dX6_init_99 : decode cX6_init 99 = .ok (.iconst 2, 1) := by decide +kernel
theorem dX6_init_100 : decode cX6_init 100 = .ok (.newarray .boolean, 2) := by decide +kernel
theorem dX6_init_102 : decode cX6_init 102 = .ok (.putfield 51, 3) := by decide +kernel
theorem dX6_init_105 : decode cX6_init 105 = .ok (.aload_n 0, 1) := by decide +kernel
theorem dX6_init_106 : decode cX6_init 106 = .ok (.iconst 4, 1) := by decide +kernel
theorem dX6_init_107 : decode cX6_init 107 = .ok (.anewarray 55, 3) := by decide +kernel
theorem dX6_init_110 : decode cX6_init 110 = .ok (.dup, 1) := by decide +kernel
theorem dX6_init_111 : decode cX6_init 111 = .ok (.iconst 0, 1) := by decide +kernel
theorem dX6_init_112 : decode cX6_init 112 = .ok (.new 55, 3) := by decide +kernel
theorem dX6_init_115 : decode cX6_init 115 = .ok (.dup, 1) := by decide +kernel
theorem dX6_init_116 : decode cX6_init 116 = .ok (.invokespecial 57, 3) := by decide +kernel
theorem dX6_init_119 : decode cX6_init 119 = .ok (.aastore, 1) := by decide +kernel
theorem dX6_init_120 : decode cX6_init 120 = .ok (.dup, 1) := by decide +kernel
theorem dX6_init_121 : decode cX6_init 121 = .ok (.iconst 1, 1) := by decide +kernel
theorem dX6_init_122 : decode cX6_init 122 = .ok (.new 55, 3) := by decide +kernel
theorem dX6_init_125 : decode cX6_init 125 = .ok (.dup, 1) := by decide +kernel
theorem dX6_init_126 : decode cX6_init 126 = .ok (.invokespecial 57, 3) := by decide +kernel
theorem dX6_init_129 : decode cX6_init 129 = .ok (.aastore, 1) := by decide +kernel
theorem dX6_init_130 : decode cX6_init 130 = .ok (.dup, 1) := by decide +kernel
theorem dX6_init_131 : decode cX6_init 131 = .ok (.iconst 2, 1) := by decide +kernel
theorem dX6_init_132 : decode cX6_init 132 = .ok (.new 55, 3) := by decide +kernel
theorem dX6_init_135 : decode cX6_init 135 = .ok (.dup, 1) := by decide +kernel
theorem dX6_init_136 : decode cX6_init 136 = .ok (.invokespecial 57, 3) := by decide +kernel
theorem dX6_init_139 : decode cX6_init 139 = .ok (.aastore, 1) := by decide +kernel
theorem dX6_init_140 : decode cX6_init 140 = .ok (.dup, 1) := by decide +kernel
theorem dX6_init_141 : decode cX6_init 141 = .ok (.iconst 3, 1) := by decide +kernel
theorem dX6_init_142 : decode cX6_init 142 = .ok (.new 55, 3) := by decide +kernel
theorem dX6_init_145 : decode cX6_init 145 = .ok (.dup, 1) := by decide +kernel
theorem dX6_init_146 : decode cX6_init 146 = .ok (.invokespecial 57, 3) := by decide +kernel
theorem dX6_init_149 : decode cX6_init 149 = .ok (.aastore, 1) := by decide +kernel
theorem dX6_init_150 : decode cX6_init 150 = .ok (.putfield 58, 3) := by decide +kernel
theorem dX6_init_153 : decode cX6_init 153 = .ok (.aload_n 0, 1) := by decide +kernel
theorem dX6_init_154 : decode cX6_init 154 = .ok (.iconst 0, 1) := by decide +kernel
theorem dX6_init_155 : decode cX6_init 155 = .ok (.putfield 62, 3) := by decide +kernel
theorem dX6_init_158 : decode cX6_init 158 = .ok (.return_, 1) := by decide +kernel
theorem dX6_feed_0 : decode cX6_feed 0 = .ok (.iload_n 1, 1) := by decide +kernel
theorem dX6_feed_1 : decode cX6_feed 1 = .ok (.iconst 0, 1) := by decide +kernel
theorem dX6_feed_2 : decode cX6_feed 2 = .ok (.bipush 127, 2) := by decide +kernel
theorem dX6_feed_4 : decode cX6_feed 4 = .ok (.invokestatic 66, 3) := by decide +kernel
theorem dX6_feed_7 : decode cX6_feed 7 = .ok (.ifCond .ne 5, 3) := by decide +kernel
theorem dX6_feed_10 : decode cX6_feed 10 = .ok (.iconst (-1), 1) := by decide +kernel
theorem dX6_feed_11 : decode cX6_feed 11 = .ok (.ireturn, 1) := by decide +kernel
theorem dX6_feed_12 : decode cX6_feed 12 = .ok (.aload_n 0, 1) := by decide +kernel
theorem dX6_feed_13 : decode cX6_feed 13 = .ok (.getfield 29, 3) := by decide +kernel
theorem dX6_feed_16 : decode cX6_feed 16 = .ok (.getfield 70, 3) := by decide +kernel
theorem dX6_feed_19 : decode cX6_feed 19 = .ok (.sipush 160, 3) := by decide +kernel
theorem dX6_feed_22 : decode cX6_feed 22 = .ok (.if_icmp .lt 6, 3) := by decide +kernel
theorem dX6_feed_25 : decode cX6_feed 25 = .ok (.bipush (-3), 2) := by decide +kernel
theorem dX6_feed_27 : decode cX6_feed 27 = .ok (.ireturn, 1) := by decide +kernel
theorem dX6_feed_28 : decode cX6_feed 28 = .ok (.aload_n 0, 1) := by decide +kernel
theorem dX6_feed_29 : decode cX6_feed 29 = .ok (.getfield 29, 3) := by decide +kernel
theorem dX6_feed_32 : decode cX6_feed 32 = .ok (.getfield 73, 3) := by decide +kernel
theorem dX6_feed_35 : decode cX6_feed 35 = .ok (.aload_n 0, 1) := by decide +kernel
theorem dX6_feed_36 : decode cX6_feed 36 = .ok (.getfield 29, 3) := by decide +kernel
theorem dX6_feed_39 : decode cX6_feed 39 = .ok (.getfield 70, 3) := by decide +kernel
theorem dX6_feed_42 : decode cX6_feed 42 = .ok (.iload_n 1, 1) := by decide +kernel
theorem dX6_feed_43 : decode cX6_feed 43 = .ok (.iastore, 1) := by decide +kernel
theorem dX6_feed_44 : decode cX6_feed 44 = .ok (.aload_n 0, 1) := by decide +kernel
theorem dX6_feed_45 : decode cX6_feed 45 = .ok (.getfield 29, 3) := by decide +kernel
theorem dX6_feed_48 : decode cX6_feed 48 = .ok (.dup, 1) := by decide +kernel
theorem dX6_feed_49 : decode cX6_feed 49 = .ok (.getfield 70, 3) := by decide +kernel
theorem dX6_feed_52 : decode cX6_feed 52 = .ok (.iconst 1, 1) := by decide +kernel
theorem dX6_feed_53 : decode cX6_feed 53 = .ok (.iadd, 1) := by decide +kernel
theorem dX6_feed_54 : decode cX6_feed 54 = .ok (.putfield 70, 3) := by decide +kernel
theorem dX6_feed_57 : decode cX6_feed 57 = .ok (.aload_n 0, 1) := by decide +kernel
theorem dX6_feed_58 : decode cX6_feed 58 = .ok (.getfield 29, 3) := by decide +kernel
theorem dX6_feed_61 : decode cX6_feed 61 = .ok (.getfield 70, 3) := by decide +kernel
theorem dX6_feed_64 : decode cX6_feed 64 = .ok (.ireturn, 1) := by decide +kernel
theorem dX6_end_0 : decode cX6_end 0 = .ok (.iload_n 1, 1) := by decide +kernel
theorem dX6_end_1 : decode cX6_end 1 = .ok (.iconst 0, 1) := by decide +kernel
theorem dX6_end_2 : decode cX6_end 2 = .ok (.aload_n 0, 1) := by decide +kernel
theorem dX6_end_3 : decode cX6_end 3 = .ok (.getfield 29, 3) := by decide +kernel
theorem dX6_end_6 : decode cX6_end 6 = .ok (.getfield 70, 3) := by decide +kernel
theorem dX6_end_9 : decode cX6_end 9 = .ok (.invokestatic 66, 3) := by decide +kernel
theorem dX6_end_12 : decode cX6_end 12 = .ok (.ifCond .ne 5, 3) := by decide +kernel
theorem dX6_end_15 : decode cX6_end 15 = .ok (.iconst (-1), 1) := by decide +kernel
theorem dX6_end_16 : decode cX6_end 16 = .ok (.ireturn, 1) := by decide +kernel
theorem dX6_end_17 : decode cX6_end 17 = .ok (.aload_n 0, 1) := by decide +kernel
theorem dX6_end_18 : decode cX6_end 18 = .ok (.getfield 29, 3) := by decide +kernel
theorem dX6_end_21 : decode cX6_end 21 = .ok (.getfield 70, 3) := by decide +kernel
theorem dX6_end_24 : decode cX6_end 24 = .ok (.istore_n 2, 1) := by decide +kernel
theorem dX6_end_25 : decode cX6_end 25 = .ok (.aload_n 0, 1) := by decide +kernel
theorem dX6_end_26 : decode cX6_end 26 = .ok (.getfield 29, 3) := by decide +kernel
theorem dX6_end_29 : decode cX6_end 29 = .ok (.iload_n 1, 1) := by decide +kernel
theorem dX6_end_30 : decode cX6_end 30 = .ok (.putfield 70, 3) := by decide +kernel
theorem dX6_end_33 : decode cX6_end 33 = .ok (.iload_n 2, 1) := by decide +kernel
theorem dX6_end_34 : decode cX6_end 34 = .ok (.ireturn, 1) := by decide +kernel
theorem dX6_text_0 : decode cX6_text 0 = .ok (.aload_n 0, 1) := by decide +kernel
theorem dX6_text_1 : decode cX6_text 1 = .ok (.getfield 36, 3) := by decide +kernel
theorem dX6_text_4 : decode cX6_text 4 = .ok (.aload_n 0, 1) := by decide +kernel
theorem dX6_text_5 : decode cX6_text 5 = .ok (.getfield 29, 3) := by decide +kernel
theorem dX6_text_8 : decode cX6_text 8 = .ok (.invokevirtual 77, 3) := by decide +kernel
theorem dX6_text_11 : decode cX6_text 11 = .ok (.istore_n 1, 1) := by decide +kernel
theorem dX6_text_12 : decode cX6_text 12 = .ok (.aload_n 0, 1) := by decide +kernel
theorem dX6_text_13 : decode cX6_text 13 = .ok (.getfield 29, 3) := by decide +kernel
theorem dX6_text_16 : decode cX6_text 16 = .ok (.iconst 0, 1) := by decide +kernel
theorem dX6_text_17 : decode cX6_text 17 = .ok (.putfield 70, 3) := by decide +kernel
theorem dX6_text_20 : decode cX6_text 20 = .ok (.aload_n 0, 1) := by decide +kernel
theorem dX6_text_21 : decode cX6_text 21 = .ok (.getfield 36, 3) := by decide +kernel
theorem dX6_text_24 : decode cX6_text 24 = .ok (.getfield 81, 3) := by decide +kernel
theorem dX6_text_27 : decode cX6_text 27 = .ok (.ifCond .eq 5, 3) := by decide +kernel
theorem dX6_text_30 : decode cX6_text 30 = .ok (.iload_n 1, 1) := by decide +kernel
theorem dX6_text_31 : decode cX6_text 31 = .ok (.ireturn, 1) := by decide +kernel
theorem dX6_text_32 : decode cX6_text 32 = .ok (.aload_n 0, 1) := by decide +kernel
theorem dX6_text_33 : decode cX6_text 33 = .ok (.getfield 10, 3) := by decide +kernel
theorem dX6_text_36 : decode cX6_text 36 = .ok (.aload_n 0, 1) := by decide +kernel
theorem dX6_text_37 : decode cX6_text 37 = .ok (.getfield 36, 3) := by decide +kernel
theorem dX6_text_40 : decode cX6_text 40 = .ok (.getfield 84, 3) := by decide +kernel
theorem dX6_text_43 : decode cX6_text 43 = .ok (.invokevirtual 87, 3) := by decide +kernel
theorem dX6_text_46 : decode cX6_text 46 = .ok (.aload_n 0, 1) := by decide +kernel
theorem dX6_text_47 : decode cX6_text 47 = .ok (.getfield 43, 3) := by decide +kernel
theorem dX6_text_50 : decode cX6_text 50 = .ok (.iconst 0, 1) := by decide +kernel
theorem dX6_text_51 : decode cX6_text 51 = .ok (.putfield 91, 3) := by decide +kernel
theorem dX6_text_54 : decode cX6_text 54 = .ok (.iconst 0, 1) := by decide +kernel
theorem dX6_text_55 : decode cX6_text 55 = .ok (.istore_n 2, 1) := by decide +kernel
theorem dX6_text_56 : decode cX6_text 56 = .ok (.iload_n 2, 1) := by decide +kernel
theorem dX6_text_57 : decode cX6_text 57 = .ok (.iconst 2, 1) := by decide +kernel
theorem dX6_text_58 : decode cX6_text 58 = .ok (.if_icmp .ge 16, 3) := by decide +kernel
theorem dX6_text_61 : decode cX6_text 61 = .ok (.aload_n 0, 1) := by decide +kernel
theorem dX6_text_62 : decode cX6_text 62 = .ok (.getfield 51, 3) := by decide +kernel
theorem dX6_text_65 : decode cX6_text 65 = .ok (.iload_n 2, 1) := by decide +kernel
theorem dX6_text_66 : decode cX6_text 66 = .ok (.iconst 0, 1) := by decide +kernel
theorem dX6_text_67 : decode cX6_text 67 = .ok (.bastore, 1) := by decide +kernel
theorem dX6_text_68 : decode cX6_text 68 = .ok (.iinc 2 1, 3) := by decide +kernel
theorem dX6_text_71 : decode cX6_text 71 = .ok (.goto (-15), 3) := by decide +kernel
theorem dX6_text_74 : decode cX6_text 74 = .ok (.iload_n 1, 1) := by decide +kernel
theorem dX6_text_75 : decode cX6_text 75 = .ok (.ireturn, 1) := by decide +kernel
theorem dX6_fault_0 : decode cX6_fault 0 = .ok (.aload_n 0, 1) := by decide +kernel
theorem dX6_fault_1 : decode cX6_fault 1 = .ok (.getfield 36, 3) := by decide +kernel
theorem dX6_fault_4 : decode cX6_fault 4 = .ok (.getfield 81, 3) := by decide +kernel
theorem dX6_fault_7 : decode cX6_fault 7 = .ok (.ireturn, 1) := by decide +kernel
theorem dX6_rule_0 : decode cX6_rule 0 = .ok (.iload_n 1, 1) := by decide +kernel
theorem dX6_rule_1 : decode cX6_rule 1 = .ok (.tableswitch 89 0 5 #[39, 47, 55, 63, 71, 80], 39) := by decide +kernel
theorem dX6_rule_40 : decode cX6_rule 40 = .ok (.aload_n 0, 1) := by decide +kernel
theorem dX6_rule_41 : decode cX6_rule 41 = .ok (.getfield 10, 3) := by decide +kernel
theorem dX6_rule_44 : decode cX6_rule 44 = .ok (.getfield 94, 3) := by decide +kernel
theorem dX6_rule_47 : decode cX6_rule 47 = .ok (.ireturn, 1) := by decide +kernel
theorem dX6_rule_48 : decode cX6_rule 48 = .ok (.aload_n 0, 1) := by decide +kernel
theorem dX6_rule_49 : decode cX6_rule 49 = .ok (.getfield 10, 3) := by decide +kernel
theorem dX6_rule_52 : decode cX6_rule 52 = .ok (.getfield 97, 3) := by decide +kernel
theorem dX6_rule_55 : decode cX6_rule 55 = .ok (.ireturn, 1) := by decide +kernel
theorem dX6_rule_56 : decode cX6_rule 56 = .ok (.aload_n 0, 1) := by decide +kernel
theorem dX6_rule_57 : decode cX6_rule 57 = .ok (.getfield 10, 3) := by decide +kernel
theorem dX6_rule_60 : decode cX6_rule 60 = .ok (.getfield 100, 3) := by decide +kernel
theorem dX6_rule_63 : decode cX6_rule 63 = .ok (.ireturn, 1) := by decide +kernel
theorem dX6_rule_64 : decode cX6_rule 64 = .ok (.aload_n 0, 1) := by decide +kernel
theorem dX6_rule_65 : decode cX6_rule 65 = .ok (.getfield 10, 3) := by decide +kernel
theorem dX6_rule_68 : decode cX6_rule 68 = .ok (.getfield 103, 3) := by decide +kernel
theorem dX6_rule_71 : decode cX6_rule 71 = .ok (.ireturn, 1) := by decide +kernel
theorem dX6_rule_72 : decode cX6_rule 72 = .ok (.aload_n 0, 1) := by decide +kernel
theorem dX6_rule_73 : decode cX6_rule 73 = .ok (.getfield 10, 3) := by decide +kernel
theorem dX6_rule_76 : decode cX6_rule 76 = .ok (.iconst 4, 1) := by decide +kernel
theorem dX6_rule_77 : decode cX6_rule 77 = .ok (.invokevirtual 106, 3) := by decide +kernel
theorem dX6_rule_80 : decode cX6_rule 80 = .ok (.ireturn, 1) := by decide +kernel
theorem dX6_rule_81 : decode cX6_rule 81 = .ok (.aload_n 0, 1) := by decide +kernel
theorem dX6_rule_82 : decode cX6_rule 82 = .ok (.getfield 10, 3) := by decide +kernel
theorem dX6_rule_85 : decode cX6_rule 85 = .ok (.iconst 5, 1) := by decide +kernel
theorem dX6_rule_86 : decode cX6_rule 86 = .ok (.invokevirtual 106, 3) := by decide +kernel
theorem dX6_rule_89 : decode cX6_rule 89 = .ok (.ireturn, 1) := by decide +kernel
theorem dX6_rule_90 : decode cX6_rule 90 = .ok (.iconst (-1), 1) := by decide +kernel
theorem dX6_rule_91 : decode cX6_rule 91 = .ok (.ireturn, 1) := by decide +kernel
theorem dX6_giver_0 : decode cX6_giver 0 = .ok (.aload_n 0, 1) := by decide +kernel
theorem dX6_giver_1 : decode cX6_giver 1 = .ok (.iload_n 1, 1) := by decide +kernel
theorem dX6_giver_2 : decode cX6_giver 2 = .ok (.invokevirtual 110, 3) := by decide +kernel
theorem dX6_giver_5 : decode cX6_giver 5 = .ok (.ifCond .ne 5, 3) := by decide +kernel
theorem dX6_giver_8 : decode cX6_giver 8 = .ok (.iconst (-1), 1) := by decide +kernel
theorem dX6_giver_9 : decode cX6_giver 9 = .ok (.ireturn, 1) := by decide +kernel
theorem dX6_giver_10 : decode cX6_giver 10 = .ok (.iload_n 2, 1) := by decide +kernel
theorem dX6_giver_11 : decode cX6_giver 11 = .ok (.iconst 0, 1) := by decide +kernel
theorem dX6_giver_12 : decode cX6_giver 12 = .ok (.iconst 5, 1) := by decide +kernel
theorem dX6_giver_13 : decode cX6_giver 13 = .ok (.invokestatic 66, 3) := by decide +kernel
theorem dX6_giver_16 : decode cX6_giver 16 = .ok (.ifCond .eq 13, 3) := by decide +kernel
theorem dX6_giver_19 : decode cX6_giver 19 = .ok (.aload_n 0, 1) := by decide +kernel
theorem dX6_giver_20 : decode cX6_giver 20 = .ok (.getfield 10, 3) := by decide +kernel
theorem dX6_giver_23 : decode cX6_giver 23 = .ok (.iload_n 1, 1) := by decide +kernel
theorem dX6_giver_24 : decode cX6_giver 24 = .ok (.iload_n 2, 1) := by decide +kernel
theorem dX6_giver_25 : decode cX6_giver 25 = .ok (.invokevirtual 114, 3) := by decide +kernel
theorem dX6_giver_28 : decode cX6_giver 28 = .ok (.ireturn, 1) := by decide +kernel
theorem dX6_giver_29 : decode cX6_giver 29 = .ok (.iload_n 2, 1) := by decide +kernel
theorem dX6_giver_30 : decode cX6_giver 30 = .ok (.bipush 6, 2) := by decide +kernel
theorem dX6_giver_32 : decode cX6_giver 32 = .ok (.if_icmp .ne 12, 3) := by decide +kernel
theorem dX6_giver_35 : decode cX6_giver 35 = .ok (.aload_n 0, 1) := by decide +kernel
theorem dX6_giver_36 : decode cX6_giver 36 = .ok (.getfield 10, 3) := by decide +kernel
theorem dX6_giver_39 : decode cX6_giver 39 = .ok (.iload_n 1, 1) := by decide +kernel
theorem dX6_giver_40 : decode cX6_giver 40 = .ok (.invokevirtual 118, 3) := by decide +kernel
theorem dX6_giver_43 : decode cX6_giver 43 = .ok (.ireturn, 1) := by decide +kernel
theorem dX6_giver_44 : decode cX6_giver 44 = .ok (.iload_n 2, 1) := by decide +kernel
theorem dX6_giver_45 : decode cX6_giver 45 = .ok (.bipush 7, 2) := by decide +kernel
theorem dX6_giver_47 : decode cX6_giver 47 = .ok (.if_icmp .ne 14, 3) := by decide +kernel
theorem dX6_giver_50 : decode cX6_giver 50 = .ok (.aload_n 0, 1) := by decide +kernel
theorem dX6_giver_51 : decode cX6_giver 51 = .ok (.getfield 10, 3) := by decide +kernel
theorem dX6_giver_54 : decode cX6_giver 54 = .ok (.iload_n 1, 1) := by decide +kernel
theorem dX6_giver_55 : decode cX6_giver 55 = .ok (.invokevirtual 121, 3) := by decide +kernel
theorem dX6_giver_58 : decode cX6_giver 58 = .ok (.goto 4, 3) := by decide +kernel
theorem dX6_giver_61 : decode cX6_giver 61 = .ok (.iconst (-1), 1) := by decide +kernel
theorem dX6_giver_62 : decode cX6_giver 62 = .ok (.ireturn, 1) := by decide +kernel
theorem dX6_metal_0 : decode cX6_metal 0 = .ok (.iload_n 1, 1) := by decide +kernel
theorem dX6_metal_1 : decode cX6_metal 1 = .ok (.iconst 0, 1) := by decide +kernel
theorem dX6_metal_2 : decode cX6_metal 2 = .ok (.iconst 3, 1) := by decide +kernel
theorem dX6_metal_3 : decode cX6_metal 3 = .ok (.invokestatic 66, 3) := by decide +kernel
theorem dX6_metal_6 : decode cX6_metal 6 = .ok (.ifCond .eq 21, 3) := by decide +kernel
theorem dX6_metal_9 : decode cX6_metal 9 = .ok (.iload_n 2, 1) := by decide +kernel
theorem dX6_metal_10 : decode cX6_metal 10 = .ok (.iconst 0, 1) := by decide +kernel
theorem dX6_metal_11 : decode cX6_metal 11 = .ok (.iload_n 1, 1) := by decide +kernel
theorem dX6_metal_12 : decode cX6_metal 12 = .ok (.iconst 3, 1) := by decide +kernel
theorem dX6_metal_13 : decode cX6_metal 13 = .ok (.if_icmp .ne 7, 3) := by decide +kernel
theorem dX6_metal_16 : decode cX6_metal 16 = .ok (.iconst 0, 1) := by decide +kernel
theorem dX6_metal_17 : decode cX6_metal 17 = .ok (.goto 4, 3) := by decide +kernel
theorem dX6_metal_20 : decode cX6_metal 20 = .ok (.iconst 2, 1) := by decide +kernel
theorem dX6_metal_21 : decode cX6_metal 21 = .ok (.invokestatic 66, 3) := by decide +kernel
theorem dX6_metal_24 : decode cX6_metal 24 = .ok (.ifCond .ne 5, 3) := by decide +kernel
theorem dX6_metal_27 : decode cX6_metal 27 = .ok (.iconst (-1), 1) := by decide +kernel
theorem dX6_metal_28 : decode cX6_metal 28 = .ok (.ireturn, 1) := by decide +kernel
theorem dX6_metal_29 : decode cX6_metal 29 = .ok (.iload_n 2, 1) := by decide +kernel
theorem dX6_metal_30 : decode cX6_metal 30 = .ok (.iconst 1, 1) := by decide +kernel
theorem dX6_metal_31 : decode cX6_metal 31 = .ok (.if_icmp .ne 13, 3) := by decide +kernel
theorem dX6_metal_34 : decode cX6_metal 34 = .ok (.aload_n 0, 1) := by decide +kernel
theorem dX6_metal_35 : decode cX6_metal 35 = .ok (.getfield 10, 3) := by decide +kernel
theorem dX6_metal_38 : decode cX6_metal 38 = .ok (.getfield 124, 3) := by decide +kernel
theorem dX6_metal_41 : decode cX6_metal 41 = .ok (.iload_n 1, 1) := by decide +kernel
theorem dX6_metal_42 : decode cX6_metal 42 = .ok (.iaload, 1) := by decide +kernel
theorem dX6_metal_43 : decode cX6_metal 43 = .ok (.ireturn, 1) := by decide +kernel
theorem dX6_metal_44 : decode cX6_metal 44 = .ok (.iload_n 2, 1) := by decide +kernel
theorem dX6_metal_45 : decode cX6_metal 45 = .ok (.iconst 2, 1) := by decide +kernel
theorem dX6_metal_46 : decode cX6_metal 46 = .ok (.if_icmp .ne 13, 3) := by decide +kernel
theorem dX6_metal_49 : decode cX6_metal 49 = .ok (.aload_n 0, 1) := by decide +kernel
theorem dX6_metal_50 : decode cX6_metal 50 = .ok (.getfield 10, 3) := by decide +kernel
theorem dX6_metal_53 : decode cX6_metal 53 = .ok (.getfield 127, 3) := by decide +kernel
theorem dX6_metal_56 : decode cX6_metal 56 = .ok (.iload_n 1, 1) := by decide +kernel
theorem dX6_metal_57 : decode cX6_metal 57 = .ok (.iaload, 1) := by decide +kernel
theorem dX6_metal_58 : decode cX6_metal 58 = .ok (.ireturn, 1) := by decide +kernel
theorem dX6_metal_59 : decode cX6_metal 59 = .ok (.aload_n 0, 1) := by decide +kernel
theorem dX6_metal_60 : decode cX6_metal 60 = .ok (.aload_n 0, 1) := by decide +kernel
theorem dX6_metal_61 : decode cX6_metal 61 = .ok (.getfield 10, 3) := by decide +kernel
theorem dX6_metal_64 : decode cX6_metal 64 = .ok (.invokevirtual 130, 3) := by decide +kernel
theorem dX6_metal_67 : decode cX6_metal 67 = .ok (.aload_n 0, 1) := by decide +kernel
theorem dX6_metal_68 : decode cX6_metal 68 = .ok (.getfield 22, 3) := by decide +kernel
theorem dX6_metal_71 : decode cX6_metal 71 = .ok (.getfield 133, 3) := by decide +kernel
theorem dX6_metal_74 : decode cX6_metal 74 = .ok (.iload_n 1, 1) := by decide +kernel
theorem dX6_metal_75 : decode cX6_metal 75 = .ok (.iaload, 1) := by decide +kernel
theorem dX6_metal_76 : decode cX6_metal 76 = .ok (.ireturn, 1) := by decide +kernel
theorem dX6_bell_0 : decode cX6_bell 0 = .ok (.aload_n 0, 1) := by decide +kernel
theorem dX6_bell_1 : decode cX6_bell 1 = .ok (.aload_n 0, 1) := by decide +kernel
theorem dX6_bell_2 : decode cX6_bell 2 = .ok (.getfield 10, 3) := by decide +kernel
theorem dX6_bell_5 : decode cX6_bell 5 = .ok (.invokevirtual 130, 3) := by decide +kernel
theorem dX6_bell_8 : decode cX6_bell 8 = .ok (.iload_n 1, 1) := by decide +kernel
theorem dX6_bell_9 : decode cX6_bell 9 = .ok (.tableswitch 87 0 4 #[35, 43, 51, 59, 79], 35) := by decide +kernel
theorem dX6_bell_44 : decode cX6_bell 44 = .ok (.aload_n 0, 1) := by decide +kernel
theorem dX6_bell_45 : decode cX6_bell 45 = .ok (.getfield 22, 3) := by decide +kernel
theorem dX6_bell_48 : decode cX6_bell 48 = .ok (.getfield 136, 3) := by decide +kernel
theorem dX6_bell_51 : decode cX6_bell 51 = .ok (.ireturn, 1) := by decide +kernel
theorem dX6_bell_52 : decode cX6_bell 52 = .ok (.aload_n 0, 1) := by decide +kernel
theorem dX6_bell_53 : decode cX6_bell 53 = .ok (.getfield 22, 3) := by decide +kernel
theorem dX6_bell_56 : decode cX6_bell 56 = .ok (.invokevirtual 139, 3) := by decide +kernel
theorem dX6_bell_59 : decode cX6_bell 59 = .ok (.ireturn, 1) := by decide +kernel
theorem dX6_bell_60 : decode cX6_bell 60 = .ok (.aload_n 0, 1) := by decide +kernel
theorem dX6_bell_61 : decode cX6_bell 61 = .ok (.getfield 22, 3) := by decide +kernel
theorem dX6_bell_64 : decode cX6_bell 64 = .ok (.invokevirtual 143, 3) := by decide +kernel
theorem dX6_bell_67 : decode cX6_bell 67 = .ok (.ireturn, 1) := by decide +kernel
theorem dX6_bell_68 : decode cX6_bell 68 = .ok (.aload_n 0, 1) := by decide +kernel
theorem dX6_bell_69 : decode cX6_bell 69 = .ok (.getfield 22, 3) := by decide +kernel
theorem dX6_bell_72 : decode cX6_bell 72 = .ok (.aload_n 0, 1) := by decide +kernel
theorem dX6_bell_73 : decode cX6_bell 73 = .ok (.getfield 10, 3) := by decide +kernel
theorem dX6_bell_76 : decode cX6_bell 76 = .ok (.invokevirtual 146, 3) := by decide +kernel
theorem dX6_bell_79 : decode cX6_bell 79 = .ok (.ifCond .eq 7, 3) := by decide +kernel
theorem dX6_bell_82 : decode cX6_bell 82 = .ok (.iconst 1, 1) := by decide +kernel
theorem dX6_bell_83 : decode cX6_bell 83 = .ok (.goto 4, 3) := by decide +kernel
theorem dX6_bell_86 : decode cX6_bell 86 = .ok (.iconst 0, 1) := by decide +kernel
theorem dX6_bell_87 : decode cX6_bell 87 = .ok (.ireturn, 1) := by decide +kernel
theorem dX6_bell_88 : decode cX6_bell 88 = .ok (.aload_n 0, 1) := by decide +kernel
theorem dX6_bell_89 : decode cX6_bell 89 = .ok (.getfield 10, 3) := by decide +kernel
theorem dX6_bell_92 : decode cX6_bell 92 = .ok (.invokevirtual 150, 3) := by decide +kernel
theorem dX6_bell_95 : decode cX6_bell 95 = .ok (.ireturn, 1) := by decide +kernel
theorem dX6_bell_96 : decode cX6_bell 96 = .ok (.iconst (-1), 1) := by decide +kernel
theorem dX6_bell_97 : decode cX6_bell 97 = .ok (.ireturn, 1) := by decide +kernel
theorem dX6_tap_0 : decode cX6_tap 0 = .ok (.iload_n 1, 1) := by decide +kernel
theorem dX6_tap_1 : decode cX6_tap 1 = .ok (.iconst 0, 1) := by decide +kernel
theorem dX6_tap_2 : decode cX6_tap 2 = .ok (.bipush 8, 2) := by decide +kernel
theorem dX6_tap_4 : decode cX6_tap 4 = .ok (.invokestatic 66, 3) := by decide +kernel
theorem dX6_tap_7 : decode cX6_tap 7 = .ok (.ifCond .ne 5, 3) := by decide +kernel
theorem dX6_tap_10 : decode cX6_tap 10 = .ok (.iconst (-1), 1) := by decide +kernel
theorem dX6_tap_11 : decode cX6_tap 11 = .ok (.ireturn, 1) := by decide +kernel
theorem dX6_tap_12 : decode cX6_tap 12 = .ok (.aload_n 0, 1) := by decide +kernel
theorem dX6_tap_13 : decode cX6_tap 13 = .ok (.aload_n 0, 1) := by decide +kernel
theorem dX6_tap_14 : decode cX6_tap 14 = .ok (.getfield 10, 3) := by decide +kernel
theorem dX6_tap_17 : decode cX6_tap 17 = .ok (.invokevirtual 130, 3) := by decide +kernel
theorem dX6_tap_20 : decode cX6_tap 20 = .ok (.iload_n 1, 1) := by decide +kernel
theorem dX6_tap_21 : decode cX6_tap 21 = .ok (.aload_n 0, 1) := by decide +kernel
theorem dX6_tap_22 : decode cX6_tap 22 = .ok (.getfield 22, 3) := by decide +kernel
theorem dX6_tap_25 : decode cX6_tap 25 = .ok (.getfield 136, 3) := by decide +kernel
theorem dX6_tap_28 : decode cX6_tap 28 = .ok (.imul, 1) := by decide +kernel
theorem dX6_tap_29 : decode cX6_tap 29 = .ok (.istore_n 2, 1) := by decide +kernel
theorem dX6_tap_30 : decode cX6_tap 30 = .ok (.iconst 0, 1) := by decide +kernel
theorem dX6_tap_31 : decode cX6_tap 31 = .ok (.istore_n 3, 1) := by decide +kernel
theorem dX6_tap_32 : decode cX6_tap 32 = .ok (.iload_n 3, 1) := by decide +kernel
theorem dX6_tap_33 : decode cX6_tap 33 = .ok (.aload_n 0, 1) := by decide +kernel
theorem dX6_tap_34 : decode cX6_tap 34 = .ok (.getfield 10, 3) := by decide +kernel
theorem dX6_tap_37 : decode cX6_tap 37 = .ok (.getfield 94, 3) := by decide +kernel
theorem dX6_tap_40 : decode cX6_tap 40 = .ok (.if_icmp .ge 27, 3) := by decide +kernel
theorem dX6_tap_43 : decode cX6_tap 43 = .ok (.iload_n 2, 1) := by decide +kernel
theorem dX6_tap_44 : decode cX6_tap 44 = .ok (.aload_n 0, 1) := by decide +kernel
theorem dX6_tap_45 : decode cX6_tap 45 = .ok (.getfield 22, 3) := by decide +kernel
theorem dX6_tap_48 : decode cX6_tap 48 = .ok (.getfield 153, 3) := by decide +kernel
theorem dX6_tap_51 : decode cX6_tap 51 = .ok (.iload_n 3, 1) := by decide +kernel
theorem dX6_tap_52 : decode cX6_tap 52 = .ok (.iaload, 1) := by decide +kernel
theorem dX6_tap_53 : decode cX6_tap 53 = .ok (.iload_n 1, 1) := by decide +kernel
theorem dX6_tap_54 : decode cX6_tap 54 = .ok (.iload_n 3, 1) := by decide +kernel
theorem dX6_tap_55 : decode cX6_tap 55 = .ok (.invokestatic 156, 3) := by decide +kernel
theorem dX6_tap_58 : decode cX6_tap 58 = .ok (.imul, 1) := by decide +kernel
theorem dX6_tap_59 : decode cX6_tap 59 = .ok (.iadd, 1) := by decide +kernel
theorem dX6_tap_60 : decode cX6_tap 60 = .ok (.istore_n 2, 1) := by decide +kernel
theorem dX6_tap_61 : decode cX6_tap 61 = .ok (.iinc 3 1, 3) := by decide +kernel
theorem dX6_tap_64 : decode cX6_tap 64 = .ok (.goto (-32), 3) := by decide +kernel
theorem dX6_tap_67 : decode cX6_tap 67 = .ok (.iload_n 2, 1) := by decide +kernel
theorem dX6_tap_68 : decode cX6_tap 68 = .ok (.bipush 10, 2) := by decide +kernel
theorem dX6_tap_70 : decode cX6_tap 70 = .ok (.irem, 1) := by decide +kernel
theorem dX6_tap_71 : decode cX6_tap 71 = .ok (.ireturn, 1) := by decide +kernel
theorem dX6_alter_0 : decode cX6_alter 0 = .ok (.aload_n 0, 1) := by decide +kernel
theorem dX6_alter_1 : decode cX6_alter 1 = .ok (.iload_n 1, 1) := by decide +kernel
theorem dX6_alter_2 : decode cX6_alter 2 = .ok (.invokevirtual 110, 3) := by decide +kernel
theorem dX6_alter_5 : decode cX6_alter 5 = .ok (.ifCond .eq 12, 3) := by decide +kernel
theorem dX6_alter_8 : decode cX6_alter 8 = .ok (.iload_n 2, 1) := by decide +kernel
theorem dX6_alter_9 : decode cX6_alter 9 = .ok (.iconst 0, 1) := by decide +kernel
theorem dX6_alter_10 : decode cX6_alter 10 = .ok (.iconst 5, 1) := by decide +kernel
theorem dX6_alter_11 : decode cX6_alter 11 = .ok (.invokestatic 66, 3) := by decide +kernel
theorem dX6_alter_14 : decode cX6_alter 14 = .ok (.ifCond .ne 5, 3) := by decide +kernel
theorem dX6_alter_17 : decode cX6_alter 17 = .ok (.iconst (-1), 1) := by decide +kernel
theorem dX6_alter_18 : decode cX6_alter 18 = .ok (.ireturn, 1) := by decide +kernel
theorem dX6_alter_19 : decode cX6_alter 19 = .ok (.iload_n 3, 1) := by decide +kernel
theorem dX6_alter_20 : decode cX6_alter 20 = .ok (.iconst 0, 1) := by decide +kernel
theorem dX6_alter_21 : decode cX6_alter 21 = .ok (.getstatic 159, 3) := by decide +kernel
theorem dX6_alter_24 : decode cX6_alter 24 = .ok (.iload_n 2, 1) := by decide +kernel
theorem dX6_alter_25 : decode cX6_alter 25 = .ok (.iaload, 1) := by decide +kernel
theorem dX6_alter_26 : decode cX6_alter 26 = .ok (.invokestatic 66, 3) := by decide +kernel
theorem dX6_alter_29 : decode cX6_alter 29 = .ok (.ifCond .ne 5, 3) := by decide +kernel
theorem dX6_alter_32 : decode cX6_alter 32 = .ok (.iconst (-1), 1) := by decide +kernel
theorem dX6_alter_33 : decode cX6_alter 33 = .ok (.ireturn, 1) := by decide +kernel
theorem dX6_alter_34 : decode cX6_alter 34 = .ok (.aload_n 0, 1) := by decide +kernel
theorem dX6_alter_35 : decode cX6_alter 35 = .ok (.getfield 10, 3) := by decide +kernel
theorem dX6_alter_38 : decode cX6_alter 38 = .ok (.iload_n 1, 1) := by decide +kernel
theorem dX6_alter_39 : decode cX6_alter 39 = .ok (.iload_n 2, 1) := by decide +kernel
theorem dX6_alter_40 : decode cX6_alter 40 = .ok (.invokevirtual 114, 3) := by decide +kernel
theorem dX6_alter_43 : decode cX6_alter 43 = .ok (.istore 4, 2) := by decide +kernel
theorem dX6_alter_45 : decode cX6_alter 45 = .ok (.aload_n 0, 1) := by decide +kernel
theorem dX6_alter_46 : decode cX6_alter 46 = .ok (.getfield 10, 3) := by decide +kernel
theorem dX6_alter_49 : decode cX6_alter 49 = .ok (.iload_n 1, 1) := by decide +kernel
theorem dX6_alter_50 : decode cX6_alter 50 = .ok (.iload_n 2, 1) := by decide +kernel
theorem dX6_alter_51 : decode cX6_alter 51 = .ok (.iload_n 3, 1) := by decide +kernel
theorem dX6_alter_52 : decode cX6_alter 52 = .ok (.invokevirtual 162, 3) := by decide +kernel
theorem dX6_alter_55 : decode cX6_alter 55 = .ok (.iload 4, 2) := by decide +kernel
theorem dX6_alter_57 : decode cX6_alter 57 = .ok (.ireturn, 1) := by decide +kernel
theorem dX6_add_0 : decode cX6_add 0 = .ok (.iload_n 1, 1) := by decide +kernel
theorem dX6_add_1 : decode cX6_add 1 = .ok (.iconst 0, 1) := by decide +kernel
theorem dX6_add_2 : decode cX6_add 2 = .ok (.iconst 2, 1) := by decide +kernel
theorem dX6_add_3 : decode cX6_add 3 = .ok (.invokestatic 66, 3) := by decide +kernel
theorem dX6_add_6 : decode cX6_add 6 = .ok (.ifCond .eq 13, 3) := by decide +kernel
theorem dX6_add_9 : decode cX6_add 9 = .ok (.iload_n 2, 1) := by decide +kernel
theorem dX6_add_10 : decode cX6_add 10 = .ok (.iconst 0, 1) := by decide +kernel
theorem dX6_add_11 : decode cX6_add 11 = .ok (.bipush 40, 2) := by decide +kernel
theorem dX6_add_13 : decode cX6_add 13 = .ok (.invokestatic 66, 3) := by decide +kernel
theorem dX6_add_16 : decode cX6_add 16 = .ok (.ifCond .ne 5, 3) := by decide +kernel
theorem dX6_add_19 : decode cX6_add 19 = .ok (.iconst (-1), 1) := by decide +kernel
theorem dX6_add_20 : decode cX6_add 20 = .ok (.ireturn, 1) := by decide +kernel
theorem dX6_add_21 : decode cX6_add 21 = .ok (.aload_n 0, 1) := by decide +kernel
theorem dX6_add_22 : decode cX6_add 22 = .ok (.getfield 10, 3) := by decide +kernel
theorem dX6_add_25 : decode cX6_add 25 = .ok (.getfield 124, 3) := by decide +kernel
theorem dX6_add_28 : decode cX6_add 28 = .ok (.iload_n 1, 1) := by decide +kernel
theorem dX6_add_29 : decode cX6_add 29 = .ok (.iaload, 1) := by decide +kernel
theorem dX6_add_30 : decode cX6_add 30 = .ok (.istore_n 3, 1) := by decide +kernel
theorem dX6_add_31 : decode cX6_add 31 = .ok (.aload_n 0, 1) := by decide +kernel
theorem dX6_add_32 : decode cX6_add 32 = .ok (.getfield 10, 3) := by decide +kernel
theorem dX6_add_35 : decode cX6_add 35 = .ok (.getfield 124, 3) := by decide +kernel
theorem dX6_add_38 : decode cX6_add 38 = .ok (.iload_n 1, 1) := by decide +kernel
theorem dX6_add_39 : decode cX6_add 39 = .ok (.iload_n 2, 1) := by decide +kernel
theorem dX6_add_40 : decode cX6_add 40 = .ok (.iastore, 1) := by decide +kernel
theorem dX6_add_41 : decode cX6_add 41 = .ok (.iload_n 3, 1) := by decide +kernel
theorem dX6_add_42 : decode cX6_add 42 = .ok (.ireturn, 1) := by decide +kernel
theorem dX6_ask_0 : decode cX6_ask 0 = .ok (.iload_n 1, 1) := by decide +kernel
theorem dX6_ask_1 : decode cX6_ask 1 = .ok (.ifCond .ne 31, 3) := by decide +kernel
theorem dX6_ask_4 : decode cX6_ask 4 = .ok (.iload_n 2, 1) := by decide +kernel
theorem dX6_ask_5 : decode cX6_ask 5 = .ok (.iconst 3, 1) := by decide +kernel
theorem dX6_ask_6 : decode cX6_ask 6 = .ok (.bipush 12, 2) := by decide +kernel
theorem dX6_ask_8 : decode cX6_ask 8 = .ok (.invokestatic 66, 3) := by decide +kernel
theorem dX6_ask_11 : decode cX6_ask 11 = .ok (.ifCond .eq 21, 3) := by decide +kernel
theorem dX6_ask_14 : decode cX6_ask 14 = .ok (.aload_n 0, 1) := by decide +kernel
theorem dX6_ask_15 : decode cX6_ask 15 = .ok (.getfield 10, 3) := by decide +kernel
theorem dX6_ask_18 : decode cX6_ask 18 = .ok (.getfield 97, 3) := by decide +kernel
theorem dX6_ask_21 : decode cX6_ask 21 = .ok (.istore_n 3, 1) := by decide +kernel
theorem dX6_ask_22 : decode cX6_ask 22 = .ok (.aload_n 0, 1) := by decide +kernel
theorem dX6_ask_23 : decode cX6_ask 23 = .ok (.getfield 10, 3) := by decide +kernel
theorem dX6_ask_26 : decode cX6_ask 26 = .ok (.iload_n 2, 1) := by decide +kernel
theorem dX6_ask_27 : decode cX6_ask 27 = .ok (.putfield 97, 3) := by decide +kernel
theorem dX6_ask_30 : decode cX6_ask 30 = .ok (.iload_n 3, 1) := by decide +kernel
theorem dX6_ask_31 : decode cX6_ask 31 = .ok (.ireturn, 1) := by decide +kernel
theorem dX6_ask_32 : decode cX6_ask 32 = .ok (.iload_n 1, 1) := by decide +kernel
theorem dX6_ask_33 : decode cX6_ask 33 = .ok (.iconst 1, 1) := by decide +kernel
theorem dX6_ask_34 : decode cX6_ask 34 = .ok (.if_icmp .ne 31, 3) := by decide +kernel
theorem dX6_ask_37 : decode cX6_ask 37 = .ok (.iload_n 2, 1) := by decide +kernel
theorem dX6_ask_38 : decode cX6_ask 38 = .ok (.iconst 0, 1) := by decide +kernel
theorem dX6_ask_39 : decode cX6_ask 39 = .ok (.bipush 10, 2) := by decide +kernel
theorem dX6_ask_41 : decode cX6_ask 41 = .ok (.invokestatic 66, 3) := by decide +kernel
theorem dX6_ask_44 : decode cX6_ask 44 = .ok (.ifCond .eq 21, 3) := by decide +kernel
theorem dX6_ask_47 : decode cX6_ask 47 = .ok (.aload_n 0, 1) := by decide +kernel
theorem dX6_ask_48 : decode cX6_ask 48 = .ok (.getfield 10, 3) := by decide +kernel
theorem dX6_ask_51 : decode cX6_ask 51 = .ok (.getfield 100, 3) := by decide +kernel
theorem dX6_ask_54 : decode cX6_ask 54 = .ok (.istore_n 3, 1) := by decide +kernel
theorem dX6_ask_55 : decode cX6_ask 55 = .ok (.aload_n 0, 1) := by decide +kernel
theorem dX6_ask_56 : decode cX6_ask 56 = .ok (.getfield 10, 3) := by decide +kernel
theorem dX6_ask_59 : decode cX6_ask 59 = .ok (.iload_n 2, 1) := by decide +kernel
theorem dX6_ask_60 : decode cX6_ask 60 = .ok (.putfield 100, 3) := by decide +kernel
theorem dX6_ask_63 : decode cX6_ask 63 = .ok (.iload_n 3, 1) := by decide +kernel
theorem dX6_ask_64 : decode cX6_ask 64 = .ok (.ireturn, 1) := by decide +kernel
theorem dX6_ask_65 : decode cX6_ask 65 = .ok (.iconst (-1), 1) := by decide +kernel
theorem dX6_ask_66 : decode cX6_ask 66 = .ok (.ireturn, 1) := by decide +kernel
theorem dX6_ring_0 : decode cX6_ring 0 = .ok (.iload_n 1, 1) := by decide +kernel
theorem dX6_ring_1 : decode cX6_ring 1 = .ok (.iconst 0, 1) := by decide +kernel
theorem dX6_ring_2 : decode cX6_ring 2 = .ok (.bipush 99, 2) := by decide +kernel
theorem dX6_ring_4 : decode cX6_ring 4 = .ok (.invokestatic 66, 3) := by decide +kernel
theorem dX6_ring_7 : decode cX6_ring 7 = .ok (.ifCond .ne 5, 3) := by decide +kernel
theorem dX6_ring_10 : decode cX6_ring 10 = .ok (.iconst (-1), 1) := by decide +kernel
theorem dX6_ring_11 : decode cX6_ring 11 = .ok (.ireturn, 1) := by decide +kernel
theorem dX6_ring_12 : decode cX6_ring 12 = .ok (.aload_n 0, 1) := by decide +kernel
theorem dX6_ring_13 : decode cX6_ring 13 = .ok (.getfield 10, 3) := by decide +kernel
theorem dX6_ring_16 : decode cX6_ring 16 = .ok (.getfield 103, 3) := by decide +kernel
theorem dX6_ring_19 : decode cX6_ring 19 = .ok (.iload_n 1, 1) := by decide +kernel
theorem dX6_ring_20 : decode cX6_ring 20 = .ok (.iadd, 1) := by decide +kernel
theorem dX6_ring_21 : decode cX6_ring 21 = .ok (.sipush 1000, 3) := by decide +kernel
theorem dX6_ring_24 : decode cX6_ring 24 = .ok (.if_icmp .lt 6, 3) := by decide +kernel
theorem dX6_ring_27 : decode cX6_ring 27 = .ok (.bipush (-3), 2) := by decide +kernel
theorem dX6_ring_29 : decode cX6_ring 29 = .ok (.ireturn, 1) := by decide +kernel
theorem dX6_ring_30 : decode cX6_ring 30 = .ok (.iconst 0, 1) := by decide +kernel
theorem dX6_ring_31 : decode cX6_ring 31 = .ok (.istore_n 2, 1) := by decide +kernel
theorem dX6_ring_32 : decode cX6_ring 32 = .ok (.iload_n 2, 1) := by decide +kernel
theorem dX6_ring_33 : decode cX6_ring 33 = .ok (.iload_n 1, 1) := by decide +kernel
theorem dX6_ring_34 : decode cX6_ring 34 = .ok (.if_icmp .ge 17, 3) := by decide +kernel
theorem dX6_ring_37 : decode cX6_ring 37 = .ok (.aload_n 0, 1) := by decide +kernel
theorem dX6_ring_38 : decode cX6_ring 38 = .ok (.aload_n 0, 1) := by decide +kernel
theorem dX6_ring_39 : decode cX6_ring 39 = .ok (.getfield 10, 3) := by decide +kernel
theorem dX6_ring_42 : decode cX6_ring 42 = .ok (.invokevirtual 166, 3) := by decide +kernel
theorem dX6_ring_45 : decode cX6_ring 45 = .ok (.iinc 2 1, 3) := by decide +kernel
theorem dX6_ring_48 : decode cX6_ring 48 = .ok (.goto (-16), 3) := by decide +kernel
theorem dX6_ring_51 : decode cX6_ring 51 = .ok (.aload_n 0, 1) := by decide +kernel
theorem dX6_ring_52 : decode cX6_ring 52 = .ok (.aload_n 0, 1) := by decide +kernel
theorem dX6_ring_53 : decode cX6_ring 53 = .ok (.getfield 10, 3) := by decide +kernel
theorem dX6_ring_56 : decode cX6_ring 56 = .ok (.invokevirtual 130, 3) := by decide +kernel
theorem dX6_ring_59 : decode cX6_ring 59 = .ok (.aload_n 0, 1) := by decide +kernel
theorem dX6_ring_60 : decode cX6_ring 60 = .ok (.getfield 22, 3) := by decide +kernel
theorem dX6_ring_63 : decode cX6_ring 63 = .ok (.getfield 136, 3) := by decide +kernel
theorem dX6_ring_66 : decode cX6_ring 66 = .ok (.ireturn, 1) := by decide +kernel
theorem dX6_mine_0 : decode cX6_mine 0 = .ok (.aload_n 0, 1) := by decide +kernel
theorem dX6_mine_1 : decode cX6_mine 1 = .ok (.iload_n 1, 1) := by decide +kernel
theorem dX6_mine_2 : decode cX6_mine 2 = .ok (.invokevirtual 110, 3) := by decide +kernel
theorem dX6_mine_5 : decode cX6_mine 5 = .ok (.ifCond .ne 5, 3) := by decide +kernel
theorem dX6_mine_8 : decode cX6_mine 8 = .ok (.iconst (-1), 1) := by decide +kernel
theorem dX6_mine_9 : decode cX6_mine 9 = .ok (.ireturn, 1) := by decide +kernel
theorem dX6_mine_10 : decode cX6_mine 10 = .ok (.aload_n 0, 1) := by decide +kernel
theorem dX6_mine_11 : decode cX6_mine 11 = .ok (.getfield 22, 3) := by decide +kernel
theorem dX6_mine_14 : decode cX6_mine 14 = .ok (.aload_n 0, 1) := by decide +kernel
theorem dX6_mine_15 : decode cX6_mine 15 = .ok (.getfield 10, 3) := by decide +kernel
theorem dX6_mine_18 : decode cX6_mine 18 = .ok (.invokevirtual 169, 3) := by decide +kernel
theorem dX6_mine_21 : decode cX6_mine 21 = .ok (.iconst 0, 1) := by decide +kernel
theorem dX6_mine_22 : decode cX6_mine 22 = .ok (.istore_n 2, 1) := by decide +kernel
theorem dX6_mine_23 : decode cX6_mine 23 = .ok (.iload_n 2, 1) := by decide +kernel
theorem dX6_mine_24 : decode cX6_mine 24 = .ok (.bipush 40, 2) := by decide +kernel
theorem dX6_mine_26 : decode cX6_mine 26 = .ok (.if_icmp .gt 46, 3) := by decide +kernel
theorem dX6_mine_29 : decode cX6_mine 29 = .ok (.aload_n 0, 1) := by decide +kernel
theorem dX6_mine_30 : decode cX6_mine 30 = .ok (.getfield 22, 3) := by decide +kernel
theorem dX6_mine_33 : decode cX6_mine 33 = .ok (.getfield 153, 3) := by decide +kernel
theorem dX6_mine_36 : decode cX6_mine 36 = .ok (.iload_n 1, 1) := by decide +kernel
theorem dX6_mine_37 : decode cX6_mine 37 = .ok (.iload_n 2, 1) := by decide +kernel
theorem dX6_mine_38 : decode cX6_mine 38 = .ok (.iastore, 1) := by decide +kernel
theorem dX6_mine_39 : decode cX6_mine 39 = .ok (.aload_n 0, 1) := by decide +kernel
theorem dX6_mine_40 : decode cX6_mine 40 = .ok (.getfield 22, 3) := by decide +kernel
theorem dX6_mine_43 : decode cX6_mine 43 = .ok (.aload_n 0, 1) := by decide +kernel
theorem dX6_mine_44 : decode cX6_mine 44 = .ok (.getfield 10, 3) := by decide +kernel
theorem dX6_mine_47 : decode cX6_mine 47 = .ok (.invokevirtual 172, 3) := by decide +kernel
theorem dX6_mine_50 : decode cX6_mine 50 = .ok (.aload_n 0, 1) := by decide +kernel
theorem dX6_mine_51 : decode cX6_mine 51 = .ok (.getfield 22, 3) := by decide +kernel
theorem dX6_mine_54 : decode cX6_mine 54 = .ok (.aload_n 0, 1) := by decide +kernel
theorem dX6_mine_55 : decode cX6_mine 55 = .ok (.getfield 10, 3) := by decide +kernel
theorem dX6_mine_58 : decode cX6_mine 58 = .ok (.invokevirtual 146, 3) := by decide +kernel
theorem dX6_mine_61 : decode cX6_mine 61 = .ok (.ifCond .eq 5, 3) := by decide +kernel
theorem dX6_mine_64 : decode cX6_mine 64 = .ok (.iload_n 2, 1) := by decide +kernel
theorem dX6_mine_65 : decode cX6_mine 65 = .ok (.ireturn, 1) := by decide +kernel
theorem dX6_mine_66 : decode cX6_mine 66 = .ok (.iinc 2 1, 3) := by decide +kernel
theorem dX6_mine_69 : decode cX6_mine 69 = .ok (.goto (-46), 3) := by decide +kernel
theorem dX6_mine_72 : decode cX6_mine 72 = .ok (.bipush (-4), 2) := by decide +kernel
theorem dX6_mine_74 : decode cX6_mine 74 = .ok (.ireturn, 1) := by decide +kernel
theorem dX6_least_0 : decode cX6_least 0 = .ok (.iload_n 1, 1) := by decide +kernel
theorem dX6_least_1 : decode cX6_least 1 = .ok (.iconst 0, 1) := by decide +kernel
theorem dX6_least_2 : decode cX6_least 2 = .ok (.iconst 2, 1) := by decide +kernel
theorem dX6_least_3 : decode cX6_least 3 = .ok (.invokestatic 66, 3) := by decide +kernel
theorem dX6_least_6 : decode cX6_least 6 = .ok (.ifCond .ne 5, 3) := by decide +kernel
theorem dX6_least_9 : decode cX6_least 9 = .ok (.iconst (-1), 1) := by decide +kernel
theorem dX6_least_10 : decode cX6_least 10 = .ok (.ireturn, 1) := by decide +kernel
theorem dX6_least_11 : decode cX6_least 11 = .ok (.aload_n 0, 1) := by decide +kernel
theorem dX6_least_12 : decode cX6_least 12 = .ok (.getfield 16, 3) := by decide +kernel
theorem dX6_least_15 : decode cX6_least 15 = .ok (.aload_n 0, 1) := by decide +kernel
theorem dX6_least_16 : decode cX6_least 16 = .ok (.getfield 10, 3) := by decide +kernel
theorem dX6_least_19 : decode cX6_least 19 = .ok (.invokevirtual 87, 3) := by decide +kernel
theorem dX6_least_22 : decode cX6_least 22 = .ok (.iconst 0, 1) := by decide +kernel
theorem dX6_least_23 : decode cX6_least 23 = .ok (.istore_n 2, 1) := by decide +kernel
theorem dX6_least_24 : decode cX6_least 24 = .ok (.iload_n 2, 1) := by decide +kernel
theorem dX6_least_25 : decode cX6_least 25 = .ok (.bipush 40, 2) := by decide +kernel
theorem dX6_least_27 : decode cX6_least 27 = .ok (.if_icmp .gt 32, 3) := by decide +kernel
theorem dX6_least_30 : decode cX6_least 30 = .ok (.aload_n 0, 1) := by decide +kernel
theorem dX6_least_31 : decode cX6_least 31 = .ok (.getfield 16, 3) := by decide +kernel
theorem dX6_least_34 : decode cX6_least 34 = .ok (.getfield 124, 3) := by decide +kernel
theorem dX6_least_37 : decode cX6_least 37 = .ok (.iload_n 1, 1) := by decide +kernel
theorem dX6_least_38 : decode cX6_least 38 = .ok (.iload_n 2, 1) := by decide +kernel
theorem dX6_least_39 : decode cX6_least 39 = .ok (.iastore, 1) := by decide +kernel
theorem dX6_least_40 : decode cX6_least 40 = .ok (.aload_n 0, 1) := by decide +kernel
theorem dX6_least_41 : decode cX6_least 41 = .ok (.aload_n 0, 1) := by decide +kernel
theorem dX6_least_42 : decode cX6_least 42 = .ok (.getfield 16, 3) := by decide +kernel
theorem dX6_least_45 : decode cX6_least 45 = .ok (.invokevirtual 175, 3) := by decide +kernel
theorem dX6_least_48 : decode cX6_least 48 = .ok (.ifCond .eq 5, 3) := by decide +kernel
theorem dX6_least_51 : decode cX6_least 51 = .ok (.iload_n 2, 1) := by decide +kernel
theorem dX6_least_52 : decode cX6_least 52 = .ok (.ireturn, 1) := by decide +kernel
theorem dX6_least_53 : decode cX6_least 53 = .ok (.iinc 2 1, 3) := by decide +kernel
theorem dX6_least_56 : decode cX6_least 56 = .ok (.goto (-32), 3) := by decide +kernel
theorem dX6_least_59 : decode cX6_least 59 = .ok (.bipush (-4), 2) := by decide +kernel
theorem dX6_least_61 : decode cX6_least 61 = .ok (.ireturn, 1) := by decide +kernel
theorem dX6_casts_0 : decode cX6_casts 0 = .ok (.iload_n 1, 1) := by decide +kernel
theorem dX6_casts_1 : decode cX6_casts 1 = .ok (.iconst 0, 1) := by decide +kernel
theorem dX6_casts_2 : decode cX6_casts 2 = .ok (.iconst 1, 1) := by decide +kernel
theorem dX6_casts_3 : decode cX6_casts 3 = .ok (.invokestatic 66, 3) := by decide +kernel
theorem dX6_casts_6 : decode cX6_casts 6 = .ok (.ifCond .ne 5, 3) := by decide +kernel
theorem dX6_casts_9 : decode cX6_casts 9 = .ok (.iconst (-1), 1) := by decide +kernel
theorem dX6_casts_10 : decode cX6_casts 10 = .ok (.ireturn, 1) := by decide +kernel
theorem dX6_casts_11 : decode cX6_casts 11 = .ok (.aload_n 0, 1) := by decide +kernel
theorem dX6_casts_12 : decode cX6_casts 12 = .ok (.getfield 16, 3) := by decide +kernel
theorem dX6_casts_15 : decode cX6_casts 15 = .ok (.aload_n 0, 1) := by decide +kernel
theorem dX6_casts_16 : decode cX6_casts 16 = .ok (.getfield 10, 3) := by decide +kernel
theorem dX6_casts_19 : decode cX6_casts 19 = .ok (.invokevirtual 87, 3) := by decide +kernel
theorem dX6_casts_22 : decode cX6_casts 22 = .ok (.aload_n 0, 1) := by decide +kernel
theorem dX6_casts_23 : decode cX6_casts 23 = .ok (.getfield 16, 3) := by decide +kernel
theorem dX6_casts_26 : decode cX6_casts 26 = .ok (.iconst 5, 1) := by decide +kernel
theorem dX6_casts_27 : decode cX6_casts 27 = .ok (.invokevirtual 178, 3) := by decide +kernel
theorem dX6_casts_30 : decode cX6_casts 30 = .ok (.istore_n 2, 1) := by decide +kernel
theorem dX6_casts_31 : decode cX6_casts 31 = .ok (.bipush (-4), 2) := by decide +kernel
theorem dX6_casts_33 : decode cX6_casts 33 = .ok (.istore_n 3, 1) := by decide +kernel
theorem dX6_casts_34 : decode cX6_casts 34 = .ok (.iconst 0, 1) := by decide +kernel
theorem dX6_casts_35 : decode cX6_casts 35 = .ok (.istore 4, 2) := by decide +kernel
theorem dX6_casts_37 : decode cX6_casts 37 = .ok (.iload 4, 2) := by decide +kernel
theorem dX6_casts_39 : decode cX6_casts 39 = .ok (.iload_n 2, 1) := by decide +kernel
theorem dX6_casts_40 : decode cX6_casts 40 = .ok (.if_icmp .gt 68, 3) := by decide +kernel
theorem dX6_casts_43 : decode cX6_casts 43 = .ok (.aload_n 0, 1) := by decide +kernel
theorem dX6_casts_44 : decode cX6_casts 44 = .ok (.aload_n 0, 1) := by decide +kernel
theorem dX6_casts_45 : decode cX6_casts 45 = .ok (.getfield 16, 3) := by decide +kernel
theorem dX6_casts_48 : decode cX6_casts 48 = .ok (.invokevirtual 175, 3) := by decide +kernel
theorem dX6_casts_51 : decode cX6_casts 51 = .ok (.ifCond .eq 14, 3) := by decide +kernel
theorem dX6_casts_54 : decode cX6_casts 54 = .ok (.iload_n 1, 1) := by decide +kernel
theorem dX6_casts_55 : decode cX6_casts 55 = .ok (.ifCond .ne 8, 3) := by decide +kernel
theorem dX6_casts_58 : decode cX6_casts 58 = .ok (.iload 4, 2) := by decide +kernel
theorem dX6_casts_60 : decode cX6_casts 60 = .ok (.goto 4, 3) := by decide +kernel
theorem dX6_casts_63 : decode cX6_casts 63 = .ok (.iload_n 3, 1) := by decide +kernel
theorem dX6_casts_64 : decode cX6_casts 64 = .ok (.ireturn, 1) := by decide +kernel
theorem dX6_casts_65 : decode cX6_casts 65 = .ok (.aload_n 0, 1) := by decide +kernel
theorem dX6_casts_66 : decode cX6_casts 66 = .ok (.getfield 16, 3) := by decide +kernel
theorem dX6_casts_69 : decode cX6_casts 69 = .ok (.invokevirtual 181, 3) := by decide +kernel
theorem dX6_casts_72 : decode cX6_casts 72 = .ok (.istore_n 3, 1) := by decide +kernel
theorem dX6_casts_73 : decode cX6_casts 73 = .ok (.iload_n 3, 1) := by decide +kernel
theorem dX6_casts_74 : decode cX6_casts 74 = .ok (.bipush (-4), 2) := by decide +kernel
theorem dX6_casts_76 : decode cX6_casts 76 = .ok (.if_icmp .ne 6, 3) := by decide +kernel
theorem dX6_casts_79 : decode cX6_casts 79 = .ok (.bipush (-4), 2) := by decide +kernel
theorem dX6_casts_81 : decode cX6_casts 81 = .ok (.ireturn, 1) := by decide +kernel
theorem dX6_casts_82 : decode cX6_casts 82 = .ok (.aload_n 0, 1) := by decide +kernel
theorem dX6_casts_83 : decode cX6_casts 83 = .ok (.getfield 16, 3) := by decide +kernel
theorem dX6_casts_86 : decode cX6_casts 86 = .ok (.iload_n 3, 1) := by decide +kernel
theorem dX6_casts_87 : decode cX6_casts 87 = .ok (.iconst 5, 1) := by decide +kernel
theorem dX6_casts_88 : decode cX6_casts 88 = .ok (.aload_n 0, 1) := by decide +kernel
theorem dX6_casts_89 : decode cX6_casts 89 = .ok (.getfield 16, 3) := by decide +kernel
theorem dX6_casts_92 : decode cX6_casts 92 = .ok (.iload_n 3, 1) := by decide +kernel
theorem dX6_casts_93 : decode cX6_casts 93 = .ok (.iconst 5, 1) := by decide +kernel
theorem dX6_casts_94 : decode cX6_casts 94 = .ok (.invokevirtual 114, 3) := by decide +kernel
theorem dX6_casts_97 : decode cX6_casts 97 = .ok (.iconst 1, 1) := by decide +kernel
theorem dX6_casts_98 : decode cX6_casts 98 = .ok (.isub, 1) := by decide +kernel
theorem dX6_casts_99 : decode cX6_casts 99 = .ok (.invokevirtual 162, 3) := by decide +kernel
theorem dX6_casts_102 : decode cX6_casts 102 = .ok (.iinc 4 1, 3) := by decide +kernel
theorem dX6_casts_105 : decode cX6_casts 105 = .ok (.goto (-68), 3) := by decide +kernel
theorem dX6_casts_108 : decode cX6_casts 108 = .ok (.bipush (-4), 2) := by decide +kernel
theorem dX6_casts_110 : decode cX6_casts 110 = .ok (.ireturn, 1) := by decide +kernel
theorem dX6_spare_0 : decode cX6_spare 0 = .ok (.iload_n 1, 1) := by decide +kernel
theorem dX6_spare_1 : decode cX6_spare 1 = .ok (.iconst 0, 1) := by decide +kernel
theorem dX6_spare_2 : decode cX6_spare 2 = .ok (.iconst 1, 1) := by decide +kernel
theorem dX6_spare_3 : decode cX6_spare 3 = .ok (.invokestatic 66, 3) := by decide +kernel
theorem dX6_spare_6 : decode cX6_spare 6 = .ok (.ifCond .ne 5, 3) := by decide +kernel
theorem dX6_spare_9 : decode cX6_spare 9 = .ok (.iconst (-1), 1) := by decide +kernel
theorem dX6_spare_10 : decode cX6_spare 10 = .ok (.ireturn, 1) := by decide +kernel
theorem dX6_spare_11 : decode cX6_spare 11 = .ok (.bipush (-4), 2) := by decide +kernel
theorem dX6_spare_13 : decode cX6_spare 13 = .ok (.istore_n 2, 1) := by decide +kernel
theorem dX6_spare_14 : decode cX6_spare 14 = .ok (.bipush (-4), 2) := by decide +kernel
theorem dX6_spare_16 : decode cX6_spare 16 = .ok (.istore_n 3, 1) := by decide +kernel
theorem dX6_spare_17 : decode cX6_spare 17 = .ok (.iconst 0, 1) := by decide +kernel
theorem dX6_spare_18 : decode cX6_spare 18 = .ok (.istore 4, 2) := by decide +kernel
theorem dX6_spare_20 : decode cX6_spare 20 = .ok (.iload 4, 2) := by decide +kernel
theorem dX6_spare_22 : decode cX6_spare 22 = .ok (.iconst 1, 1) := by decide +kernel
theorem dX6_spare_23 : decode cX6_spare 23 = .ok (.aload_n 0, 1) := by decide +kernel
theorem dX6_spare_24 : decode cX6_spare 24 = .ok (.getfield 10, 3) := by decide +kernel
theorem dX6_spare_27 : decode cX6_spare 27 = .ok (.getfield 94, 3) := by decide +kernel
theorem dX6_spare_30 : decode cX6_spare 30 = .ok (.ishl, 1) := by decide +kernel
theorem dX6_spare_31 : decode cX6_spare 31 = .ok (.if_icmp .ge 105, 3) := by decide +kernel
theorem dX6_spare_34 : decode cX6_spare 34 = .ok (.aload_n 0, 1) := by decide +kernel
theorem dX6_spare_35 : decode cX6_spare 35 = .ok (.getfield 22, 3) := by decide +kernel
theorem dX6_spare_38 : decode cX6_spare 38 = .ok (.aload_n 0, 1) := by decide +kernel
theorem dX6_spare_39 : decode cX6_spare 39 = .ok (.getfield 10, 3) := by decide +kernel
theorem dX6_spare_42 : decode cX6_spare 42 = .ok (.invokevirtual 169, 3) := by decide +kernel
theorem dX6_spare_45 : decode cX6_spare 45 = .ok (.iconst 0, 1) := by decide +kernel
theorem dX6_spare_46 : decode cX6_spare 46 = .ok (.istore 5, 2) := by decide +kernel
theorem dX6_spare_48 : decode cX6_spare 48 = .ok (.iload 5, 2) := by decide +kernel
theorem dX6_spare_50 : decode cX6_spare 50 = .ok (.aload_n 0, 1) := by decide +kernel
theorem dX6_spare_51 : decode cX6_spare 51 = .ok (.getfield 10, 3) := by decide +kernel
theorem dX6_spare_54 : decode cX6_spare 54 = .ok (.getfield 94, 3) := by decide +kernel
theorem dX6_spare_57 : decode cX6_spare 57 = .ok (.if_icmp .ge 30, 3) := by decide +kernel
theorem dX6_spare_60 : decode cX6_spare 60 = .ok (.iload 4, 2) := by decide +kernel
theorem dX6_spare_62 : decode cX6_spare 62 = .ok (.iload 5, 2) := by decide +kernel
theorem dX6_spare_64 : decode cX6_spare 64 = .ok (.invokestatic 184, 3) := by decide +kernel
theorem dX6_spare_67 : decode cX6_spare 67 = .ok (.ifCond .eq 14, 3) := by decide +kernel
theorem dX6_spare_70 : decode cX6_spare 70 = .ok (.aload_n 0, 1) := by decide +kernel
theorem dX6_spare_71 : decode cX6_spare 71 = .ok (.getfield 22, 3) := by decide +kernel
theorem dX6_spare_74 : decode cX6_spare 74 = .ok (.getfield 153, 3) := by decide +kernel
theorem dX6_spare_77 : decode cX6_spare 77 = .ok (.iload 5, 2) := by decide +kernel
theorem dX6_spare_79 : decode cX6_spare 79 = .ok (.iconst 0, 1) := by decide +kernel
theorem dX6_spare_80 : decode cX6_spare 80 = .ok (.iastore, 1) := by decide +kernel
theorem dX6_spare_81 : decode cX6_spare 81 = .ok (.iinc 5 1, 3) := by decide +kernel
theorem dX6_spare_84 : decode cX6_spare 84 = .ok (.goto (-36), 3) := by decide +kernel
theorem dX6_spare_87 : decode cX6_spare 87 = .ok (.aload_n 0, 1) := by decide +kernel
theorem dX6_spare_88 : decode cX6_spare 88 = .ok (.getfield 22, 3) := by decide +kernel
theorem dX6_spare_91 : decode cX6_spare 91 = .ok (.aload_n 0, 1) := by decide +kernel
theorem dX6_spare_92 : decode cX6_spare 92 = .ok (.getfield 10, 3) := by decide +kernel
theorem dX6_spare_95 : decode cX6_spare 95 = .ok (.invokevirtual 172, 3) := by decide +kernel
theorem dX6_spare_98 : decode cX6_spare 98 = .ok (.aload_n 0, 1) := by decide +kernel
theorem dX6_spare_99 : decode cX6_spare 99 = .ok (.getfield 22, 3) := by decide +kernel
theorem dX6_spare_102 : decode cX6_spare 102 = .ok (.aload_n 0, 1) := by decide +kernel
theorem dX6_spare_103 : decode cX6_spare 103 = .ok (.getfield 10, 3) := by decide +kernel
theorem dX6_spare_106 : decode cX6_spare 106 = .ok (.invokevirtual 146, 3) := by decide +kernel
theorem dX6_spare_109 : decode cX6_spare 109 = .ok (.ifCond .eq 21, 3) := by decide +kernel
theorem dX6_spare_112 : decode cX6_spare 112 = .ok (.iload 4, 2) := by decide +kernel
theorem dX6_spare_114 : decode cX6_spare 114 = .ok (.invokestatic 188, 3) := by decide +kernel
theorem dX6_spare_117 : decode cX6_spare 117 = .ok (.iload_n 2, 1) := by decide +kernel
theorem dX6_spare_118 : decode cX6_spare 118 = .ok (.if_icmp .le 12, 3) := by decide +kernel
theorem dX6_spare_121 : decode cX6_spare 121 = .ok (.iload 4, 2) := by decide +kernel
theorem dX6_spare_123 : decode cX6_spare 123 = .ok (.invokestatic 188, 3) := by decide +kernel
theorem dX6_spare_126 : decode cX6_spare 126 = .ok (.istore_n 2, 1) := by decide +kernel
theorem dX6_spare_127 : decode cX6_spare 127 = .ok (.iload 4, 2) := by decide +kernel
theorem dX6_spare_129 : decode cX6_spare 129 = .ok (.istore_n 3, 1) := by decide +kernel
theorem dX6_spare_130 : decode cX6_spare 130 = .ok (.iinc 4 1, 3) := by decide +kernel
theorem dX6_spare_133 : decode cX6_spare 133 = .ok (.goto (-113), 3) := by decide +kernel
theorem dX6_spare_136 : decode cX6_spare 136 = .ok (.iload_n 1, 1) := by decide +kernel
theorem dX6_spare_137 : decode cX6_spare 137 = .ok (.ifCond .ne 7, 3) := by decide +kernel
theorem dX6_spare_140 : decode cX6_spare 140 = .ok (.iload_n 2, 1) := by decide +kernel
theorem dX6_spare_141 : decode cX6_spare 141 = .ok (.goto 4, 3) := by decide +kernel
theorem dX6_spare_144 : decode cX6_spare 144 = .ok (.iload_n 3, 1) := by decide +kernel
theorem dX6_spare_145 : decode cX6_spare 145 = .ok (.ireturn, 1) := by decide +kernel
theorem dX6_without_0 : decode cX6_without 0 = .ok (.aload_n 0, 1) := by decide +kernel
theorem dX6_without_1 : decode cX6_without 1 = .ok (.iload_n 1, 1) := by decide +kernel
theorem dX6_without_2 : decode cX6_without 2 = .ok (.invokevirtual 110, 3) := by decide +kernel
theorem dX6_without_5 : decode cX6_without 5 = .ok (.ifCond .ne 5, 3) := by decide +kernel
theorem dX6_without_8 : decode cX6_without 8 = .ok (.iconst (-1), 1) := by decide +kernel
theorem dX6_without_9 : decode cX6_without 9 = .ok (.ireturn, 1) := by decide +kernel
theorem dX6_without_10 : decode cX6_without 10 = .ok (.aload_n 0, 1) := by decide +kernel
theorem dX6_without_11 : decode cX6_without 11 = .ok (.getfield 22, 3) := by decide +kernel
theorem dX6_without_14 : decode cX6_without 14 = .ok (.aload_n 0, 1) := by decide +kernel
theorem dX6_without_15 : decode cX6_without 15 = .ok (.getfield 10, 3) := by decide +kernel
theorem dX6_without_18 : decode cX6_without 18 = .ok (.invokevirtual 169, 3) := by decide +kernel
theorem dX6_without_21 : decode cX6_without 21 = .ok (.aload_n 0, 1) := by decide +kernel
theorem dX6_without_22 : decode cX6_without 22 = .ok (.getfield 22, 3) := by decide +kernel
theorem dX6_without_25 : decode cX6_without 25 = .ok (.getfield 153, 3) := by decide +kernel
theorem dX6_without_28 : decode cX6_without 28 = .ok (.iload_n 1, 1) := by decide +kernel
theorem dX6_without_29 : decode cX6_without 29 = .ok (.iconst 0, 1) := by decide +kernel
theorem dX6_without_30 : decode cX6_without 30 = .ok (.iastore, 1) := by decide +kernel
theorem dX6_without_31 : decode cX6_without 31 = .ok (.aload_n 0, 1) := by decide +kernel
theorem dX6_without_32 : decode cX6_without 32 = .ok (.getfield 22, 3) := by decide +kernel
theorem dX6_without_35 : decode cX6_without 35 = .ok (.aload_n 0, 1) := by decide +kernel
theorem dX6_without_36 : decode cX6_without 36 = .ok (.getfield 10, 3) := by decide +kernel
theorem dX6_without_39 : decode cX6_without 39 = .ok (.invokevirtual 172, 3) := by decide +kernel
theorem dX6_without_42 : decode cX6_without 42 = .ok (.aload_n 0, 1) := by decide +kernel
theorem dX6_without_43 : decode cX6_without 43 = .ok (.getfield 22, 3) := by decide +kernel
theorem dX6_without_46 : decode cX6_without 46 = .ok (.invokevirtual 139, 3) := by decide +kernel
theorem dX6_without_49 : decode cX6_without 49 = .ok (.ireturn, 1) := by decide +kernel
theorem dX6_lasts_0 : decode cX6_lasts 0 = .ok (.aload_n 0, 1) := by decide +kernel
theorem dX6_lasts_1 : decode cX6_lasts 1 = .ok (.getfield 16, 3) := by decide +kernel
theorem dX6_lasts_4 : decode cX6_lasts 4 = .ok (.aload_n 0, 1) := by decide +kernel
theorem dX6_lasts_5 : decode cX6_lasts 5 = .ok (.getfield 10, 3) := by decide +kernel
theorem dX6_lasts_8 : decode cX6_lasts 8 = .ok (.invokevirtual 87, 3) := by decide +kernel
theorem dX6_lasts_11 : decode cX6_lasts 11 = .ok (.iconst 0, 1) := by decide +kernel
theorem dX6_lasts_12 : decode cX6_lasts 12 = .ok (.istore_n 1, 1) := by decide +kernel
theorem dX6_lasts_13 : decode cX6_lasts 13 = .ok (.iload_n 1, 1) := by decide +kernel
theorem dX6_lasts_14 : decode cX6_lasts 14 = .ok (.sipush 500, 3) := by decide +kernel
theorem dX6_lasts_17 : decode cX6_lasts 17 = .ok (.if_icmp .gt 30, 3) := by decide +kernel
theorem dX6_lasts_20 : decode cX6_lasts 20 = .ok (.aload_n 0, 1) := by decide +kernel
theorem dX6_lasts_21 : decode cX6_lasts 21 = .ok (.aload_n 0, 1) := by decide +kernel
theorem dX6_lasts_22 : decode cX6_lasts 22 = .ok (.getfield 16, 3) := by decide +kernel
theorem dX6_lasts_25 : decode cX6_lasts 25 = .ok (.invokevirtual 175, 3) := by decide +kernel
theorem dX6_lasts_28 : decode cX6_lasts 28 = .ok (.ifCond .ne 5, 3) := by decide +kernel
theorem dX6_lasts_31 : decode cX6_lasts 31 = .ok (.iload_n 1, 1) := by decide +kernel
theorem dX6_lasts_32 : decode cX6_lasts 32 = .ok (.ireturn, 1) := by decide +kernel
theorem dX6_lasts_33 : decode cX6_lasts 33 = .ok (.aload_n 0, 1) := by decide +kernel
theorem dX6_lasts_34 : decode cX6_lasts 34 = .ok (.aload_n 0, 1) := by decide +kernel
theorem dX6_lasts_35 : decode cX6_lasts 35 = .ok (.getfield 16, 3) := by decide +kernel
theorem dX6_lasts_38 : decode cX6_lasts 38 = .ok (.invokevirtual 166, 3) := by decide +kernel
theorem dX6_lasts_41 : decode cX6_lasts 41 = .ok (.iinc 1 1, 3) := by decide +kernel
theorem dX6_lasts_44 : decode cX6_lasts 44 = .ok (.goto (-31), 3) := by decide +kernel
theorem dX6_lasts_47 : decode cX6_lasts 47 = .ok (.bipush (-4), 2) := by decide +kernel
theorem dX6_lasts_49 : decode cX6_lasts 49 = .ok (.ireturn, 1) := by decide +kernel
theorem dX6_swap_0 : decode cX6_swap 0 = .ok (.aload_n 0, 1) := by decide +kernel
theorem dX6_swap_1 : decode cX6_swap 1 = .ok (.aload_n 0, 1) := by decide +kernel
theorem dX6_swap_2 : decode cX6_swap 2 = .ok (.getfield 10, 3) := by decide +kernel
theorem dX6_swap_5 : decode cX6_swap 5 = .ok (.invokevirtual 175, 3) := by decide +kernel
theorem dX6_swap_8 : decode cX6_swap 8 = .ok (.ifCond .eq 6, 3) := by decide +kernel
theorem dX6_swap_11 : decode cX6_swap 11 = .ok (.bipush (-2), 2) := by decide +kernel
theorem dX6_swap_13 : decode cX6_swap 13 = .ok (.ireturn, 1) := by decide +kernel
theorem dX6_swap_14 : decode cX6_swap 14 = .ok (.iconst 0, 1) := by decide +kernel
theorem dX6_swap_15 : decode cX6_swap 15 = .ok (.istore_n 1, 1) := by decide +kernel
theorem dX6_swap_16 : decode cX6_swap 16 = .ok (.iload_n 1, 1) := by decide +kernel
theorem dX6_swap_17 : decode cX6_swap 17 = .ok (.aload_n 0, 1) := by decide +kernel
theorem dX6_swap_18 : decode cX6_swap 18 = .ok (.getfield 10, 3) := by decide +kernel
theorem dX6_swap_21 : decode cX6_swap 21 = .ok (.getfield 94, 3) := by decide +kernel
theorem dX6_swap_24 : decode cX6_swap 24 = .ok (.if_icmp .ge 95, 3) := by decide +kernel
theorem dX6_swap_27 : decode cX6_swap 27 = .ok (.iload_n 1, 1) := by decide +kernel
theorem dX6_swap_28 : decode cX6_swap 28 = .ok (.iconst 1, 1) := by decide +kernel
theorem dX6_swap_29 : decode cX6_swap 29 = .ok (.iadd, 1) := by decide +kernel
theorem dX6_swap_30 : decode cX6_swap 30 = .ok (.istore_n 2, 1) := by decide +kernel
theorem dX6_swap_31 : decode cX6_swap 31 = .ok (.iload_n 2, 1) := by decide +kernel
theorem dX6_swap_32 : decode cX6_swap 32 = .ok (.aload_n 0, 1) := by decide +kernel
theorem dX6_swap_33 : decode cX6_swap 33 = .ok (.getfield 10, 3) := by decide +kernel
theorem dX6_swap_36 : decode cX6_swap 36 = .ok (.getfield 94, 3) := by decide +kernel
theorem dX6_swap_39 : decode cX6_swap 39 = .ok (.if_icmp .ge 74, 3) := by decide +kernel
theorem dX6_swap_42 : decode cX6_swap 42 = .ok (.aload_n 0, 1) := by decide +kernel
theorem dX6_swap_43 : decode cX6_swap 43 = .ok (.getfield 16, 3) := by decide +kernel
theorem dX6_swap_46 : decode cX6_swap 46 = .ok (.aload_n 0, 1) := by decide +kernel
theorem dX6_swap_47 : decode cX6_swap 47 = .ok (.getfield 10, 3) := by decide +kernel
theorem dX6_swap_50 : decode cX6_swap 50 = .ok (.invokevirtual 87, 3) := by decide +kernel
theorem dX6_swap_53 : decode cX6_swap 53 = .ok (.aload_n 0, 1) := by decide +kernel
theorem dX6_swap_54 : decode cX6_swap 54 = .ok (.getfield 16, 3) := by decide +kernel
theorem dX6_swap_57 : decode cX6_swap 57 = .ok (.iload_n 1, 1) := by decide +kernel
theorem dX6_swap_58 : decode cX6_swap 58 = .ok (.iconst 2, 1) := by decide +kernel
theorem dX6_swap_59 : decode cX6_swap 59 = .ok (.aload_n 0, 1) := by decide +kernel
theorem dX6_swap_60 : decode cX6_swap 60 = .ok (.getfield 10, 3) := by decide +kernel
theorem dX6_swap_63 : decode cX6_swap 63 = .ok (.iload_n 2, 1) := by decide +kernel
theorem dX6_swap_64 : decode cX6_swap 64 = .ok (.iconst 2, 1) := by decide +kernel
theorem dX6_swap_65 : decode cX6_swap 65 = .ok (.invokevirtual 114, 3) := by decide +kernel
theorem dX6_swap_68 : decode cX6_swap 68 = .ok (.invokevirtual 162, 3) := by decide +kernel
theorem dX6_swap_71 : decode cX6_swap 71 = .ok (.aload_n 0, 1) := by decide +kernel
theorem dX6_swap_72 : decode cX6_swap 72 = .ok (.getfield 16, 3) := by decide +kernel
theorem dX6_swap_75 : decode cX6_swap 75 = .ok (.iload_n 2, 1) := by decide +kernel
theorem dX6_swap_76 : decode cX6_swap 76 = .ok (.iconst 2, 1) := by decide +kernel
theorem dX6_swap_77 : decode cX6_swap 77 = .ok (.aload_n 0, 1) := by decide +kernel
theorem dX6_swap_78 : decode cX6_swap 78 = .ok (.getfield 10, 3) := by decide +kernel
theorem dX6_swap_81 : decode cX6_swap 81 = .ok (.iload_n 1, 1) := by decide +kernel
theorem dX6_swap_82 : decode cX6_swap 82 = .ok (.iconst 2, 1) := by decide +kernel
theorem dX6_swap_83 : decode cX6_swap 83 = .ok (.invokevirtual 114, 3) := by decide +kernel
theorem dX6_swap_86 : decode cX6_swap 86 = .ok (.invokevirtual 162, 3) := by decide +kernel
theorem dX6_swap_89 : decode cX6_swap 89 = .ok (.aload_n 0, 1) := by decide +kernel
theorem dX6_swap_90 : decode cX6_swap 90 = .ok (.aload_n 0, 1) := by decide +kernel
theorem dX6_swap_91 : decode cX6_swap 91 = .ok (.getfield 16, 3) := by decide +kernel
theorem dX6_swap_94 : decode cX6_swap 94 = .ok (.invokevirtual 175, 3) := by decide +kernel
theorem dX6_swap_97 : decode cX6_swap 97 = .ok (.ifCond .eq 10, 3) := by decide +kernel
theorem dX6_swap_100 : decode cX6_swap 100 = .ok (.bipush 10, 2) := by decide +kernel
theorem dX6_swap_102 : decode cX6_swap 102 = .ok (.iload_n 1, 1) := by decide +kernel
theorem dX6_swap_103 : decode cX6_swap 103 = .ok (.imul, 1) := by decide +kernel
theorem dX6_swap_104 : decode cX6_swap 104 = .ok (.iload_n 2, 1) := by decide +kernel
theorem dX6_swap_105 : decode cX6_swap 105 = .ok (.iadd, 1) := by decide +kernel
theorem dX6_swap_106 : decode cX6_swap 106 = .ok (.ireturn, 1) := by decide +kernel
theorem dX6_swap_107 : decode cX6_swap 107 = .ok (.iinc 2 1, 3) := by decide +kernel
theorem dX6_swap_110 : decode cX6_swap 110 = .ok (.goto (-79), 3) := by decide +kernel
theorem dX6_swap_113 : decode cX6_swap 113 = .ok (.iinc 1 1, 3) := by decide +kernel
theorem dX6_swap_116 : decode cX6_swap 116 = .ok (.goto (-100), 3) := by decide +kernel
theorem dX6_swap_119 : decode cX6_swap 119 = .ok (.bipush (-4), 2) := by decide +kernel
theorem dX6_swap_121 : decode cX6_swap 121 = .ok (.ireturn, 1) := by decide +kernel
theorem dX6_mean_0 : decode cX6_mean 0 = .ok (.iload_n 1, 1) := by decide +kernel
theorem dX6_mean_1 : decode cX6_mean 1 = .ok (.iconst 0, 1) := by decide +kernel
theorem dX6_mean_2 : decode cX6_mean 2 = .ok (.bipush 10, 2) := by decide +kernel
theorem dX6_mean_4 : decode cX6_mean 4 = .ok (.invokestatic 66, 3) := by decide +kernel
theorem dX6_mean_7 : decode cX6_mean 7 = .ok (.ifCond .eq 12, 3) := by decide +kernel
theorem dX6_mean_10 : decode cX6_mean 10 = .ok (.iload_n 2, 1) := by decide +kernel
theorem dX6_mean_11 : decode cX6_mean 11 = .ok (.iconst 0, 1) := by decide +kernel
theorem dX6_mean_12 : decode cX6_mean 12 = .ok (.iconst 1, 1) := by decide +kernel
theorem dX6_mean_13 : decode cX6_mean 13 = .ok (.invokestatic 66, 3) := by decide +kernel
theorem dX6_mean_16 : decode cX6_mean 16 = .ok (.ifCond .ne 7, 3) := by decide +kernel
theorem dX6_mean_19 : decode cX6_mean 19 = .ok (.ldc2_w 193, 3) := by decide +kernel
theorem dX6_mean_22 : decode cX6_mean 22 = .ok (.lreturn, 1) := by decide +kernel
theorem dX6_mean_23 : decode cX6_mean 23 = .ok (.aload_n 0, 1) := by decide +kernel
theorem dX6_mean_24 : decode cX6_mean 24 = .ok (.aload_n 0, 1) := by decide +kernel
theorem dX6_mean_25 : decode cX6_mean 25 = .ok (.iload_n 1, 1) := by decide +kernel
theorem dX6_mean_26 : decode cX6_mean 26 = .ok (.iconst 1, 1) := by decide +kernel
theorem dX6_mean_27 : decode cX6_mean 27 = .ok (.invokevirtual 195, 3) := by decide +kernel
theorem dX6_mean_30 : decode cX6_mean 30 = .ok (.iload_n 2, 1) := by decide +kernel
theorem dX6_mean_31 : decode cX6_mean 31 = .ok (.invokevirtual 199, 3) := by decide +kernel
theorem dX6_mean_34 : decode cX6_mean 34 = .ok (.lreturn, 1) := by decide +kernel
theorem dX6_luck_0 : decode cX6_luck 0 = .ok (.iload_n 1, 1) := by decide +kernel
theorem dX6_luck_1 : decode cX6_luck 1 = .ok (.iconst 0, 1) := by decide +kernel
theorem dX6_luck_2 : decode cX6_luck 2 = .ok (.bipush 10, 2) := by decide +kernel
theorem dX6_luck_4 : decode cX6_luck 4 = .ok (.invokestatic 66, 3) := by decide +kernel
theorem dX6_luck_7 : decode cX6_luck 7 = .ok (.ifCond .eq 12, 3) := by decide +kernel
theorem dX6_luck_10 : decode cX6_luck 10 = .ok (.iload_n 2, 1) := by decide +kernel
theorem dX6_luck_11 : decode cX6_luck 11 = .ok (.iconst 0, 1) := by decide +kernel
theorem dX6_luck_12 : decode cX6_luck 12 = .ok (.iconst 1, 1) := by decide +kernel
theorem dX6_luck_13 : decode cX6_luck 13 = .ok (.invokestatic 66, 3) := by decide +kernel
theorem dX6_luck_16 : decode cX6_luck 16 = .ok (.ifCond .ne 7, 3) := by decide +kernel
theorem dX6_luck_19 : decode cX6_luck 19 = .ok (.ldc2_w 193, 3) := by decide +kernel
