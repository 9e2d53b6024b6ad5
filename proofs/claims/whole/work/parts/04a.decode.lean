theorem dX0_init_0 : decode cX0_init 0 = .ok (.aload_n 0, 1) := by decide +kernel
theorem dX0_init_1 : decode cX0_init 1 = .ok (.invokespecial 3, 3) := by decide +kernel
theorem dX0_init_4 : decode cX0_init 4 = .ok (.aload_n 0, 1) := by decide +kernel
theorem dX0_init_5 : decode cX0_init 5 = .ok (.bipush 6, 2) := by decide +kernel
theorem dX0_init_7 : decode cX0_init 7 = .ok (.newarray .int, 2) := by decide +kernel
theorem dX0_init_9 : decode cX0_init 9 = .ok (.putfield 9, 3) := by decide +kernel
theorem dX0_init_12 : decode cX0_init 12 = .ok (.aload_n 0, 1) := by decide +kernel
theorem dX0_init_13 : decode cX0_init 13 = .ok (.bipush 6, 2) := by decide +kernel
theorem dX0_init_15 : decode cX0_init 15 = .ok (.newarray .int, 2) := by decide +kernel
theorem dX0_init_17 : decode cX0_init 17 = .ok (.putfield 15, 3) := by decide +kernel
theorem dX0_init_20 : decode cX0_init 20 = .ok (.aload_n 0, 1) := by decide +kernel
theorem dX0_init_21 : decode cX0_init 21 = .ok (.iconst 0, 1) := by decide +kernel
theorem dX0_init_22 : decode cX0_init 22 = .ok (.putfield 18, 3) := by decide +kernel
theorem dX0_init_25 : decode cX0_init 25 = .ok (.aload_n 0, 1) := by decide +kernel
theorem dX0_init_26 : decode cX0_init 26 = .ok (.iconst 0, 1) := by decide +kernel
theorem dX0_init_27 : decode cX0_init 27 = .ok (.putfield 22, 3) := by decide +kernel
theorem dX0_init_30 : decode cX0_init 30 = .ok (.aload_n 0, 1) := by decide +kernel
theorem dX0_init_31 : decode cX0_init 31 = .ok (.bipush (-4), 2) := by decide +kernel
theorem dX0_init_33 : decode cX0_init 33 = .ok (.putfield 25, 3) := by decide +kernel
theorem dX0_init_36 : decode cX0_init 36 = .ok (.aload_n 0, 1) := by decide +kernel
theorem dX0_init_37 : decode cX0_init 37 = .ok (.iconst 4, 1) := by decide +kernel
theorem dX0_init_38 : decode cX0_init 38 = .ok (.newarray .int, 2) := by decide +kernel
theorem dX0_init_40 : decode cX0_init 40 = .ok (.putfield 28, 3) := by decide +kernel
theorem dX0_init_43 : decode cX0_init 43 = .ok (.aload_n 0, 1) := by decide +kernel
theorem dX0_init_44 : decode cX0_init 44 = .ok (.iconst 4, 1) := by decide +kernel
theorem dX0_init_45 : decode cX0_init 45 = .ok (.newarray .int, 2) := by decide +kernel
theorem dX0_init_47 : decode cX0_init 47 = .ok (.putfield 31, 3) := by decide +kernel
theorem dX0_init_50 : decode cX0_init 50 = .ok (.aload_n 0, 1) := by decide +kernel
theorem dX0_init_51 : decode cX0_init 51 = .ok (.bipush 90, 2) := by decide +kernel
theorem dX0_init_53 : decode cX0_init 53 = .ok (.newarray .int, 2) := by decide +kernel
theorem dX0_init_55 : decode cX0_init 55 = .ok (.putfield 34, 3) := by decide +kernel
theorem dX0_init_58 : decode cX0_init 58 = .ok (.aload_n 0, 1) := by decide +kernel
theorem dX0_init_59 : decode cX0_init 59 = .ok (.bipush 40, 2) := by decide +kernel
theorem dX0_init_61 : decode cX0_init 61 = .ok (.newarray .int, 2) := by decide +kernel
theorem dX0_init_63 : decode cX0_init 63 = .ok (.putfield 37, 3) := by decide +kernel
theorem dX0_init_66 : decode cX0_init 66 = .ok (.aload_n 0, 1) := by decide +kernel
theorem dX0_init_67 : decode cX0_init 67 = .ok (.iconst 4, 1) := by decide +kernel
theorem dX0_init_68 : decode cX0_init 68 = .ok (.newarray .int, 2) := by decide +kernel
theorem dX0_init_70 : decode cX0_init 70 = .ok (.putfield 40, 3) := by decide +kernel
theorem dX0_init_73 : decode cX0_init 73 = .ok (.aload_n 0, 1) := by decide +kernel
theorem dX0_init_74 : decode cX0_init 74 = .ok (.iconst 4, 1) := by decide +kernel
theorem dX0_init_75 : decode cX0_init 75 = .ok (.newarray .int, 2) := by decide +kernel
theorem dX0_init_77 : decode cX0_init 77 = .ok (.putfield 43, 3) := by decide +kernel
theorem dX0_init_80 : decode cX0_init 80 = .ok (.aload_n 0, 1) := by decide +kernel
theorem dX0_init_81 : decode cX0_init 81 = .ok (.iconst 3, 1) := by decide +kernel
theorem dX0_init_82 : decode cX0_init 82 = .ok (.newarray .int, 2) := by decide +kernel
theorem dX0_init_84 : decode cX0_init 84 = .ok (.putfield 46, 3) := by decide +kernel
theorem dX0_init_87 : decode cX0_init 87 = .ok (.aload_n 0, 1) := by decide +kernel
theorem dX0_init_88 : decode cX0_init 88 = .ok (.iconst 4, 1) := by decide +kernel
theorem dX0_init_89 : decode cX0_init 89 = .ok (.newarray .int, 2) := by decide +kernel
theorem dX0_init_91 : decode cX0_init 91 = .ok (.putfield 49, 3) := by decide +kernel
theorem dX0_init_94 : decode cX0_init 94 = .ok (.aload_n 0, 1) := by decide +kernel
theorem dX0_init_95 : decode cX0_init 95 = .ok (.iconst 0, 1) := by decide +kernel
theorem dX0_init_96 : decode cX0_init 96 = .ok (.putfield 52, 3) := by decide +kernel
theorem dX0_init_99 : decode cX0_init 99 = .ok (.aload_n 0, 1) := by decide +kernel
theorem dX0_init_100 : decode cX0_init 100 = .ok (.iconst 0, 1) := by decide +kernel
theorem dX0_init_101 : decode cX0_init 101 = .ok (.putfield 55, 3) := by decide +kernel
theorem dX0_init_104 : decode cX0_init 104 = .ok (.return_, 1) := by decide +kernel
theorem dX0_search_0 : decode cX0_search 0 = .ok (.aload_n 0, 1) := by decide +kernel
theorem dX0_search_1 : decode cX0_search 1 = .ok (.aload_n 1, 1) := by decide +kernel
theorem dX0_search_2 : decode cX0_search 2 = .ok (.aload_n 2, 1) := by decide +kernel
theorem dX0_search_3 : decode cX0_search 3 = .ok (.invokevirtual 59, 3) := by decide +kernel
theorem dX0_search_6 : decode cX0_search 6 = .ok (.aload_n 0, 1) := by decide +kernel
theorem dX0_search_7 : decode cX0_search 7 = .ok (.iload_n 3, 1) := by decide +kernel
theorem dX0_search_8 : decode cX0_search 8 = .ok (.putfield 55, 3) := by decide +kernel
theorem dX0_search_11 : decode cX0_search 11 = .ok (.aload_n 0, 1) := by decide +kernel
theorem dX0_search_12 : decode cX0_search 12 = .ok (.iconst 0, 1) := by decide +kernel
theorem dX0_search_13 : decode cX0_search 13 = .ok (.putfield 22, 3) := by decide +kernel
theorem dX0_search_16 : decode cX0_search 16 = .ok (.aload_n 0, 1) := by decide +kernel
theorem dX0_search_17 : decode cX0_search 17 = .ok (.bipush (-4), 2) := by decide +kernel
theorem dX0_search_19 : decode cX0_search 19 = .ok (.putfield 25, 3) := by decide +kernel
theorem dX0_search_22 : decode cX0_search 22 = .ok (.aload_n 0, 1) := by decide +kernel
theorem dX0_search_23 : decode cX0_search 23 = .ok (.getfield 28, 3) := by decide +kernel
theorem dX0_search_26 : decode cX0_search 26 = .ok (.bipush 9, 2) := by decide +kernel
theorem dX0_search_28 : decode cX0_search 28 = .ok (.invokestatic 63, 3) := by decide +kernel
theorem dX0_search_31 : decode cX0_search 31 = .ok (.aload_n 0, 1) := by decide +kernel
theorem dX0_search_32 : decode cX0_search 32 = .ok (.getfield 31, 3) := by decide +kernel
theorem dX0_search_35 : decode cX0_search 35 = .ok (.iconst 0, 1) := by decide +kernel
theorem dX0_search_36 : decode cX0_search 36 = .ok (.invokestatic 63, 3) := by decide +kernel
theorem dX0_search_39 : decode cX0_search 39 = .ok (.aload_n 0, 1) := by decide +kernel
theorem dX0_search_40 : decode cX0_search 40 = .ok (.getfield 34, 3) := by decide +kernel
theorem dX0_search_43 : decode cX0_search 43 = .ok (.iconst 0, 1) := by decide +kernel
theorem dX0_search_44 : decode cX0_search 44 = .ok (.invokestatic 63, 3) := by decide +kernel
theorem dX0_search_47 : decode cX0_search 47 = .ok (.aload_n 0, 1) := by decide +kernel
theorem dX0_search_48 : decode cX0_search 48 = .ok (.iconst 0, 1) := by decide +kernel
theorem dX0_search_49 : decode cX0_search 49 = .ok (.iconst 0, 1) := by decide +kernel
theorem dX0_search_50 : decode cX0_search 50 = .ok (.invokevirtual 69, 3) := by decide +kernel
theorem dX0_search_53 : decode cX0_search 53 = .ok (.return_, 1) := by decide +kernel
theorem dX0_worstLeft_0 : decode cX0_worstLeft 0 = .ok (.iconst 0, 1) := by decide +kernel
theorem dX0_worstLeft_1 : decode cX0_worstLeft 1 = .ok (.istore_n 2, 1) := by decide +kernel
theorem dX0_worstLeft_2 : decode cX0_worstLeft 2 = .ok (.iconst 0, 1) := by decide +kernel
theorem dX0_worstLeft_3 : decode cX0_worstLeft 3 = .ok (.istore_n 3, 1) := by decide +kernel
theorem dX0_worstLeft_4 : decode cX0_worstLeft 4 = .ok (.iload_n 3, 1) := by decide +kernel
theorem dX0_worstLeft_5 : decode cX0_worstLeft 5 = .ok (.bipush 10, 2) := by decide +kernel
theorem dX0_worstLeft_7 : decode cX0_worstLeft 7 = .ok (.if_icmp .ge 25, 3) := by decide +kernel
theorem dX0_worstLeft_10 : decode cX0_worstLeft 10 = .ok (.iload_n 2, 1) := by decide +kernel
theorem dX0_worstLeft_11 : decode cX0_worstLeft 11 = .ok (.aload_n 0, 1) := by decide +kernel
theorem dX0_worstLeft_12 : decode cX0_worstLeft 12 = .ok (.getfield 34, 3) := by decide +kernel
theorem dX0_worstLeft_15 : decode cX0_worstLeft 15 = .ok (.iload_n 1, 1) := by decide +kernel
theorem dX0_worstLeft_16 : decode cX0_worstLeft 16 = .ok (.bipush 10, 2) := by decide +kernel
theorem dX0_worstLeft_18 : decode cX0_worstLeft 18 = .ok (.imul, 1) := by decide +kernel
theorem dX0_worstLeft_19 : decode cX0_worstLeft 19 = .ok (.iload_n 3, 1) := by decide +kernel
theorem dX0_worstLeft_20 : decode cX0_worstLeft 20 = .ok (.iadd, 1) := by decide +kernel
theorem dX0_worstLeft_21 : decode cX0_worstLeft 21 = .ok (.iaload, 1) := by decide +kernel
theorem dX0_worstLeft_22 : decode cX0_worstLeft 22 = .ok (.invokestatic 73, 3) := by decide +kernel
theorem dX0_worstLeft_25 : decode cX0_worstLeft 25 = .ok (.istore_n 2, 1) := by decide +kernel
theorem dX0_worstLeft_26 : decode cX0_worstLeft 26 = .ok (.iinc 3 1, 3) := by decide +kernel
theorem dX0_worstLeft_29 : decode cX0_worstLeft 29 = .ok (.goto (-25), 3) := by decide +kernel
theorem dX0_worstLeft_32 : decode cX0_worstLeft 32 = .ok (.iload_n 2, 1) := by decide +kernel
theorem dX0_worstLeft_33 : decode cX0_worstLeft 33 = .ok (.ireturn, 1) := by decide +kernel
theorem dX0_prepare_0 : decode cX0_prepare 0 = .ok (.aload_n 2, 1) := by decide +kernel
theorem dX0_prepare_1 : decode cX0_prepare 1 = .ok (.aload_n 1, 1) := by decide +kernel
theorem dX0_prepare_2 : decode cX0_prepare 2 = .ok (.invokevirtual 79, 3) := by decide +kernel
theorem dX0_prepare_5 : decode cX0_prepare 5 = .ok (.aload_n 0, 1) := by decide +kernel
theorem dX0_prepare_6 : decode cX0_prepare 6 = .ok (.aload_n 1, 1) := by decide +kernel
theorem dX0_prepare_7 : decode cX0_prepare 7 = .ok (.getfield 85, 3) := by decide +kernel
theorem dX0_prepare_10 : decode cX0_prepare 10 = .ok (.putfield 52, 3) := by decide +kernel
theorem dX0_prepare_13 : decode cX0_prepare 13 = .ok (.iconst 0, 1) := by decide +kernel
theorem dX0_prepare_14 : decode cX0_prepare 14 = .ok (.istore_n 3, 1) := by decide +kernel
theorem dX0_prepare_15 : decode cX0_prepare 15 = .ok (.iload_n 3, 1) := by decide +kernel
theorem dX0_prepare_16 : decode cX0_prepare 16 = .ok (.aload_n 0, 1) := by decide +kernel
theorem dX0_prepare_17 : decode cX0_prepare 17 = .ok (.getfield 52, 3) := by decide +kernel
theorem dX0_prepare_20 : decode cX0_prepare 20 = .ok (.if_icmp .ge 62, 3) := by decide +kernel
theorem dX0_prepare_23 : decode cX0_prepare 23 = .ok (.aload_n 0, 1) := by decide +kernel
theorem dX0_prepare_24 : decode cX0_prepare 24 = .ok (.getfield 40, 3) := by decide +kernel
theorem dX0_prepare_27 : decode cX0_prepare 27 = .ok (.iload_n 3, 1) := by decide +kernel
theorem dX0_prepare_28 : decode cX0_prepare 28 = .ok (.aload_n 1, 1) := by decide +kernel
theorem dX0_prepare_29 : decode cX0_prepare 29 = .ok (.iload_n 3, 1) := by decide +kernel
theorem dX0_prepare_30 : decode cX0_prepare 30 = .ok (.iconst 2, 1) := by decide +kernel
theorem dX0_prepare_31 : decode cX0_prepare 31 = .ok (.invokevirtual 86, 3) := by decide +kernel
theorem dX0_prepare_34 : decode cX0_prepare 34 = .ok (.iastore, 1) := by decide +kernel
theorem dX0_prepare_35 : decode cX0_prepare 35 = .ok (.iconst 0, 1) := by decide +kernel
theorem dX0_prepare_36 : decode cX0_prepare 36 = .ok (.istore 4, 2) := by decide +kernel
theorem dX0_prepare_38 : decode cX0_prepare 38 = .ok (.iload 4, 2) := by decide +kernel
theorem dX0_prepare_40 : decode cX0_prepare 40 = .ok (.bipush 10, 2) := by decide +kernel
theorem dX0_prepare_42 : decode cX0_prepare 42 = .ok (.if_icmp .ge 34, 3) := by decide +kernel
theorem dX0_prepare_45 : decode cX0_prepare 45 = .ok (.aload_n 2, 1) := by decide +kernel
theorem dX0_prepare_46 : decode cX0_prepare 46 = .ok (.iload_n 3, 1) := by decide +kernel
theorem dX0_prepare_47 : decode cX0_prepare 47 = .ok (.iconst 1, 1) := by decide +kernel
theorem dX0_prepare_48 : decode cX0_prepare 48 = .ok (.iload 4, 2) := by decide +kernel
theorem dX0_prepare_50 : decode cX0_prepare 50 = .ok (.invokevirtual 89, 3) := by decide +kernel
theorem dX0_prepare_53 : decode cX0_prepare 53 = .ok (.aload_n 0, 1) := by decide +kernel
theorem dX0_prepare_54 : decode cX0_prepare 54 = .ok (.getfield 37, 3) := by decide +kernel
theorem dX0_prepare_57 : decode cX0_prepare 57 = .ok (.iload_n 3, 1) := by decide +kernel
theorem dX0_prepare_58 : decode cX0_prepare 58 = .ok (.bipush 10, 2) := by decide +kernel
theorem dX0_prepare_60 : decode cX0_prepare 60 = .ok (.imul, 1) := by decide +kernel
theorem dX0_prepare_61 : decode cX0_prepare 61 = .ok (.iload 4, 2) := by decide +kernel
theorem dX0_prepare_63 : decode cX0_prepare 63 = .ok (.iadd, 1) := by decide +kernel
theorem dX0_prepare_64 : decode cX0_prepare 64 = .ok (.aload_n 2, 1) := by decide +kernel
theorem dX0_prepare_65 : decode cX0_prepare 65 = .ok (.iload_n 3, 1) := by decide +kernel
theorem dX0_prepare_66 : decode cX0_prepare 66 = .ok (.invokevirtual 93, 3) := by decide +kernel
theorem dX0_prepare_69 : decode cX0_prepare 69 = .ok (.iastore, 1) := by decide +kernel
theorem dX0_prepare_70 : decode cX0_prepare 70 = .ok (.iinc 4 1, 3) := by decide +kernel
theorem dX0_prepare_73 : decode cX0_prepare 73 = .ok (.goto (-35), 3) := by decide +kernel
theorem dX0_prepare_76 : decode cX0_prepare 76 = .ok (.iinc 3 1, 3) := by decide +kernel
theorem dX0_prepare_79 : decode cX0_prepare 79 = .ok (.goto (-64), 3) := by decide +kernel
theorem dX0_prepare_82 : decode cX0_prepare 82 = .ok (.aload_n 0, 1) := by decide +kernel
theorem dX0_prepare_83 : decode cX0_prepare 83 = .ok (.getfield 46, 3) := by decide +kernel
theorem dX0_prepare_86 : decode cX0_prepare 86 = .ok (.iconst 0, 1) := by decide +kernel
theorem dX0_prepare_87 : decode cX0_prepare 87 = .ok (.invokestatic 63, 3) := by decide +kernel
theorem dX0_prepare_90 : decode cX0_prepare 90 = .ok (.aload_n 0, 1) := by decide +kernel
theorem dX0_prepare_91 : decode cX0_prepare 91 = .ok (.getfield 49, 3) := by decide +kernel
theorem dX0_prepare_94 : decode cX0_prepare 94 = .ok (.iconst 0, 1) := by decide +kernel
theorem dX0_prepare_95 : decode cX0_prepare 95 = .ok (.invokestatic 63, 3) := by decide +kernel
theorem dX0_prepare_98 : decode cX0_prepare 98 = .ok (.iconst 0, 1) := by decide +kernel
theorem dX0_prepare_99 : decode cX0_prepare 99 = .ok (.istore_n 3, 1) := by decide +kernel
theorem dX0_prepare_100 : decode cX0_prepare 100 = .ok (.iload_n 3, 1) := by decide +kernel
theorem dX0_prepare_101 : decode cX0_prepare 101 = .ok (.iconst 3, 1) := by decide +kernel
theorem dX0_prepare_102 : decode cX0_prepare 102 = .ok (.if_icmp .ge 28, 3) := by decide +kernel
theorem dX0_prepare_105 : decode cX0_prepare 105 = .ok (.aload_n 0, 1) := by decide +kernel
theorem dX0_prepare_106 : decode cX0_prepare 106 = .ok (.getfield 49, 3) := by decide +kernel
theorem dX0_prepare_109 : decode cX0_prepare 109 = .ok (.iload_n 3, 1) := by decide +kernel
theorem dX0_prepare_110 : decode cX0_prepare 110 = .ok (.aload_n 1, 1) := by decide +kernel
theorem dX0_prepare_111 : decode cX0_prepare 111 = .ok (.getfield 97, 3) := by decide +kernel
theorem dX0_prepare_114 : decode cX0_prepare 114 = .ok (.iload_n 3, 1) := by decide +kernel
theorem dX0_prepare_115 : decode cX0_prepare 115 = .ok (.iaload, 1) := by decide +kernel
theorem dX0_prepare_116 : decode cX0_prepare 116 = .ok (.aload_n 1, 1) := by decide +kernel
theorem dX0_prepare_117 : decode cX0_prepare 117 = .ok (.getfield 100, 3) := by decide +kernel
theorem dX0_prepare_120 : decode cX0_prepare 120 = .ok (.iload_n 3, 1) := by decide +kernel
theorem dX0_prepare_121 : decode cX0_prepare 121 = .ok (.iaload, 1) := by decide +kernel
theorem dX0_prepare_122 : decode cX0_prepare 122 = .ok (.isub, 1) := by decide +kernel
theorem dX0_prepare_123 : decode cX0_prepare 123 = .ok (.iastore, 1) := by decide +kernel
theorem dX0_prepare_124 : decode cX0_prepare 124 = .ok (.iinc 3 1, 3) := by decide +kernel
theorem dX0_prepare_127 : decode cX0_prepare 127 = .ok (.goto (-27), 3) := by decide +kernel
theorem dX0_prepare_130 : decode cX0_prepare 130 = .ok (.return_, 1) := by decide +kernel
theorem dX0_guessFrom_0 : decode cX0_guessFrom 0 = .ok (.iload_n 1, 1) := by decide +kernel
theorem dX0_guessFrom_1 : decode cX0_guessFrom 1 = .ok (.aload_n 0, 1) := by decide +kernel
theorem dX0_guessFrom_2 : decode cX0_guessFrom 2 = .ok (.getfield 52, 3) := by decide +kernel
theorem dX0_guessFrom_5 : decode cX0_guessFrom 5 = .ok (.if_icmp .ge 8, 3) := by decide +kernel
theorem dX0_guessFrom_8 : decode cX0_guessFrom 8 = .ok (.iload_n 1, 1) := by decide +kernel
theorem dX0_guessFrom_9 : decode cX0_guessFrom 9 = .ok (.iconst 4, 1) := by decide +kernel
theorem dX0_guessFrom_10 : decode cX0_guessFrom 10 = .ok (.if_icmp .lt 9, 3) := by decide +kernel
theorem dX0_guessFrom_13 : decode cX0_guessFrom 13 = .ok (.aload_n 0, 1) := by decide +kernel
theorem dX0_guessFrom_14 : decode cX0_guessFrom 14 = .ok (.iload_n 2, 1) := by decide +kernel
theorem dX0_guessFrom_15 : decode cX0_guessFrom 15 = .ok (.invokevirtual 103, 3) := by decide +kernel
theorem dX0_guessFrom_18 : decode cX0_guessFrom 18 = .ok (.return_, 1) := by decide +kernel
theorem dX0_guessFrom_19 : decode cX0_guessFrom 19 = .ok (.iconst 0, 1) := by decide +kernel
theorem dX0_guessFrom_20 : decode cX0_guessFrom 20 = .ok (.istore_n 3, 1) := by decide +kernel
theorem dX0_guessFrom_21 : decode cX0_guessFrom 21 = .ok (.iload_n 3, 1) := by decide +kernel
theorem dX0_guessFrom_22 : decode cX0_guessFrom 22 = .ok (.bipush 10, 2) := by decide +kernel
theorem dX0_guessFrom_24 : decode cX0_guessFrom 24 = .ok (.if_icmp .ge 57, 3) := by decide +kernel
theorem dX0_guessFrom_27 : decode cX0_guessFrom 27 = .ok (.aload_n 0, 1) := by decide +kernel
theorem dX0_guessFrom_28 : decode cX0_guessFrom 28 = .ok (.getfield 37, 3) := by decide +kernel
theorem dX0_guessFrom_31 : decode cX0_guessFrom 31 = .ok (.iload_n 1, 1) := by decide +kernel
theorem dX0_guessFrom_32 : decode cX0_guessFrom 32 = .ok (.bipush 10, 2) := by decide +kernel
theorem dX0_guessFrom_34 : decode cX0_guessFrom 34 = .ok (.imul, 1) := by decide +kernel
theorem dX0_guessFrom_35 : decode cX0_guessFrom 35 = .ok (.iload_n 3, 1) := by decide +kernel
theorem dX0_guessFrom_36 : decode cX0_guessFrom 36 = .ok (.iadd, 1) := by decide +kernel
theorem dX0_guessFrom_37 : decode cX0_guessFrom 37 = .ok (.iaload, 1) := by decide +kernel
theorem dX0_guessFrom_38 : decode cX0_guessFrom 38 = .ok (.istore 4, 2) := by decide +kernel
theorem dX0_guessFrom_40 : decode cX0_guessFrom 40 = .ok (.aload_n 0, 1) := by decide +kernel
theorem dX0_guessFrom_41 : decode cX0_guessFrom 41 = .ok (.getfield 43, 3) := by decide +kernel
theorem dX0_guessFrom_44 : decode cX0_guessFrom 44 = .ok (.iload_n 1, 1) := by decide +kernel
theorem dX0_guessFrom_45 : decode cX0_guessFrom 45 = .ok (.iload_n 3, 1) := by decide +kernel
theorem dX0_guessFrom_46 : decode cX0_guessFrom 46 = .ok (.iastore, 1) := by decide +kernel
theorem dX0_guessFrom_47 : decode cX0_guessFrom 47 = .ok (.aload_n 0, 1) := by decide +kernel
theorem dX0_guessFrom_48 : decode cX0_guessFrom 48 = .ok (.iload_n 1, 1) := by decide +kernel
theorem dX0_guessFrom_49 : decode cX0_guessFrom 49 = .ok (.iload 4, 2) := by decide +kernel
theorem dX0_guessFrom_51 : decode cX0_guessFrom 51 = .ok (.invokevirtual 107, 3) := by decide +kernel
theorem dX0_guessFrom_54 : decode cX0_guessFrom 54 = .ok (.aload_n 0, 1) := by decide +kernel
theorem dX0_guessFrom_55 : decode cX0_guessFrom 55 = .ok (.iload_n 1, 1) := by decide +kernel
theorem dX0_guessFrom_56 : decode cX0_guessFrom 56 = .ok (.iconst 1, 1) := by decide +kernel
theorem dX0_guessFrom_57 : decode cX0_guessFrom 57 = .ok (.iadd, 1) := by decide +kernel
theorem dX0_guessFrom_58 : decode cX0_guessFrom 58 = .ok (.iload_n 2, 1) := by decide +kernel
theorem dX0_guessFrom_59 : decode cX0_guessFrom 59 = .ok (.bipush 10, 2) := by decide +kernel
theorem dX0_guessFrom_61 : decode cX0_guessFrom 61 = .ok (.imul, 1) := by decide +kernel
theorem dX0_guessFrom_62 : decode cX0_guessFrom 62 = .ok (.iload_n 3, 1) := by decide +kernel
theorem dX0_guessFrom_63 : decode cX0_guessFrom 63 = .ok (.iadd, 1) := by decide +kernel
theorem dX0_guessFrom_64 : decode cX0_guessFrom 64 = .ok (.invokevirtual 69, 3) := by decide +kernel
theorem dX0_guessFrom_67 : decode cX0_guessFrom 67 = .ok (.aload_n 0, 1) := by decide +kernel
theorem dX0_guessFrom_68 : decode cX0_guessFrom 68 = .ok (.iload_n 1, 1) := by decide +kernel
theorem dX0_guessFrom_69 : decode cX0_guessFrom 69 = .ok (.iload 4, 2) := by decide +kernel
theorem dX0_guessFrom_71 : decode cX0_guessFrom 71 = .ok (.ineg, 1) := by decide +kernel
theorem dX0_guessFrom_72 : decode cX0_guessFrom 72 = .ok (.invokevirtual 107, 3) := by decide +kernel
theorem dX0_guessFrom_75 : decode cX0_guessFrom 75 = .ok (.iinc 3 1, 3) := by decide +kernel
theorem dX0_guessFrom_78 : decode cX0_guessFrom 78 = .ok (.goto (-57), 3) := by decide +kernel
theorem dX0_guessFrom_81 : decode cX0_guessFrom 81 = .ok (.return_, 1) := by decide +kernel
theorem dX0_giveMore_0 : decode cX0_giveMore 0 = .ok (.aload_n 0, 1) := by decide +kernel
theorem dX0_giveMore_1 : decode cX0_giveMore 1 = .ok (.getfield 49, 3) := by decide +kernel
theorem dX0_giveMore_4 : decode cX0_giveMore 4 = .ok (.aload_n 0, 1) := by decide +kernel
theorem dX0_giveMore_5 : decode cX0_giveMore 5 = .ok (.getfield 40, 3) := by decide +kernel
theorem dX0_giveMore_8 : decode cX0_giveMore 8 = .ok (.iload_n 1, 1) := by decide +kernel
theorem dX0_giveMore_9 : decode cX0_giveMore 9 = .ok (.iaload, 1) := by decide +kernel
theorem dX0_giveMore_10 : decode cX0_giveMore 10 = .ok (.dup2, 1) := by decide +kernel
theorem dX0_giveMore_11 : decode cX0_giveMore 11 = .ok (.iaload, 1) := by decide +kernel
theorem dX0_giveMore_12 : decode cX0_giveMore 12 = .ok (.iload_n 2, 1) := by decide +kernel
theorem dX0_giveMore_13 : decode cX0_giveMore 13 = .ok (.iadd, 1) := by decide +kernel
theorem dX0_giveMore_14 : decode cX0_giveMore 14 = .ok (.iastore, 1) := by decide +kernel
theorem dX0_giveMore_15 : decode cX0_giveMore 15 = .ok (.iconst 0, 1) := by decide +kernel
theorem dX0_giveMore_16 : decode cX0_giveMore 16 = .ok (.istore_n 3, 1) := by decide +kernel
theorem dX0_giveMore_17 : decode cX0_giveMore 17 = .ok (.iload_n 3, 1) := by decide +kernel
theorem dX0_giveMore_18 : decode cX0_giveMore 18 = .ok (.iconst 3, 1) := by decide +kernel
theorem dX0_giveMore_19 : decode cX0_giveMore 19 = .ok (.if_icmp .ge 25, 3) := by decide +kernel
theorem dX0_giveMore_22 : decode cX0_giveMore 22 = .ok (.aload_n 0, 1) := by decide +kernel
theorem dX0_giveMore_23 : decode cX0_giveMore 23 = .ok (.getfield 46, 3) := by decide +kernel
theorem dX0_giveMore_26 : decode cX0_giveMore 26 = .ok (.iload_n 3, 1) := by decide +kernel
theorem dX0_giveMore_27 : decode cX0_giveMore 27 = .ok (.dup2, 1) := by decide +kernel
theorem dX0_giveMore_28 : decode cX0_giveMore 28 = .ok (.iaload, 1) := by decide +kernel
theorem dX0_giveMore_29 : decode cX0_giveMore 29 = .ok (.iload_n 2, 1) := by decide +kernel
theorem dX0_giveMore_30 : decode cX0_giveMore 30 = .ok (.iload_n 3, 1) := by decide +kernel
theorem dX0_giveMore_31 : decode cX0_giveMore 31 = .ok (.iload_n 1, 1) := by decide +kernel
theorem dX0_giveMore_32 : decode cX0_giveMore 32 = .ok (.invokestatic 110, 3) := by decide +kernel
theorem dX0_giveMore_35 : decode cX0_giveMore 35 = .ok (.imul, 1) := by decide +kernel
theorem dX0_giveMore_36 : decode cX0_giveMore 36 = .ok (.iadd, 1) := by decide +kernel
theorem dX0_giveMore_37 : decode cX0_giveMore 37 = .ok (.iastore, 1) := by decide +kernel
theorem dX0_giveMore_38 : decode cX0_giveMore 38 = .ok (.iinc 3 1, 3) := by decide +kernel
theorem dX0_giveMore_41 : decode cX0_giveMore 41 = .ok (.goto (-24), 3) := by decide +kernel
theorem dX0_giveMore_44 : decode cX0_giveMore 44 = .ok (.return_, 1) := by decide +kernel
theorem dX0_judge_0 : decode cX0_judge 0 = .ok (.iconst 0, 1) := by decide +kernel
theorem dX0_judge_1 : decode cX0_judge 1 = .ok (.istore_n 2, 1) := by decide +kernel
theorem dX0_judge_2 : decode cX0_judge 2 = .ok (.iconst 0, 1) := by decide +kernel
theorem dX0_judge_3 : decode cX0_judge 3 = .ok (.istore_n 3, 1) := by decide +kernel
theorem dX0_judge_4 : decode cX0_judge 4 = .ok (.iload_n 3, 1) := by decide +kernel
theorem dX0_judge_5 : decode cX0_judge 5 = .ok (.iconst 3, 1) := by decide +kernel
theorem dX0_judge_6 : decode cX0_judge 6 = .ok (.if_icmp .ge 22, 3) := by decide +kernel
theorem dX0_judge_9 : decode cX0_judge 9 = .ok (.iload_n 2, 1) := by decide +kernel
theorem dX0_judge_10 : decode cX0_judge 10 = .ok (.iconst 0, 1) := by decide +kernel
theorem dX0_judge_11 : decode cX0_judge 11 = .ok (.aload_n 0, 1) := by decide +kernel
theorem dX0_judge_12 : decode cX0_judge 12 = .ok (.getfield 49, 3) := by decide +kernel
theorem dX0_judge_15 : decode cX0_judge 15 = .ok (.iload_n 3, 1) := by decide +kernel
theorem dX0_judge_16 : decode cX0_judge 16 = .ok (.iaload, 1) := by decide +kernel
theorem dX0_judge_17 : decode cX0_judge 17 = .ok (.invokestatic 73, 3) := by decide +kernel
theorem dX0_judge_20 : decode cX0_judge 20 = .ok (.iadd, 1) := by decide +kernel
theorem dX0_judge_21 : decode cX0_judge 21 = .ok (.istore_n 2, 1) := by decide +kernel
theorem dX0_judge_22 : decode cX0_judge 22 = .ok (.iinc 3 1, 3) := by decide +kernel
theorem dX0_judge_25 : decode cX0_judge 25 = .ok (.goto (-21), 3) := by decide +kernel
theorem dX0_judge_28 : decode cX0_judge 28 = .ok (.iconst 0, 1) := by decide +kernel
theorem dX0_judge_29 : decode cX0_judge 29 = .ok (.istore_n 3, 1) := by decide +kernel
theorem dX0_judge_30 : decode cX0_judge 30 = .ok (.iload_n 3, 1) := by decide +kernel
theorem dX0_judge_31 : decode cX0_judge 31 = .ok (.aload_n 0, 1) := by decide +kernel
theorem dX0_judge_32 : decode cX0_judge 32 = .ok (.getfield 18, 3) := by decide +kernel
theorem dX0_judge_35 : decode cX0_judge 35 = .ok (.if_icmp .ge 30, 3) := by decide +kernel
theorem dX0_judge_38 : decode cX0_judge 38 = .ok (.aload_n 0, 1) := by decide +kernel
theorem dX0_judge_39 : decode cX0_judge 39 = .ok (.aload_n 0, 1) := by decide +kernel
theorem dX0_judge_40 : decode cX0_judge 40 = .ok (.getfield 9, 3) := by decide +kernel
theorem dX0_judge_43 : decode cX0_judge 43 = .ok (.iload_n 3, 1) := by decide +kernel
theorem dX0_judge_44 : decode cX0_judge 44 = .ok (.iaload, 1) := by decide +kernel
theorem dX0_judge_45 : decode cX0_judge 45 = .ok (.iload_n 2, 1) := by decide +kernel
theorem dX0_judge_46 : decode cX0_judge 46 = .ok (.invokevirtual 113, 3) := by decide +kernel
theorem dX0_judge_49 : decode cX0_judge 49 = .ok (.aload_n 0, 1) := by decide +kernel
theorem dX0_judge_50 : decode cX0_judge 50 = .ok (.getfield 15, 3) := by decide +kernel
theorem dX0_judge_53 : decode cX0_judge 53 = .ok (.iload_n 3, 1) := by decide +kernel
theorem dX0_judge_54 : decode cX0_judge 54 = .ok (.iaload, 1) := by decide +kernel
theorem dX0_judge_55 : decode cX0_judge 55 = .ok (.if_icmp .eq 4, 3) := by decide +kernel
theorem dX0_judge_58 : decode cX0_judge 58 = .ok (.return_, 1) := by decide +kernel
theorem dX0_judge_59 : decode cX0_judge 59 = .ok (.iinc 3 1, 3) := by decide +kernel
theorem dX0_judge_62 : decode cX0_judge 62 = .ok (.goto (-32), 3) := by decide +kernel
theorem dX0_judge_65 : decode cX0_judge 65 = .ok (.aload_n 0, 1) := by decide +kernel
theorem dX0_judge_66 : decode cX0_judge 66 = .ok (.getfield 22, 3) := by decide +kernel
theorem dX0_judge_69 : decode cX0_judge 69 = .ok (.ifCond .ne 8, 3) := by decide +kernel
theorem dX0_judge_72 : decode cX0_judge 72 = .ok (.aload_n 0, 1) := by decide +kernel
theorem dX0_judge_73 : decode cX0_judge 73 = .ok (.iload_n 1, 1) := by decide +kernel
theorem dX0_judge_74 : decode cX0_judge 74 = .ok (.putfield 25, 3) := by decide +kernel
theorem dX0_judge_77 : decode cX0_judge 77 = .ok (.aload_n 0, 1) := by decide +kernel
theorem dX0_judge_78 : decode cX0_judge 78 = .ok (.dup, 1) := by decide +kernel
theorem dX0_judge_79 : decode cX0_judge 79 = .ok (.getfield 22, 3) := by decide +kernel
theorem dX0_judge_82 : decode cX0_judge 82 = .ok (.iconst 1, 1) := by decide +kernel
theorem dX0_judge_83 : decode cX0_judge 83 = .ok (.iadd, 1) := by decide +kernel
theorem dX0_judge_84 : decode cX0_judge 84 = .ok (.putfield 22, 3) := by decide +kernel
theorem dX0_judge_87 : decode cX0_judge 87 = .ok (.iconst 0, 1) := by decide +kernel
theorem dX0_judge_88 : decode cX0_judge 88 = .ok (.istore_n 3, 1) := by decide +kernel
theorem dX0_judge_89 : decode cX0_judge 89 = .ok (.iload_n 3, 1) := by decide +kernel
theorem dX0_judge_90 : decode cX0_judge 90 = .ok (.aload_n 0, 1) := by decide +kernel
theorem dX0_judge_91 : decode cX0_judge 91 = .ok (.getfield 52, 3) := by decide +kernel
theorem dX0_judge_94 : decode cX0_judge 94 = .ok (.if_icmp .ge 51, 3) := by decide +kernel
theorem dX0_judge_97 : decode cX0_judge 97 = .ok (.aload_n 0, 1) := by decide +kernel
theorem dX0_judge_98 : decode cX0_judge 98 = .ok (.getfield 28, 3) := by decide +kernel
theorem dX0_judge_101 : decode cX0_judge 101 = .ok (.iload_n 3, 1) := by decide +kernel
theorem dX0_judge_102 : decode cX0_judge 102 = .ok (.aload_n 0, 1) := by decide +kernel
theorem dX0_judge_103 : decode cX0_judge 103 = .ok (.getfield 28, 3) := by decide +kernel
theorem dX0_judge_106 : decode cX0_judge 106 = .ok (.iload_n 3, 1) := by decide +kernel
theorem dX0_judge_107 : decode cX0_judge 107 = .ok (.iaload, 1) := by decide +kernel
theorem dX0_judge_108 : decode cX0_judge 108 = .ok (.aload_n 0, 1) := by decide +kernel
theorem dX0_judge_109 : decode cX0_judge 109 = .ok (.getfield 43, 3) := by decide +kernel
theorem dX0_judge_112 : decode cX0_judge 112 = .ok (.iload_n 3, 1) := by decide +kernel
theorem dX0_judge_113 : decode cX0_judge 113 = .ok (.iaload, 1) := by decide +kernel
theorem dX0_judge_114 : decode cX0_judge 114 = .ok (.invokestatic 116, 3) := by decide +kernel
theorem dX0_judge_117 : decode cX0_judge 117 = .ok (.iastore, 1) := by decide +kernel
theorem dX0_judge_118 : decode cX0_judge 118 = .ok (.aload_n 0, 1) := by decide +kernel
theorem dX0_judge_119 : decode cX0_judge 119 = .ok (.getfield 31, 3) := by decide +kernel
theorem dX0_judge_122 : decode cX0_judge 122 = .ok (.iload_n 3, 1) := by decide +kernel
theorem dX0_judge_123 : decode cX0_judge 123 = .ok (.aload_n 0, 1) := by decide +kernel
theorem dX0_judge_124 : decode cX0_judge 124 = .ok (.getfield 31, 3) := by decide +kernel
theorem dX0_judge_127 : decode cX0_judge 127 = .ok (.iload_n 3, 1) := by decide +kernel
theorem dX0_judge_128 : decode cX0_judge 128 = .ok (.iaload, 1) := by decide +kernel
theorem dX0_judge_129 : decode cX0_judge 129 = .ok (.aload_n 0, 1) := by decide +kernel
theorem dX0_judge_130 : decode cX0_judge 130 = .ok (.getfield 43, 3) := by decide +kernel
theorem dX0_judge_133 : decode cX0_judge 133 = .ok (.iload_n 3, 1) := by decide +kernel
theorem dX0_judge_134 : decode cX0_judge 134 = .ok (.iaload, 1) := by decide +kernel
theorem dX0_judge_135 : decode cX0_judge 135 = .ok (.invokestatic 73, 3) := by decide +kernel
theorem dX0_judge_138 : decode cX0_judge 138 = .ok (.iastore, 1) := by decide +kernel
theorem dX0_judge_139 : decode cX0_judge 139 = .ok (.iinc 3 1, 3) := by decide +kernel
theorem dX0_judge_142 : decode cX0_judge 142 = .ok (.goto (-53), 3) := by decide +kernel
theorem dX0_judge_145 : decode cX0_judge 145 = .ok (.aload_n 0, 1) := by decide +kernel
theorem dX0_judge_146 : decode cX0_judge 146 = .ok (.getfield 55, 3) := by decide +kernel
theorem dX0_judge_149 : decode cX0_judge 149 = .ok (.ifCond .ne 4, 3) := by decide +kernel
theorem dX0_judge_152 : decode cX0_judge 152 = .ok (.return_, 1) := by decide +kernel
theorem dX0_judge_153 : decode cX0_judge 153 = .ok (.iconst 0, 1) := by decide +kernel
theorem dX0_judge_154 : decode cX0_judge 154 = .ok (.istore_n 3, 1) := by decide +kernel
theorem dX0_judge_155 : decode cX0_judge 155 = .ok (.iload_n 3, 1) := by decide +kernel
theorem dX0_judge_156 : decode cX0_judge 156 = .ok (.bipush 9, 2) := by decide +kernel
theorem dX0_judge_158 : decode cX0_judge 158 = .ok (.if_icmp .ge 29, 3) := by decide +kernel
theorem dX0_judge_161 : decode cX0_judge 161 = .ok (.aload_n 0, 1) := by decide +kernel
theorem dX0_judge_162 : decode cX0_judge 162 = .ok (.getfield 34, 3) := by decide +kernel
theorem dX0_judge_165 : decode cX0_judge 165 = .ok (.iload_n 3, 1) := by decide +kernel
theorem dX0_judge_166 : decode cX0_judge 166 = .ok (.bipush 10, 2) := by decide +kernel
theorem dX0_judge_168 : decode cX0_judge 168 = .ok (.imul, 1) := by decide +kernel
theorem dX0_judge_169 : decode cX0_judge 169 = .ok (.aload_n 0, 1) := by decide +kernel
theorem dX0_judge_170 : decode cX0_judge 170 = .ok (.iload_n 3, 1) := by decide +kernel
theorem dX0_judge_171 : decode cX0_judge 171 = .ok (.iload_n 2, 1) := by decide +kernel
theorem dX0_judge_172 : decode cX0_judge 172 = .ok (.invokevirtual 113, 3) := by decide +kernel
theorem dX0_judge_175 : decode cX0_judge 175 = .ok (.iadd, 1) := by decide +kernel
theorem dX0_judge_176 : decode cX0_judge 176 = .ok (.dup2, 1) := by decide +kernel
theorem dX0_judge_177 : decode cX0_judge 177 = .ok (.iaload, 1) := by decide +kernel
theorem dX0_judge_178 : decode cX0_judge 178 = .ok (.iconst 1, 1) := by decide +kernel
theorem dX0_judge_179 : decode cX0_judge 179 = .ok (.iadd, 1) := by decide +kernel
theorem dX0_judge_180 : decode cX0_judge 180 = .ok (.iastore, 1) := by decide +kernel
theorem dX0_judge_181 : decode cX0_judge 181 = .ok (.iinc 3 1, 3) := by decide +kernel
theorem dX0_judge_184 : decode cX0_judge 184 = .ok (.goto (-29), 3) := by decide +kernel
theorem dX0_judge_187 : decode cX0_judge 187 = .ok (.return_, 1) := by decide +kernel
theorem dX0_figureAt_0 : decode cX0_figureAt 0 = .ok (.aload_n 0, 1) := by decide +kernel
theorem dX0_figureAt_1 : decode cX0_figureAt 1 = .ok (.getfield 46, 3) := by decide +kernel
theorem dX0_figureAt_4 : decode cX0_figureAt 4 = .ok (.iload_n 1, 1) := by decide +kernel
theorem dX0_figureAt_5 : decode cX0_figureAt 5 = .ok (.iconst 3, 1) := by decide +kernel
theorem dX0_figureAt_6 : decode cX0_figureAt 6 = .ok (.irem, 1) := by decide +kernel
theorem dX0_figureAt_7 : decode cX0_figureAt 7 = .ok (.iaload, 1) := by decide +kernel
theorem dX0_figureAt_8 : decode cX0_figureAt 8 = .ok (.iload_n 1, 1) := by decide +kernel
theorem dX0_figureAt_9 : decode cX0_figureAt 9 = .ok (.iload_n 2, 1) := by decide +kernel
theorem dX0_figureAt_10 : decode cX0_figureAt 10 = .ok (.imul, 1) := by decide +kernel
theorem dX0_figureAt_11 : decode cX0_figureAt 11 = .ok (.iadd, 1) := by decide +kernel
theorem dX0_figureAt_12 : decode cX0_figureAt 12 = .ok (.bipush 10, 2) := by decide +kernel
theorem dX0_figureAt_14 : decode cX0_figureAt 14 = .ok (.irem, 1) := by decide +kernel
theorem dX0_figureAt_15 : decode cX0_figureAt 15 = .ok (.ireturn, 1) := by decide +kernel
theorem dX1_init_0 : decode cX1_init 0 = .ok (.aload_n 0, 1) := by decide +kernel
theorem dX1_init_1 : decode cX1_init 1 = .ok (.invokespecial 3, 3) := by decide +kernel
theorem dX1_init_4 : decode cX1_init 4 = .ok (.aload_n 0, 1) := by decide +kernel
theorem dX1_init_5 : decode cX1_init 5 = .ok (.iconst 4, 1) := by decide +kernel
theorem dX1_init_6 : decode cX1_init 6 = .ok (.newarray .int, 2) := by decide +kernel
theorem dX1_init_8 : decode cX1_init 8 = .ok (.putfield 9, 3) := by decide +kernel
theorem dX1_init_11 : decode cX1_init 11 = .ok (.aload_n 0, 1) := by decide +kernel
theorem dX1_init_12 : decode cX1_init 12 = .ok (.iconst 4, 1) := by decide +kernel
theorem dX1_init_13 : decode cX1_init 13 = .ok (.newarray .int, 2) := by decide +kernel
theorem dX1_init_15 : decode cX1_init 15 = .ok (.putfield 15, 3) := by decide +kernel
theorem dX1_init_18 : decode cX1_init 18 = .ok (.aload_n 0, 1) := by decide +kernel
theorem dX1_init_19 : decode cX1_init 19 = .ok (.iconst 0, 1) := by decide +kernel
theorem dX1_init_20 : decode cX1_init 20 = .ok (.putfield 18, 3) := by decide +kernel
theorem dX1_init_23 : decode cX1_init 23 = .ok (.return_, 1) := by decide +kernel
theorem dX1_gather_0 : decode cX1_gather 0 = .ok (.iconst 0, 1) := by decide +kernel
theorem dX1_gather_1 : decode cX1_gather 1 = .ok (.istore_n 2, 1) := by decide +kernel
theorem dX1_gather_2 : decode cX1_gather 2 = .ok (.iload_n 2, 1) := by decide +kernel
theorem dX1_gather_3 : decode cX1_gather 3 = .ok (.aload_n 1, 1) := by decide +kernel
theorem dX1_gather_4 : decode cX1_gather 4 = .ok (.getfield 22, 3) := by decide +kernel
theorem dX1_gather_7 : decode cX1_gather 7 = .ok (.if_icmp .ge 20, 3) := by decide +kernel
theorem dX1_gather_10 : decode cX1_gather 10 = .ok (.aload_n 0, 1) := by decide +kernel
theorem dX1_gather_11 : decode cX1_gather 11 = .ok (.getfield 9, 3) := by decide +kernel
theorem dX1_gather_14 : decode cX1_gather 14 = .ok (.iload_n 2, 1) := by decide +kernel
theorem dX1_gather_15 : decode cX1_gather 15 = .ok (.aload_n 1, 1) := by decide +kernel
theorem dX1_gather_16 : decode cX1_gather 16 = .ok (.iload_n 2, 1) := by decide +kernel
theorem dX1_gather_17 : decode cX1_gather 17 = .ok (.invokevirtual 27, 3) := by decide +kernel
theorem dX1_gather_20 : decode cX1_gather 20 = .ok (.iastore, 1) := by decide +kernel
theorem dX1_gather_21 : decode cX1_gather 21 = .ok (.iinc 2 1, 3) := by decide +kernel
theorem dX1_gather_24 : decode cX1_gather 24 = .ok (.goto (-22), 3) := by decide +kernel
theorem dX1_gather_27 : decode cX1_gather 27 = .ok (.return_, 1) := by decide +kernel
theorem dX1_pour_0 : decode cX1_pour 0 = .ok (.aload_n 0, 1) := by decide +kernel
theorem dX1_pour_1 : decode cX1_pour 1 = .ok (.getfield 15, 3) := by decide +kernel
theorem dX1_pour_4 : decode cX1_pour 4 = .ok (.iconst 0, 1) := by decide +kernel
theorem dX1_pour_5 : decode cX1_pour 5 = .ok (.invokestatic 31, 3) := by decide +kernel
theorem dX1_pour_8 : decode cX1_pour 8 = .ok (.iconst 0, 1) := by decide +kernel
theorem dX1_pour_9 : decode cX1_pour 9 = .ok (.istore_n 2, 1) := by decide +kernel
theorem dX1_pour_10 : decode cX1_pour 10 = .ok (.iload_n 2, 1) := by decide +kernel
theorem dX1_pour_11 : decode cX1_pour 11 = .ok (.aload_n 1, 1) := by decide +kernel
theorem dX1_pour_12 : decode cX1_pour 12 = .ok (.getfield 22, 3) := by decide +kernel
theorem dX1_pour_15 : decode cX1_pour 15 = .ok (.if_icmp .ge 29, 3) := by decide +kernel
theorem dX1_pour_18 : decode cX1_pour 18 = .ok (.aload_n 0, 1) := by decide +kernel
theorem dX1_pour_19 : decode cX1_pour 19 = .ok (.getfield 15, 3) := by decide +kernel
theorem dX1_pour_22 : decode cX1_pour 22 = .ok (.aload_n 1, 1) := by decide +kernel
theorem dX1_pour_23 : decode cX1_pour 23 = .ok (.iload_n 2, 1) := by decide +kernel
theorem dX1_pour_24 : decode cX1_pour 24 = .ok (.iconst 2, 1) := by decide +kernel
theorem dX1_pour_25 : decode cX1_pour 25 = .ok (.invokevirtual 37, 3) := by decide +kernel
theorem dX1_pour_28 : decode cX1_pour 28 = .ok (.dup2, 1) := by decide +kernel
theorem dX1_pour_29 : decode cX1_pour 29 = .ok (.iaload, 1) := by decide +kernel
theorem dX1_pour_30 : decode cX1_pour 30 = .ok (.aload_n 0, 1) := by decide +kernel
theorem dX1_pour_31 : decode cX1_pour 31 = .ok (.getfield 9, 3) := by decide +kernel
theorem dX1_pour_34 : decode cX1_pour 34 = .ok (.iload_n 2, 1) := by decide +kernel
theorem dX1_pour_35 : decode cX1_pour 35 = .ok (.iaload, 1) := by decide +kernel
theorem dX1_pour_36 : decode cX1_pour 36 = .ok (.iadd, 1) := by decide +kernel
theorem dX1_pour_37 : decode cX1_pour 37 = .ok (.iastore, 1) := by decide +kernel
theorem dX1_pour_38 : decode cX1_pour 38 = .ok (.iinc 2 1, 3) := by decide +kernel
theorem dX1_pour_41 : decode cX1_pour 41 = .ok (.goto (-31), 3) := by decide +kernel
theorem dX1_pour_44 : decode cX1_pour 44 = .ok (.aload_n 0, 1) := by decide +kernel
theorem dX1_pour_45 : decode cX1_pour 45 = .ok (.iconst 0, 1) := by decide +kernel
theorem dX1_pour_46 : decode cX1_pour 46 = .ok (.putfield 18, 3) := by decide +kernel
theorem dX1_pour_49 : decode cX1_pour 49 = .ok (.iconst 0, 1) := by decide +kernel
theorem dX1_pour_50 : decode cX1_pour 50 = .ok (.istore_n 2, 1) := by decide +kernel
theorem dX1_pour_51 : decode cX1_pour 51 = .ok (.iload_n 2, 1) := by decide +kernel
theorem dX1_pour_52 : decode cX1_pour 52 = .ok (.iconst 3, 1) := by decide +kernel
theorem dX1_pour_53 : decode cX1_pour 53 = .ok (.if_icmp .ge 54, 3) := by decide +kernel
theorem dX1_pour_56 : decode cX1_pour 56 = .ok (.aload_n 0, 1) := by decide +kernel
theorem dX1_pour_57 : decode cX1_pour 57 = .ok (.getfield 15, 3) := by decide +kernel
theorem dX1_pour_60 : decode cX1_pour 60 = .ok (.iload_n 2, 1) := by decide +kernel
theorem dX1_pour_61 : decode cX1_pour 61 = .ok (.iconst 0, 1) := by decide +kernel
theorem dX1_pour_62 : decode cX1_pour 62 = .ok (.aload_n 0, 1) := by decide +kernel
theorem dX1_pour_63 : decode cX1_pour 63 = .ok (.getfield 15, 3) := by decide +kernel
theorem dX1_pour_66 : decode cX1_pour 66 = .ok (.iload_n 2, 1) := by decide +kernel
theorem dX1_pour_67 : decode cX1_pour 67 = .ok (.iaload, 1) := by decide +kernel
theorem dX1_pour_68 : decode cX1_pour 68 = .ok (.aload_n 1, 1) := by decide +kernel
theorem dX1_pour_69 : decode cX1_pour 69 = .ok (.getfield 41, 3) := by decide +kernel
theorem dX1_pour_72 : decode cX1_pour 72 = .ok (.iload_n 2, 1) := by decide +kernel
theorem dX1_pour_73 : decode cX1_pour 73 = .ok (.iaload, 1) := by decide +kernel
theorem dX1_pour_74 : decode cX1_pour 74 = .ok (.iadd, 1) := by decide +kernel
theorem dX1_pour_75 : decode cX1_pour 75 = .ok (.aload_n 1, 1) := by decide +kernel
theorem dX1_pour_76 : decode cX1_pour 76 = .ok (.getfield 44, 3) := by decide +kernel
theorem dX1_pour_79 : decode cX1_pour 79 = .ok (.iload_n 2, 1) := by decide +kernel
theorem dX1_pour_80 : decode cX1_pour 80 = .ok (.iaload, 1) := by decide +kernel
theorem dX1_pour_81 : decode cX1_pour 81 = .ok (.isub, 1) := by decide +kernel
theorem dX1_pour_82 : decode cX1_pour 82 = .ok (.invokestatic 47, 3) := by decide +kernel
theorem dX1_pour_85 : decode cX1_pour 85 = .ok (.iastore, 1) := by decide +kernel
theorem dX1_pour_86 : decode cX1_pour 86 = .ok (.aload_n 0, 1) := by decide +kernel
theorem dX1_pour_87 : decode cX1_pour 87 = .ok (.dup, 1) := by decide +kernel
theorem dX1_pour_88 : decode cX1_pour 88 = .ok (.getfield 18, 3) := by decide +kernel
theorem dX1_pour_91 : decode cX1_pour 91 = .ok (.aload_n 0, 1) := by decide +kernel
theorem dX1_pour_92 : decode cX1_pour 92 = .ok (.getfield 15, 3) := by decide +kernel
theorem dX1_pour_95 : decode cX1_pour 95 = .ok (.iload_n 2, 1) := by decide +kernel
theorem dX1_pour_96 : decode cX1_pour 96 = .ok (.iaload, 1) := by decide +kernel
theorem dX1_pour_97 : decode cX1_pour 97 = .ok (.iadd, 1) := by decide +kernel
theorem dX1_pour_98 : decode cX1_pour 98 = .ok (.putfield 18, 3) := by decide +kernel
theorem dX1_pour_101 : decode cX1_pour 101 = .ok (.iinc 2 1, 3) := by decide +kernel
theorem dX1_pour_104 : decode cX1_pour 104 = .ok (.goto (-53), 3) := by decide +kernel
theorem dX1_pour_107 : decode cX1_pour 107 = .ok (.return_, 1) := by decide +kernel
theorem dX1_pitch_0 : decode cX1_pitch 0 = .ok (.aload_n 0, 1) := by decide +kernel
theorem dX1_pitch_1 : decode cX1_pitch 1 = .ok (.getfield 18, 3) := by decide +kernel
theorem dX1_pitch_4 : decode cX1_pitch 4 = .ok (.ifCond .gt 6, 3) := by decide +kernel
theorem dX1_pitch_7 : decode cX1_pitch 7 = .ok (.bipush (-4), 2) := by decide +kernel
theorem dX1_pitch_9 : decode cX1_pitch 9 = .ok (.ireturn, 1) := by decide +kernel
theorem dX1_pitch_10 : decode cX1_pitch 10 = .ok (.iconst 0, 1) := by decide +kernel
theorem dX1_pitch_11 : decode cX1_pitch 11 = .ok (.istore_n 1, 1) := by decide +kernel
theorem dX1_pitch_12 : decode cX1_pitch 12 = .ok (.iconst 0, 1) := by decide +kernel
theorem dX1_pitch_13 : decode cX1_pitch 13 = .ok (.istore_n 2, 1) := by decide +kernel
theorem dX1_pitch_14 : decode cX1_pitch 14 = .ok (.iload_n 2, 1) := by decide +kernel
theorem dX1_pitch_15 : decode cX1_pitch 15 = .ok (.iconst 3, 1) := by decide +kernel
theorem dX1_pitch_16 : decode cX1_pitch 16 = .ok (.if_icmp .ge 24, 3) := by decide +kernel
theorem dX1_pitch_19 : decode cX1_pitch 19 = .ok (.iload_n 1, 1) := by decide +kernel
theorem dX1_pitch_20 : decode cX1_pitch 20 = .ok (.getstatic 52, 3) := by decide +kernel
theorem dX1_pitch_23 : decode cX1_pitch 23 = .ok (.iload_n 2, 1) := by decide +kernel
theorem dX1_pitch_24 : decode cX1_pitch 24 = .ok (.iaload, 1) := by decide +kernel
theorem dX1_pitch_25 : decode cX1_pitch 25 = .ok (.aload_n 0, 1) := by decide +kernel
theorem dX1_pitch_26 : decode cX1_pitch 26 = .ok (.getfield 15, 3) := by decide +kernel
theorem dX1_pitch_29 : decode cX1_pitch 29 = .ok (.iload_n 2, 1) := by decide +kernel
theorem dX1_pitch_30 : decode cX1_pitch 30 = .ok (.iaload, 1) := by decide +kernel
theorem dX1_pitch_31 : decode cX1_pitch 31 = .ok (.imul, 1) := by decide +kernel
theorem dX1_pitch_32 : decode cX1_pitch 32 = .ok (.iadd, 1) := by decide +kernel
theorem dX1_pitch_33 : decode cX1_pitch 33 = .ok (.istore_n 1, 1) := by decide +kernel
theorem dX1_pitch_34 : decode cX1_pitch 34 = .ok (.iinc 2 1, 3) := by decide +kernel
theorem dX1_pitch_37 : decode cX1_pitch 37 = .ok (.goto (-23), 3) := by decide +kernel
theorem dX1_pitch_40 : decode cX1_pitch 40 = .ok (.iload_n 1, 1) := by decide +kernel
theorem dX1_pitch_41 : decode cX1_pitch 41 = .ok (.aload_n 0, 1) := by decide +kernel
theorem dX1_pitch_42 : decode cX1_pitch 42 = .ok (.getfield 18, 3) := by decide +kernel
theorem dX1_pitch_45 : decode cX1_pitch 45 = .ok (.idiv, 1) := by decide +kernel
theorem dX1_pitch_46 : decode cX1_pitch 46 = .ok (.ireturn, 1) := by decide +kernel
theorem dX1_sweetness_0 : decode cX1_sweetness 0 = .ok (.aload_n 0, 1) := by decide +kernel
theorem dX1_sweetness_1 : decode cX1_sweetness 1 = .ok (.getfield 18, 3) := by decide +kernel
theorem dX1_sweetness_4 : decode cX1_sweetness 4 = .ok (.ifCond .gt 7, 3) := by decide +kernel
theorem dX1_sweetness_7 : decode cX1_sweetness 7 = .ok (.iconst 0, 1) := by decide +kernel
theorem dX1_sweetness_8 : decode cX1_sweetness 8 = .ok (.goto 17, 3) := by decide +kernel
theorem dX1_sweetness_11 : decode cX1_sweetness 11 = .ok (.bipush 10, 2) := by decide +kernel
theorem dX1_sweetness_13 : decode cX1_sweetness 13 = .ok (.aload_n 0, 1) := by decide +kernel
theorem dX1_sweetness_14 : decode cX1_sweetness 14 = .ok (.getfield 15, 3) := by decide +kernel
theorem dX1_sweetness_17 : decode cX1_sweetness 17 = .ok (.iconst 2, 1) := by decide +kernel
theorem dX1_sweetness_18 : decode cX1_sweetness 18 = .ok (.iaload, 1) := by decide +kernel
theorem dX1_sweetness_19 : decode cX1_sweetness 19 = .ok (.imul, 1) := by decide +kernel
theorem dX1_sweetness_20 : decode cX1_sweetness 20 = .ok (.aload_n 0, 1) := by decide +kernel
theorem dX1_sweetness_21 : decode cX1_sweetness 21 = .ok (.getfield 18, 3) := by decide +kernel
theorem dX1_sweetness_24 : decode cX1_sweetness 24 = .ok (.idiv, 1) := by decide +kernel
theorem dX1_sweetness_25 : decode cX1_sweetness 25 = .ok (.ireturn, 1) := by decide +kernel
theorem dX1_isTrue_0 : decode cX1_isTrue 0 = .ok (.aload_n 0, 1) := by decide +kernel
theorem dX1_isTrue_1 : decode cX1_isTrue 1 = .ok (.invokevirtual 55, 3) := by decide +kernel
theorem dX1_isTrue_4 : decode cX1_isTrue 4 = .ok (.aload_n 1, 1) := by decide +kernel
theorem dX1_isTrue_5 : decode cX1_isTrue 5 = .ok (.getfield 59, 3) := by decide +kernel
theorem dX1_isTrue_8 : decode cX1_isTrue 8 = .ok (.if_icmp .ne 18, 3) := by decide +kernel
theorem dX1_isTrue_11 : decode cX1_isTrue 11 = .ok (.aload_n 0, 1) := by decide +kernel
theorem dX1_isTrue_12 : decode cX1_isTrue 12 = .ok (.invokevirtual 62, 3) := by decide +kernel
theorem dX1_isTrue_15 : decode cX1_isTrue 15 = .ok (.aload_n 1, 1) := by decide +kernel
theorem dX1_isTrue_16 : decode cX1_isTrue 16 = .ok (.getfield 65, 3) := by decide +kernel
theorem dX1_isTrue_19 : decode cX1_isTrue 19 = .ok (.if_icmp .lt 7, 3) := by decide +kernel
theorem dX1_isTrue_22 : decode cX1_isTrue 22 = .ok (.iconst 1, 1) := by decide +kernel
theorem dX1_isTrue_23 : decode cX1_isTrue 23 = .ok (.goto 4, 3) := by decide +kernel
theorem dX1_isTrue_26 : decode cX1_isTrue 26 = .ok (.iconst 0, 1) := by decide +kernel
theorem dX1_isTrue_27 : decode cX1_isTrue 27 = .ok (.ireturn, 1) := by decide +kernel
theorem dX1_mostOf_0 : decode cX1_mostOf 0 = .ok (.iconst 0, 1) := by decide +kernel
theorem dX1_mostOf_1 : decode cX1_mostOf 1 = .ok (.istore_n 1, 1) := by decide +kernel
theorem dX1_mostOf_2 : decode cX1_mostOf 2 = .ok (.iconst 1, 1) := by decide +kernel
theorem dX1_mostOf_3 : decode cX1_mostOf 3 = .ok (.istore_n 2, 1) := by decide +kernel
theorem dX1_mostOf_4 : decode cX1_mostOf 4 = .ok (.iload_n 2, 1) := by decide +kernel
theorem dX1_mostOf_5 : decode cX1_mostOf 5 = .ok (.iconst 3, 1) := by decide +kernel
theorem dX1_mostOf_6 : decode cX1_mostOf 6 = .ok (.if_icmp .ge 26, 3) := by decide +kernel
theorem dX1_mostOf_9 : decode cX1_mostOf 9 = .ok (.aload_n 0, 1) := by decide +kernel
theorem dX1_mostOf_10 : decode cX1_mostOf 10 = .ok (.getfield 15, 3) := by decide +kernel
theorem dX1_mostOf_13 : decode cX1_mostOf 13 = .ok (.iload_n 2, 1) := by decide +kernel
theorem dX1_mostOf_14 : decode cX1_mostOf 14 = .ok (.iaload, 1) := by decide +kernel
theorem dX1_mostOf_15 : decode cX1_mostOf 15 = .ok (.aload_n 0, 1) := by decide +kernel
theorem dX1_mostOf_16 : decode cX1_mostOf 16 = .ok (.getfield 15, 3) := by decide +kernel
theorem dX1_mostOf_19 : decode cX1_mostOf 19 = .ok (.iload_n 1, 1) := by decide +kernel
theorem dX1_mostOf_20 : decode cX1_mostOf 20 = .ok (.iaload, 1) := by decide +kernel
theorem dX1_mostOf_21 : decode cX1_mostOf 21 = .ok (.if_icmp .le 5, 3) := by decide +kernel
theorem dX1_mostOf_24 : decode cX1_mostOf 24 = .ok (.iload_n 2, 1) := by decide +kernel
theorem dX1_mostOf_25 : decode cX1_mostOf 25 = .ok (.istore_n 1, 1) := by decide +kernel
theorem dX1_mostOf_26 : decode cX1_mostOf 26 = .ok (.iinc 2 1, 3) := by decide +kernel
theorem dX1_mostOf_29 : decode cX1_mostOf 29 = .ok (.goto (-25), 3) := by decide +kernel
theorem dX1_mostOf_32 : decode cX1_mostOf 32 = .ok (.iload_n 1, 1) := by decide +kernel
theorem dX1_mostOf_33 : decode cX1_mostOf 33 = .ok (.ireturn, 1) := by decide +kernel
theorem dX2_init_0 : decode cX2_init 0 = .ok (.aload_n 0, 1) := by decide +kernel
theorem dX2_init_1 : decode cX2_init 1 = .ok (.invokespecial 3, 3) := by decide +kernel
theorem dX2_init_4 : decode cX2_init 4 = .ok (.aload_n 0, 1) := by decide +kernel
theorem dX2_init_5 : decode cX2_init 5 = .ok (.new 9, 3) := by decide +kernel
theorem dX2_init_8 : decode cX2_init 8 = .ok (.dup, 1) := by decide +kernel
theorem dX2_init_9 : decode cX2_init 9 = .ok (.invokespecial 11, 3) := by decide +kernel
theorem dX2_init_12 : decode cX2_init 12 = .ok (.putfield 12, 3) := by decide +kernel
theorem dX2_init_15 : decode cX2_init 15 = .ok (.aload_n 0, 1) := by decide +kernel
theorem dX2_init_16 : decode cX2_init 16 = .ok (.iconst 0, 1) := by decide +kernel
theorem dX2_init_17 : decode cX2_init 17 = .ok (.putfield 18, 3) := by decide +kernel
theorem dX2_init_20 : decode cX2_init 20 = .ok (.aload_n 0, 1) := by decide +kernel
theorem dX2_init_21 : decode cX2_init 21 = .ok (.iconst 0, 1) := by decide +kernel
theorem dX2_init_22 : decode cX2_init 22 = .ok (.putfield 22, 3) := by decide +kernel
theorem dX2_init_25 : decode cX2_init 25 = .ok (.aload_n 0, 1) := by decide +kernel
theorem dX2_init_26 : decode cX2_init 26 = .ok (.iconst 0, 1) := by decide +kernel
theorem dX2_init_27 : decode cX2_init 27 = .ok (.putfield 25, 3) := by decide +kernel
theorem dX2_init_30 : decode cX2_init 30 = .ok (.aload_n 0, 1) := by decide +kernel
theorem dX2_init_31 : decode cX2_init 31 = .ok (.iconst 0, 1) := by decide +kernel
theorem dX2_init_32 : decode cX2_init 32 = .ok (.putfield 28, 3) := by decide +kernel
theorem dX2_init_35 : decode cX2_init 35 = .ok (.aload_n 0, 1) := by decide +kernel
theorem dX2_init_36 : decode cX2_init 36 = .ok (.iconst 0, 1) := by decide +kernel
theorem dX2_init_37 : decode cX2_init 37 = .ok (.putfield 31, 3) := by decide +kernel
theorem dX2_init_40 : decode cX2_init 40 = .ok (.aload_n 0, 1) := by decide +kernel
theorem dX2_init_41 : decode cX2_init 41 = .ok (.iconst 0, 1) := by decide +kernel
theorem dX2_init_42 : decode cX2_init 42 = .ok (.putfield 34, 3) := by decide +kernel
theorem dX2_init_45 : decode cX2_init 45 = .ok (.return_, 1) := by decide +kernel
theorem dX2_readText_0 : decode cX2_readText 0 = .ok (.aload_n 0, 1) := by decide +kernel
theorem dX2_readText_1 : decode cX2_readText 1 = .ok (.aload_n 1, 1) := by decide +kernel
theorem dX2_readText_2 : decode cX2_readText 2 = .ok (.invokevirtual 38, 3) := by decide +kernel
theorem dX2_readText_5 : decode cX2_readText 5 = .ok (.iconst 0, 1) := by decide +kernel
theorem dX2_readText_6 : decode cX2_readText 6 = .ok (.istore_n 2, 1) := by decide +kernel
theorem dX2_readText_7 : decode cX2_readText 7 = .ok (.iload_n 2, 1) := by decide +kernel
theorem dX2_readText_8 : decode cX2_readText 8 = .ok (.sipush 160, 3) := by decide +kernel
theorem dX2_readText_11 : decode cX2_readText 11 = .ok (.if_icmp .gt 30, 3) := by decide +kernel
theorem dX2_readText_14 : decode cX2_readText 14 = .ok (.aload_n 0, 1) := by decide +kernel
theorem dX2_readText_15 : decode cX2_readText 15 = .ok (.aload_n 1, 1) := by decide +kernel
theorem dX2_readText_16 : decode cX2_readText 16 = .ok (.invokevirtual 42, 3) := by decide +kernel
theorem dX2_readText_19 : decode cX2_readText 19 = .ok (.ifCond .eq 22, 3) := by decide +kernel
theorem dX2_readText_22 : decode cX2_readText 22 = .ok (.aload_n 1, 1) := by decide +kernel
theorem dX2_readText_23 : decode cX2_readText 23 = .ok (.getfield 46, 3) := by decide +kernel
theorem dX2_readText_26 : decode cX2_readText 26 = .ok (.iconst 1, 1) := by decide +kernel
theorem dX2_readText_27 : decode cX2_readText 27 = .ok (.if_icmp .eq 14, 3) := by decide +kernel
theorem dX2_readText_30 : decode cX2_readText 30 = .ok (.aload_n 0, 1) := by decide +kernel
theorem dX2_readText_31 : decode cX2_readText 31 = .ok (.aload_n 1, 1) := by decide +kernel
theorem dX2_readText_32 : decode cX2_readText 32 = .ok (.invokevirtual 51, 3) := by decide +kernel
theorem dX2_readText_35 : decode cX2_readText 35 = .ok (.iinc 2 1, 3) := by decide +kernel
theorem dX2_readText_38 : decode cX2_readText 38 = .ok (.goto (-31), 3) := by decide +kernel
theorem dX2_readText_41 : decode cX2_readText 41 = .ok (.aload_n 0, 1) := by decide +kernel
theorem dX2_readText_42 : decode cX2_readText 42 = .ok (.getfield 18, 3) := by decide +kernel
theorem dX2_readText_45 : decode cX2_readText 45 = .ok (.ifCond .ne 34, 3) := by decide +kernel
theorem dX2_readText_48 : decode cX2_readText 48 = .ok (.aload_n 0, 1) := by decide +kernel
theorem dX2_readText_49 : decode cX2_readText 49 = .ok (.getfield 25, 3) := by decide +kernel
theorem dX2_readText_52 : decode cX2_readText 52 = .ok (.aload_n 0, 1) := by decide +kernel
theorem dX2_readText_53 : decode cX2_readText 53 = .ok (.getfield 28, 3) := by decide +kernel
theorem dX2_readText_56 : decode cX2_readText 56 = .ok (.ior, 1) := by decide +kernel
theorem dX2_readText_57 : decode cX2_readText 57 = .ok (.aload_n 0, 1) := by decide +kernel
theorem dX2_readText_58 : decode cX2_readText 58 = .ok (.getfield 12, 3) := by decide +kernel
theorem dX2_readText_61 : decode cX2_readText 61 = .ok (.getfield 54, 3) := by decide +kernel
theorem dX2_readText_64 : decode cX2_readText 64 = .ok (.ishr, 1) := by decide +kernel
theorem dX2_readText_65 : decode cX2_readText 65 = .ok (.ifCond .eq 14, 3) := by decide +kernel
theorem dX2_readText_68 : decode cX2_readText 68 = .ok (.aload_n 0, 1) := by decide +kernel
theorem dX2_readText_69 : decode cX2_readText 69 = .ok (.bipush 6, 2) := by decide +kernel
theorem dX2_readText_71 : decode cX2_readText 71 = .ok (.aload_n 1, 1) := by decide +kernel
theorem dX2_readText_72 : decode cX2_readText 72 = .ok (.getfield 57, 3) := by decide +kernel
theorem dX2_readText_75 : decode cX2_readText 75 = .ok (.invokevirtual 60, 3) := by decide +kernel
theorem dX2_readText_78 : decode cX2_readText 78 = .ok (.pop, 1) := by decide +kernel
theorem dX2_readText_79 : decode cX2_readText 79 = .ok (.aload_n 0, 1) := by decide +kernel
theorem dX2_readText_80 : decode cX2_readText 80 = .ok (.getfield 18, 3) := by decide +kernel
theorem dX2_readText_83 : decode cX2_readText 83 = .ok (.ifCond .ne 7, 3) := by decide +kernel
theorem dX2_readText_86 : decode cX2_readText 86 = .ok (.iload_n 2, 1) := by decide +kernel
theorem dX2_readText_87 : decode cX2_readText 87 = .ok (.goto 10, 3) := by decide +kernel
theorem dX2_readText_90 : decode cX2_readText 90 = .ok (.bipush (-10), 2) := by decide +kernel
theorem dX2_readText_92 : decode cX2_readText 92 = .ok (.aload_n 0, 1) := by decide +kernel
theorem dX2_readText_93 : decode cX2_readText 93 = .ok (.getfield 22, 3) := by decide +kernel
theorem dX2_readText_96 : decode cX2_readText 96 = .ok (.isub, 1) := by decide +kernel
theorem dX2_readText_97 : decode cX2_readText 97 = .ok (.ireturn, 1) := by decide +kernel
theorem dX2_begin_0 : decode cX2_begin 0 = .ok (.aload_n 1, 1) := by decide +kernel
theorem dX2_begin_1 : decode cX2_begin 1 = .ok (.invokevirtual 64, 3) := by decide +kernel
theorem dX2_begin_4 : decode cX2_begin 4 = .ok (.aload_n 0, 1) := by decide +kernel
theorem dX2_begin_5 : decode cX2_begin 5 = .ok (.getfield 12, 3) := by decide +kernel
theorem dX2_begin_8 : decode cX2_begin 8 = .ok (.invokevirtual 67, 3) := by decide +kernel
theorem dX2_begin_11 : decode cX2_begin 11 = .ok (.aload_n 0, 1) := by decide +kernel
theorem dX2_begin_12 : decode cX2_begin 12 = .ok (.iconst 0, 1) := by decide +kernel
theorem dX2_begin_13 : decode cX2_begin 13 = .ok (.putfield 18, 3) := by decide +kernel
theorem dX2_begin_16 : decode cX2_begin 16 = .ok (.aload_n 0, 1) := by decide +kernel
theorem dX2_begin_17 : decode cX2_begin 17 = .ok (.iconst 0, 1) := by decide +kernel
theorem dX2_begin_18 : decode cX2_begin 18 = .ok (.putfield 25, 3) := by decide +kernel
theorem dX2_begin_21 : decode cX2_begin 21 = .ok (.aload_n 0, 1) := by decide +kernel
theorem dX2_begin_22 : decode cX2_begin 22 = .ok (.iconst 0, 1) := by decide +kernel
theorem dX2_begin_23 : decode cX2_begin 23 = .ok (.putfield 28, 3) := by decide +kernel
theorem dX2_begin_26 : decode cX2_begin 26 = .ok (.aload_n 0, 1) := by decide +kernel
theorem dX2_begin_27 : decode cX2_begin 27 = .ok (.iconst 0, 1) := by decide +kernel
theorem dX2_begin_28 : decode cX2_begin 28 = .ok (.putfield 31, 3) := by decide +kernel
theorem dX2_begin_31 : decode cX2_begin 31 = .ok (.aload_n 0, 1) := by decide +kernel
theorem dX2_begin_32 : decode cX2_begin 32 = .ok (.iconst 0, 1) := by decide +kernel
theorem dX2_begin_33 : decode cX2_begin 33 = .ok (.putfield 34, 3) := by decide +kernel
theorem dX2_begin_36 : decode cX2_begin 36 = .ok (.return_, 1) := by decide +kernel
theorem dX2_readLine_0 : decode cX2_readLine 0 = .ok (.aload_n 1, 1) := by decide +kernel
theorem dX2_readLine_1 : decode cX2_readLine 1 = .ok (.invokestatic 70, 3) := by decide +kernel
theorem dX2_readLine_4 : decode cX2_readLine 4 = .ok (.istore_n 2, 1) := by decide +kernel
theorem dX2_readLine_5 : decode cX2_readLine 5 = .ok (.iload_n 2, 1) := by decide +kernel
theorem dX2_readLine_6 : decode cX2_readLine 6 = .ok (.ifCond .lt 12, 3) := by decide +kernel
theorem dX2_readLine_9 : decode cX2_readLine 9 = .ok (.aload_n 0, 1) := by decide +kernel
theorem dX2_readLine_10 : decode cX2_readLine 10 = .ok (.aload_n 1, 1) := by decide +kernel
theorem dX2_readLine_11 : decode cX2_readLine 11 = .ok (.iload_n 2, 1) := by decide +kernel
theorem dX2_readLine_12 : decode cX2_readLine 12 = .ok (.invokevirtual 74, 3) := by decide +kernel
theorem dX2_readLine_15 : decode cX2_readLine 15 = .ok (.goto 81, 3) := by decide +kernel
theorem dX2_readLine_18 : decode cX2_readLine 18 = .ok (.aload_n 1, 1) := by decide +kernel
theorem dX2_readLine_19 : decode cX2_readLine 19 = .ok (.ldc 78, 2) := by decide +kernel
theorem dX2_readLine_21 : decode cX2_readLine 21 = .ok (.invokevirtual 80, 3) := by decide +kernel
theorem dX2_readLine_24 : decode cX2_readLine 24 = .ok (.ifCond .eq 11, 3) := by decide +kernel
theorem dX2_readLine_27 : decode cX2_readLine 27 = .ok (.aload_n 0, 1) := by decide +kernel
theorem dX2_readLine_28 : decode cX2_readLine 28 = .ok (.aload_n 1, 1) := by decide +kernel
theorem dX2_readLine_29 : decode cX2_readLine 29 = .ok (.invokevirtual 84, 3) := by decide +kernel
theorem dX2_readLine_32 : decode cX2_readLine 32 = .ok (.goto 64, 3) := by decide +kernel
theorem dX2_readLine_35 : decode cX2_readLine 35 = .ok (.aload_n 1, 1) := by decide +kernel
theorem dX2_readLine_36 : decode cX2_readLine 36 = .ok (.ldc 87, 2) := by decide +kernel
theorem dX2_readLine_38 : decode cX2_readLine 38 = .ok (.invokevirtual 80, 3) := by decide +kernel
theorem dX2_readLine_41 : decode cX2_readLine 41 = .ok (.ifCond .eq 11, 3) := by decide +kernel
theorem dX2_readLine_44 : decode cX2_readLine 44 = .ok (.aload_n 0, 1) := by decide +kernel
theorem dX2_readLine_45 : decode cX2_readLine 45 = .ok (.aload_n 1, 1) := by decide +kernel
theorem dX2_readLine_46 : decode cX2_readLine 46 = .ok (.invokevirtual 89, 3) := by decide +kernel
theorem dX2_readLine_49 : decode cX2_readLine 49 = .ok (.goto 47, 3) := by decide +kernel
theorem dX2_readLine_52 : decode cX2_readLine 52 = .ok (.aload_n 1, 1) := by decide +kernel
theorem dX2_readLine_53 : decode cX2_readLine 53 = .ok (.ldc 92, 2) := by decide +kernel
theorem dX2_readLine_55 : decode cX2_readLine 55 = .ok (.invokevirtual 80, 3) := by decide +kernel
theorem dX2_readLine_58 : decode cX2_readLine 58 = .ok (.ifCond .eq 11, 3) := by decide +kernel
theorem dX2_readLine_61 : decode cX2_readLine 61 = .ok (.aload_n 0, 1) := by decide +kernel
theorem dX2_readLine_62 : decode cX2_readLine 62 = .ok (.aload_n 1, 1) := by decide +kernel
theorem dX2_readLine_63 : decode cX2_readLine 63 = .ok (.invokevirtual 94, 3) := by decide +kernel
theorem dX2_readLine_66 : decode cX2_readLine 66 = .ok (.goto 30, 3) := by decide +kernel
theorem dX2_readLine_69 : decode cX2_readLine 69 = .ok (.aload_n 1, 1) := by decide +kernel
theorem dX2_readLine_70 : decode cX2_readLine 70 = .ok (.ldc 97, 2) := by decide +kernel
theorem dX2_readLine_72 : decode cX2_readLine 72 = .ok (.invokevirtual 80, 3) := by decide +kernel
theorem dX2_readLine_75 : decode cX2_readLine 75 = .ok (.ifCond .eq 11, 3) := by decide +kernel
theorem dX2_readLine_78 : decode cX2_readLine 78 = .ok (.aload_n 0, 1) := by decide +kernel
theorem dX2_readLine_79 : decode cX2_readLine 79 = .ok (.aload_n 1, 1) := by decide +kernel
theorem dX2_readLine_80 : decode cX2_readLine 80 = .ok (.invokevirtual 99, 3) := by decide +kernel
theorem dX2_readLine_83 : decode cX2_readLine 83 = .ok (.goto 13, 3) := by decide +kernel
theorem dX2_readLine_86 : decode cX2_readLine 86 = .ok (.aload_n 0, 1) := by decide +kernel
theorem dX2_readLine_87 : decode cX2_readLine 87 = .ok (.iconst 2, 1) := by decide +kernel
theorem dX2_readLine_88 : decode cX2_readLine 88 = .ok (.aload_n 1, 1) := by decide +kernel
theorem dX2_readLine_89 : decode cX2_readLine 89 = .ok (.getfield 102, 3) := by decide +kernel
theorem dX2_readLine_92 : decode cX2_readLine 92 = .ok (.invokevirtual 60, 3) := by decide +kernel
theorem dX2_readLine_95 : decode cX2_readLine 95 = .ok (.pop, 1) := by decide +kernel
theorem dX2_readLine_96 : decode cX2_readLine 96 = .ok (.aload_n 0, 1) := by decide +kernel
theorem dX2_readLine_97 : decode cX2_readLine 97 = .ok (.getfield 18, 3) := by decide +kernel
theorem dX2_readLine_100 : decode cX2_readLine 100 = .ok (.ifCond .ne 29, 3) := by decide +kernel
theorem dX2_readLine_103 : decode cX2_readLine 103 = .ok (.aload_n 0, 1) := by decide +kernel
theorem dX2_readLine_104 : decode cX2_readLine 104 = .ok (.aload_n 1, 1) := by decide +kernel
theorem dX2_readLine_105 : decode cX2_readLine 105 = .ok (.invokevirtual 42, 3) := by decide +kernel
theorem dX2_readLine_108 : decode cX2_readLine 108 = .ok (.ifCond .eq 21, 3) := by decide +kernel
theorem dX2_readLine_111 : decode cX2_readLine 111 = .ok (.aload_n 1, 1) := by decide +kernel
theorem dX2_readLine_112 : decode cX2_readLine 112 = .ok (.getfield 46, 3) := by decide +kernel
theorem dX2_readLine_115 : decode cX2_readLine 115 = .ok (.iconst 4, 1) := by decide +kernel
theorem dX2_readLine_116 : decode cX2_readLine 116 = .ok (.if_icmp .eq 13, 3) := by decide +kernel
theorem dX2_readLine_119 : decode cX2_readLine 119 = .ok (.aload_n 0, 1) := by decide +kernel
theorem dX2_readLine_120 : decode cX2_readLine 120 = .ok (.iconst 2, 1) := by decide +kernel
theorem dX2_readLine_121 : decode cX2_readLine 121 = .ok (.aload_n 1, 1) := by decide +kernel
theorem dX2_readLine_122 : decode cX2_readLine 122 = .ok (.getfield 102, 3) := by decide +kernel
theorem dX2_readLine_125 : decode cX2_readLine 125 = .ok (.invokevirtual 60, 3) := by decide +kernel
theorem dX2_readLine_128 : decode cX2_readLine 128 = .ok (.pop, 1) := by decide +kernel
theorem dX2_readLine_129 : decode cX2_readLine 129 = .ok (.return_, 1) := by decide +kernel
theorem dX2_readGiver_0 : decode cX2_readGiver 0 = .ok (.aload_n 0, 1) := by decide +kernel
theorem dX2_readGiver_1 : decode cX2_readGiver 1 = .ok (.getfield 12, 3) := by decide +kernel
theorem dX2_readGiver_4 : decode cX2_readGiver 4 = .ok (.getfield 54, 3) := by decide +kernel
theorem dX2_readGiver_7 : decode cX2_readGiver 7 = .ok (.iconst 4, 1) := by decide +kernel
theorem dX2_readGiver_8 : decode cX2_readGiver 8 = .ok (.if_icmp .lt 14, 3) := by decide +kernel
theorem dX2_readGiver_11 : decode cX2_readGiver 11 = .ok (.aload_n 0, 1) := by decide +kernel
theorem dX2_readGiver_12 : decode cX2_readGiver 12 = .ok (.iconst 5, 1) := by decide +kernel
theorem dX2_readGiver_13 : decode cX2_readGiver 13 = .ok (.aload_n 1, 1) := by decide +kernel
theorem dX2_readGiver_14 : decode cX2_readGiver 14 = .ok (.getfield 102, 3) := by decide +kernel
theorem dX2_readGiver_17 : decode cX2_readGiver 17 = .ok (.invokevirtual 60, 3) := by decide +kernel
theorem dX2_readGiver_20 : decode cX2_readGiver 20 = .ok (.pop, 1) := by decide +kernel
theorem dX2_readGiver_21 : decode cX2_readGiver 21 = .ok (.return_, 1) := by decide +kernel
theorem dX2_readGiver_22 : decode cX2_readGiver 22 = .ok (.aload_n 0, 1) := by decide +kernel
theorem dX2_readGiver_23 : decode cX2_readGiver 23 = .ok (.getfield 12, 3) := by decide +kernel
theorem dX2_readGiver_26 : decode cX2_readGiver 26 = .ok (.getfield 54, 3) := by decide +kernel
theorem dX2_readGiver_29 : decode cX2_readGiver 29 = .ok (.istore_n 3, 1) := by decide +kernel
theorem dX2_readGiver_30 : decode cX2_readGiver 30 = .ok (.aload_n 0, 1) := by decide +kernel
theorem dX2_readGiver_31 : decode cX2_readGiver 31 = .ok (.getfield 12, 3) := by decide +kernel
theorem dX2_readGiver_34 : decode cX2_readGiver 34 = .ok (.iload_n 3, 1) := by decide +kernel
theorem dX2_readGiver_35 : decode cX2_readGiver 35 = .ok (.iconst 0, 1) := by decide +kernel
theorem dX2_readGiver_36 : decode cX2_readGiver 36 = .ok (.iload_n 2, 1) := by decide +kernel
theorem dX2_readGiver_37 : decode cX2_readGiver 37 = .ok (.invokevirtual 105, 3) := by decide +kernel
theorem dX2_readGiver_40 : decode cX2_readGiver 40 = .ok (.aload_n 0, 1) := by decide +kernel
theorem dX2_readGiver_41 : decode cX2_readGiver 41 = .ok (.aload_n 1, 1) := by decide +kernel
theorem dX2_readGiver_42 : decode cX2_readGiver 42 = .ok (.iconst 3, 1) := by decide +kernel
theorem dX2_readGiver_43 : decode cX2_readGiver 43 = .ok (.invokevirtual 109, 3) := by decide +kernel
theorem dX2_readGiver_46 : decode cX2_readGiver 46 = .ok (.ifCond .ne 4, 3) := by decide +kernel
theorem dX2_readGiver_49 : decode cX2_readGiver 49 = .ok (.return_, 1) := by decide +kernel
theorem dX2_readGiver_50 : decode cX2_readGiver 50 = .ok (.aload_n 0, 1) := by decide +kernel
theorem dX2_readGiver_51 : decode cX2_readGiver 51 = .ok (.getfield 12, 3) := by decide +kernel
theorem dX2_readGiver_54 : decode cX2_readGiver 54 = .ok (.iload_n 3, 1) := by decide +kernel
theorem dX2_readGiver_55 : decode cX2_readGiver 55 = .ok (.iconst 2, 1) := by decide +kernel
theorem dX2_readGiver_56 : decode cX2_readGiver 56 = .ok (.aload_n 1, 1) := by decide +kernel
theorem dX2_readGiver_57 : decode cX2_readGiver 57 = .ok (.getfield 113, 3) := by decide +kernel
theorem dX2_readGiver_60 : decode cX2_readGiver 60 = .ok (.invokevirtual 105, 3) := by decide +kernel
theorem dX2_readGiver_63 : decode cX2_readGiver 63 = .ok (.aload_n 0, 1) := by decide +kernel
theorem dX2_readGiver_64 : decode cX2_readGiver 64 = .ok (.aload_n 1, 1) := by decide +kernel
theorem dX2_readGiver_65 : decode cX2_readGiver 65 = .ok (.iconst 0, 1) := by decide +kernel
theorem dX2_readGiver_66 : decode cX2_readGiver 66 = .ok (.getstatic 116, 3) := by decide +kernel
theorem dX2_readGiver_69 : decode cX2_readGiver 69 = .ok (.iconst 1, 1) := by decide +kernel
theorem dX2_readGiver_70 : decode cX2_readGiver 70 = .ok (.iaload, 1) := by decide +kernel
theorem dX2_readGiver_71 : decode cX2_readGiver 71 = .ok (.invokevirtual 120, 3) := by decide +kernel
theorem dX2_readGiver_74 : decode cX2_readGiver 74 = .ok (.ifCond .ne 4, 3) := by decide +kernel
theorem dX2_readGiver_77 : decode cX2_readGiver 77 = .ok (.return_, 1) := by decide +kernel
theorem dX2_readGiver_78 : decode cX2_readGiver 78 = .ok (.aload_n 0, 1) := by decide +kernel
theorem dX2_readGiver_79 : decode cX2_readGiver 79 = .ok (.getfield 12, 3) := by decide +kernel
theorem dX2_readGiver_82 : decode cX2_readGiver 82 = .ok (.iload_n 3, 1) := by decide +kernel
theorem dX2_readGiver_83 : decode cX2_readGiver 83 = .ok (.iconst 1, 1) := by decide +kernel
theorem dX2_readGiver_84 : decode cX2_readGiver 84 = .ok (.aload_n 1, 1) := by decide +kernel
theorem dX2_readGiver_85 : decode cX2_readGiver 85 = .ok (.getfield 113, 3) := by decide +kernel
theorem dX2_readGiver_88 : decode cX2_readGiver 88 = .ok (.invokevirtual 105, 3) := by decide +kernel
theorem dX2_readGiver_91 : decode cX2_readGiver 91 = .ok (.aload_n 0, 1) := by decide +kernel
theorem dX2_readGiver_92 : decode cX2_readGiver 92 = .ok (.aload_n 1, 1) := by decide +kernel
theorem dX2_readGiver_93 : decode cX2_readGiver 93 = .ok (.iconst 0, 1) := by decide +kernel
theorem dX2_readGiver_94 : decode cX2_readGiver 94 = .ok (.getstatic 116, 3) := by decide +kernel
theorem dX2_readGiver_97 : decode cX2_readGiver 97 = .ok (.iconst 3, 1) := by decide +kernel
theorem dX2_readGiver_98 : decode cX2_readGiver 98 = .ok (.iaload, 1) := by decide +kernel
theorem dX2_readGiver_99 : decode cX2_readGiver 99 = .ok (.invokevirtual 120, 3) := by decide +kernel
theorem dX2_readGiver_102 : decode cX2_readGiver 102 = .ok (.ifCond .ne 4, 3) := by decide +kernel
theorem dX2_readGiver_105 : decode cX2_readGiver 105 = .ok (.return_, 1) := by decide +kernel
theorem dX2_readGiver_106 : decode cX2_readGiver 106 = .ok (.aload_n 0, 1) := by decide +kernel
theorem dX2_readGiver_107 : decode cX2_readGiver 107 = .ok (.getfield 12, 3) := by decide +kernel
theorem dX2_readGiver_110 : decode cX2_readGiver 110 = .ok (.iload_n 3, 1) := by decide +kernel
theorem dX2_readGiver_111 : decode cX2_readGiver 111 = .ok (.iconst 3, 1) := by decide +kernel
theorem dX2_readGiver_112 : decode cX2_readGiver 112 = .ok (.aload_n 1, 1) := by decide +kernel
theorem dX2_readGiver_113 : decode cX2_readGiver 113 = .ok (.getfield 113, 3) := by decide +kernel
theorem dX2_readGiver_116 : decode cX2_readGiver 116 = .ok (.invokevirtual 105, 3) := by decide +kernel
theorem dX2_readGiver_119 : decode cX2_readGiver 119 = .ok (.aload_n 0, 1) := by decide +kernel
theorem dX2_readGiver_120 : decode cX2_readGiver 120 = .ok (.getfield 12, 3) := by decide +kernel
theorem dX2_readGiver_123 : decode cX2_readGiver 123 = .ok (.dup, 1) := by decide +kernel
theorem dX2_readGiver_124 : decode cX2_readGiver 124 = .ok (.getfield 54, 3) := by decide +kernel
theorem dX2_readGiver_127 : decode cX2_readGiver 127 = .ok (.iconst 1, 1) := by decide +kernel
theorem dX2_readGiver_128 : decode cX2_readGiver 128 = .ok (.iadd, 1) := by decide +kernel
theorem dX2_readGiver_129 : decode cX2_readGiver 129 = .ok (.putfield 54, 3) := by decide +kernel
theorem dX2_readGiver_132 : decode cX2_readGiver 132 = .ok (.return_, 1) := by decide +kernel
theorem dX2_readSorry_0 : decode cX2_readSorry 0 = .ok (.aload_n 0, 1) := by decide +kernel
theorem dX2_readSorry_1 : decode cX2_readSorry 1 = .ok (.aload_n 1, 1) := by decide +kernel
theorem dX2_readSorry_2 : decode cX2_readSorry 2 = .ok (.iconst 0, 1) := by decide +kernel
theorem dX2_readSorry_3 : decode cX2_readSorry 3 = .ok (.iconst 3, 1) := by decide +kernel
theorem dX2_readSorry_4 : decode cX2_readSorry 4 = .ok (.invokevirtual 120, 3) := by decide +kernel
theorem dX2_readSorry_7 : decode cX2_readSorry 7 = .ok (.ifCond .ne 4, 3) := by decide +kernel
theorem dX2_readSorry_10 : decode cX2_readSorry 10 = .ok (.return_, 1) := by decide +kernel
theorem dX2_readSorry_11 : decode cX2_readSorry 11 = .ok (.aload_n 0, 1) := by decide +kernel
theorem dX2_readSorry_12 : decode cX2_readSorry 12 = .ok (.aload_n 0, 1) := by decide +kernel
theorem dX2_readSorry_13 : decode cX2_readSorry 13 = .ok (.aload_n 1, 1) := by decide +kernel
theorem dX2_readSorry_14 : decode cX2_readSorry 14 = .ok (.aload_n 0, 1) := by decide +kernel
theorem dX2_readSorry_15 : decode cX2_readSorry 15 = .ok (.getfield 25, 3) := by decide +kernel
theorem dX2_readSorry_18 : decode cX2_readSorry 18 = .ok (.invokevirtual 124, 3) := by decide +kernel
theorem dX2_readSorry_21 : decode cX2_readSorry 21 = .ok (.putfield 25, 3) := by decide +kernel
theorem dX2_readSorry_24 : decode cX2_readSorry 24 = .ok (.aload_n 0, 1) := by decide +kernel
theorem dX2_readSorry_25 : decode cX2_readSorry 25 = .ok (.getfield 12, 3) := by decide +kernel
theorem dX2_readSorry_28 : decode cX2_readSorry 28 = .ok (.aload_n 1, 1) := by decide +kernel
theorem dX2_readSorry_29 : decode cX2_readSorry 29 = .ok (.getfield 113, 3) := by decide +kernel
theorem dX2_readSorry_32 : decode cX2_readSorry 32 = .ok (.iconst 4, 1) := by decide +kernel
theorem dX2_readSorry_33 : decode cX2_readSorry 33 = .ok (.iconst 1, 1) := by decide +kernel
theorem dX2_readSorry_34 : decode cX2_readSorry 34 = .ok (.invokevirtual 105, 3) := by decide +kernel
theorem dX2_readSorry_37 : decode cX2_readSorry 37 = .ok (.return_, 1) := by decide +kernel
theorem dX2_readHold_0 : decode cX2_readHold 0 = .ok (.aload_n 0, 1) := by decide +kernel
theorem dX2_readHold_1 : decode cX2_readHold 1 = .ok (.aload_n 1, 1) := by decide +kernel
theorem dX2_readHold_2 : decode cX2_readHold 2 = .ok (.iconst 0, 1) := by decide +kernel
theorem dX2_readHold_3 : decode cX2_readHold 3 = .ok (.iconst 3, 1) := by decide +kernel
theorem dX2_readHold_4 : decode cX2_readHold 4 = .ok (.invokevirtual 120, 3) := by decide +kernel
theorem dX2_readHold_7 : decode cX2_readHold 7 = .ok (.ifCond .ne 4, 3) := by decide +kernel
theorem dX2_readHold_10 : decode cX2_readHold 10 = .ok (.return_, 1) := by decide +kernel
theorem dX2_readHold_11 : decode cX2_readHold 11 = .ok (.aload_n 1, 1) := by decide +kernel
theorem dX2_readHold_12 : decode cX2_readHold 12 = .ok (.getfield 113, 3) := by decide +kernel
theorem dX2_readHold_15 : decode cX2_readHold 15 = .ok (.istore_n 2, 1) := by decide +kernel
theorem dX2_readHold_16 : decode cX2_readHold 16 = .ok (.aload_n 0, 1) := by decide +kernel
theorem dX2_readHold_17 : decode cX2_readHold 17 = .ok (.aload_n 0, 1) := by decide +kernel
theorem dX2_readHold_18 : decode cX2_readHold 18 = .ok (.aload_n 1, 1) := by decide +kernel
theorem dX2_readHold_19 : decode cX2_readHold 19 = .ok (.aload_n 0, 1) := by decide +kernel
theorem dX2_readHold_20 : decode cX2_readHold 20 = .ok (.getfield 28, 3) := by decide +kernel
theorem dX2_readHold_23 : decode cX2_readHold 23 = .ok (.invokevirtual 124, 3) := by decide +kernel
theorem dX2_readHold_26 : decode cX2_readHold 26 = .ok (.putfield 28, 3) := by decide +kernel
theorem dX2_readHold_29 : decode cX2_readHold 29 = .ok (.aload_n 0, 1) := by decide +kernel
theorem dX2_readHold_30 : decode cX2_readHold 30 = .ok (.getfield 18, 3) := by decide +kernel
theorem dX2_readHold_33 : decode cX2_readHold 33 = .ok (.ifCond .ne 30, 3) := by decide +kernel
