theorem d_S_placeAhead_152 : decode b_S_placeAhead 152 = .ok (.iinc 6 1, 3) := by decide +kernel
theorem d_S_placeAhead_155 : decode b_S_placeAhead 155 = .ok (.goto (-95), 3) := by decide +kernel
theorem d_S_placeAhead_158 : decode b_S_placeAhead 158 = .ok (.ldc2_w 196, 3) := by decide +kernel
theorem d_S_placeAhead_161 : decode b_S_placeAhead 161 = .ok (.lreturn, 1) := by decide +kernel
theorem d_S_gap_0 : decode b_S_gap 0 = .ok (.aload_n 0, 1) := by decide +kernel
theorem d_S_gap_1 : decode b_S_gap 1 = .ok (.iload_n 1, 1) := by decide +kernel
theorem d_S_gap_2 : decode b_S_gap 2 = .ok (.invokevirtual 101, 3) := by decide +kernel
theorem d_S_gap_5 : decode b_S_gap 5 = .ok (.astore_n 3, 1) := by decide +kernel
theorem d_S_gap_6 : decode b_S_gap 6 = .ok (.aload_n 0, 1) := by decide +kernel
theorem d_S_gap_7 : decode b_S_gap 7 = .ok (.iload_n 2, 1) := by decide +kernel
theorem d_S_gap_8 : decode b_S_gap 8 = .ok (.invokevirtual 101, 3) := by decide +kernel
theorem d_S_gap_11 : decode b_S_gap 11 = .ok (.astore 4, 2) := by decide +kernel
theorem d_S_gap_13 : decode b_S_gap 13 = .ok (.aload_n 3, 1) := by decide +kernel
theorem d_S_gap_14 : decode b_S_gap 14 = .ok (.ifnull 8, 3) := by decide +kernel
theorem d_S_gap_17 : decode b_S_gap 17 = .ok (.aload 4, 2) := by decide +kernel
theorem d_S_gap_19 : decode b_S_gap 19 = .ok (.ifnonnull 6, 3) := by decide +kernel
theorem d_S_gap_22 : decode b_S_gap 22 = .ok (.bipush (-11), 2) := by decide +kernel
theorem d_S_gap_24 : decode b_S_gap 24 = .ok (.ireturn, 1) := by decide +kernel
theorem d_S_gap_25 : decode b_S_gap 25 = .ok (.iload_n 1, 1) := by decide +kernel
theorem d_S_gap_26 : decode b_S_gap 26 = .ok (.iload_n 2, 1) := by decide +kernel
theorem d_S_gap_27 : decode b_S_gap 27 = .ok (.if_icmp .ne 6, 3) := by decide +kernel
theorem d_S_gap_30 : decode b_S_gap 30 = .ok (.bipush (-12), 2) := by decide +kernel
theorem d_S_gap_32 : decode b_S_gap 32 = .ok (.ireturn, 1) := by decide +kernel
theorem d_S_gap_33 : decode b_S_gap 33 = .ok (.aload_n 3, 1) := by decide +kernel
theorem d_S_gap_34 : decode b_S_gap 34 = .ok (.invokevirtual 107, 3) := by decide +kernel
theorem d_S_gap_37 : decode b_S_gap 37 = .ok (.ifCond .eq 11, 3) := by decide +kernel
theorem d_S_gap_40 : decode b_S_gap 40 = .ok (.aload 4, 2) := by decide +kernel
theorem d_S_gap_42 : decode b_S_gap 42 = .ok (.invokevirtual 107, 3) := by decide +kernel
theorem d_S_gap_45 : decode b_S_gap 45 = .ok (.ifCond .ne 6, 3) := by decide +kernel
theorem d_S_gap_48 : decode b_S_gap 48 = .ok (.bipush (-13), 2) := by decide +kernel
theorem d_S_gap_50 : decode b_S_gap 50 = .ok (.ireturn, 1) := by decide +kernel
theorem d_S_gap_51 : decode b_S_gap 51 = .ok (.aload_n 3, 1) := by decide +kernel
theorem d_S_gap_52 : decode b_S_gap 52 = .ok (.getfield 135, 3) := by decide +kernel
theorem d_S_gap_55 : decode b_S_gap 55 = .ok (.aload 4, 2) := by decide +kernel
theorem d_S_gap_57 : decode b_S_gap 57 = .ok (.getfield 135, 3) := by decide +kernel
theorem d_S_gap_60 : decode b_S_gap 60 = .ok (.if_acmp .eq 6, 3) := by decide +kernel
theorem d_S_gap_63 : decode b_S_gap 63 = .ok (.bipush (-13), 2) := by decide +kernel
theorem d_S_gap_65 : decode b_S_gap 65 = .ok (.ireturn, 1) := by decide +kernel
theorem d_S_gap_66 : decode b_S_gap 66 = .ok (.aload 4, 2) := by decide +kernel
theorem d_S_gap_68 : decode b_S_gap 68 = .ok (.aload_n 0, 1) := by decide +kernel
theorem d_S_gap_69 : decode b_S_gap 69 = .ok (.getfield 35, 3) := by decide +kernel
theorem d_S_gap_72 : decode b_S_gap 72 = .ok (.invokevirtual 111, 3) := by decide +kernel
theorem d_S_gap_75 : decode b_S_gap 75 = .ok (.aload 4, 2) := by decide +kernel
theorem d_S_gap_77 : decode b_S_gap 77 = .ok (.getfield 138, 3) := by decide +kernel
theorem d_S_gap_80 : decode b_S_gap 80 = .ok (.lsub, 1) := by decide +kernel
theorem d_S_gap_81 : decode b_S_gap 81 = .ok (.aload_n 3, 1) := by decide +kernel
theorem d_S_gap_82 : decode b_S_gap 82 = .ok (.aload_n 0, 1) := by decide +kernel
theorem d_S_gap_83 : decode b_S_gap 83 = .ok (.getfield 35, 3) := by decide +kernel
theorem d_S_gap_86 : decode b_S_gap 86 = .ok (.invokevirtual 111, 3) := by decide +kernel
theorem d_S_gap_89 : decode b_S_gap 89 = .ok (.lsub, 1) := by decide +kernel
theorem d_S_gap_90 : decode b_S_gap 90 = .ok (.l2i, 1) := by decide +kernel
theorem d_S_gap_91 : decode b_S_gap 91 = .ok (.ireturn, 1) := by decide +kernel
theorem d_S_count_0 : decode b_S_count 0 = .ok (.aload_n 0, 1) := by decide +kernel
theorem d_S_count_1 : decode b_S_count 1 = .ok (.iload_n 1, 1) := by decide +kernel
theorem d_S_count_2 : decode b_S_count 2 = .ok (.invokevirtual 54, 3) := by decide +kernel
theorem d_S_count_5 : decode b_S_count 5 = .ok (.astore_n 2, 1) := by decide +kernel
theorem d_S_count_6 : decode b_S_count 6 = .ok (.aload_n 2, 1) := by decide +kernel
theorem d_S_count_7 : decode b_S_count 7 = .ok (.ifnonnull 6, 3) := by decide +kernel
theorem d_S_count_10 : decode b_S_count 10 = .ok (.bipush (-11), 2) := by decide +kernel
theorem d_S_count_12 : decode b_S_count 12 = .ok (.ireturn, 1) := by decide +kernel
theorem d_S_count_13 : decode b_S_count 13 = .ok (.iconst 0, 1) := by decide +kernel
theorem d_S_count_14 : decode b_S_count 14 = .ok (.istore_n 3, 1) := by decide +kernel
theorem d_S_count_15 : decode b_S_count 15 = .ok (.iconst 0, 1) := by decide +kernel
theorem d_S_count_16 : decode b_S_count 16 = .ok (.istore 4, 2) := by decide +kernel
theorem d_S_count_18 : decode b_S_count 18 = .ok (.iload 4, 2) := by decide +kernel
theorem d_S_count_20 : decode b_S_count 20 = .ok (.aload_n 0, 1) := by decide +kernel
theorem d_S_count_21 : decode b_S_count 21 = .ok (.getfield 25, 3) := by decide +kernel
theorem d_S_count_24 : decode b_S_count 24 = .ok (.if_icmp .ge 26, 3) := by decide +kernel
theorem d_S_count_27 : decode b_S_count 27 = .ok (.aload_n 0, 1) := by decide +kernel
theorem d_S_count_28 : decode b_S_count 28 = .ok (.getfield 21, 3) := by decide +kernel
theorem d_S_count_31 : decode b_S_count 31 = .ok (.iload 4, 2) := by decide +kernel
theorem d_S_count_33 : decode b_S_count 33 = .ok (.aaload, 1) := by decide +kernel
theorem d_S_count_34 : decode b_S_count 34 = .ok (.aload_n 2, 1) := by decide +kernel
theorem d_S_count_35 : decode b_S_count 35 = .ok (.invokevirtual 141, 3) := by decide +kernel
theorem d_S_count_38 : decode b_S_count 38 = .ok (.ifCond .eq 6, 3) := by decide +kernel
theorem d_S_count_41 : decode b_S_count 41 = .ok (.iinc 3 1, 3) := by decide +kernel
theorem d_S_count_44 : decode b_S_count 44 = .ok (.iinc 4 1, 3) := by decide +kernel
theorem d_S_count_47 : decode b_S_count 47 = .ok (.goto (-29), 3) := by decide +kernel
theorem d_S_count_50 : decode b_S_count 50 = .ok (.iload_n 3, 1) := by decide +kernel
theorem d_S_count_51 : decode b_S_count 51 = .ok (.ireturn, 1) := by decide +kernel
theorem d_S_gear_0 : decode b_S_gear 0 = .ok (.aload_n 0, 1) := by decide +kernel
theorem d_S_gear_1 : decode b_S_gear 1 = .ok (.iload_n 1, 1) := by decide +kernel
theorem d_S_gear_2 : decode b_S_gear 2 = .ok (.invokevirtual 54, 3) := by decide +kernel
theorem d_S_gear_5 : decode b_S_gear 5 = .ok (.astore 4, 2) := by decide +kernel
theorem d_S_gear_7 : decode b_S_gear 7 = .ok (.aload 4, 2) := by decide +kernel
theorem d_S_gear_9 : decode b_S_gear 9 = .ok (.ifnonnull 6, 3) := by decide +kernel
theorem d_S_gear_12 : decode b_S_gear 12 = .ok (.bipush (-11), 2) := by decide +kernel
theorem d_S_gear_14 : decode b_S_gear 14 = .ok (.ireturn, 1) := by decide +kernel
theorem d_S_gear_15 : decode b_S_gear 15 = .ok (.aload_n 0, 1) := by decide +kernel
theorem d_S_gear_16 : decode b_S_gear 16 = .ok (.lload_n 2, 1) := by decide +kernel
theorem d_S_gear_17 : decode b_S_gear 17 = .ok (.invokevirtual 62, 3) := by decide +kernel
theorem d_S_gear_20 : decode b_S_gear 20 = .ok (.ifCond .ne 6, 3) := by decide +kernel
theorem d_S_gear_23 : decode b_S_gear 23 = .ok (.bipush (-12), 2) := by decide +kernel
theorem d_S_gear_25 : decode b_S_gear 25 = .ok (.ireturn, 1) := by decide +kernel
theorem d_S_gear_26 : decode b_S_gear 26 = .ok (.aload 4, 2) := by decide +kernel
theorem d_S_gear_28 : decode b_S_gear 28 = .ok (.lload_n 2, 1) := by decide +kernel
theorem d_S_gear_29 : decode b_S_gear 29 = .ok (.invokevirtual 145, 3) := by decide +kernel
theorem d_S_gear_32 : decode b_S_gear 32 = .ok (.ireturn, 1) := by decide +kernel
theorem d_M_init_0 : decode b_M_init 0 = .ok (.aload_n 0, 1) := by decide +kernel
theorem d_M_init_1 : decode b_M_init 1 = .ok (.invokespecial 1, 3) := by decide +kernel
theorem d_M_init_4 : decode b_M_init 4 = .ok (.aload_n 0, 1) := by decide +kernel
theorem d_M_init_5 : decode b_M_init 5 = .ok (.bipush 12, 2) := by decide +kernel
theorem d_M_init_7 : decode b_M_init 7 = .ok (.newarray .long, 2) := by decide +kernel
theorem d_M_init_9 : decode b_M_init 9 = .ok (.putfield 7, 3) := by decide +kernel
theorem d_M_init_12 : decode b_M_init 12 = .ok (.aload_n 0, 1) := by decide +kernel
theorem d_M_init_13 : decode b_M_init 13 = .ok (.bipush 12, 2) := by decide +kernel
theorem d_M_init_15 : decode b_M_init 15 = .ok (.newarray .long, 2) := by decide +kernel
theorem d_M_init_17 : decode b_M_init 17 = .ok (.putfield 13, 3) := by decide +kernel
theorem d_M_init_20 : decode b_M_init 20 = .ok (.aload_n 0, 1) := by decide +kernel
theorem d_M_init_21 : decode b_M_init 21 = .ok (.bipush 12, 2) := by decide +kernel
theorem d_M_init_23 : decode b_M_init 23 = .ok (.newarray .int, 2) := by decide +kernel
theorem d_M_init_25 : decode b_M_init 25 = .ok (.putfield 16, 3) := by decide +kernel
theorem d_M_init_28 : decode b_M_init 28 = .ok (.aload_n 0, 1) := by decide +kernel
theorem d_M_init_29 : decode b_M_init 29 = .ok (.bipush 12, 2) := by decide +kernel
theorem d_M_init_31 : decode b_M_init 31 = .ok (.newarray .long, 2) := by decide +kernel
theorem d_M_init_33 : decode b_M_init 33 = .ok (.putfield 20, 3) := by decide +kernel
theorem d_M_init_36 : decode b_M_init 36 = .ok (.aload_n 0, 1) := by decide +kernel
theorem d_M_init_37 : decode b_M_init 37 = .ok (.bipush 12, 2) := by decide +kernel
theorem d_M_init_39 : decode b_M_init 39 = .ok (.newarray .boolean, 2) := by decide +kernel
theorem d_M_init_41 : decode b_M_init 41 = .ok (.putfield 23, 3) := by decide +kernel
theorem d_M_init_44 : decode b_M_init 44 = .ok (.aload_n 0, 1) := by decide +kernel
theorem d_M_init_45 : decode b_M_init 45 = .ok (.bipush 12, 2) := by decide +kernel
theorem d_M_init_47 : decode b_M_init 47 = .ok (.newarray .int, 2) := by decide +kernel
theorem d_M_init_49 : decode b_M_init 49 = .ok (.putfield 27, 3) := by decide +kernel
theorem d_M_init_52 : decode b_M_init 52 = .ok (.aload_n 0, 1) := by decide +kernel
theorem d_M_init_53 : decode b_M_init 53 = .ok (.bipush 12, 2) := by decide +kernel
theorem d_M_init_55 : decode b_M_init 55 = .ok (.newarray .int, 2) := by decide +kernel
theorem d_M_init_57 : decode b_M_init 57 = .ok (.putfield 30, 3) := by decide +kernel
theorem d_M_init_60 : decode b_M_init 60 = .ok (.aload_n 0, 1) := by decide +kernel
theorem d_M_init_61 : decode b_M_init 61 = .ok (.bipush 12, 2) := by decide +kernel
theorem d_M_init_63 : decode b_M_init 63 = .ok (.newarray .long, 2) := by decide +kernel
theorem d_M_init_65 : decode b_M_init 65 = .ok (.putfield 33, 3) := by decide +kernel
theorem d_M_init_68 : decode b_M_init 68 = .ok (.aload_n 0, 1) := by decide +kernel
theorem d_M_init_69 : decode b_M_init 69 = .ok (.bipush 61, 2) := by decide +kernel
theorem d_M_init_71 : decode b_M_init 71 = .ok (.newarray .long, 2) := by decide +kernel
theorem d_M_init_73 : decode b_M_init 73 = .ok (.putfield 36, 3) := by decide +kernel
theorem d_M_init_76 : decode b_M_init 76 = .ok (.aload_n 0, 1) := by decide +kernel
theorem d_M_init_77 : decode b_M_init 77 = .ok (.bipush 61, 2) := by decide +kernel
theorem d_M_init_79 : decode b_M_init 79 = .ok (.newarray .long, 2) := by decide +kernel
theorem d_M_init_81 : decode b_M_init 81 = .ok (.putfield 39, 3) := by decide +kernel
theorem d_M_init_84 : decode b_M_init 84 = .ok (.aload_n 0, 1) := by decide +kernel
theorem d_M_init_85 : decode b_M_init 85 = .ok (.bipush 61, 2) := by decide +kernel
theorem d_M_init_87 : decode b_M_init 87 = .ok (.newarray .int, 2) := by decide +kernel
theorem d_M_init_89 : decode b_M_init 89 = .ok (.putfield 42, 3) := by decide +kernel
theorem d_M_init_92 : decode b_M_init 92 = .ok (.aload_n 0, 1) := by decide +kernel
theorem d_M_init_93 : decode b_M_init 93 = .ok (.bipush 61, 2) := by decide +kernel
theorem d_M_init_95 : decode b_M_init 95 = .ok (.newarray .long, 2) := by decide +kernel
theorem d_M_init_97 : decode b_M_init 97 = .ok (.putfield 45, 3) := by decide +kernel
theorem d_M_init_100 : decode b_M_init 100 = .ok (.aload_n 0, 1) := by decide +kernel
theorem d_M_init_101 : decode b_M_init 101 = .ok (.bipush 61, 2) := by decide +kernel
theorem d_M_init_103 : decode b_M_init 103 = .ok (.newarray .boolean, 2) := by decide +kernel
theorem d_M_init_105 : decode b_M_init 105 = .ok (.putfield 48, 3) := by decide +kernel
theorem d_M_init_108 : decode b_M_init 108 = .ok (.aload_n 0, 1) := by decide +kernel
theorem d_M_init_109 : decode b_M_init 109 = .ok (.bipush 61, 2) := by decide +kernel
theorem d_M_init_111 : decode b_M_init 111 = .ok (.newarray .boolean, 2) := by decide +kernel
theorem d_M_init_113 : decode b_M_init 113 = .ok (.putfield 51, 3) := by decide +kernel
theorem d_M_init_116 : decode b_M_init 116 = .ok (.aload_n 0, 1) := by decide +kernel
theorem d_M_init_117 : decode b_M_init 117 = .ok (.bipush 61, 2) := by decide +kernel
theorem d_M_init_119 : decode b_M_init 119 = .ok (.newarray .boolean, 2) := by decide +kernel
theorem d_M_init_121 : decode b_M_init 121 = .ok (.putfield 54, 3) := by decide +kernel
theorem d_M_init_124 : decode b_M_init 124 = .ok (.aload_n 0, 1) := by decide +kernel
theorem d_M_init_125 : decode b_M_init 125 = .ok (.sipush 400, 3) := by decide +kernel
theorem d_M_init_128 : decode b_M_init 128 = .ok (.newarray .long, 2) := by decide +kernel
theorem d_M_init_130 : decode b_M_init 130 = .ok (.putfield 57, 3) := by decide +kernel
theorem d_M_init_133 : decode b_M_init 133 = .ok (.aload_n 0, 1) := by decide +kernel
theorem d_M_init_134 : decode b_M_init 134 = .ok (.sipush 400, 3) := by decide +kernel
theorem d_M_init_137 : decode b_M_init 137 = .ok (.newarray .int, 2) := by decide +kernel
theorem d_M_init_139 : decode b_M_init 139 = .ok (.putfield 60, 3) := by decide +kernel
theorem d_M_init_142 : decode b_M_init 142 = .ok (.aload_n 0, 1) := by decide +kernel
theorem d_M_init_143 : decode b_M_init 143 = .ok (.sipush 400, 3) := by decide +kernel
theorem d_M_init_146 : decode b_M_init 146 = .ok (.newarray .int, 2) := by decide +kernel
theorem d_M_init_148 : decode b_M_init 148 = .ok (.putfield 63, 3) := by decide +kernel
theorem d_M_init_151 : decode b_M_init 151 = .ok (.aload_n 0, 1) := by decide +kernel
theorem d_M_init_152 : decode b_M_init 152 = .ok (.sipush 400, 3) := by decide +kernel
theorem d_M_init_155 : decode b_M_init 155 = .ok (.newarray .int, 2) := by decide +kernel
theorem d_M_init_157 : decode b_M_init 157 = .ok (.putfield 66, 3) := by decide +kernel
theorem d_M_init_160 : decode b_M_init 160 = .ok (.return_, 1) := by decide +kernel
theorem d_M_belt_0 : decode b_M_belt 0 = .ok (.aload_n 0, 1) := by decide +kernel
theorem d_M_belt_1 : decode b_M_belt 1 = .ok (.iconst 0, 1) := by decide +kernel
theorem d_M_belt_2 : decode b_M_belt 2 = .ok (.putfield 69, 3) := by decide +kernel
theorem d_M_belt_5 : decode b_M_belt 5 = .ok (.lload_n 1, 1) := by decide +kernel
theorem d_M_belt_6 : decode b_M_belt 6 = .ok (.ldc2_w 89, 3) := by decide +kernel
theorem d_M_belt_9 : decode b_M_belt 9 = .ok (.ldc2_w 91, 3) := by decide +kernel
theorem d_M_belt_12 : decode b_M_belt 12 = .ok (.invokestatic 85, 3) := by decide +kernel
theorem d_M_belt_15 : decode b_M_belt 15 = .ok (.ifCond .eq 14, 3) := by decide +kernel
theorem d_M_belt_18 : decode b_M_belt 18 = .ok (.lload_n 3, 1) := by decide +kernel
theorem d_M_belt_19 : decode b_M_belt 19 = .ok (.lconst 1, 1) := by decide +kernel
theorem d_M_belt_20 : decode b_M_belt 20 = .ok (.ldc2_w 93, 3) := by decide +kernel
theorem d_M_belt_23 : decode b_M_belt 23 = .ok (.invokestatic 85, 3) := by decide +kernel
theorem d_M_belt_26 : decode b_M_belt 26 = .ok (.ifCond .ne 6, 3) := by decide +kernel
theorem d_M_belt_29 : decode b_M_belt 29 = .ok (.bipush (-12), 2) := by decide +kernel
theorem d_M_belt_31 : decode b_M_belt 31 = .ok (.ireturn, 1) := by decide +kernel
theorem d_M_belt_32 : decode b_M_belt 32 = .ok (.aload_n 0, 1) := by decide +kernel
theorem d_M_belt_33 : decode b_M_belt 33 = .ok (.getfield 73, 3) := by decide +kernel
theorem d_M_belt_36 : decode b_M_belt 36 = .ok (.bipush 12, 2) := by decide +kernel
theorem d_M_belt_38 : decode b_M_belt 38 = .ok (.if_icmp .ne 6, 3) := by decide +kernel
theorem d_M_belt_41 : decode b_M_belt 41 = .ok (.bipush (-14), 2) := by decide +kernel
theorem d_M_belt_43 : decode b_M_belt 43 = .ok (.ireturn, 1) := by decide +kernel
theorem d_M_belt_44 : decode b_M_belt 44 = .ok (.aload_n 0, 1) := by decide +kernel
theorem d_M_belt_45 : decode b_M_belt 45 = .ok (.getfield 7, 3) := by decide +kernel
theorem d_M_belt_48 : decode b_M_belt 48 = .ok (.aload_n 0, 1) := by decide +kernel
theorem d_M_belt_49 : decode b_M_belt 49 = .ok (.getfield 73, 3) := by decide +kernel
theorem d_M_belt_52 : decode b_M_belt 52 = .ok (.lload_n 1, 1) := by decide +kernel
theorem d_M_belt_53 : decode b_M_belt 53 = .ok (.lastore, 1) := by decide +kernel
theorem d_M_belt_54 : decode b_M_belt 54 = .ok (.aload_n 0, 1) := by decide +kernel
theorem d_M_belt_55 : decode b_M_belt 55 = .ok (.getfield 13, 3) := by decide +kernel
theorem d_M_belt_58 : decode b_M_belt 58 = .ok (.aload_n 0, 1) := by decide +kernel
theorem d_M_belt_59 : decode b_M_belt 59 = .ok (.getfield 73, 3) := by decide +kernel
theorem d_M_belt_62 : decode b_M_belt 62 = .ok (.lload_n 3, 1) := by decide +kernel
theorem d_M_belt_63 : decode b_M_belt 63 = .ok (.lastore, 1) := by decide +kernel
theorem d_M_belt_64 : decode b_M_belt 64 = .ok (.aload_n 0, 1) := by decide +kernel
theorem d_M_belt_65 : decode b_M_belt 65 = .ok (.getfield 16, 3) := by decide +kernel
theorem d_M_belt_68 : decode b_M_belt 68 = .ok (.aload_n 0, 1) := by decide +kernel
theorem d_M_belt_69 : decode b_M_belt 69 = .ok (.getfield 73, 3) := by decide +kernel
theorem d_M_belt_72 : decode b_M_belt 72 = .ok (.iconst (-1), 1) := by decide +kernel
theorem d_M_belt_73 : decode b_M_belt 73 = .ok (.iastore, 1) := by decide +kernel
theorem d_M_belt_74 : decode b_M_belt 74 = .ok (.aload_n 0, 1) := by decide +kernel
theorem d_M_belt_75 : decode b_M_belt 75 = .ok (.getfield 23, 3) := by decide +kernel
theorem d_M_belt_78 : decode b_M_belt 78 = .ok (.aload_n 0, 1) := by decide +kernel
theorem d_M_belt_79 : decode b_M_belt 79 = .ok (.getfield 73, 3) := by decide +kernel
theorem d_M_belt_82 : decode b_M_belt 82 = .ok (.iconst 1, 1) := by decide +kernel
theorem d_M_belt_83 : decode b_M_belt 83 = .ok (.bastore, 1) := by decide +kernel
theorem d_M_belt_84 : decode b_M_belt 84 = .ok (.aload_n 0, 1) := by decide +kernel
theorem d_M_belt_85 : decode b_M_belt 85 = .ok (.getfield 27, 3) := by decide +kernel
theorem d_M_belt_88 : decode b_M_belt 88 = .ok (.aload_n 0, 1) := by decide +kernel
theorem d_M_belt_89 : decode b_M_belt 89 = .ok (.getfield 73, 3) := by decide +kernel
theorem d_M_belt_92 : decode b_M_belt 92 = .ok (.bipush 8, 2) := by decide +kernel
theorem d_M_belt_94 : decode b_M_belt 94 = .ok (.iastore, 1) := by decide +kernel
theorem d_M_belt_95 : decode b_M_belt 95 = .ok (.aload_n 0, 1) := by decide +kernel
theorem d_M_belt_96 : decode b_M_belt 96 = .ok (.dup, 1) := by decide +kernel
theorem d_M_belt_97 : decode b_M_belt 97 = .ok (.getfield 73, 3) := by decide +kernel
theorem d_M_belt_100 : decode b_M_belt 100 = .ok (.iconst 1, 1) := by decide +kernel
theorem d_M_belt_101 : decode b_M_belt 101 = .ok (.iadd, 1) := by decide +kernel
theorem d_M_belt_102 : decode b_M_belt 102 = .ok (.putfield 73, 3) := by decide +kernel
theorem d_M_belt_105 : decode b_M_belt 105 = .ok (.aload_n 0, 1) := by decide +kernel
theorem d_M_belt_106 : decode b_M_belt 106 = .ok (.getfield 73, 3) := by decide +kernel
theorem d_M_belt_109 : decode b_M_belt 109 = .ok (.iconst 1, 1) := by decide +kernel
theorem d_M_belt_110 : decode b_M_belt 110 = .ok (.isub, 1) := by decide +kernel
theorem d_M_belt_111 : decode b_M_belt 111 = .ok (.ireturn, 1) := by decide +kernel
theorem d_M_in_0 : decode b_M_in 0 = .ok (.lload_n 0, 1) := by decide +kernel
theorem d_M_in_1 : decode b_M_in 1 = .ok (.lload_n 2, 1) := by decide +kernel
theorem d_M_in_2 : decode b_M_in 2 = .ok (.lcmp, 1) := by decide +kernel
theorem d_M_in_3 : decode b_M_in 3 = .ok (.ifCond .lt 14, 3) := by decide +kernel
theorem d_M_in_6 : decode b_M_in 6 = .ok (.lload_n 0, 1) := by decide +kernel
theorem d_M_in_7 : decode b_M_in 7 = .ok (.lload 4, 2) := by decide +kernel
theorem d_M_in_9 : decode b_M_in 9 = .ok (.lcmp, 1) := by decide +kernel
theorem d_M_in_10 : decode b_M_in 10 = .ok (.ifCond .gt 7, 3) := by decide +kernel
theorem d_M_in_13 : decode b_M_in 13 = .ok (.iconst 1, 1) := by decide +kernel
theorem d_M_in_14 : decode b_M_in 14 = .ok (.goto 4, 3) := by decide +kernel
theorem d_M_in_17 : decode b_M_in 17 = .ok (.iconst 0, 1) := by decide +kernel
theorem d_M_in_18 : decode b_M_in 18 = .ok (.ireturn, 1) := by decide +kernel
theorem d_M_join_0 : decode b_M_join 0 = .ok (.aload_n 0, 1) := by decide +kernel
theorem d_M_join_1 : decode b_M_join 1 = .ok (.iconst 0, 1) := by decide +kernel
theorem d_M_join_2 : decode b_M_join 2 = .ok (.putfield 69, 3) := by decide +kernel
theorem d_M_join_5 : decode b_M_join 5 = .ok (.aload_n 0, 1) := by decide +kernel
theorem d_M_join_6 : decode b_M_join 6 = .ok (.iload_n 1, 1) := by decide +kernel
theorem d_M_join_7 : decode b_M_join 7 = .ok (.invokevirtual 95, 3) := by decide +kernel
theorem d_M_join_10 : decode b_M_join 10 = .ok (.ifCond .eq 11, 3) := by decide +kernel
theorem d_M_join_13 : decode b_M_join 13 = .ok (.aload_n 0, 1) := by decide +kernel
theorem d_M_join_14 : decode b_M_join 14 = .ok (.iload_n 2, 1) := by decide +kernel
theorem d_M_join_15 : decode b_M_join 15 = .ok (.invokevirtual 95, 3) := by decide +kernel
theorem d_M_join_18 : decode b_M_join 18 = .ok (.ifCond .ne 6, 3) := by decide +kernel
theorem d_M_join_21 : decode b_M_join 21 = .ok (.bipush (-11), 2) := by decide +kernel
theorem d_M_join_23 : decode b_M_join 23 = .ok (.ireturn, 1) := by decide +kernel
theorem d_M_join_24 : decode b_M_join 24 = .ok (.iload_n 2, 1) := by decide +kernel
theorem d_M_join_25 : decode b_M_join 25 = .ok (.iload_n 1, 1) := by decide +kernel
theorem d_M_join_26 : decode b_M_join 26 = .ok (.if_icmp .gt 6, 3) := by decide +kernel
theorem d_M_join_29 : decode b_M_join 29 = .ok (.bipush (-12), 2) := by decide +kernel
theorem d_M_join_31 : decode b_M_join 31 = .ok (.ireturn, 1) := by decide +kernel
theorem d_M_join_32 : decode b_M_join 32 = .ok (.aload_n 0, 1) := by decide +kernel
theorem d_M_join_33 : decode b_M_join 33 = .ok (.getfield 16, 3) := by decide +kernel
theorem d_M_join_36 : decode b_M_join 36 = .ok (.iload_n 1, 1) := by decide +kernel
theorem d_M_join_37 : decode b_M_join 37 = .ok (.iaload, 1) := by decide +kernel
theorem d_M_join_38 : decode b_M_join 38 = .ok (.istore_n 3, 1) := by decide +kernel
theorem d_M_join_39 : decode b_M_join 39 = .ok (.aload_n 0, 1) := by decide +kernel
theorem d_M_join_40 : decode b_M_join 40 = .ok (.getfield 16, 3) := by decide +kernel
theorem d_M_join_43 : decode b_M_join 43 = .ok (.iload_n 1, 1) := by decide +kernel
theorem d_M_join_44 : decode b_M_join 44 = .ok (.iload_n 2, 1) := by decide +kernel
theorem d_M_join_45 : decode b_M_join 45 = .ok (.iastore, 1) := by decide +kernel
theorem d_M_join_46 : decode b_M_join 46 = .ok (.iload_n 3, 1) := by decide +kernel
theorem d_M_join_47 : decode b_M_join 47 = .ok (.ireturn, 1) := by decide +kernel
theorem d_M_isBelt_0 : decode b_M_isBelt 0 = .ok (.iload_n 1, 1) := by decide +kernel
theorem d_M_isBelt_1 : decode b_M_isBelt 1 = .ok (.ifCond .lt 15, 3) := by decide +kernel
theorem d_M_isBelt_4 : decode b_M_isBelt 4 = .ok (.iload_n 1, 1) := by decide +kernel
theorem d_M_isBelt_5 : decode b_M_isBelt 5 = .ok (.aload_n 0, 1) := by decide +kernel
theorem d_M_isBelt_6 : decode b_M_isBelt 6 = .ok (.getfield 73, 3) := by decide +kernel
theorem d_M_isBelt_9 : decode b_M_isBelt 9 = .ok (.if_icmp .ge 7, 3) := by decide +kernel
theorem d_M_isBelt_12 : decode b_M_isBelt 12 = .ok (.iconst 1, 1) := by decide +kernel
theorem d_M_isBelt_13 : decode b_M_isBelt 13 = .ok (.goto 4, 3) := by decide +kernel
theorem d_M_isBelt_16 : decode b_M_isBelt 16 = .ok (.iconst 0, 1) := by decide +kernel
theorem d_M_isBelt_17 : decode b_M_isBelt 17 = .ok (.ireturn, 1) := by decide +kernel
theorem d_M_feed_0 : decode b_M_feed 0 = .ok (.aload_n 0, 1) := by decide +kernel
theorem d_M_feed_1 : decode b_M_feed 1 = .ok (.iconst 0, 1) := by decide +kernel
theorem d_M_feed_2 : decode b_M_feed 2 = .ok (.putfield 69, 3) := by decide +kernel
theorem d_M_feed_5 : decode b_M_feed 5 = .ok (.aload_n 0, 1) := by decide +kernel
theorem d_M_feed_6 : decode b_M_feed 6 = .ok (.iload_n 1, 1) := by decide +kernel
theorem d_M_feed_7 : decode b_M_feed 7 = .ok (.invokevirtual 95, 3) := by decide +kernel
theorem d_M_feed_10 : decode b_M_feed 10 = .ok (.ifCond .ne 6, 3) := by decide +kernel
theorem d_M_feed_13 : decode b_M_feed 13 = .ok (.bipush (-11), 2) := by decide +kernel
theorem d_M_feed_15 : decode b_M_feed 15 = .ok (.ireturn, 1) := by decide +kernel
theorem d_M_feed_16 : decode b_M_feed 16 = .ok (.lload_n 2, 1) := by decide +kernel
theorem d_M_feed_17 : decode b_M_feed 17 = .ok (.lconst 1, 1) := by decide +kernel
theorem d_M_feed_18 : decode b_M_feed 18 = .ok (.ldc2_w 89, 3) := by decide +kernel
theorem d_M_feed_21 : decode b_M_feed 21 = .ok (.invokestatic 85, 3) := by decide +kernel
theorem d_M_feed_24 : decode b_M_feed 24 = .ok (.ifCond .eq 12, 3) := by decide +kernel
theorem d_M_feed_27 : decode b_M_feed 27 = .ok (.aload_n 0, 1) := by decide +kernel
theorem d_M_feed_28 : decode b_M_feed 28 = .ok (.lload 4, 2) := by decide +kernel
theorem d_M_feed_30 : decode b_M_feed 30 = .ok (.invokevirtual 99, 3) := by decide +kernel
theorem d_M_feed_33 : decode b_M_feed 33 = .ok (.ifCond .ne 6, 3) := by decide +kernel
theorem d_M_feed_36 : decode b_M_feed 36 = .ok (.bipush (-12), 2) := by decide +kernel
theorem d_M_feed_38 : decode b_M_feed 38 = .ok (.ireturn, 1) := by decide +kernel
theorem d_M_feed_39 : decode b_M_feed 39 = .ok (.aload_n 0, 1) := by decide +kernel
theorem d_M_feed_40 : decode b_M_feed 40 = .ok (.getfield 76, 3) := by decide +kernel
theorem d_M_feed_43 : decode b_M_feed 43 = .ok (.bipush 60, 2) := by decide +kernel
theorem d_M_feed_45 : decode b_M_feed 45 = .ok (.if_icmp .ne 6, 3) := by decide +kernel
theorem d_M_feed_48 : decode b_M_feed 48 = .ok (.bipush (-14), 2) := by decide +kernel
theorem d_M_feed_50 : decode b_M_feed 50 = .ok (.ireturn, 1) := by decide +kernel
theorem d_M_feed_51 : decode b_M_feed 51 = .ok (.aload_n 0, 1) := by decide +kernel
theorem d_M_feed_52 : decode b_M_feed 52 = .ok (.dup, 1) := by decide +kernel
theorem d_M_feed_53 : decode b_M_feed 53 = .ok (.getfield 76, 3) := by decide +kernel
theorem d_M_feed_56 : decode b_M_feed 56 = .ok (.iconst 1, 1) := by decide +kernel
theorem d_M_feed_57 : decode b_M_feed 57 = .ok (.iadd, 1) := by decide +kernel
theorem d_M_feed_58 : decode b_M_feed 58 = .ok (.putfield 76, 3) := by decide +kernel
theorem d_M_feed_61 : decode b_M_feed 61 = .ok (.aload_n 0, 1) := by decide +kernel
theorem d_M_feed_62 : decode b_M_feed 62 = .ok (.getfield 36, 3) := by decide +kernel
theorem d_M_feed_65 : decode b_M_feed 65 = .ok (.aload_n 0, 1) := by decide +kernel
theorem d_M_feed_66 : decode b_M_feed 66 = .ok (.getfield 76, 3) := by decide +kernel
theorem d_M_feed_69 : decode b_M_feed 69 = .ok (.lload_n 2, 1) := by decide +kernel
theorem d_M_feed_70 : decode b_M_feed 70 = .ok (.lastore, 1) := by decide +kernel
theorem d_M_feed_71 : decode b_M_feed 71 = .ok (.aload_n 0, 1) := by decide +kernel
theorem d_M_feed_72 : decode b_M_feed 72 = .ok (.getfield 39, 3) := by decide +kernel
theorem d_M_feed_75 : decode b_M_feed 75 = .ok (.aload_n 0, 1) := by decide +kernel
theorem d_M_feed_76 : decode b_M_feed 76 = .ok (.getfield 76, 3) := by decide +kernel
theorem d_M_feed_79 : decode b_M_feed 79 = .ok (.lload 4, 2) := by decide +kernel
theorem d_M_feed_81 : decode b_M_feed 81 = .ok (.lastore, 1) := by decide +kernel
theorem d_M_feed_82 : decode b_M_feed 82 = .ok (.aload_n 0, 1) := by decide +kernel
theorem d_M_feed_83 : decode b_M_feed 83 = .ok (.getfield 42, 3) := by decide +kernel
theorem d_M_feed_86 : decode b_M_feed 86 = .ok (.aload_n 0, 1) := by decide +kernel
theorem d_M_feed_87 : decode b_M_feed 87 = .ok (.getfield 76, 3) := by decide +kernel
theorem d_M_feed_90 : decode b_M_feed 90 = .ok (.iload_n 1, 1) := by decide +kernel
theorem d_M_feed_91 : decode b_M_feed 91 = .ok (.iastore, 1) := by decide +kernel
theorem d_M_feed_92 : decode b_M_feed 92 = .ok (.aload_n 0, 1) := by decide +kernel
theorem d_M_feed_93 : decode b_M_feed 93 = .ok (.getfield 76, 3) := by decide +kernel
theorem d_M_feed_96 : decode b_M_feed 96 = .ok (.ireturn, 1) := by decide +kernel
theorem d_M_isTime_0 : decode b_M_isTime 0 = .ok (.lload_n 1, 1) := by decide +kernel
theorem d_M_isTime_1 : decode b_M_isTime 1 = .ok (.aload_n 0, 1) := by decide +kernel
theorem d_M_isTime_2 : decode b_M_isTime 2 = .ok (.getfield 79, 3) := by decide +kernel
theorem d_M_isTime_5 : decode b_M_isTime 5 = .ok (.ldc2_w 83, 3) := by decide +kernel
theorem d_M_isTime_8 : decode b_M_isTime 8 = .ok (.invokestatic 85, 3) := by decide +kernel
theorem d_M_isTime_11 : decode b_M_isTime 11 = .ok (.ireturn, 1) := by decide +kernel
theorem d_M_step_0 : decode b_M_step 0 = .ok (.aload_n 0, 1) := by decide +kernel
theorem d_M_step_1 : decode b_M_step 1 = .ok (.iconst 0, 1) := by decide +kernel
theorem d_M_step_2 : decode b_M_step 2 = .ok (.putfield 69, 3) := by decide +kernel
theorem d_M_step_5 : decode b_M_step 5 = .ok (.aload_n 0, 1) := by decide +kernel
theorem d_M_step_6 : decode b_M_step 6 = .ok (.lload_n 1, 1) := by decide +kernel
theorem d_M_step_7 : decode b_M_step 7 = .ok (.invokevirtual 99, 3) := by decide +kernel
theorem d_M_step_10 : decode b_M_step 10 = .ok (.ifCond .ne 6, 3) := by decide +kernel
theorem d_M_step_13 : decode b_M_step 13 = .ok (.bipush (-12), 2) := by decide +kernel
theorem d_M_step_15 : decode b_M_step 15 = .ok (.ireturn, 1) := by decide +kernel
theorem d_M_step_16 : decode b_M_step 16 = .ok (.aload_n 0, 1) := by decide +kernel
theorem d_M_step_17 : decode b_M_step 17 = .ok (.lload_n 1, 1) := by decide +kernel
theorem d_M_step_18 : decode b_M_step 18 = .ok (.invokevirtual 138, 3) := by decide +kernel
theorem d_M_step_21 : decode b_M_step 21 = .ok (.aload_n 0, 1) := by decide +kernel
theorem d_M_step_22 : decode b_M_step 22 = .ok (.getfield 116, 3) := by decide +kernel
theorem d_M_step_25 : decode b_M_step 25 = .ok (.aload_n 0, 1) := by decide +kernel
theorem d_M_step_26 : decode b_M_step 26 = .ok (.getfield 142, 3) := by decide +kernel
theorem d_M_step_29 : decode b_M_step 29 = .ok (.isub, 1) := by decide +kernel
theorem d_M_step_30 : decode b_M_step 30 = .ok (.istore_n 3, 1) := by decide +kernel
theorem d_M_step_31 : decode b_M_step 31 = .ok (.aload_n 0, 1) := by decide +kernel
theorem d_M_step_32 : decode b_M_step 32 = .ok (.aload_n 0, 1) := by decide +kernel
theorem d_M_step_33 : decode b_M_step 33 = .ok (.getfield 116, 3) := by decide +kernel
theorem d_M_step_36 : decode b_M_step 36 = .ok (.putfield 142, 3) := by decide +kernel
theorem d_M_step_39 : decode b_M_step 39 = .ok (.iload_n 3, 1) := by decide +kernel
theorem d_M_step_40 : decode b_M_step 40 = .ok (.ireturn, 1) := by decide +kernel
theorem d_M_pass_0 : decode b_M_pass 0 = .ok (.aload_n 0, 1) := by decide +kernel
theorem d_M_pass_1 : decode b_M_pass 1 = .ok (.getfield 79, 3) := by decide +kernel
theorem d_M_pass_4 : decode b_M_pass 4 = .ok (.lload_n 1, 1) := by decide +kernel
theorem d_M_pass_5 : decode b_M_pass 5 = .ok (.lcmp, 1) := by decide +kernel
theorem d_M_pass_6 : decode b_M_pass 6 = .ok (.ifCond .ge 112, 3) := by decide +kernel
theorem d_M_pass_9 : decode b_M_pass 9 = .ok (.iconst 0, 1) := by decide +kernel
theorem d_M_pass_10 : decode b_M_pass 10 = .ok (.istore_n 3, 1) := by decide +kernel
theorem d_M_pass_11 : decode b_M_pass 11 = .ok (.iload_n 3, 1) := by decide +kernel
theorem d_M_pass_12 : decode b_M_pass 12 = .ok (.aload_n 0, 1) := by decide +kernel
theorem d_M_pass_13 : decode b_M_pass 13 = .ok (.getfield 73, 3) := by decide +kernel
theorem d_M_pass_16 : decode b_M_pass 16 = .ok (.if_icmp .ge 24, 3) := by decide +kernel
theorem d_M_pass_19 : decode b_M_pass 19 = .ok (.aload_n 0, 1) := by decide +kernel
theorem d_M_pass_20 : decode b_M_pass 20 = .ok (.getfield 33, 3) := by decide +kernel
theorem d_M_pass_23 : decode b_M_pass 23 = .ok (.iload_n 3, 1) := by decide +kernel
theorem d_M_pass_24 : decode b_M_pass 24 = .ok (.aload_n 0, 1) := by decide +kernel
theorem d_M_pass_25 : decode b_M_pass 25 = .ok (.iload_n 3, 1) := by decide +kernel
theorem d_M_pass_26 : decode b_M_pass 26 = .ok (.aload_n 0, 1) := by decide +kernel
theorem d_M_pass_27 : decode b_M_pass 27 = .ok (.getfield 79, 3) := by decide +kernel
theorem d_M_pass_30 : decode b_M_pass 30 = .ok (.invokevirtual 128, 3) := by decide +kernel
theorem d_M_pass_33 : decode b_M_pass 33 = .ok (.lastore, 1) := by decide +kernel
theorem d_M_pass_34 : decode b_M_pass 34 = .ok (.iinc 3 1, 3) := by decide +kernel
theorem d_M_pass_37 : decode b_M_pass 37 = .ok (.goto (-26), 3) := by decide +kernel
theorem d_M_pass_40 : decode b_M_pass 40 = .ok (.iconst 1, 1) := by decide +kernel
theorem d_M_pass_41 : decode b_M_pass 41 = .ok (.istore_n 3, 1) := by decide +kernel
theorem d_M_pass_42 : decode b_M_pass 42 = .ok (.iload_n 3, 1) := by decide +kernel
theorem d_M_pass_43 : decode b_M_pass 43 = .ok (.aload_n 0, 1) := by decide +kernel
theorem d_M_pass_44 : decode b_M_pass 44 = .ok (.getfield 76, 3) := by decide +kernel
theorem d_M_pass_47 : decode b_M_pass 47 = .ok (.if_icmp .gt 50, 3) := by decide +kernel
theorem d_M_pass_50 : decode b_M_pass 50 = .ok (.aload_n 0, 1) := by decide +kernel
theorem d_M_pass_51 : decode b_M_pass 51 = .ok (.getfield 45, 3) := by decide +kernel
theorem d_M_pass_54 : decode b_M_pass 54 = .ok (.iload_n 3, 1) := by decide +kernel
theorem d_M_pass_55 : decode b_M_pass 55 = .ok (.aload_n 0, 1) := by decide +kernel
theorem d_M_pass_56 : decode b_M_pass 56 = .ok (.iload_n 3, 1) := by decide +kernel
theorem d_M_pass_57 : decode b_M_pass 57 = .ok (.invokevirtual 111, 3) := by decide +kernel
theorem d_M_pass_60 : decode b_M_pass 60 = .ok (.ifCond .eq 24, 3) := by decide +kernel
theorem d_M_pass_63 : decode b_M_pass 63 = .ok (.aload_n 0, 1) := by decide +kernel
theorem d_M_pass_64 : decode b_M_pass 64 = .ok (.getfield 45, 3) := by decide +kernel
theorem d_M_pass_67 : decode b_M_pass 67 = .ok (.iload_n 3, 1) := by decide +kernel
theorem d_M_pass_68 : decode b_M_pass 68 = .ok (.laload, 1) := by decide +kernel
theorem d_M_pass_69 : decode b_M_pass 69 = .ok (.aload_n 0, 1) := by decide +kernel
theorem d_M_pass_70 : decode b_M_pass 70 = .ok (.getfield 33, 3) := by decide +kernel
theorem d_M_pass_73 : decode b_M_pass 73 = .ok (.aload_n 0, 1) := by decide +kernel
theorem d_M_pass_74 : decode b_M_pass 74 = .ok (.getfield 42, 3) := by decide +kernel
theorem d_M_pass_77 : decode b_M_pass 77 = .ok (.iload_n 3, 1) := by decide +kernel
theorem d_M_pass_78 : decode b_M_pass 78 = .ok (.iaload, 1) := by decide +kernel
theorem d_M_pass_79 : decode b_M_pass 79 = .ok (.laload, 1) := by decide +kernel
theorem d_M_pass_80 : decode b_M_pass 80 = .ok (.ladd, 1) := by decide +kernel
theorem d_M_pass_81 : decode b_M_pass 81 = .ok (.goto 9, 3) := by decide +kernel
theorem d_M_pass_84 : decode b_M_pass 84 = .ok (.aload_n 0, 1) := by decide +kernel
theorem d_M_pass_85 : decode b_M_pass 85 = .ok (.getfield 45, 3) := by decide +kernel
theorem d_M_pass_88 : decode b_M_pass 88 = .ok (.iload_n 3, 1) := by decide +kernel
theorem d_M_pass_89 : decode b_M_pass 89 = .ok (.laload, 1) := by decide +kernel
theorem d_M_pass_90 : decode b_M_pass 90 = .ok (.lastore, 1) := by decide +kernel
theorem d_M_pass_91 : decode b_M_pass 91 = .ok (.iinc 3 1, 3) := by decide +kernel
theorem d_M_pass_94 : decode b_M_pass 94 = .ok (.goto (-52), 3) := by decide +kernel
theorem d_M_pass_97 : decode b_M_pass 97 = .ok (.aload_n 0, 1) := by decide +kernel
theorem d_M_pass_98 : decode b_M_pass 98 = .ok (.dup, 1) := by decide +kernel
theorem d_M_pass_99 : decode b_M_pass 99 = .ok (.getfield 79, 3) := by decide +kernel
theorem d_M_pass_102 : decode b_M_pass 102 = .ok (.lconst 1, 1) := by decide +kernel
theorem d_M_pass_103 : decode b_M_pass 103 = .ok (.ladd, 1) := by decide +kernel
theorem d_M_pass_104 : decode b_M_pass 104 = .ok (.putfield 79, 3) := by decide +kernel
theorem d_M_pass_107 : decode b_M_pass 107 = .ok (.aload_n 0, 1) := by decide +kernel
theorem d_M_pass_108 : decode b_M_pass 108 = .ok (.invokevirtual 132, 3) := by decide +kernel
theorem d_M_pass_111 : decode b_M_pass 111 = .ok (.aload_n 0, 1) := by decide +kernel
theorem d_M_pass_112 : decode b_M_pass 112 = .ok (.invokevirtual 135, 3) := by decide +kernel
theorem d_M_pass_115 : decode b_M_pass 115 = .ok (.goto (-115), 3) := by decide +kernel
theorem d_M_pass_118 : decode b_M_pass 118 = .ok (.return_, 1) := by decide +kernel
theorem d_M_rateAt_0 : decode b_M_rateAt 0 = .ok (.aload_n 0, 1) := by decide +kernel
theorem d_M_rateAt_1 : decode b_M_rateAt 1 = .ok (.getfield 13, 3) := by decide +kernel
theorem d_M_rateAt_4 : decode b_M_rateAt 4 = .ok (.iload_n 1, 1) := by decide +kernel
theorem d_M_rateAt_5 : decode b_M_rateAt 5 = .ok (.laload, 1) := by decide +kernel
theorem d_M_rateAt_6 : decode b_M_rateAt 6 = .ok (.aload_n 0, 1) := by decide +kernel
theorem d_M_rateAt_7 : decode b_M_rateAt 7 = .ok (.iload_n 1, 1) := by decide +kernel
theorem d_M_rateAt_8 : decode b_M_rateAt 8 = .ok (.lload_n 2, 1) := by decide +kernel
theorem d_M_rateAt_9 : decode b_M_rateAt 9 = .ok (.invokevirtual 107, 3) := by decide +kernel
theorem d_M_rateAt_12 : decode b_M_rateAt 12 = .ok (.i2l, 1) := by decide +kernel
theorem d_M_rateAt_13 : decode b_M_rateAt 13 = .ok (.lmul, 1) := by decide +kernel
theorem d_M_rateAt_14 : decode b_M_rateAt 14 = .ok (.ldc2_w 105, 3) := by decide +kernel
theorem d_M_rateAt_17 : decode b_M_rateAt 17 = .ok (.ldiv, 1) := by decide +kernel
theorem d_M_rateAt_18 : decode b_M_rateAt 18 = .ok (.lreturn, 1) := by decide +kernel
theorem d_M_gearAt_0 : decode b_M_gearAt 0 = .ok (.lload_n 2, 1) := by decide +kernel
theorem d_M_gearAt_1 : decode b_M_gearAt 1 = .ok (.aload_n 0, 1) := by decide +kernel
theorem d_M_gearAt_2 : decode b_M_gearAt 2 = .ok (.getfield 20, 3) := by decide +kernel
theorem d_M_gearAt_5 : decode b_M_gearAt 5 = .ok (.iload_n 1, 1) := by decide +kernel
theorem d_M_gearAt_6 : decode b_M_gearAt 6 = .ok (.laload, 1) := by decide +kernel
theorem d_M_gearAt_7 : decode b_M_gearAt 7 = .ok (.lsub, 1) := by decide +kernel
theorem d_M_gearAt_8 : decode b_M_gearAt 8 = .ok (.ldc2_w 103, 3) := by decide +kernel
theorem d_M_gearAt_11 : decode b_M_gearAt 11 = .ok (.ldiv, 1) := by decide +kernel
theorem d_M_gearAt_12 : decode b_M_gearAt 12 = .ok (.lconst 1, 1) := by decide +kernel
theorem d_M_gearAt_13 : decode b_M_gearAt 13 = .ok (.ladd, 1) := by decide +kernel
theorem d_M_gearAt_14 : decode b_M_gearAt 14 = .ok (.lstore 4, 2) := by decide +kernel
theorem d_M_gearAt_16 : decode b_M_gearAt 16 = .ok (.aload_n 0, 1) := by decide +kernel
theorem d_M_gearAt_17 : decode b_M_gearAt 17 = .ok (.getfield 23, 3) := by decide +kernel
theorem d_M_gearAt_20 : decode b_M_gearAt 20 = .ok (.iload_n 1, 1) := by decide +kernel
theorem d_M_gearAt_21 : decode b_M_gearAt 21 = .ok (.baload, 1) := by decide +kernel
theorem d_M_gearAt_22 : decode b_M_gearAt 22 = .ok (.ifCond .eq 16, 3) := by decide +kernel
theorem d_M_gearAt_25 : decode b_M_gearAt 25 = .ok (.aload_n 0, 1) := by decide +kernel
theorem d_M_gearAt_26 : decode b_M_gearAt 26 = .ok (.getfield 27, 3) := by decide +kernel
theorem d_M_gearAt_29 : decode b_M_gearAt 29 = .ok (.iload_n 1, 1) := by decide +kernel
theorem d_M_gearAt_30 : decode b_M_gearAt 30 = .ok (.iaload, 1) := by decide +kernel
theorem d_M_gearAt_31 : decode b_M_gearAt 31 = .ok (.i2l, 1) := by decide +kernel
theorem d_M_gearAt_32 : decode b_M_gearAt 32 = .ok (.lload 4, 2) := by decide +kernel
theorem d_M_gearAt_34 : decode b_M_gearAt 34 = .ok (.ladd, 1) := by decide +kernel
theorem d_M_gearAt_35 : decode b_M_gearAt 35 = .ok (.goto 13, 3) := by decide +kernel
theorem d_M_gearAt_38 : decode b_M_gearAt 38 = .ok (.aload_n 0, 1) := by decide +kernel
theorem d_M_gearAt_39 : decode b_M_gearAt 39 = .ok (.getfield 27, 3) := by decide +kernel
theorem d_M_gearAt_42 : decode b_M_gearAt 42 = .ok (.iload_n 1, 1) := by decide +kernel
theorem d_M_gearAt_43 : decode b_M_gearAt 43 = .ok (.iaload, 1) := by decide +kernel
theorem d_M_gearAt_44 : decode b_M_gearAt 44 = .ok (.i2l, 1) := by decide +kernel
theorem d_M_gearAt_45 : decode b_M_gearAt 45 = .ok (.lload 4, 2) := by decide +kernel
theorem d_M_gearAt_47 : decode b_M_gearAt 47 = .ok (.lsub, 1) := by decide +kernel
theorem d_M_gearAt_48 : decode b_M_gearAt 48 = .ok (.lstore 6, 2) := by decide +kernel
theorem d_M_gearAt_50 : decode b_M_gearAt 50 = .ok (.lload 6, 2) := by decide +kernel
theorem d_M_gearAt_52 : decode b_M_gearAt 52 = .ok (.ldc2_w 105, 3) := by decide +kernel
theorem d_M_gearAt_55 : decode b_M_gearAt 55 = .ok (.lcmp, 1) := by decide +kernel
theorem d_M_gearAt_56 : decode b_M_gearAt 56 = .ok (.ifCond .le 8, 3) := by decide +kernel
theorem d_M_gearAt_59 : decode b_M_gearAt 59 = .ok (.bipush 8, 2) := by decide +kernel
theorem d_M_gearAt_61 : decode b_M_gearAt 61 = .ok (.goto 17, 3) := by decide +kernel
theorem d_M_gearAt_64 : decode b_M_gearAt 64 = .ok (.lload 6, 2) := by decide +kernel
theorem d_M_gearAt_66 : decode b_M_gearAt 66 = .ok (.lconst 0, 1) := by decide +kernel
theorem d_M_gearAt_67 : decode b_M_gearAt 67 = .ok (.lcmp, 1) := by decide +kernel
theorem d_M_gearAt_68 : decode b_M_gearAt 68 = .ok (.ifCond .ge 7, 3) := by decide +kernel
theorem d_M_gearAt_71 : decode b_M_gearAt 71 = .ok (.iconst 0, 1) := by decide +kernel
theorem d_M_gearAt_72 : decode b_M_gearAt 72 = .ok (.goto 6, 3) := by decide +kernel
theorem d_M_gearAt_75 : decode b_M_gearAt 75 = .ok (.lload 6, 2) := by decide +kernel
theorem d_M_gearAt_77 : decode b_M_gearAt 77 = .ok (.l2i, 1) := by decide +kernel
theorem d_M_gearAt_78 : decode b_M_gearAt 78 = .ok (.ireturn, 1) := by decide +kernel
theorem d_M_isThere_0 : decode b_M_isThere 0 = .ok (.aload_n 0, 1) := by decide +kernel
theorem d_M_isThere_1 : decode b_M_isThere 1 = .ok (.getfield 48, 3) := by decide +kernel
theorem d_M_isThere_4 : decode b_M_isThere 4 = .ok (.iload_n 1, 1) := by decide +kernel
theorem d_M_isThere_5 : decode b_M_isThere 5 = .ok (.baload, 1) := by decide +kernel
theorem d_M_isThere_6 : decode b_M_isThere 6 = .ok (.ifCond .ne 21, 3) := by decide +kernel
theorem d_M_isThere_9 : decode b_M_isThere 9 = .ok (.aload_n 0, 1) := by decide +kernel
theorem d_M_isThere_10 : decode b_M_isThere 10 = .ok (.getfield 39, 3) := by decide +kernel
theorem d_M_isThere_13 : decode b_M_isThere 13 = .ok (.iload_n 1, 1) := by decide +kernel
theorem d_M_isThere_14 : decode b_M_isThere 14 = .ok (.laload, 1) := by decide +kernel
theorem d_M_isThere_15 : decode b_M_isThere 15 = .ok (.aload_n 0, 1) := by decide +kernel
theorem d_M_isThere_16 : decode b_M_isThere 16 = .ok (.getfield 79, 3) := by decide +kernel
theorem d_M_isThere_19 : decode b_M_isThere 19 = .ok (.lcmp, 1) := by decide +kernel
theorem d_M_isThere_20 : decode b_M_isThere 20 = .ok (.ifCond .gt 7, 3) := by decide +kernel
theorem d_M_isThere_23 : decode b_M_isThere 23 = .ok (.iconst 1, 1) := by decide +kernel
theorem d_M_isThere_24 : decode b_M_isThere 24 = .ok (.goto 4, 3) := by decide +kernel
theorem d_M_isThere_27 : decode b_M_isThere 27 = .ok (.iconst 0, 1) := by decide +kernel
theorem d_M_isThere_28 : decode b_M_isThere 28 = .ok (.ireturn, 1) := by decide +kernel
theorem d_M_goOver_0 : decode b_M_goOver 0 = .ok (.iconst 1, 1) := by decide +kernel
theorem d_M_goOver_1 : decode b_M_goOver 1 = .ok (.istore_n 1, 1) := by decide +kernel
theorem d_M_goOver_2 : decode b_M_goOver 2 = .ok (.iload_n 1, 1) := by decide +kernel
theorem d_M_goOver_3 : decode b_M_goOver 3 = .ok (.aload_n 0, 1) := by decide +kernel
theorem d_M_goOver_4 : decode b_M_goOver 4 = .ok (.getfield 76, 3) := by decide +kernel
theorem d_M_goOver_7 : decode b_M_goOver 7 = .ok (.if_icmp .gt 125, 3) := by decide +kernel
theorem d_M_goOver_10 : decode b_M_goOver 10 = .ok (.aload_n 0, 1) := by decide +kernel
theorem d_M_goOver_11 : decode b_M_goOver 11 = .ok (.iload_n 1, 1) := by decide +kernel
theorem d_M_goOver_12 : decode b_M_goOver 12 = .ok (.invokevirtual 111, 3) := by decide +kernel
theorem d_M_goOver_15 : decode b_M_goOver 15 = .ok (.ifCond .eq 111, 3) := by decide +kernel
theorem d_M_goOver_18 : decode b_M_goOver 18 = .ok (.aload_n 0, 1) := by decide +kernel
theorem d_M_goOver_19 : decode b_M_goOver 19 = .ok (.getfield 45, 3) := by decide +kernel
theorem d_M_goOver_22 : decode b_M_goOver 22 = .ok (.iload_n 1, 1) := by decide +kernel
theorem d_M_goOver_23 : decode b_M_goOver 23 = .ok (.laload, 1) := by decide +kernel
theorem d_M_goOver_24 : decode b_M_goOver 24 = .ok (.aload_n 0, 1) := by decide +kernel
theorem d_M_goOver_25 : decode b_M_goOver 25 = .ok (.getfield 7, 3) := by decide +kernel
theorem d_M_goOver_28 : decode b_M_goOver 28 = .ok (.aload_n 0, 1) := by decide +kernel
theorem d_M_goOver_29 : decode b_M_goOver 29 = .ok (.getfield 42, 3) := by decide +kernel
theorem d_M_goOver_32 : decode b_M_goOver 32 = .ok (.iload_n 1, 1) := by decide +kernel
theorem d_M_goOver_33 : decode b_M_goOver 33 = .ok (.iaload, 1) := by decide +kernel
theorem d_M_goOver_34 : decode b_M_goOver 34 = .ok (.laload, 1) := by decide +kernel
theorem d_M_goOver_35 : decode b_M_goOver 35 = .ok (.lcmp, 1) := by decide +kernel
theorem d_M_goOver_36 : decode b_M_goOver 36 = .ok (.ifCond .lt 90, 3) := by decide +kernel
theorem d_M_goOver_39 : decode b_M_goOver 39 = .ok (.aload_n 0, 1) := by decide +kernel
theorem d_M_goOver_40 : decode b_M_goOver 40 = .ok (.getfield 45, 3) := by decide +kernel
theorem d_M_goOver_43 : decode b_M_goOver 43 = .ok (.iload_n 1, 1) := by decide +kernel
theorem d_M_goOver_44 : decode b_M_goOver 44 = .ok (.aload_n 0, 1) := by decide +kernel
theorem d_M_goOver_45 : decode b_M_goOver 45 = .ok (.getfield 45, 3) := by decide +kernel
theorem d_M_goOver_48 : decode b_M_goOver 48 = .ok (.iload_n 1, 1) := by decide +kernel
theorem d_M_goOver_49 : decode b_M_goOver 49 = .ok (.laload, 1) := by decide +kernel
theorem d_M_goOver_50 : decode b_M_goOver 50 = .ok (.aload_n 0, 1) := by decide +kernel
theorem d_M_goOver_51 : decode b_M_goOver 51 = .ok (.getfield 7, 3) := by decide +kernel
theorem d_M_goOver_54 : decode b_M_goOver 54 = .ok (.aload_n 0, 1) := by decide +kernel
theorem d_M_goOver_55 : decode b_M_goOver 55 = .ok (.getfield 42, 3) := by decide +kernel
theorem d_M_goOver_58 : decode b_M_goOver 58 = .ok (.iload_n 1, 1) := by decide +kernel
theorem d_M_goOver_59 : decode b_M_goOver 59 = .ok (.iaload, 1) := by decide +kernel
theorem d_M_goOver_60 : decode b_M_goOver 60 = .ok (.laload, 1) := by decide +kernel
theorem d_M_goOver_61 : decode b_M_goOver 61 = .ok (.lsub, 1) := by decide +kernel
theorem d_M_goOver_62 : decode b_M_goOver 62 = .ok (.lastore, 1) := by decide +kernel
theorem d_M_goOver_63 : decode b_M_goOver 63 = .ok (.aload_n 0, 1) := by decide +kernel
theorem d_M_goOver_64 : decode b_M_goOver 64 = .ok (.getfield 16, 3) := by decide +kernel
theorem d_M_goOver_67 : decode b_M_goOver 67 = .ok (.aload_n 0, 1) := by decide +kernel
theorem d_M_goOver_68 : decode b_M_goOver 68 = .ok (.getfield 42, 3) := by decide +kernel
theorem d_M_goOver_71 : decode b_M_goOver 71 = .ok (.iload_n 1, 1) := by decide +kernel
theorem d_M_goOver_72 : decode b_M_goOver 72 = .ok (.iaload, 1) := by decide +kernel
theorem d_M_goOver_73 : decode b_M_goOver 73 = .ok (.iaload, 1) := by decide +kernel
theorem d_M_goOver_74 : decode b_M_goOver 74 = .ok (.istore_n 2, 1) := by decide +kernel
theorem d_M_goOver_75 : decode b_M_goOver 75 = .ok (.aload_n 0, 1) := by decide +kernel
theorem d_M_goOver_76 : decode b_M_goOver 76 = .ok (.getfield 48, 3) := by decide +kernel
theorem d_M_goOver_79 : decode b_M_goOver 79 = .ok (.iload_n 1, 1) := by decide +kernel
theorem d_M_goOver_80 : decode b_M_goOver 80 = .ok (.iload_n 2, 1) := by decide +kernel
theorem d_M_goOver_81 : decode b_M_goOver 81 = .ok (.iconst (-1), 1) := by decide +kernel
theorem d_M_goOver_82 : decode b_M_goOver 82 = .ok (.if_icmp .ne 7, 3) := by decide +kernel
theorem d_M_goOver_85 : decode b_M_goOver 85 = .ok (.iconst 1, 1) := by decide +kernel
theorem d_M_goOver_86 : decode b_M_goOver 86 = .ok (.goto 4, 3) := by decide +kernel
theorem d_M_goOver_89 : decode b_M_goOver 89 = .ok (.iconst 0, 1) := by decide +kernel
theorem d_M_goOver_90 : decode b_M_goOver 90 = .ok (.bastore, 1) := by decide +kernel
theorem d_M_goOver_91 : decode b_M_goOver 91 = .ok (.aload_n 0, 1) := by decide +kernel
theorem d_M_goOver_92 : decode b_M_goOver 92 = .ok (.getfield 42, 3) := by decide +kernel
theorem d_M_goOver_95 : decode b_M_goOver 95 = .ok (.iload_n 1, 1) := by decide +kernel
theorem d_M_goOver_96 : decode b_M_goOver 96 = .ok (.iload_n 2, 1) := by decide +kernel
theorem d_M_goOver_97 : decode b_M_goOver 97 = .ok (.iconst (-1), 1) := by decide +kernel
theorem d_M_goOver_98 : decode b_M_goOver 98 = .ok (.if_icmp .ne 12, 3) := by decide +kernel
theorem d_M_goOver_101 : decode b_M_goOver 101 = .ok (.aload_n 0, 1) := by decide +kernel
theorem d_M_goOver_102 : decode b_M_goOver 102 = .ok (.getfield 42, 3) := by decide +kernel
theorem d_M_goOver_105 : decode b_M_goOver 105 = .ok (.iload_n 1, 1) := by decide +kernel
theorem d_M_goOver_106 : decode b_M_goOver 106 = .ok (.iaload, 1) := by decide +kernel
theorem d_M_goOver_107 : decode b_M_goOver 107 = .ok (.goto 4, 3) := by decide +kernel
theorem d_M_goOver_110 : decode b_M_goOver 110 = .ok (.iload_n 2, 1) := by decide +kernel
theorem d_M_goOver_111 : decode b_M_goOver 111 = .ok (.iastore, 1) := by decide +kernel
theorem d_M_goOver_112 : decode b_M_goOver 112 = .ok (.aload_n 0, 1) := by decide +kernel
theorem d_M_goOver_113 : decode b_M_goOver 113 = .ok (.getfield 51, 3) := by decide +kernel
theorem d_M_goOver_116 : decode b_M_goOver 116 = .ok (.iload_n 1, 1) := by decide +kernel
theorem d_M_goOver_117 : decode b_M_goOver 117 = .ok (.iconst 0, 1) := by decide +kernel
theorem d_M_goOver_118 : decode b_M_goOver 118 = .ok (.bastore, 1) := by decide +kernel
theorem d_M_goOver_119 : decode b_M_goOver 119 = .ok (.aload_n 0, 1) := by decide +kernel
theorem d_M_goOver_120 : decode b_M_goOver 120 = .ok (.getfield 54, 3) := by decide +kernel
theorem d_M_goOver_123 : decode b_M_goOver 123 = .ok (.iload_n 1, 1) := by decide +kernel
theorem d_M_goOver_124 : decode b_M_goOver 124 = .ok (.iconst 0, 1) := by decide +kernel
theorem d_M_goOver_125 : decode b_M_goOver 125 = .ok (.bastore, 1) := by decide +kernel
theorem d_M_goOver_126 : decode b_M_goOver 126 = .ok (.iinc 1 1, 3) := by decide +kernel
theorem d_M_goOver_129 : decode b_M_goOver 129 = .ok (.goto (-127), 3) := by decide +kernel
