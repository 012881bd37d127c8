theorem d_M_goOver_132 : decode b_M_goOver 132 = .ok (.return_, 1) := by decide +kernel
theorem d_M_look_0 : decode b_M_look 0 = .ok (.iconst 1, 1) := by decide +kernel
theorem d_M_look_1 : decode b_M_look 1 = .ok (.istore_n 1, 1) := by decide +kernel
theorem d_M_look_2 : decode b_M_look 2 = .ok (.iload_n 1, 1) := by decide +kernel
theorem d_M_look_3 : decode b_M_look 3 = .ok (.aload_n 0, 1) := by decide +kernel
theorem d_M_look_4 : decode b_M_look 4 = .ok (.getfield 76, 3) := by decide +kernel
theorem d_M_look_7 : decode b_M_look 7 = .ok (.if_icmp .gt 127, 3) := by decide +kernel
theorem d_M_look_10 : decode b_M_look 10 = .ok (.aload_n 0, 1) := by decide +kernel
theorem d_M_look_11 : decode b_M_look 11 = .ok (.iload_n 1, 1) := by decide +kernel
theorem d_M_look_12 : decode b_M_look 12 = .ok (.invokevirtual 111, 3) := by decide +kernel
theorem d_M_look_15 : decode b_M_look 15 = .ok (.ifCond .eq 113, 3) := by decide +kernel
theorem d_M_look_18 : decode b_M_look 18 = .ok (.aload_n 0, 1) := by decide +kernel
theorem d_M_look_19 : decode b_M_look 19 = .ok (.getfield 7, 3) := by decide +kernel
theorem d_M_look_22 : decode b_M_look 22 = .ok (.aload_n 0, 1) := by decide +kernel
theorem d_M_look_23 : decode b_M_look 23 = .ok (.getfield 42, 3) := by decide +kernel
theorem d_M_look_26 : decode b_M_look 26 = .ok (.iload_n 1, 1) := by decide +kernel
theorem d_M_look_27 : decode b_M_look 27 = .ok (.iaload, 1) := by decide +kernel
theorem d_M_look_28 : decode b_M_look 28 = .ok (.laload, 1) := by decide +kernel
theorem d_M_look_29 : decode b_M_look 29 = .ok (.ldc2_w 119, 3) := by decide +kernel
theorem d_M_look_32 : decode b_M_look 32 = .ok (.ldiv, 1) := by decide +kernel
theorem d_M_look_33 : decode b_M_look 33 = .ok (.lstore_n 2, 1) := by decide +kernel
theorem d_M_look_34 : decode b_M_look 34 = .ok (.aload_n 0, 1) := by decide +kernel
theorem d_M_look_35 : decode b_M_look 35 = .ok (.getfield 51, 3) := by decide +kernel
theorem d_M_look_38 : decode b_M_look 38 = .ok (.iload_n 1, 1) := by decide +kernel
theorem d_M_look_39 : decode b_M_look 39 = .ok (.baload, 1) := by decide +kernel
theorem d_M_look_40 : decode b_M_look 40 = .ok (.ifCond .ne 39, 3) := by decide +kernel
theorem d_M_look_43 : decode b_M_look 43 = .ok (.aload_n 0, 1) := by decide +kernel
theorem d_M_look_44 : decode b_M_look 44 = .ok (.getfield 45, 3) := by decide +kernel
theorem d_M_look_47 : decode b_M_look 47 = .ok (.iload_n 1, 1) := by decide +kernel
theorem d_M_look_48 : decode b_M_look 48 = .ok (.laload, 1) := by decide +kernel
theorem d_M_look_49 : decode b_M_look 49 = .ok (.lload_n 2, 1) := by decide +kernel
theorem d_M_look_50 : decode b_M_look 50 = .ok (.lcmp, 1) := by decide +kernel
theorem d_M_look_51 : decode b_M_look 51 = .ok (.ifCond .lt 28, 3) := by decide +kernel
theorem d_M_look_54 : decode b_M_look 54 = .ok (.aload_n 0, 1) := by decide +kernel
theorem d_M_look_55 : decode b_M_look 55 = .ok (.iload_n 1, 1) := by decide +kernel
theorem d_M_look_56 : decode b_M_look 56 = .ok (.aload_n 0, 1) := by decide +kernel
theorem d_M_look_57 : decode b_M_look 57 = .ok (.iload_n 1, 1) := by decide +kernel
theorem d_M_look_58 : decode b_M_look 58 = .ok (.invokevirtual 121, 3) := by decide +kernel
theorem d_M_look_61 : decode b_M_look 61 = .ok (.ifCond .eq 7, 3) := by decide +kernel
theorem d_M_look_64 : decode b_M_look 64 = .ok (.iconst 2, 1) := by decide +kernel
theorem d_M_look_65 : decode b_M_look 65 = .ok (.goto 4, 3) := by decide +kernel
theorem d_M_look_68 : decode b_M_look 68 = .ok (.iconst 0, 1) := by decide +kernel
theorem d_M_look_69 : decode b_M_look 69 = .ok (.invokevirtual 124, 3) := by decide +kernel
theorem d_M_look_72 : decode b_M_look 72 = .ok (.aload_n 0, 1) := by decide +kernel
theorem d_M_look_73 : decode b_M_look 73 = .ok (.getfield 51, 3) := by decide +kernel
theorem d_M_look_76 : decode b_M_look 76 = .ok (.iload_n 1, 1) := by decide +kernel
theorem d_M_look_77 : decode b_M_look 77 = .ok (.iconst 1, 1) := by decide +kernel
theorem d_M_look_78 : decode b_M_look 78 = .ok (.bastore, 1) := by decide +kernel
theorem d_M_look_79 : decode b_M_look 79 = .ok (.aload_n 0, 1) := by decide +kernel
theorem d_M_look_80 : decode b_M_look 80 = .ok (.getfield 51, 3) := by decide +kernel
theorem d_M_look_83 : decode b_M_look 83 = .ok (.iload_n 1, 1) := by decide +kernel
theorem d_M_look_84 : decode b_M_look 84 = .ok (.baload, 1) := by decide +kernel
theorem d_M_look_85 : decode b_M_look 85 = .ok (.ifCond .eq 43, 3) := by decide +kernel
theorem d_M_look_88 : decode b_M_look 88 = .ok (.aload_n 0, 1) := by decide +kernel
theorem d_M_look_89 : decode b_M_look 89 = .ok (.getfield 54, 3) := by decide +kernel
theorem d_M_look_92 : decode b_M_look 92 = .ok (.iload_n 1, 1) := by decide +kernel
theorem d_M_look_93 : decode b_M_look 93 = .ok (.baload, 1) := by decide +kernel
theorem d_M_look_94 : decode b_M_look 94 = .ok (.ifCond .ne 34, 3) := by decide +kernel
theorem d_M_look_97 : decode b_M_look 97 = .ok (.aload_n 0, 1) := by decide +kernel
theorem d_M_look_98 : decode b_M_look 98 = .ok (.getfield 45, 3) := by decide +kernel
theorem d_M_look_101 : decode b_M_look 101 = .ok (.iload_n 1, 1) := by decide +kernel
theorem d_M_look_102 : decode b_M_look 102 = .ok (.laload, 1) := by decide +kernel
theorem d_M_look_103 : decode b_M_look 103 = .ok (.aload_n 0, 1) := by decide +kernel
theorem d_M_look_104 : decode b_M_look 104 = .ok (.getfield 36, 3) := by decide +kernel
theorem d_M_look_107 : decode b_M_look 107 = .ok (.iload_n 1, 1) := by decide +kernel
theorem d_M_look_108 : decode b_M_look 108 = .ok (.laload, 1) := by decide +kernel
theorem d_M_look_109 : decode b_M_look 109 = .ok (.lsub, 1) := by decide +kernel
theorem d_M_look_110 : decode b_M_look 110 = .ok (.lload_n 2, 1) := by decide +kernel
theorem d_M_look_111 : decode b_M_look 111 = .ok (.lcmp, 1) := by decide +kernel
theorem d_M_look_112 : decode b_M_look 112 = .ok (.ifCond .lt 16, 3) := by decide +kernel
theorem d_M_look_115 : decode b_M_look 115 = .ok (.aload_n 0, 1) := by decide +kernel
theorem d_M_look_116 : decode b_M_look 116 = .ok (.iload_n 1, 1) := by decide +kernel
theorem d_M_look_117 : decode b_M_look 117 = .ok (.iconst 1, 1) := by decide +kernel
theorem d_M_look_118 : decode b_M_look 118 = .ok (.invokevirtual 124, 3) := by decide +kernel
theorem d_M_look_121 : decode b_M_look 121 = .ok (.aload_n 0, 1) := by decide +kernel
theorem d_M_look_122 : decode b_M_look 122 = .ok (.getfield 54, 3) := by decide +kernel
theorem d_M_look_125 : decode b_M_look 125 = .ok (.iload_n 1, 1) := by decide +kernel
theorem d_M_look_126 : decode b_M_look 126 = .ok (.iconst 1, 1) := by decide +kernel
theorem d_M_look_127 : decode b_M_look 127 = .ok (.bastore, 1) := by decide +kernel
theorem d_M_look_128 : decode b_M_look 128 = .ok (.iinc 1 1, 3) := by decide +kernel
theorem d_M_look_131 : decode b_M_look 131 = .ok (.goto (-129), 3) := by decide +kernel
theorem d_M_look_134 : decode b_M_look 134 = .ok (.return_, 1) := by decide +kernel
theorem d_M_isShort_0 : decode b_M_isShort 0 = .ok (.iconst 0, 1) := by decide +kernel
theorem d_M_isShort_1 : decode b_M_isShort 1 = .ok (.istore_n 2, 1) := by decide +kernel
theorem d_M_isShort_2 : decode b_M_isShort 2 = .ok (.iconst 1, 1) := by decide +kernel
theorem d_M_isShort_3 : decode b_M_isShort 3 = .ok (.istore_n 3, 1) := by decide +kernel
theorem d_M_isShort_4 : decode b_M_isShort 4 = .ok (.iload_n 3, 1) := by decide +kernel
theorem d_M_isShort_5 : decode b_M_isShort 5 = .ok (.aload_n 0, 1) := by decide +kernel
theorem d_M_isShort_6 : decode b_M_isShort 6 = .ok (.getfield 76, 3) := by decide +kernel
theorem d_M_isShort_9 : decode b_M_isShort 9 = .ok (.if_icmp .gt 123, 3) := by decide +kernel
theorem d_M_isShort_12 : decode b_M_isShort 12 = .ok (.iload_n 3, 1) := by decide +kernel
theorem d_M_isShort_13 : decode b_M_isShort 13 = .ok (.iload_n 1, 1) := by decide +kernel
theorem d_M_isShort_14 : decode b_M_isShort 14 = .ok (.if_icmp .eq 112, 3) := by decide +kernel
theorem d_M_isShort_17 : decode b_M_isShort 17 = .ok (.aload_n 0, 1) := by decide +kernel
theorem d_M_isShort_18 : decode b_M_isShort 18 = .ok (.iload_n 3, 1) := by decide +kernel
theorem d_M_isShort_19 : decode b_M_isShort 19 = .ok (.invokevirtual 111, 3) := by decide +kernel
theorem d_M_isShort_22 : decode b_M_isShort 22 = .ok (.ifCond .eq 104, 3) := by decide +kernel
theorem d_M_isShort_25 : decode b_M_isShort 25 = .ok (.aload_n 0, 1) := by decide +kernel
theorem d_M_isShort_26 : decode b_M_isShort 26 = .ok (.getfield 42, 3) := by decide +kernel
theorem d_M_isShort_29 : decode b_M_isShort 29 = .ok (.iload_n 3, 1) := by decide +kernel
theorem d_M_isShort_30 : decode b_M_isShort 30 = .ok (.iaload, 1) := by decide +kernel
theorem d_M_isShort_31 : decode b_M_isShort 31 = .ok (.aload_n 0, 1) := by decide +kernel
theorem d_M_isShort_32 : decode b_M_isShort 32 = .ok (.getfield 42, 3) := by decide +kernel
theorem d_M_isShort_35 : decode b_M_isShort 35 = .ok (.iload_n 1, 1) := by decide +kernel
theorem d_M_isShort_36 : decode b_M_isShort 36 = .ok (.iaload, 1) := by decide +kernel
theorem d_M_isShort_37 : decode b_M_isShort 37 = .ok (.if_icmp .ne 89, 3) := by decide +kernel
theorem d_M_isShort_40 : decode b_M_isShort 40 = .ok (.aload_n 0, 1) := by decide +kernel
theorem d_M_isShort_41 : decode b_M_isShort 41 = .ok (.getfield 45, 3) := by decide +kernel
theorem d_M_isShort_44 : decode b_M_isShort 44 = .ok (.iload_n 3, 1) := by decide +kernel
theorem d_M_isShort_45 : decode b_M_isShort 45 = .ok (.laload, 1) := by decide +kernel
theorem d_M_isShort_46 : decode b_M_isShort 46 = .ok (.aload_n 0, 1) := by decide +kernel
theorem d_M_isShort_47 : decode b_M_isShort 47 = .ok (.getfield 45, 3) := by decide +kernel
theorem d_M_isShort_50 : decode b_M_isShort 50 = .ok (.iload_n 1, 1) := by decide +kernel
theorem d_M_isShort_51 : decode b_M_isShort 51 = .ok (.laload, 1) := by decide +kernel
theorem d_M_isShort_52 : decode b_M_isShort 52 = .ok (.lcmp, 1) := by decide +kernel
theorem d_M_isShort_53 : decode b_M_isShort 53 = .ok (.ifCond .gt 24, 3) := by decide +kernel
theorem d_M_isShort_56 : decode b_M_isShort 56 = .ok (.aload_n 0, 1) := by decide +kernel
theorem d_M_isShort_57 : decode b_M_isShort 57 = .ok (.getfield 45, 3) := by decide +kernel
theorem d_M_isShort_60 : decode b_M_isShort 60 = .ok (.iload_n 3, 1) := by decide +kernel
theorem d_M_isShort_61 : decode b_M_isShort 61 = .ok (.laload, 1) := by decide +kernel
theorem d_M_isShort_62 : decode b_M_isShort 62 = .ok (.aload_n 0, 1) := by decide +kernel
theorem d_M_isShort_63 : decode b_M_isShort 63 = .ok (.getfield 45, 3) := by decide +kernel
theorem d_M_isShort_66 : decode b_M_isShort 66 = .ok (.iload_n 1, 1) := by decide +kernel
theorem d_M_isShort_67 : decode b_M_isShort 67 = .ok (.laload, 1) := by decide +kernel
theorem d_M_isShort_68 : decode b_M_isShort 68 = .ok (.lcmp, 1) := by decide +kernel
theorem d_M_isShort_69 : decode b_M_isShort 69 = .ok (.ifCond .ne 12, 3) := by decide +kernel
theorem d_M_isShort_72 : decode b_M_isShort 72 = .ok (.iload_n 3, 1) := by decide +kernel
theorem d_M_isShort_73 : decode b_M_isShort 73 = .ok (.iload_n 1, 1) := by decide +kernel
theorem d_M_isShort_74 : decode b_M_isShort 74 = .ok (.if_icmp .ge 7, 3) := by decide +kernel
theorem d_M_isShort_77 : decode b_M_isShort 77 = .ok (.iconst 1, 1) := by decide +kernel
theorem d_M_isShort_78 : decode b_M_isShort 78 = .ok (.goto 4, 3) := by decide +kernel
theorem d_M_isShort_81 : decode b_M_isShort 81 = .ok (.iconst 0, 1) := by decide +kernel
theorem d_M_isShort_82 : decode b_M_isShort 82 = .ok (.istore 4, 2) := by decide +kernel
theorem d_M_isShort_84 : decode b_M_isShort 84 = .ok (.iload_n 2, 1) := by decide +kernel
theorem d_M_isShort_85 : decode b_M_isShort 85 = .ok (.ifCond .ne 35, 3) := by decide +kernel
theorem d_M_isShort_88 : decode b_M_isShort 88 = .ok (.iload 4, 2) := by decide +kernel
theorem d_M_isShort_90 : decode b_M_isShort 90 = .ok (.ifCond .eq 34, 3) := by decide +kernel
theorem d_M_isShort_93 : decode b_M_isShort 93 = .ok (.aload_n 0, 1) := by decide +kernel
theorem d_M_isShort_94 : decode b_M_isShort 94 = .ok (.getfield 45, 3) := by decide +kernel
theorem d_M_isShort_97 : decode b_M_isShort 97 = .ok (.iload_n 3, 1) := by decide +kernel
theorem d_M_isShort_98 : decode b_M_isShort 98 = .ok (.laload, 1) := by decide +kernel
theorem d_M_isShort_99 : decode b_M_isShort 99 = .ok (.aload_n 0, 1) := by decide +kernel
theorem d_M_isShort_100 : decode b_M_isShort 100 = .ok (.getfield 36, 3) := by decide +kernel
theorem d_M_isShort_103 : decode b_M_isShort 103 = .ok (.iload_n 3, 1) := by decide +kernel
theorem d_M_isShort_104 : decode b_M_isShort 104 = .ok (.laload, 1) := by decide +kernel
theorem d_M_isShort_105 : decode b_M_isShort 105 = .ok (.lsub, 1) := by decide +kernel
theorem d_M_isShort_106 : decode b_M_isShort 106 = .ok (.aload_n 0, 1) := by decide +kernel
theorem d_M_isShort_107 : decode b_M_isShort 107 = .ok (.getfield 45, 3) := by decide +kernel
theorem d_M_isShort_110 : decode b_M_isShort 110 = .ok (.iload_n 1, 1) := by decide +kernel
theorem d_M_isShort_111 : decode b_M_isShort 111 = .ok (.laload, 1) := by decide +kernel
theorem d_M_isShort_112 : decode b_M_isShort 112 = .ok (.ldc2_w 114, 3) := by decide +kernel
theorem d_M_isShort_115 : decode b_M_isShort 115 = .ok (.ladd, 1) := by decide +kernel
theorem d_M_isShort_116 : decode b_M_isShort 116 = .ok (.lcmp, 1) := by decide +kernel
theorem d_M_isShort_117 : decode b_M_isShort 117 = .ok (.ifCond .ge 7, 3) := by decide +kernel
theorem d_M_isShort_120 : decode b_M_isShort 120 = .ok (.iconst 1, 1) := by decide +kernel
theorem d_M_isShort_121 : decode b_M_isShort 121 = .ok (.goto 4, 3) := by decide +kernel
theorem d_M_isShort_124 : decode b_M_isShort 124 = .ok (.iconst 0, 1) := by decide +kernel
theorem d_M_isShort_125 : decode b_M_isShort 125 = .ok (.istore_n 2, 1) := by decide +kernel
theorem d_M_isShort_126 : decode b_M_isShort 126 = .ok (.iinc 3 1, 3) := by decide +kernel
theorem d_M_isShort_129 : decode b_M_isShort 129 = .ok (.goto (-125), 3) := by decide +kernel
theorem d_M_isShort_132 : decode b_M_isShort 132 = .ok (.iload_n 2, 1) := by decide +kernel
theorem d_M_isShort_133 : decode b_M_isShort 133 = .ok (.ireturn, 1) := by decide +kernel
theorem d_M_tell_0 : decode b_M_tell 0 = .ok (.aload_n 0, 1) := by decide +kernel
theorem d_M_tell_1 : decode b_M_tell 1 = .ok (.getfield 116, 3) := by decide +kernel
theorem d_M_tell_4 : decode b_M_tell 4 = .ok (.sipush 400, 3) := by decide +kernel
theorem d_M_tell_7 : decode b_M_tell 7 = .ok (.if_icmp .ge 51, 3) := by decide +kernel
theorem d_M_tell_10 : decode b_M_tell 10 = .ok (.aload_n 0, 1) := by decide +kernel
theorem d_M_tell_11 : decode b_M_tell 11 = .ok (.getfield 57, 3) := by decide +kernel
theorem d_M_tell_14 : decode b_M_tell 14 = .ok (.aload_n 0, 1) := by decide +kernel
theorem d_M_tell_15 : decode b_M_tell 15 = .ok (.getfield 116, 3) := by decide +kernel
theorem d_M_tell_18 : decode b_M_tell 18 = .ok (.aload_n 0, 1) := by decide +kernel
theorem d_M_tell_19 : decode b_M_tell 19 = .ok (.getfield 79, 3) := by decide +kernel
theorem d_M_tell_22 : decode b_M_tell 22 = .ok (.lastore, 1) := by decide +kernel
theorem d_M_tell_23 : decode b_M_tell 23 = .ok (.aload_n 0, 1) := by decide +kernel
theorem d_M_tell_24 : decode b_M_tell 24 = .ok (.getfield 60, 3) := by decide +kernel
theorem d_M_tell_27 : decode b_M_tell 27 = .ok (.aload_n 0, 1) := by decide +kernel
theorem d_M_tell_28 : decode b_M_tell 28 = .ok (.getfield 116, 3) := by decide +kernel
theorem d_M_tell_31 : decode b_M_tell 31 = .ok (.aload_n 0, 1) := by decide +kernel
theorem d_M_tell_32 : decode b_M_tell 32 = .ok (.getfield 42, 3) := by decide +kernel
theorem d_M_tell_35 : decode b_M_tell 35 = .ok (.iload_n 1, 1) := by decide +kernel
theorem d_M_tell_36 : decode b_M_tell 36 = .ok (.iaload, 1) := by decide +kernel
theorem d_M_tell_37 : decode b_M_tell 37 = .ok (.iastore, 1) := by decide +kernel
theorem d_M_tell_38 : decode b_M_tell 38 = .ok (.aload_n 0, 1) := by decide +kernel
theorem d_M_tell_39 : decode b_M_tell 39 = .ok (.getfield 63, 3) := by decide +kernel
theorem d_M_tell_42 : decode b_M_tell 42 = .ok (.aload_n 0, 1) := by decide +kernel
theorem d_M_tell_43 : decode b_M_tell 43 = .ok (.getfield 116, 3) := by decide +kernel
theorem d_M_tell_46 : decode b_M_tell 46 = .ok (.iload_n 1, 1) := by decide +kernel
theorem d_M_tell_47 : decode b_M_tell 47 = .ok (.iastore, 1) := by decide +kernel
theorem d_M_tell_48 : decode b_M_tell 48 = .ok (.aload_n 0, 1) := by decide +kernel
theorem d_M_tell_49 : decode b_M_tell 49 = .ok (.getfield 66, 3) := by decide +kernel
theorem d_M_tell_52 : decode b_M_tell 52 = .ok (.aload_n 0, 1) := by decide +kernel
theorem d_M_tell_53 : decode b_M_tell 53 = .ok (.getfield 116, 3) := by decide +kernel
theorem d_M_tell_56 : decode b_M_tell 56 = .ok (.iload_n 2, 1) := by decide +kernel
theorem d_M_tell_57 : decode b_M_tell 57 = .ok (.iastore, 1) := by decide +kernel
theorem d_M_tell_58 : decode b_M_tell 58 = .ok (.aload_n 0, 1) := by decide +kernel
theorem d_M_tell_59 : decode b_M_tell 59 = .ok (.dup, 1) := by decide +kernel
theorem d_M_tell_60 : decode b_M_tell 60 = .ok (.getfield 116, 3) := by decide +kernel
theorem d_M_tell_63 : decode b_M_tell 63 = .ok (.iconst 1, 1) := by decide +kernel
theorem d_M_tell_64 : decode b_M_tell 64 = .ok (.iadd, 1) := by decide +kernel
theorem d_M_tell_65 : decode b_M_tell 65 = .ok (.putfield 116, 3) := by decide +kernel
theorem d_M_tell_68 : decode b_M_tell 68 = .ok (.return_, 1) := by decide +kernel
theorem d_M_edge_0 : decode b_M_edge 0 = .ok (.aload_n 0, 1) := by decide +kernel
theorem d_M_edge_1 : decode b_M_edge 1 = .ok (.iconst 0, 1) := by decide +kernel
theorem d_M_edge_2 : decode b_M_edge 2 = .ok (.putfield 69, 3) := by decide +kernel
theorem d_M_edge_5 : decode b_M_edge 5 = .ok (.iload_n 1, 1) := by decide +kernel
theorem d_M_edge_6 : decode b_M_edge 6 = .ok (.ifCond .lt 27, 3) := by decide +kernel
theorem d_M_edge_9 : decode b_M_edge 9 = .ok (.iload_n 1, 1) := by decide +kernel
theorem d_M_edge_10 : decode b_M_edge 10 = .ok (.aload_n 0, 1) := by decide +kernel
theorem d_M_edge_11 : decode b_M_edge 11 = .ok (.getfield 116, 3) := by decide +kernel
theorem d_M_edge_14 : decode b_M_edge 14 = .ok (.if_icmp .ge 19, 3) := by decide +kernel
theorem d_M_edge_17 : decode b_M_edge 17 = .ok (.iload_n 1, 1) := by decide +kernel
theorem d_M_edge_18 : decode b_M_edge 18 = .ok (.sipush 400, 3) := by decide +kernel
theorem d_M_edge_21 : decode b_M_edge 21 = .ok (.if_icmp .ge 12, 3) := by decide +kernel
theorem d_M_edge_24 : decode b_M_edge 24 = .ok (.iload_n 2, 1) := by decide +kernel
theorem d_M_edge_25 : decode b_M_edge 25 = .ok (.ifCond .lt 8, 3) := by decide +kernel
theorem d_M_edge_28 : decode b_M_edge 28 = .ok (.iload_n 2, 1) := by decide +kernel
theorem d_M_edge_29 : decode b_M_edge 29 = .ok (.iconst 3, 1) := by decide +kernel
theorem d_M_edge_30 : decode b_M_edge 30 = .ok (.if_icmp .le 5, 3) := by decide +kernel
theorem d_M_edge_33 : decode b_M_edge 33 = .ok (.iconst (-1), 1) := by decide +kernel
theorem d_M_edge_34 : decode b_M_edge 34 = .ok (.ireturn, 1) := by decide +kernel
theorem d_M_edge_35 : decode b_M_edge 35 = .ok (.iload_n 2, 1) := by decide +kernel
theorem d_M_edge_36 : decode b_M_edge 36 = .ok (.ifCond .ne 13, 3) := by decide +kernel
theorem d_M_edge_39 : decode b_M_edge 39 = .ok (.aload_n 0, 1) := by decide +kernel
theorem d_M_edge_40 : decode b_M_edge 40 = .ok (.getfield 57, 3) := by decide +kernel
theorem d_M_edge_43 : decode b_M_edge 43 = .ok (.iload_n 1, 1) := by decide +kernel
theorem d_M_edge_44 : decode b_M_edge 44 = .ok (.laload, 1) := by decide +kernel
theorem d_M_edge_45 : decode b_M_edge 45 = .ok (.l2i, 1) := by decide +kernel
theorem d_M_edge_46 : decode b_M_edge 46 = .ok (.goto 37, 3) := by decide +kernel
theorem d_M_edge_49 : decode b_M_edge 49 = .ok (.iload_n 2, 1) := by decide +kernel
theorem d_M_edge_50 : decode b_M_edge 50 = .ok (.iconst 1, 1) := by decide +kernel
theorem d_M_edge_51 : decode b_M_edge 51 = .ok (.if_icmp .ne 12, 3) := by decide +kernel
theorem d_M_edge_54 : decode b_M_edge 54 = .ok (.aload_n 0, 1) := by decide +kernel
theorem d_M_edge_55 : decode b_M_edge 55 = .ok (.getfield 60, 3) := by decide +kernel
theorem d_M_edge_58 : decode b_M_edge 58 = .ok (.iload_n 1, 1) := by decide +kernel
theorem d_M_edge_59 : decode b_M_edge 59 = .ok (.iaload, 1) := by decide +kernel
theorem d_M_edge_60 : decode b_M_edge 60 = .ok (.goto 23, 3) := by decide +kernel
theorem d_M_edge_63 : decode b_M_edge 63 = .ok (.iload_n 2, 1) := by decide +kernel
theorem d_M_edge_64 : decode b_M_edge 64 = .ok (.iconst 2, 1) := by decide +kernel
theorem d_M_edge_65 : decode b_M_edge 65 = .ok (.if_icmp .ne 12, 3) := by decide +kernel
theorem d_M_edge_68 : decode b_M_edge 68 = .ok (.aload_n 0, 1) := by decide +kernel
theorem d_M_edge_69 : decode b_M_edge 69 = .ok (.getfield 63, 3) := by decide +kernel
theorem d_M_edge_72 : decode b_M_edge 72 = .ok (.iload_n 1, 1) := by decide +kernel
theorem d_M_edge_73 : decode b_M_edge 73 = .ok (.iaload, 1) := by decide +kernel
theorem d_M_edge_74 : decode b_M_edge 74 = .ok (.goto 9, 3) := by decide +kernel
theorem d_M_edge_77 : decode b_M_edge 77 = .ok (.aload_n 0, 1) := by decide +kernel
theorem d_M_edge_78 : decode b_M_edge 78 = .ok (.getfield 66, 3) := by decide +kernel
theorem d_M_edge_81 : decode b_M_edge 81 = .ok (.iload_n 1, 1) := by decide +kernel
theorem d_M_edge_82 : decode b_M_edge 82 = .ok (.iaload, 1) := by decide +kernel
theorem d_M_edge_83 : decode b_M_edge 83 = .ok (.ireturn, 1) := by decide +kernel
theorem d_M_stop_0 : decode b_M_stop 0 = .ok (.aload_n 0, 1) := by decide +kernel
theorem d_M_stop_1 : decode b_M_stop 1 = .ok (.iconst 0, 1) := by decide +kernel
theorem d_M_stop_2 : decode b_M_stop 2 = .ok (.putfield 69, 3) := by decide +kernel
theorem d_M_stop_5 : decode b_M_stop 5 = .ok (.aload_n 0, 1) := by decide +kernel
theorem d_M_stop_6 : decode b_M_stop 6 = .ok (.iload_n 1, 1) := by decide +kernel
theorem d_M_stop_7 : decode b_M_stop 7 = .ok (.invokevirtual 95, 3) := by decide +kernel
theorem d_M_stop_10 : decode b_M_stop 10 = .ok (.ifCond .ne 6, 3) := by decide +kernel
theorem d_M_stop_13 : decode b_M_stop 13 = .ok (.bipush (-11), 2) := by decide +kernel
theorem d_M_stop_15 : decode b_M_stop 15 = .ok (.ireturn, 1) := by decide +kernel
theorem d_M_stop_16 : decode b_M_stop 16 = .ok (.aload_n 0, 1) := by decide +kernel
theorem d_M_stop_17 : decode b_M_stop 17 = .ok (.lload_n 3, 1) := by decide +kernel
theorem d_M_stop_18 : decode b_M_stop 18 = .ok (.invokevirtual 99, 3) := by decide +kernel
theorem d_M_stop_21 : decode b_M_stop 21 = .ok (.ifCond .ne 6, 3) := by decide +kernel
theorem d_M_stop_24 : decode b_M_stop 24 = .ok (.bipush (-12), 2) := by decide +kernel
theorem d_M_stop_26 : decode b_M_stop 26 = .ok (.ireturn, 1) := by decide +kernel
theorem d_M_stop_27 : decode b_M_stop 27 = .ok (.aload_n 0, 1) := by decide +kernel
theorem d_M_stop_28 : decode b_M_stop 28 = .ok (.getfield 23, 3) := by decide +kernel
theorem d_M_stop_31 : decode b_M_stop 31 = .ok (.iload_n 1, 1) := by decide +kernel
theorem d_M_stop_32 : decode b_M_stop 32 = .ok (.baload, 1) := by decide +kernel
theorem d_M_stop_33 : decode b_M_stop 33 = .ok (.iload_n 2, 1) := by decide +kernel
theorem d_M_stop_34 : decode b_M_stop 34 = .ok (.if_icmp .eq 17, 3) := by decide +kernel
theorem d_M_stop_37 : decode b_M_stop 37 = .ok (.aload_n 0, 1) := by decide +kernel
theorem d_M_stop_38 : decode b_M_stop 38 = .ok (.getfield 30, 3) := by decide +kernel
theorem d_M_stop_41 : decode b_M_stop 41 = .ok (.iload_n 1, 1) := by decide +kernel
theorem d_M_stop_42 : decode b_M_stop 42 = .ok (.iaload, 1) := by decide +kernel
theorem d_M_stop_43 : decode b_M_stop 43 = .ok (.bipush 100, 2) := by decide +kernel
theorem d_M_stop_45 : decode b_M_stop 45 = .ok (.if_icmp .ne 6, 3) := by decide +kernel
theorem d_M_stop_48 : decode b_M_stop 48 = .ok (.bipush (-14), 2) := by decide +kernel
theorem d_M_stop_50 : decode b_M_stop 50 = .ok (.ireturn, 1) := by decide +kernel
theorem d_M_stop_51 : decode b_M_stop 51 = .ok (.aload_n 0, 1) := by decide +kernel
theorem d_M_stop_52 : decode b_M_stop 52 = .ok (.lload_n 3, 1) := by decide +kernel
theorem d_M_stop_53 : decode b_M_stop 53 = .ok (.invokevirtual 138, 3) := by decide +kernel
theorem d_M_stop_56 : decode b_M_stop 56 = .ok (.aload_n 0, 1) := by decide +kernel
theorem d_M_stop_57 : decode b_M_stop 57 = .ok (.getfield 23, 3) := by decide +kernel
theorem d_M_stop_60 : decode b_M_stop 60 = .ok (.iload_n 1, 1) := by decide +kernel
theorem d_M_stop_61 : decode b_M_stop 61 = .ok (.baload, 1) := by decide +kernel
theorem d_M_stop_62 : decode b_M_stop 62 = .ok (.iload_n 2, 1) := by decide +kernel
theorem d_M_stop_63 : decode b_M_stop 63 = .ok (.if_icmp .ne 5, 3) := by decide +kernel
theorem d_M_stop_66 : decode b_M_stop 66 = .ok (.iconst 0, 1) := by decide +kernel
theorem d_M_stop_67 : decode b_M_stop 67 = .ok (.ireturn, 1) := by decide +kernel
theorem d_M_stop_68 : decode b_M_stop 68 = .ok (.aload_n 0, 1) := by decide +kernel
theorem d_M_stop_69 : decode b_M_stop 69 = .ok (.getfield 27, 3) := by decide +kernel
theorem d_M_stop_72 : decode b_M_stop 72 = .ok (.iload_n 1, 1) := by decide +kernel
theorem d_M_stop_73 : decode b_M_stop 73 = .ok (.lload_n 3, 1) := by decide +kernel
theorem d_M_stop_74 : decode b_M_stop 74 = .ok (.lconst 0, 1) := by decide +kernel
theorem d_M_stop_75 : decode b_M_stop 75 = .ok (.lcmp, 1) := by decide +kernel
theorem d_M_stop_76 : decode b_M_stop 76 = .ok (.ifCond .ne 8, 3) := by decide +kernel
theorem d_M_stop_79 : decode b_M_stop 79 = .ok (.bipush 8, 2) := by decide +kernel
theorem d_M_stop_81 : decode b_M_stop 81 = .ok (.goto 31, 3) := by decide +kernel
theorem d_M_stop_84 : decode b_M_stop 84 = .ok (.lload_n 3, 1) := by decide +kernel
theorem d_M_stop_85 : decode b_M_stop 85 = .ok (.aload_n 0, 1) := by decide +kernel
theorem d_M_stop_86 : decode b_M_stop 86 = .ok (.getfield 20, 3) := by decide +kernel
theorem d_M_stop_89 : decode b_M_stop 89 = .ok (.iload_n 1, 1) := by decide +kernel
theorem d_M_stop_90 : decode b_M_stop 90 = .ok (.laload, 1) := by decide +kernel
theorem d_M_stop_91 : decode b_M_stop 91 = .ok (.lcmp, 1) := by decide +kernel
theorem d_M_stop_92 : decode b_M_stop 92 = .ok (.ifCond .le 14, 3) := by decide +kernel
theorem d_M_stop_95 : decode b_M_stop 95 = .ok (.aload_n 0, 1) := by decide +kernel
theorem d_M_stop_96 : decode b_M_stop 96 = .ok (.iload_n 1, 1) := by decide +kernel
theorem d_M_stop_97 : decode b_M_stop 97 = .ok (.lload_n 3, 1) := by decide +kernel
theorem d_M_stop_98 : decode b_M_stop 98 = .ok (.lconst 1, 1) := by decide +kernel
theorem d_M_stop_99 : decode b_M_stop 99 = .ok (.lsub, 1) := by decide +kernel
theorem d_M_stop_100 : decode b_M_stop 100 = .ok (.invokevirtual 107, 3) := by decide +kernel
theorem d_M_stop_103 : decode b_M_stop 103 = .ok (.goto 9, 3) := by decide +kernel
theorem d_M_stop_106 : decode b_M_stop 106 = .ok (.aload_n 0, 1) := by decide +kernel
theorem d_M_stop_107 : decode b_M_stop 107 = .ok (.getfield 27, 3) := by decide +kernel
theorem d_M_stop_110 : decode b_M_stop 110 = .ok (.iload_n 1, 1) := by decide +kernel
theorem d_M_stop_111 : decode b_M_stop 111 = .ok (.iaload, 1) := by decide +kernel
theorem d_M_stop_112 : decode b_M_stop 112 = .ok (.iastore, 1) := by decide +kernel
theorem d_M_stop_113 : decode b_M_stop 113 = .ok (.aload_n 0, 1) := by decide +kernel
theorem d_M_stop_114 : decode b_M_stop 114 = .ok (.getfield 20, 3) := by decide +kernel
theorem d_M_stop_117 : decode b_M_stop 117 = .ok (.iload_n 1, 1) := by decide +kernel
theorem d_M_stop_118 : decode b_M_stop 118 = .ok (.lload_n 3, 1) := by decide +kernel
theorem d_M_stop_119 : decode b_M_stop 119 = .ok (.lastore, 1) := by decide +kernel
theorem d_M_stop_120 : decode b_M_stop 120 = .ok (.aload_n 0, 1) := by decide +kernel
theorem d_M_stop_121 : decode b_M_stop 121 = .ok (.getfield 23, 3) := by decide +kernel
theorem d_M_stop_124 : decode b_M_stop 124 = .ok (.iload_n 1, 1) := by decide +kernel
theorem d_M_stop_125 : decode b_M_stop 125 = .ok (.iload_n 2, 1) := by decide +kernel
theorem d_M_stop_126 : decode b_M_stop 126 = .ok (.bastore, 1) := by decide +kernel
theorem d_M_stop_127 : decode b_M_stop 127 = .ok (.aload_n 0, 1) := by decide +kernel
theorem d_M_stop_128 : decode b_M_stop 128 = .ok (.getfield 30, 3) := by decide +kernel
theorem d_M_stop_131 : decode b_M_stop 131 = .ok (.iload_n 1, 1) := by decide +kernel
theorem d_M_stop_132 : decode b_M_stop 132 = .ok (.dup2, 1) := by decide +kernel
theorem d_M_stop_133 : decode b_M_stop 133 = .ok (.iaload, 1) := by decide +kernel
theorem d_M_stop_134 : decode b_M_stop 134 = .ok (.iconst 1, 1) := by decide +kernel
theorem d_M_stop_135 : decode b_M_stop 135 = .ok (.iadd, 1) := by decide +kernel
theorem d_M_stop_136 : decode b_M_stop 136 = .ok (.iastore, 1) := by decide +kernel
theorem d_M_stop_137 : decode b_M_stop 137 = .ok (.iconst 1, 1) := by decide +kernel
theorem d_M_stop_138 : decode b_M_stop 138 = .ok (.ireturn, 1) := by decide +kernel
theorem d_M_slip_0 : decode b_M_slip 0 = .ok (.aload_n 0, 1) := by decide +kernel
theorem d_M_slip_1 : decode b_M_slip 1 = .ok (.iconst 0, 1) := by decide +kernel
theorem d_M_slip_2 : decode b_M_slip 2 = .ok (.putfield 69, 3) := by decide +kernel
theorem d_M_slip_5 : decode b_M_slip 5 = .ok (.aload_n 0, 1) := by decide +kernel
theorem d_M_slip_6 : decode b_M_slip 6 = .ok (.iload_n 1, 1) := by decide +kernel
theorem d_M_slip_7 : decode b_M_slip 7 = .ok (.invokevirtual 145, 3) := by decide +kernel
theorem d_M_slip_10 : decode b_M_slip 10 = .ok (.ifCond .ne 6, 3) := by decide +kernel
theorem d_M_slip_13 : decode b_M_slip 13 = .ok (.bipush (-11), 2) := by decide +kernel
theorem d_M_slip_15 : decode b_M_slip 15 = .ok (.ireturn, 1) := by decide +kernel
theorem d_M_slip_16 : decode b_M_slip 16 = .ok (.lload_n 2, 1) := by decide +kernel
theorem d_M_slip_17 : decode b_M_slip 17 = .ok (.lconst 0, 1) := by decide +kernel
theorem d_M_slip_18 : decode b_M_slip 18 = .ok (.ldc2_w 148, 3) := by decide +kernel
theorem d_M_slip_21 : decode b_M_slip 21 = .ok (.invokestatic 85, 3) := by decide +kernel
theorem d_M_slip_24 : decode b_M_slip 24 = .ok (.ifCond .ne 6, 3) := by decide +kernel
theorem d_M_slip_27 : decode b_M_slip 27 = .ok (.bipush (-12), 2) := by decide +kernel
theorem d_M_slip_29 : decode b_M_slip 29 = .ok (.ireturn, 1) := by decide +kernel
theorem d_M_slip_30 : decode b_M_slip 30 = .ok (.aload_n 0, 1) := by decide +kernel
theorem d_M_slip_31 : decode b_M_slip 31 = .ok (.iload_n 1, 1) := by decide +kernel
theorem d_M_slip_32 : decode b_M_slip 32 = .ok (.invokevirtual 111, 3) := by decide +kernel
theorem d_M_slip_35 : decode b_M_slip 35 = .ok (.ifCond .ne 6, 3) := by decide +kernel
theorem d_M_slip_38 : decode b_M_slip 38 = .ok (.bipush (-13), 2) := by decide +kernel
theorem d_M_slip_40 : decode b_M_slip 40 = .ok (.ireturn, 1) := by decide +kernel
theorem d_M_slip_41 : decode b_M_slip 41 = .ok (.lload_n 2, 1) := by decide +kernel
theorem d_M_slip_42 : decode b_M_slip 42 = .ok (.aload_n 0, 1) := by decide +kernel
theorem d_M_slip_43 : decode b_M_slip 43 = .ok (.getfield 45, 3) := by decide +kernel
theorem d_M_slip_46 : decode b_M_slip 46 = .ok (.iload_n 1, 1) := by decide +kernel
theorem d_M_slip_47 : decode b_M_slip 47 = .ok (.laload, 1) := by decide +kernel
theorem d_M_slip_48 : decode b_M_slip 48 = .ok (.lcmp, 1) := by decide +kernel
theorem d_M_slip_49 : decode b_M_slip 49 = .ok (.ifCond .ge 7, 3) := by decide +kernel
theorem d_M_slip_52 : decode b_M_slip 52 = .ok (.lload_n 2, 1) := by decide +kernel
theorem d_M_slip_53 : decode b_M_slip 53 = .ok (.goto 9, 3) := by decide +kernel
theorem d_M_slip_56 : decode b_M_slip 56 = .ok (.aload_n 0, 1) := by decide +kernel
theorem d_M_slip_57 : decode b_M_slip 57 = .ok (.getfield 45, 3) := by decide +kernel
theorem d_M_slip_60 : decode b_M_slip 60 = .ok (.iload_n 1, 1) := by decide +kernel
theorem d_M_slip_61 : decode b_M_slip 61 = .ok (.laload, 1) := by decide +kernel
theorem d_M_slip_62 : decode b_M_slip 62 = .ok (.lstore 4, 2) := by decide +kernel
theorem d_M_slip_64 : decode b_M_slip 64 = .ok (.aload_n 0, 1) := by decide +kernel
theorem d_M_slip_65 : decode b_M_slip 65 = .ok (.getfield 45, 3) := by decide +kernel
theorem d_M_slip_68 : decode b_M_slip 68 = .ok (.iload_n 1, 1) := by decide +kernel
theorem d_M_slip_69 : decode b_M_slip 69 = .ok (.aload_n 0, 1) := by decide +kernel
theorem d_M_slip_70 : decode b_M_slip 70 = .ok (.getfield 45, 3) := by decide +kernel
theorem d_M_slip_73 : decode b_M_slip 73 = .ok (.iload_n 1, 1) := by decide +kernel
theorem d_M_slip_74 : decode b_M_slip 74 = .ok (.laload, 1) := by decide +kernel
theorem d_M_slip_75 : decode b_M_slip 75 = .ok (.lload 4, 2) := by decide +kernel
theorem d_M_slip_77 : decode b_M_slip 77 = .ok (.lsub, 1) := by decide +kernel
theorem d_M_slip_78 : decode b_M_slip 78 = .ok (.lastore, 1) := by decide +kernel
theorem d_M_slip_79 : decode b_M_slip 79 = .ok (.lload 4, 2) := by decide +kernel
theorem d_M_slip_81 : decode b_M_slip 81 = .ok (.l2i, 1) := by decide +kernel
theorem d_M_slip_82 : decode b_M_slip 82 = .ok (.ireturn, 1) := by decide +kernel
theorem d_M_isItem_0 : decode b_M_isItem 0 = .ok (.iload_n 1, 1) := by decide +kernel
theorem d_M_isItem_1 : decode b_M_isItem 1 = .ok (.ifCond .le 15, 3) := by decide +kernel
theorem d_M_isItem_4 : decode b_M_isItem 4 = .ok (.iload_n 1, 1) := by decide +kernel
theorem d_M_isItem_5 : decode b_M_isItem 5 = .ok (.aload_n 0, 1) := by decide +kernel
theorem d_M_isItem_6 : decode b_M_isItem 6 = .ok (.getfield 76, 3) := by decide +kernel
theorem d_M_isItem_9 : decode b_M_isItem 9 = .ok (.if_icmp .gt 7, 3) := by decide +kernel
theorem d_M_isItem_12 : decode b_M_isItem 12 = .ok (.iconst 1, 1) := by decide +kernel
theorem d_M_isItem_13 : decode b_M_isItem 13 = .ok (.goto 4, 3) := by decide +kernel
theorem d_M_isItem_16 : decode b_M_isItem 16 = .ok (.iconst 0, 1) := by decide +kernel
theorem d_M_isItem_17 : decode b_M_isItem 17 = .ok (.ireturn, 1) := by decide +kernel
theorem d_M_place_0 : decode b_M_place 0 = .ok (.aload_n 0, 1) := by decide +kernel
theorem d_M_place_1 : decode b_M_place 1 = .ok (.iconst 0, 1) := by decide +kernel
theorem d_M_place_2 : decode b_M_place 2 = .ok (.putfield 69, 3) := by decide +kernel
theorem d_M_place_5 : decode b_M_place 5 = .ok (.aload_n 0, 1) := by decide +kernel
theorem d_M_place_6 : decode b_M_place 6 = .ok (.iload_n 1, 1) := by decide +kernel
theorem d_M_place_7 : decode b_M_place 7 = .ok (.invokevirtual 145, 3) := by decide +kernel
theorem d_M_place_10 : decode b_M_place 10 = .ok (.ifCond .ne 7, 3) := by decide +kernel
theorem d_M_place_13 : decode b_M_place 13 = .ok (.ldc2_w 150, 3) := by decide +kernel
theorem d_M_place_16 : decode b_M_place 16 = .ok (.lreturn, 1) := by decide +kernel
theorem d_M_place_17 : decode b_M_place 17 = .ok (.aload_n 0, 1) := by decide +kernel
theorem d_M_place_18 : decode b_M_place 18 = .ok (.lload_n 2, 1) := by decide +kernel
theorem d_M_place_19 : decode b_M_place 19 = .ok (.invokevirtual 99, 3) := by decide +kernel
theorem d_M_place_22 : decode b_M_place 22 = .ok (.ifCond .ne 7, 3) := by decide +kernel
theorem d_M_place_25 : decode b_M_place 25 = .ok (.ldc2_w 152, 3) := by decide +kernel
theorem d_M_place_28 : decode b_M_place 28 = .ok (.lreturn, 1) := by decide +kernel
theorem d_M_place_29 : decode b_M_place 29 = .ok (.aload_n 0, 1) := by decide +kernel
theorem d_M_place_30 : decode b_M_place 30 = .ok (.getfield 48, 3) := by decide +kernel
theorem d_M_place_33 : decode b_M_place 33 = .ok (.iload_n 1, 1) := by decide +kernel
theorem d_M_place_34 : decode b_M_place 34 = .ok (.baload, 1) := by decide +kernel
theorem d_M_place_35 : decode b_M_place 35 = .ok (.ifCond .eq 7, 3) := by decide +kernel
theorem d_M_place_38 : decode b_M_place 38 = .ok (.ldc2_w 154, 3) := by decide +kernel
theorem d_M_place_41 : decode b_M_place 41 = .ok (.lreturn, 1) := by decide +kernel
theorem d_M_place_42 : decode b_M_place 42 = .ok (.aload_n 0, 1) := by decide +kernel
theorem d_M_place_43 : decode b_M_place 43 = .ok (.getfield 39, 3) := by decide +kernel
theorem d_M_place_46 : decode b_M_place 46 = .ok (.iload_n 1, 1) := by decide +kernel
theorem d_M_place_47 : decode b_M_place 47 = .ok (.laload, 1) := by decide +kernel
theorem d_M_place_48 : decode b_M_place 48 = .ok (.lload_n 2, 1) := by decide +kernel
theorem d_M_place_49 : decode b_M_place 49 = .ok (.lcmp, 1) := by decide +kernel
theorem d_M_place_50 : decode b_M_place 50 = .ok (.ifCond .le 7, 3) := by decide +kernel
theorem d_M_place_53 : decode b_M_place 53 = .ok (.ldc2_w 156, 3) := by decide +kernel
theorem d_M_place_56 : decode b_M_place 56 = .ok (.lreturn, 1) := by decide +kernel
theorem d_M_place_57 : decode b_M_place 57 = .ok (.aload_n 0, 1) := by decide +kernel
theorem d_M_place_58 : decode b_M_place 58 = .ok (.getfield 42, 3) := by decide +kernel
theorem d_M_place_61 : decode b_M_place 61 = .ok (.iload_n 1, 1) := by decide +kernel
theorem d_M_place_62 : decode b_M_place 62 = .ok (.iaload, 1) := by decide +kernel
theorem d_M_place_63 : decode b_M_place 63 = .ok (.istore 4, 2) := by decide +kernel
theorem d_M_place_65 : decode b_M_place 65 = .ok (.aload_n 0, 1) := by decide +kernel
theorem d_M_place_66 : decode b_M_place 66 = .ok (.getfield 45, 3) := by decide +kernel
theorem d_M_place_69 : decode b_M_place 69 = .ok (.iload_n 1, 1) := by decide +kernel
theorem d_M_place_70 : decode b_M_place 70 = .ok (.laload, 1) := by decide +kernel
theorem d_M_place_71 : decode b_M_place 71 = .ok (.lstore 5, 2) := by decide +kernel
theorem d_M_place_73 : decode b_M_place 73 = .ok (.aload_n 0, 1) := by decide +kernel
theorem d_M_place_74 : decode b_M_place 74 = .ok (.getfield 39, 3) := by decide +kernel
theorem d_M_place_77 : decode b_M_place 77 = .ok (.iload_n 1, 1) := by decide +kernel
theorem d_M_place_78 : decode b_M_place 78 = .ok (.laload, 1) := by decide +kernel
theorem d_M_place_79 : decode b_M_place 79 = .ok (.aload_n 0, 1) := by decide +kernel
theorem d_M_place_80 : decode b_M_place 80 = .ok (.getfield 79, 3) := by decide +kernel
theorem d_M_place_83 : decode b_M_place 83 = .ok (.lcmp, 1) := by decide +kernel
theorem d_M_place_84 : decode b_M_place 84 = .ok (.ifCond .le 12, 3) := by decide +kernel
theorem d_M_place_87 : decode b_M_place 87 = .ok (.aload_n 0, 1) := by decide +kernel
theorem d_M_place_88 : decode b_M_place 88 = .ok (.getfield 39, 3) := by decide +kernel
theorem d_M_place_91 : decode b_M_place 91 = .ok (.iload_n 1, 1) := by decide +kernel
theorem d_M_place_92 : decode b_M_place 92 = .ok (.laload, 1) := by decide +kernel
theorem d_M_place_93 : decode b_M_place 93 = .ok (.goto 7, 3) := by decide +kernel
theorem d_M_place_96 : decode b_M_place 96 = .ok (.aload_n 0, 1) := by decide +kernel
theorem d_M_place_97 : decode b_M_place 97 = .ok (.getfield 79, 3) := by decide +kernel
theorem d_M_place_100 : decode b_M_place 100 = .ok (.lstore 7, 2) := by decide +kernel
theorem d_M_place_102 : decode b_M_place 102 = .ok (.lload 7, 2) := by decide +kernel
theorem d_M_place_104 : decode b_M_place 104 = .ok (.lload_n 2, 1) := by decide +kernel
theorem d_M_place_105 : decode b_M_place 105 = .ok (.lcmp, 1) := by decide +kernel
theorem d_M_place_106 : decode b_M_place 106 = .ok (.ifCond .ge 69, 3) := by decide +kernel
theorem d_M_place_109 : decode b_M_place 109 = .ok (.lload 5, 2) := by decide +kernel
theorem d_M_place_111 : decode b_M_place 111 = .ok (.aload_n 0, 1) := by decide +kernel
theorem d_M_place_112 : decode b_M_place 112 = .ok (.iload 4, 2) := by decide +kernel
theorem d_M_place_114 : decode b_M_place 114 = .ok (.lload 7, 2) := by decide +kernel
theorem d_M_place_116 : decode b_M_place 116 = .ok (.invokevirtual 128, 3) := by decide +kernel
theorem d_M_place_119 : decode b_M_place 119 = .ok (.ladd, 1) := by decide +kernel
theorem d_M_place_120 : decode b_M_place 120 = .ok (.lstore 5, 2) := by decide +kernel
theorem d_M_place_122 : decode b_M_place 122 = .ok (.lload 5, 2) := by decide +kernel
theorem d_M_place_124 : decode b_M_place 124 = .ok (.aload_n 0, 1) := by decide +kernel
theorem d_M_place_125 : decode b_M_place 125 = .ok (.getfield 7, 3) := by decide +kernel
theorem d_M_place_128 : decode b_M_place 128 = .ok (.iload 4, 2) := by decide +kernel
theorem d_M_place_130 : decode b_M_place 130 = .ok (.laload, 1) := by decide +kernel
theorem d_M_place_131 : decode b_M_place 131 = .ok (.lcmp, 1) := by decide +kernel
theorem d_M_place_132 : decode b_M_place 132 = .ok (.ifCond .lt 34, 3) := by decide +kernel
theorem d_M_place_135 : decode b_M_place 135 = .ok (.lload 5, 2) := by decide +kernel
theorem d_M_place_137 : decode b_M_place 137 = .ok (.aload_n 0, 1) := by decide +kernel
theorem d_M_place_138 : decode b_M_place 138 = .ok (.getfield 7, 3) := by decide +kernel
theorem d_M_place_141 : decode b_M_place 141 = .ok (.iload 4, 2) := by decide +kernel
theorem d_M_place_143 : decode b_M_place 143 = .ok (.laload, 1) := by decide +kernel
theorem d_M_place_144 : decode b_M_place 144 = .ok (.lsub, 1) := by decide +kernel
theorem d_M_place_145 : decode b_M_place 145 = .ok (.lstore 5, 2) := by decide +kernel
theorem d_M_place_147 : decode b_M_place 147 = .ok (.aload_n 0, 1) := by decide +kernel
theorem d_M_place_148 : decode b_M_place 148 = .ok (.getfield 16, 3) := by decide +kernel
theorem d_M_place_151 : decode b_M_place 151 = .ok (.iload 4, 2) := by decide +kernel
theorem d_M_place_153 : decode b_M_place 153 = .ok (.iaload, 1) := by decide +kernel
theorem d_M_place_154 : decode b_M_place 154 = .ok (.istore 4, 2) := by decide +kernel
theorem d_M_place_156 : decode b_M_place 156 = .ok (.iload 4, 2) := by decide +kernel
theorem d_M_place_158 : decode b_M_place 158 = .ok (.iconst (-1), 1) := by decide +kernel
theorem d_M_place_159 : decode b_M_place 159 = .ok (.if_icmp .ne 7, 3) := by decide +kernel
theorem d_M_place_162 : decode b_M_place 162 = .ok (.ldc2_w 154, 3) := by decide +kernel
theorem d_M_place_165 : decode b_M_place 165 = .ok (.lreturn, 1) := by decide +kernel
theorem d_M_place_166 : decode b_M_place 166 = .ok (.lload 7, 2) := by decide +kernel
theorem d_M_place_168 : decode b_M_place 168 = .ok (.lconst 1, 1) := by decide +kernel
theorem d_M_place_169 : decode b_M_place 169 = .ok (.ladd, 1) := by decide +kernel
theorem d_M_place_170 : decode b_M_place 170 = .ok (.lstore 7, 2) := by decide +kernel
theorem d_M_place_172 : decode b_M_place 172 = .ok (.goto (-70), 3) := by decide +kernel
theorem d_M_place_175 : decode b_M_place 175 = .ok (.ldc2_w 148, 3) := by decide +kernel
theorem d_M_place_178 : decode b_M_place 178 = .ok (.iload 4, 2) := by decide +kernel
theorem d_M_place_180 : decode b_M_place 180 = .ok (.i2l, 1) := by decide +kernel
theorem d_M_place_181 : decode b_M_place 181 = .ok (.lmul, 1) := by decide +kernel
theorem d_M_place_182 : decode b_M_place 182 = .ok (.lload 5, 2) := by decide +kernel
theorem d_M_place_184 : decode b_M_place 184 = .ok (.ladd, 1) := by decide +kernel
theorem d_M_place_185 : decode b_M_place 185 = .ok (.lreturn, 1) := by decide +kernel
theorem d_M_gap_0 : decode b_M_gap 0 = .ok (.aload_n 0, 1) := by decide +kernel
theorem d_M_gap_1 : decode b_M_gap 1 = .ok (.iconst 0, 1) := by decide +kernel
theorem d_M_gap_2 : decode b_M_gap 2 = .ok (.putfield 69, 3) := by decide +kernel
theorem d_M_gap_5 : decode b_M_gap 5 = .ok (.aload_n 0, 1) := by decide +kernel
theorem d_M_gap_6 : decode b_M_gap 6 = .ok (.iload_n 1, 1) := by decide +kernel
theorem d_M_gap_7 : decode b_M_gap 7 = .ok (.invokevirtual 145, 3) := by decide +kernel
theorem d_M_gap_10 : decode b_M_gap 10 = .ok (.ifCond .eq 11, 3) := by decide +kernel
theorem d_M_gap_13 : decode b_M_gap 13 = .ok (.aload_n 0, 1) := by decide +kernel
theorem d_M_gap_14 : decode b_M_gap 14 = .ok (.iload_n 2, 1) := by decide +kernel
theorem d_M_gap_15 : decode b_M_gap 15 = .ok (.invokevirtual 145, 3) := by decide +kernel
theorem d_M_gap_18 : decode b_M_gap 18 = .ok (.ifCond .ne 6, 3) := by decide +kernel
theorem d_M_gap_21 : decode b_M_gap 21 = .ok (.bipush (-11), 2) := by decide +kernel
theorem d_M_gap_23 : decode b_M_gap 23 = .ok (.ireturn, 1) := by decide +kernel
theorem d_M_gap_24 : decode b_M_gap 24 = .ok (.iload_n 1, 1) := by decide +kernel
theorem d_M_gap_25 : decode b_M_gap 25 = .ok (.iload_n 2, 1) := by decide +kernel
theorem d_M_gap_26 : decode b_M_gap 26 = .ok (.if_icmp .ne 6, 3) := by decide +kernel
theorem d_M_gap_29 : decode b_M_gap 29 = .ok (.bipush (-12), 2) := by decide +kernel
theorem d_M_gap_31 : decode b_M_gap 31 = .ok (.ireturn, 1) := by decide +kernel
theorem d_M_gap_32 : decode b_M_gap 32 = .ok (.aload_n 0, 1) := by decide +kernel
theorem d_M_gap_33 : decode b_M_gap 33 = .ok (.iload_n 1, 1) := by decide +kernel
theorem d_M_gap_34 : decode b_M_gap 34 = .ok (.invokevirtual 111, 3) := by decide +kernel
theorem d_M_gap_37 : decode b_M_gap 37 = .ok (.ifCond .eq 26, 3) := by decide +kernel
theorem d_M_gap_40 : decode b_M_gap 40 = .ok (.aload_n 0, 1) := by decide +kernel
theorem d_M_gap_41 : decode b_M_gap 41 = .ok (.iload_n 2, 1) := by decide +kernel
theorem d_M_gap_42 : decode b_M_gap 42 = .ok (.invokevirtual 111, 3) := by decide +kernel
theorem d_M_gap_45 : decode b_M_gap 45 = .ok (.ifCond .eq 18, 3) := by decide +kernel
theorem d_M_gap_48 : decode b_M_gap 48 = .ok (.aload_n 0, 1) := by decide +kernel
theorem d_M_gap_49 : decode b_M_gap 49 = .ok (.getfield 42, 3) := by decide +kernel
theorem d_M_gap_52 : decode b_M_gap 52 = .ok (.iload_n 1, 1) := by decide +kernel
theorem d_M_gap_53 : decode b_M_gap 53 = .ok (.iaload, 1) := by decide +kernel
theorem d_M_gap_54 : decode b_M_gap 54 = .ok (.aload_n 0, 1) := by decide +kernel
theorem d_M_gap_55 : decode b_M_gap 55 = .ok (.getfield 42, 3) := by decide +kernel
theorem d_M_gap_58 : decode b_M_gap 58 = .ok (.iload_n 2, 1) := by decide +kernel
theorem d_M_gap_59 : decode b_M_gap 59 = .ok (.iaload, 1) := by decide +kernel
theorem d_M_gap_60 : decode b_M_gap 60 = .ok (.if_icmp .eq 6, 3) := by decide +kernel
theorem d_M_gap_63 : decode b_M_gap 63 = .ok (.bipush (-13), 2) := by decide +kernel
theorem d_M_gap_65 : decode b_M_gap 65 = .ok (.ireturn, 1) := by decide +kernel
theorem d_M_gap_66 : decode b_M_gap 66 = .ok (.aload_n 0, 1) := by decide +kernel
theorem d_M_gap_67 : decode b_M_gap 67 = .ok (.getfield 45, 3) := by decide +kernel
theorem d_M_gap_70 : decode b_M_gap 70 = .ok (.iload_n 2, 1) := by decide +kernel
theorem d_M_gap_71 : decode b_M_gap 71 = .ok (.laload, 1) := by decide +kernel
theorem d_M_gap_72 : decode b_M_gap 72 = .ok (.aload_n 0, 1) := by decide +kernel
theorem d_M_gap_73 : decode b_M_gap 73 = .ok (.getfield 36, 3) := by decide +kernel
theorem d_M_gap_76 : decode b_M_gap 76 = .ok (.iload_n 2, 1) := by decide +kernel
theorem d_M_gap_77 : decode b_M_gap 77 = .ok (.laload, 1) := by decide +kernel
theorem d_M_gap_78 : decode b_M_gap 78 = .ok (.lsub, 1) := by decide +kernel
theorem d_M_gap_79 : decode b_M_gap 79 = .ok (.aload_n 0, 1) := by decide +kernel
theorem d_M_gap_80 : decode b_M_gap 80 = .ok (.getfield 45, 3) := by decide +kernel
theorem d_M_gap_83 : decode b_M_gap 83 = .ok (.iload_n 1, 1) := by decide +kernel
theorem d_M_gap_84 : decode b_M_gap 84 = .ok (.laload, 1) := by decide +kernel
theorem d_M_gap_85 : decode b_M_gap 85 = .ok (.lsub, 1) := by decide +kernel
theorem d_M_gap_86 : decode b_M_gap 86 = .ok (.l2i, 1) := by decide +kernel
theorem d_M_gap_87 : decode b_M_gap 87 = .ok (.ireturn, 1) := by decide +kernel
theorem d_M_count_0 : decode b_M_count 0 = .ok (.aload_n 0, 1) := by decide +kernel
theorem d_M_count_1 : decode b_M_count 1 = .ok (.iconst 0, 1) := by decide +kernel
theorem d_M_count_2 : decode b_M_count 2 = .ok (.putfield 69, 3) := by decide +kernel
theorem d_M_count_5 : decode b_M_count 5 = .ok (.aload_n 0, 1) := by decide +kernel
theorem d_M_count_6 : decode b_M_count 6 = .ok (.iload_n 1, 1) := by decide +kernel
theorem d_M_count_7 : decode b_M_count 7 = .ok (.invokevirtual 95, 3) := by decide +kernel
theorem d_M_count_10 : decode b_M_count 10 = .ok (.ifCond .ne 6, 3) := by decide +kernel
theorem d_M_count_13 : decode b_M_count 13 = .ok (.bipush (-11), 2) := by decide +kernel
theorem d_M_count_15 : decode b_M_count 15 = .ok (.ireturn, 1) := by decide +kernel
theorem d_M_count_16 : decode b_M_count 16 = .ok (.iconst 0, 1) := by decide +kernel
theorem d_M_count_17 : decode b_M_count 17 = .ok (.istore_n 2, 1) := by decide +kernel
theorem d_M_count_18 : decode b_M_count 18 = .ok (.iconst 1, 1) := by decide +kernel
theorem d_M_count_19 : decode b_M_count 19 = .ok (.istore_n 3, 1) := by decide +kernel
theorem d_M_count_20 : decode b_M_count 20 = .ok (.iload_n 3, 1) := by decide +kernel
theorem d_M_count_21 : decode b_M_count 21 = .ok (.aload_n 0, 1) := by decide +kernel
theorem d_M_count_22 : decode b_M_count 22 = .ok (.getfield 76, 3) := by decide +kernel
theorem d_M_count_25 : decode b_M_count 25 = .ok (.if_icmp .gt 35, 3) := by decide +kernel
theorem d_M_count_28 : decode b_M_count 28 = .ok (.aload_n 0, 1) := by decide +kernel
theorem d_M_count_29 : decode b_M_count 29 = .ok (.iload_n 3, 1) := by decide +kernel
theorem d_M_count_30 : decode b_M_count 30 = .ok (.invokevirtual 111, 3) := by decide +kernel
theorem d_M_count_33 : decode b_M_count 33 = .ok (.ifCond .eq 19, 3) := by decide +kernel
theorem d_M_count_36 : decode b_M_count 36 = .ok (.aload_n 0, 1) := by decide +kernel
theorem d_M_count_37 : decode b_M_count 37 = .ok (.getfield 42, 3) := by decide +kernel
theorem d_M_count_40 : decode b_M_count 40 = .ok (.iload_n 3, 1) := by decide +kernel
theorem d_M_count_41 : decode b_M_count 41 = .ok (.iaload, 1) := by decide +kernel
theorem d_M_count_42 : decode b_M_count 42 = .ok (.iload_n 1, 1) := by decide +kernel
theorem d_M_count_43 : decode b_M_count 43 = .ok (.if_icmp .ne 9, 3) := by decide +kernel
theorem d_M_count_46 : decode b_M_count 46 = .ok (.iload_n 2, 1) := by decide +kernel
theorem d_M_count_47 : decode b_M_count 47 = .ok (.iconst 1, 1) := by decide +kernel
theorem d_M_count_48 : decode b_M_count 48 = .ok (.iadd, 1) := by decide +kernel
theorem d_M_count_49 : decode b_M_count 49 = .ok (.goto 4, 3) := by decide +kernel
theorem d_M_count_52 : decode b_M_count 52 = .ok (.iload_n 2, 1) := by decide +kernel
theorem d_M_count_53 : decode b_M_count 53 = .ok (.istore_n 2, 1) := by decide +kernel
theorem d_M_count_54 : decode b_M_count 54 = .ok (.iinc 3 1, 3) := by decide +kernel
theorem d_M_count_57 : decode b_M_count 57 = .ok (.goto (-37), 3) := by decide +kernel
theorem d_M_count_60 : decode b_M_count 60 = .ok (.iload_n 2, 1) := by decide +kernel
theorem d_M_count_61 : decode b_M_count 61 = .ok (.ireturn, 1) := by decide +kernel
theorem d_M_gear_0 : decode b_M_gear 0 = .ok (.aload_n 0, 1) := by decide +kernel
theorem d_M_gear_1 : decode b_M_gear 1 = .ok (.iconst 0, 1) := by decide +kernel
theorem d_M_gear_2 : decode b_M_gear 2 = .ok (.putfield 69, 3) := by decide +kernel
theorem d_M_gear_5 : decode b_M_gear 5 = .ok (.aload_n 0, 1) := by decide +kernel
theorem d_M_gear_6 : decode b_M_gear 6 = .ok (.iload_n 1, 1) := by decide +kernel
theorem d_M_gear_7 : decode b_M_gear 7 = .ok (.invokevirtual 95, 3) := by decide +kernel
theorem d_M_gear_10 : decode b_M_gear 10 = .ok (.ifCond .ne 6, 3) := by decide +kernel
theorem d_M_gear_13 : decode b_M_gear 13 = .ok (.bipush (-11), 2) := by decide +kernel
theorem d_M_gear_15 : decode b_M_gear 15 = .ok (.ireturn, 1) := by decide +kernel
theorem d_M_gear_16 : decode b_M_gear 16 = .ok (.aload_n 0, 1) := by decide +kernel
