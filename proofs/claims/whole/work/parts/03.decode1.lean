theorem d_S_moveItems_28 : decode b_S_moveItems 28 = .ok (.iload_n 3, 1) := by decide +kernel
theorem d_S_moveItems_29 : decode b_S_moveItems 29 = .ok (.aaload, 1) := by decide +kernel
theorem d_S_moveItems_30 : decode b_S_moveItems 30 = .ok (.lload_n 1, 1) := by decide +kernel
theorem d_S_moveItems_31 : decode b_S_moveItems 31 = .ok (.invokevirtual 167, 3) := by decide +kernel
theorem d_S_moveItems_34 : decode b_S_moveItems 34 = .ok (.iinc 3 1, 3) := by decide +kernel
theorem d_S_moveItems_37 : decode b_S_moveItems 37 = .ok (.goto (-35), 3) := by decide +kernel
theorem d_S_moveItems_40 : decode b_S_moveItems 40 = .ok (.return_, 1) := by decide +kernel
theorem d_I_moveOver_0 : decode b_I_moveOver 0 = .ok (.aload_n 0, 1) := by decide +kernel
theorem d_I_moveOver_1 : decode b_I_moveOver 1 = .ok (.getfield 32, 3) := by decide +kernel
theorem d_I_moveOver_4 : decode b_I_moveOver 4 = .ok (.ifnonnull 4, 3) := by decide +kernel
theorem d_I_moveOver_7 : decode b_I_moveOver 7 = .ok (.return_, 1) := by decide +kernel
theorem d_I_moveOver_8 : decode b_I_moveOver 8 = .ok (.aload_n 0, 1) := by decide +kernel
theorem d_I_moveOver_9 : decode b_I_moveOver 9 = .ok (.getfield 9, 3) := by decide +kernel
theorem d_I_moveOver_12 : decode b_I_moveOver 12 = .ok (.ifCond .eq 14, 3) := by decide +kernel
theorem d_I_moveOver_15 : decode b_I_moveOver 15 = .ok (.aload_n 0, 1) := by decide +kernel
theorem d_I_moveOver_16 : decode b_I_moveOver 16 = .ok (.aload_n 0, 1) := by decide +kernel
theorem d_I_moveOver_17 : decode b_I_moveOver 17 = .ok (.getfield 32, 3) := by decide +kernel
theorem d_I_moveOver_20 : decode b_I_moveOver 20 = .ok (.lload_n 1, 1) := by decide +kernel
theorem d_I_moveOver_21 : decode b_I_moveOver 21 = .ok (.lconst 0, 1) := by decide +kernel
theorem d_I_moveOver_22 : decode b_I_moveOver 22 = .ok (.invokevirtual 48, 3) := by decide +kernel
theorem d_I_moveOver_25 : decode b_I_moveOver 25 = .ok (.return_, 1) := by decide +kernel
theorem d_I_moveOver_26 : decode b_I_moveOver 26 = .ok (.aload_n 0, 1) := by decide +kernel
theorem d_I_moveOver_27 : decode b_I_moveOver 27 = .ok (.getfield 32, 3) := by decide +kernel
theorem d_I_moveOver_30 : decode b_I_moveOver 30 = .ok (.lload_n 1, 1) := by decide +kernel
theorem d_I_moveOver_31 : decode b_I_moveOver 31 = .ok (.invokevirtual 39, 3) := by decide +kernel
theorem d_I_moveOver_34 : decode b_I_moveOver 34 = .ok (.aload_n 0, 1) := by decide +kernel
theorem d_I_moveOver_35 : decode b_I_moveOver 35 = .ok (.getfield 15, 3) := by decide +kernel
theorem d_I_moveOver_38 : decode b_I_moveOver 38 = .ok (.lsub, 1) := by decide +kernel
theorem d_I_moveOver_39 : decode b_I_moveOver 39 = .ok (.aload_n 0, 1) := by decide +kernel
theorem d_I_moveOver_40 : decode b_I_moveOver 40 = .ok (.getfield 32, 3) := by decide +kernel
theorem d_I_moveOver_43 : decode b_I_moveOver 43 = .ok (.getfield 52, 3) := by decide +kernel
theorem d_I_moveOver_46 : decode b_I_moveOver 46 = .ok (.lsub, 1) := by decide +kernel
theorem d_I_moveOver_47 : decode b_I_moveOver 47 = .ok (.lstore_n 3, 1) := by decide +kernel
theorem d_I_moveOver_48 : decode b_I_moveOver 48 = .ok (.lload_n 3, 1) := by decide +kernel
theorem d_I_moveOver_49 : decode b_I_moveOver 49 = .ok (.lconst 0, 1) := by decide +kernel
theorem d_I_moveOver_50 : decode b_I_moveOver 50 = .ok (.lcmp, 1) := by decide +kernel
theorem d_I_moveOver_51 : decode b_I_moveOver 51 = .ok (.ifCond .ge 4, 3) := by decide +kernel
theorem d_I_moveOver_54 : decode b_I_moveOver 54 = .ok (.return_, 1) := by decide +kernel
theorem d_I_moveOver_55 : decode b_I_moveOver 55 = .ok (.aload_n 0, 1) := by decide +kernel
theorem d_I_moveOver_56 : decode b_I_moveOver 56 = .ok (.getfield 32, 3) := by decide +kernel
theorem d_I_moveOver_59 : decode b_I_moveOver 59 = .ok (.getfield 53, 3) := by decide +kernel
theorem d_I_moveOver_62 : decode b_I_moveOver 62 = .ok (.ifnonnull 18, 3) := by decide +kernel
theorem d_I_moveOver_65 : decode b_I_moveOver 65 = .ok (.aload_n 0, 1) := by decide +kernel
theorem d_I_moveOver_66 : decode b_I_moveOver 66 = .ok (.aconst_null, 1) := by decide +kernel
theorem d_I_moveOver_67 : decode b_I_moveOver 67 = .ok (.putfield 32, 3) := by decide +kernel
theorem d_I_moveOver_70 : decode b_I_moveOver 70 = .ok (.aload_n 0, 1) := by decide +kernel
theorem d_I_moveOver_71 : decode b_I_moveOver 71 = .ok (.ldc2_w 56, 3) := by decide +kernel
theorem d_I_moveOver_74 : decode b_I_moveOver 74 = .ok (.putfield 36, 3) := by decide +kernel
theorem d_I_moveOver_77 : decode b_I_moveOver 77 = .ok (.goto 16, 3) := by decide +kernel
theorem d_I_moveOver_80 : decode b_I_moveOver 80 = .ok (.aload_n 0, 1) := by decide +kernel
theorem d_I_moveOver_81 : decode b_I_moveOver 81 = .ok (.aload_n 0, 1) := by decide +kernel
theorem d_I_moveOver_82 : decode b_I_moveOver 82 = .ok (.getfield 32, 3) := by decide +kernel
theorem d_I_moveOver_85 : decode b_I_moveOver 85 = .ok (.getfield 53, 3) := by decide +kernel
theorem d_I_moveOver_88 : decode b_I_moveOver 88 = .ok (.lload_n 1, 1) := by decide +kernel
theorem d_I_moveOver_89 : decode b_I_moveOver 89 = .ok (.lload_n 3, 1) := by decide +kernel
theorem d_I_moveOver_90 : decode b_I_moveOver 90 = .ok (.invokevirtual 48, 3) := by decide +kernel
theorem d_I_moveOver_93 : decode b_I_moveOver 93 = .ok (.return_, 1) := by decide +kernel
theorem d_S_tellEdges_0 : decode b_S_tellEdges 0 = .ok (.iconst 0, 1) := by decide +kernel
theorem d_S_tellEdges_1 : decode b_S_tellEdges 1 = .ok (.istore_n 3, 1) := by decide +kernel
theorem d_S_tellEdges_2 : decode b_S_tellEdges 2 = .ok (.iload_n 3, 1) := by decide +kernel
theorem d_S_tellEdges_3 : decode b_S_tellEdges 3 = .ok (.aload_n 0, 1) := by decide +kernel
theorem d_S_tellEdges_4 : decode b_S_tellEdges 4 = .ok (.getfield 25, 3) := by decide +kernel
theorem d_S_tellEdges_7 : decode b_S_tellEdges 7 = .ok (.if_icmp .ge 34, 3) := by decide +kernel
theorem d_S_tellEdges_10 : decode b_S_tellEdges 10 = .ok (.aload_n 0, 1) := by decide +kernel
theorem d_S_tellEdges_11 : decode b_S_tellEdges 11 = .ok (.getfield 21, 3) := by decide +kernel
theorem d_S_tellEdges_14 : decode b_S_tellEdges 14 = .ok (.iload_n 3, 1) := by decide +kernel
theorem d_S_tellEdges_15 : decode b_S_tellEdges 15 = .ok (.aaload, 1) := by decide +kernel
theorem d_S_tellEdges_16 : decode b_S_tellEdges 16 = .ok (.getfield 164, 3) := by decide +kernel
theorem d_S_tellEdges_19 : decode b_S_tellEdges 19 = .ok (.lload_n 1, 1) := by decide +kernel
theorem d_S_tellEdges_20 : decode b_S_tellEdges 20 = .ok (.lcmp, 1) := by decide +kernel
theorem d_S_tellEdges_21 : decode b_S_tellEdges 21 = .ok (.ifCond .ne 14, 3) := by decide +kernel
theorem d_S_tellEdges_24 : decode b_S_tellEdges 24 = .ok (.aload_n 0, 1) := by decide +kernel
theorem d_S_tellEdges_25 : decode b_S_tellEdges 25 = .ok (.aload_n 0, 1) := by decide +kernel
theorem d_S_tellEdges_26 : decode b_S_tellEdges 26 = .ok (.getfield 21, 3) := by decide +kernel
theorem d_S_tellEdges_29 : decode b_S_tellEdges 29 = .ok (.iload_n 3, 1) := by decide +kernel
theorem d_S_tellEdges_30 : decode b_S_tellEdges 30 = .ok (.aaload, 1) := by decide +kernel
theorem d_S_tellEdges_31 : decode b_S_tellEdges 31 = .ok (.lload_n 1, 1) := by decide +kernel
theorem d_S_tellEdges_32 : decode b_S_tellEdges 32 = .ok (.invokevirtual 170, 3) := by decide +kernel
theorem d_S_tellEdges_35 : decode b_S_tellEdges 35 = .ok (.iinc 3 1, 3) := by decide +kernel
theorem d_S_tellEdges_38 : decode b_S_tellEdges 38 = .ok (.goto (-36), 3) := by decide +kernel
theorem d_S_tellEdges_41 : decode b_S_tellEdges 41 = .ok (.return_, 1) := by decide +kernel
theorem d_S_tellEdgesOf_0 : decode b_S_tellEdgesOf 0 = .ok (.aload_n 1, 1) := by decide +kernel
theorem d_S_tellEdgesOf_1 : decode b_S_tellEdgesOf 1 = .ok (.getfield 135, 3) := by decide +kernel
theorem d_S_tellEdgesOf_4 : decode b_S_tellEdgesOf 4 = .ok (.astore 4, 2) := by decide +kernel
theorem d_S_tellEdgesOf_6 : decode b_S_tellEdgesOf 6 = .ok (.aload 4, 2) := by decide +kernel
theorem d_S_tellEdgesOf_8 : decode b_S_tellEdgesOf 8 = .ok (.ifnonnull 4, 3) := by decide +kernel
theorem d_S_tellEdgesOf_11 : decode b_S_tellEdgesOf 11 = .ok (.return_, 1) := by decide +kernel
theorem d_S_tellEdgesOf_12 : decode b_S_tellEdgesOf 12 = .ok (.aload 4, 2) := by decide +kernel
theorem d_S_tellEdgesOf_14 : decode b_S_tellEdgesOf 14 = .ok (.lload_n 2, 1) := by decide +kernel
theorem d_S_tellEdgesOf_15 : decode b_S_tellEdgesOf 15 = .ok (.invokevirtual 174, 3) := by decide +kernel
theorem d_S_tellEdgesOf_18 : decode b_S_tellEdgesOf 18 = .ok (.lstore 5, 2) := by decide +kernel
theorem d_S_tellEdgesOf_20 : decode b_S_tellEdgesOf 20 = .ok (.lload 5, 2) := by decide +kernel
theorem d_S_tellEdgesOf_22 : decode b_S_tellEdgesOf 22 = .ok (.aload_n 1, 1) := by decide +kernel
theorem d_S_tellEdgesOf_23 : decode b_S_tellEdgesOf 23 = .ok (.getfield 121, 3) := by decide +kernel
theorem d_S_tellEdgesOf_26 : decode b_S_tellEdgesOf 26 = .ok (.lsub, 1) := by decide +kernel
theorem d_S_tellEdgesOf_27 : decode b_S_tellEdgesOf 27 = .ok (.aload 4, 2) := by decide +kernel
theorem d_S_tellEdgesOf_29 : decode b_S_tellEdgesOf 29 = .ok (.getfield 177, 3) := by decide +kernel
theorem d_S_tellEdgesOf_32 : decode b_S_tellEdgesOf 32 = .ok (.lsub, 1) := by decide +kernel
theorem d_S_tellEdgesOf_33 : decode b_S_tellEdgesOf 33 = .ok (.lstore 7, 2) := by decide +kernel
theorem d_S_tellEdgesOf_35 : decode b_S_tellEdgesOf 35 = .ok (.aload_n 1, 1) := by decide +kernel
theorem d_S_tellEdgesOf_36 : decode b_S_tellEdgesOf 36 = .ok (.getfield 180, 3) := by decide +kernel
theorem d_S_tellEdgesOf_39 : decode b_S_tellEdgesOf 39 = .ok (.ifCond .ne 51, 3) := by decide +kernel
theorem d_S_tellEdgesOf_42 : decode b_S_tellEdgesOf 42 = .ok (.lload 7, 2) := by decide +kernel
theorem d_S_tellEdgesOf_44 : decode b_S_tellEdgesOf 44 = .ok (.lconst 0, 1) := by decide +kernel
theorem d_S_tellEdgesOf_45 : decode b_S_tellEdgesOf 45 = .ok (.lcmp, 1) := by decide +kernel
theorem d_S_tellEdgesOf_46 : decode b_S_tellEdgesOf 46 = .ok (.ifCond .lt 44, 3) := by decide +kernel
theorem d_S_tellEdgesOf_49 : decode b_S_tellEdgesOf 49 = .ok (.aload_n 0, 1) := by decide +kernel
theorem d_S_tellEdgesOf_50 : decode b_S_tellEdgesOf 50 = .ok (.aload_n 1, 1) := by decide +kernel
theorem d_S_tellEdgesOf_51 : decode b_S_tellEdgesOf 51 = .ok (.lload 5, 2) := by decide +kernel
theorem d_S_tellEdgesOf_53 : decode b_S_tellEdgesOf 53 = .ok (.invokevirtual 183, 3) := by decide +kernel
theorem d_S_tellEdgesOf_56 : decode b_S_tellEdgesOf 56 = .ok (.ifCond .eq 7, 3) := by decide +kernel
theorem d_S_tellEdgesOf_59 : decode b_S_tellEdgesOf 59 = .ok (.iconst 2, 1) := by decide +kernel
theorem d_S_tellEdgesOf_60 : decode b_S_tellEdgesOf 60 = .ok (.goto 4, 3) := by decide +kernel
theorem d_S_tellEdgesOf_63 : decode b_S_tellEdgesOf 63 = .ok (.iconst 0, 1) := by decide +kernel
theorem d_S_tellEdgesOf_64 : decode b_S_tellEdgesOf 64 = .ok (.istore 9, 2) := by decide +kernel
theorem d_S_tellEdgesOf_66 : decode b_S_tellEdgesOf 66 = .ok (.aload_n 0, 1) := by decide +kernel
theorem d_S_tellEdgesOf_67 : decode b_S_tellEdgesOf 67 = .ok (.getfield 31, 3) := by decide +kernel
theorem d_S_tellEdgesOf_70 : decode b_S_tellEdgesOf 70 = .ok (.lload_n 2, 1) := by decide +kernel
theorem d_S_tellEdgesOf_71 : decode b_S_tellEdgesOf 71 = .ok (.aload 4, 2) := by decide +kernel
theorem d_S_tellEdgesOf_73 : decode b_S_tellEdgesOf 73 = .ok (.getfield 51, 3) := by decide +kernel
theorem d_S_tellEdgesOf_76 : decode b_S_tellEdgesOf 76 = .ok (.aload_n 1, 1) := by decide +kernel
theorem d_S_tellEdgesOf_77 : decode b_S_tellEdgesOf 77 = .ok (.getfield 73, 3) := by decide +kernel
theorem d_S_tellEdgesOf_80 : decode b_S_tellEdgesOf 80 = .ok (.iload 9, 2) := by decide +kernel
theorem d_S_tellEdgesOf_82 : decode b_S_tellEdgesOf 82 = .ok (.invokevirtual 187, 3) := by decide +kernel
theorem d_S_tellEdgesOf_85 : decode b_S_tellEdgesOf 85 = .ok (.aload_n 1, 1) := by decide +kernel
theorem d_S_tellEdgesOf_86 : decode b_S_tellEdgesOf 86 = .ok (.iconst 1, 1) := by decide +kernel
theorem d_S_tellEdgesOf_87 : decode b_S_tellEdgesOf 87 = .ok (.putfield 180, 3) := by decide +kernel
theorem d_S_tellEdgesOf_90 : decode b_S_tellEdgesOf 90 = .ok (.aload_n 1, 1) := by decide +kernel
theorem d_S_tellEdgesOf_91 : decode b_S_tellEdgesOf 91 = .ok (.getfield 180, 3) := by decide +kernel
theorem d_S_tellEdgesOf_94 : decode b_S_tellEdgesOf 94 = .ok (.ifCond .eq 43, 3) := by decide +kernel
theorem d_S_tellEdgesOf_97 : decode b_S_tellEdgesOf 97 = .ok (.aload_n 1, 1) := by decide +kernel
theorem d_S_tellEdgesOf_98 : decode b_S_tellEdgesOf 98 = .ok (.getfield 191, 3) := by decide +kernel
theorem d_S_tellEdgesOf_101 : decode b_S_tellEdgesOf 101 = .ok (.ifCond .ne 36, 3) := by decide +kernel
theorem d_S_tellEdgesOf_104 : decode b_S_tellEdgesOf 104 = .ok (.lload 7, 2) := by decide +kernel
theorem d_S_tellEdgesOf_106 : decode b_S_tellEdgesOf 106 = .ok (.aload_n 1, 1) := by decide +kernel
theorem d_S_tellEdgesOf_107 : decode b_S_tellEdgesOf 107 = .ok (.getfield 138, 3) := by decide +kernel
theorem d_S_tellEdgesOf_110 : decode b_S_tellEdgesOf 110 = .ok (.lcmp, 1) := by decide +kernel
theorem d_S_tellEdgesOf_111 : decode b_S_tellEdgesOf 111 = .ok (.ifCond .lt 26, 3) := by decide +kernel
theorem d_S_tellEdgesOf_114 : decode b_S_tellEdgesOf 114 = .ok (.aload_n 0, 1) := by decide +kernel
theorem d_S_tellEdgesOf_115 : decode b_S_tellEdgesOf 115 = .ok (.getfield 31, 3) := by decide +kernel
theorem d_S_tellEdgesOf_118 : decode b_S_tellEdgesOf 118 = .ok (.lload_n 2, 1) := by decide +kernel
theorem d_S_tellEdgesOf_119 : decode b_S_tellEdgesOf 119 = .ok (.aload 4, 2) := by decide +kernel
theorem d_S_tellEdgesOf_121 : decode b_S_tellEdgesOf 121 = .ok (.getfield 51, 3) := by decide +kernel
theorem d_S_tellEdgesOf_124 : decode b_S_tellEdgesOf 124 = .ok (.aload_n 1, 1) := by decide +kernel
theorem d_S_tellEdgesOf_125 : decode b_S_tellEdgesOf 125 = .ok (.getfield 73, 3) := by decide +kernel
theorem d_S_tellEdgesOf_128 : decode b_S_tellEdgesOf 128 = .ok (.iconst 1, 1) := by decide +kernel
theorem d_S_tellEdgesOf_129 : decode b_S_tellEdgesOf 129 = .ok (.invokevirtual 187, 3) := by decide +kernel
theorem d_S_tellEdgesOf_132 : decode b_S_tellEdgesOf 132 = .ok (.aload_n 1, 1) := by decide +kernel
theorem d_S_tellEdgesOf_133 : decode b_S_tellEdgesOf 133 = .ok (.iconst 1, 1) := by decide +kernel
theorem d_S_tellEdgesOf_134 : decode b_S_tellEdgesOf 134 = .ok (.putfield 191, 3) := by decide +kernel
theorem d_S_tellEdgesOf_137 : decode b_S_tellEdgesOf 137 = .ok (.aload_n 1, 1) := by decide +kernel
theorem d_S_tellEdgesOf_138 : decode b_S_tellEdgesOf 138 = .ok (.invokevirtual 124, 3) := by decide +kernel
theorem d_S_tellEdgesOf_141 : decode b_S_tellEdgesOf 141 = .ok (.return_, 1) := by decide +kernel
theorem d_S_isShort_0 : decode b_S_isShort 0 = .ok (.lload_n 2, 1) := by decide +kernel
theorem d_S_isShort_1 : decode b_S_isShort 1 = .ok (.aload_n 1, 1) := by decide +kernel
theorem d_S_isShort_2 : decode b_S_isShort 2 = .ok (.getfield 121, 3) := by decide +kernel
theorem d_S_isShort_5 : decode b_S_isShort 5 = .ok (.lsub, 1) := by decide +kernel
theorem d_S_isShort_6 : decode b_S_isShort 6 = .ok (.lstore 4, 2) := by decide +kernel
theorem d_S_isShort_8 : decode b_S_isShort 8 = .ok (.iconst 0, 1) := by decide +kernel
theorem d_S_isShort_9 : decode b_S_isShort 9 = .ok (.istore 6, 2) := by decide +kernel
theorem d_S_isShort_11 : decode b_S_isShort 11 = .ok (.iload 6, 2) := by decide +kernel
theorem d_S_isShort_13 : decode b_S_isShort 13 = .ok (.aload_n 0, 1) := by decide +kernel
theorem d_S_isShort_14 : decode b_S_isShort 14 = .ok (.getfield 25, 3) := by decide +kernel
theorem d_S_isShort_17 : decode b_S_isShort 17 = .ok (.if_icmp .ge 108, 3) := by decide +kernel
theorem d_S_isShort_20 : decode b_S_isShort 20 = .ok (.aload_n 0, 1) := by decide +kernel
theorem d_S_isShort_21 : decode b_S_isShort 21 = .ok (.getfield 21, 3) := by decide +kernel
theorem d_S_isShort_24 : decode b_S_isShort 24 = .ok (.iload 6, 2) := by decide +kernel
theorem d_S_isShort_26 : decode b_S_isShort 26 = .ok (.aaload, 1) := by decide +kernel
theorem d_S_isShort_27 : decode b_S_isShort 27 = .ok (.astore 7, 2) := by decide +kernel
theorem d_S_isShort_29 : decode b_S_isShort 29 = .ok (.aload 7, 2) := by decide +kernel
theorem d_S_isShort_31 : decode b_S_isShort 31 = .ok (.aload_n 1, 1) := by decide +kernel
theorem d_S_isShort_32 : decode b_S_isShort 32 = .ok (.if_acmp .eq 87, 3) := by decide +kernel
theorem d_S_isShort_35 : decode b_S_isShort 35 = .ok (.aload 7, 2) := by decide +kernel
theorem d_S_isShort_37 : decode b_S_isShort 37 = .ok (.aload_n 1, 1) := by decide +kernel
theorem d_S_isShort_38 : decode b_S_isShort 38 = .ok (.getfield 135, 3) := by decide +kernel
theorem d_S_isShort_41 : decode b_S_isShort 41 = .ok (.invokevirtual 141, 3) := by decide +kernel
theorem d_S_isShort_44 : decode b_S_isShort 44 = .ok (.ifCond .ne 6, 3) := by decide +kernel
theorem d_S_isShort_47 : decode b_S_isShort 47 = .ok (.goto 72, 3) := by decide +kernel
theorem d_S_isShort_50 : decode b_S_isShort 50 = .ok (.lload_n 2, 1) := by decide +kernel
theorem d_S_isShort_51 : decode b_S_isShort 51 = .ok (.aload 7, 2) := by decide +kernel
theorem d_S_isShort_53 : decode b_S_isShort 53 = .ok (.getfield 121, 3) := by decide +kernel
theorem d_S_isShort_56 : decode b_S_isShort 56 = .ok (.lsub, 1) := by decide +kernel
theorem d_S_isShort_57 : decode b_S_isShort 57 = .ok (.lstore 8, 2) := by decide +kernel
theorem d_S_isShort_59 : decode b_S_isShort 59 = .ok (.lload 8, 2) := by decide +kernel
theorem d_S_isShort_61 : decode b_S_isShort 61 = .ok (.lload 4, 2) := by decide +kernel
theorem d_S_isShort_63 : decode b_S_isShort 63 = .ok (.lcmp, 1) := by decide +kernel
theorem d_S_isShort_64 : decode b_S_isShort 64 = .ok (.ifCond .gt 23, 3) := by decide +kernel
theorem d_S_isShort_67 : decode b_S_isShort 67 = .ok (.lload 8, 2) := by decide +kernel
theorem d_S_isShort_69 : decode b_S_isShort 69 = .ok (.lload 4, 2) := by decide +kernel
theorem d_S_isShort_71 : decode b_S_isShort 71 = .ok (.lcmp, 1) := by decide +kernel
theorem d_S_isShort_72 : decode b_S_isShort 72 = .ok (.ifCond .ne 19, 3) := by decide +kernel
theorem d_S_isShort_75 : decode b_S_isShort 75 = .ok (.aload 7, 2) := by decide +kernel
theorem d_S_isShort_77 : decode b_S_isShort 77 = .ok (.getfield 73, 3) := by decide +kernel
theorem d_S_isShort_80 : decode b_S_isShort 80 = .ok (.aload_n 1, 1) := by decide +kernel
theorem d_S_isShort_81 : decode b_S_isShort 81 = .ok (.getfield 73, 3) := by decide +kernel
theorem d_S_isShort_84 : decode b_S_isShort 84 = .ok (.if_icmp .ge 7, 3) := by decide +kernel
theorem d_S_isShort_87 : decode b_S_isShort 87 = .ok (.iconst 1, 1) := by decide +kernel
theorem d_S_isShort_88 : decode b_S_isShort 88 = .ok (.goto 4, 3) := by decide +kernel
theorem d_S_isShort_91 : decode b_S_isShort 91 = .ok (.iconst 0, 1) := by decide +kernel
theorem d_S_isShort_92 : decode b_S_isShort 92 = .ok (.istore 10, 2) := by decide +kernel
theorem d_S_isShort_94 : decode b_S_isShort 94 = .ok (.iload 10, 2) := by decide +kernel
theorem d_S_isShort_96 : decode b_S_isShort 96 = .ok (.ifCond .eq 23, 3) := by decide +kernel
theorem d_S_isShort_99 : decode b_S_isShort 99 = .ok (.lload 8, 2) := by decide +kernel
theorem d_S_isShort_101 : decode b_S_isShort 101 = .ok (.aload 7, 2) := by decide +kernel
theorem d_S_isShort_103 : decode b_S_isShort 103 = .ok (.getfield 138, 3) := by decide +kernel
theorem d_S_isShort_106 : decode b_S_isShort 106 = .ok (.lsub, 1) := by decide +kernel
theorem d_S_isShort_107 : decode b_S_isShort 107 = .ok (.lload 4, 2) := by decide +kernel
theorem d_S_isShort_109 : decode b_S_isShort 109 = .ok (.lsub, 1) := by decide +kernel
theorem d_S_isShort_110 : decode b_S_isShort 110 = .ok (.ldc2_w 194, 3) := by decide +kernel
theorem d_S_isShort_113 : decode b_S_isShort 113 = .ok (.lcmp, 1) := by decide +kernel
theorem d_S_isShort_114 : decode b_S_isShort 114 = .ok (.ifCond .ge 5, 3) := by decide +kernel
theorem d_S_isShort_117 : decode b_S_isShort 117 = .ok (.iconst 1, 1) := by decide +kernel
theorem d_S_isShort_118 : decode b_S_isShort 118 = .ok (.ireturn, 1) := by decide +kernel
theorem d_S_isShort_119 : decode b_S_isShort 119 = .ok (.iinc 6 1, 3) := by decide +kernel
theorem d_S_isShort_122 : decode b_S_isShort 122 = .ok (.goto (-111), 3) := by decide +kernel
theorem d_S_isShort_125 : decode b_S_isShort 125 = .ok (.iconst 0, 1) := by decide +kernel
theorem d_S_isShort_126 : decode b_S_isShort 126 = .ok (.ireturn, 1) := by decide +kernel
theorem d_I_isOn_0 : decode b_I_isOn 0 = .ok (.aload_n 0, 1) := by decide +kernel
theorem d_I_isOn_1 : decode b_I_isOn 1 = .ok (.getfield 32, 3) := by decide +kernel
theorem d_I_isOn_4 : decode b_I_isOn 4 = .ok (.aload_n 1, 1) := by decide +kernel
theorem d_I_isOn_5 : decode b_I_isOn 5 = .ok (.if_acmp .ne 14, 3) := by decide +kernel
theorem d_I_isOn_8 : decode b_I_isOn 8 = .ok (.aload_n 0, 1) := by decide +kernel
theorem d_I_isOn_9 : decode b_I_isOn 9 = .ok (.getfield 9, 3) := by decide +kernel
theorem d_I_isOn_12 : decode b_I_isOn 12 = .ok (.ifCond .ne 7, 3) := by decide +kernel
theorem d_I_isOn_15 : decode b_I_isOn 15 = .ok (.iconst 1, 1) := by decide +kernel
theorem d_I_isOn_16 : decode b_I_isOn 16 = .ok (.goto 4, 3) := by decide +kernel
theorem d_I_isOn_19 : decode b_I_isOn 19 = .ok (.iconst 0, 1) := by decide +kernel
theorem d_I_isOn_20 : decode b_I_isOn 20 = .ok (.ireturn, 1) := by decide +kernel
theorem d_E_add_0 : decode b_E_add 0 = .ok (.aload_n 0, 1) := by decide +kernel
theorem d_E_add_1 : decode b_E_add 1 = .ok (.getfield 15, 3) := by decide +kernel
theorem d_E_add_4 : decode b_E_add 4 = .ok (.sipush 400, 3) := by decide +kernel
theorem d_E_add_7 : decode b_E_add 7 = .ok (.if_icmp .ge 52, 3) := by decide +kernel
theorem d_E_add_10 : decode b_E_add 10 = .ok (.aload_n 0, 1) := by decide +kernel
theorem d_E_add_11 : decode b_E_add 11 = .ok (.getfield 15, 3) := by decide +kernel
theorem d_E_add_14 : decode b_E_add 14 = .ok (.iconst 4, 1) := by decide +kernel
theorem d_E_add_15 : decode b_E_add 15 = .ok (.imul, 1) := by decide +kernel
theorem d_E_add_16 : decode b_E_add 16 = .ok (.istore 6, 2) := by decide +kernel
theorem d_E_add_18 : decode b_E_add 18 = .ok (.aload_n 0, 1) := by decide +kernel
theorem d_E_add_19 : decode b_E_add 19 = .ok (.getfield 11, 3) := by decide +kernel
theorem d_E_add_22 : decode b_E_add 22 = .ok (.iload 6, 2) := by decide +kernel
theorem d_E_add_24 : decode b_E_add 24 = .ok (.lload_n 1, 1) := by decide +kernel
theorem d_E_add_25 : decode b_E_add 25 = .ok (.l2i, 1) := by decide +kernel
theorem d_E_add_26 : decode b_E_add 26 = .ok (.iastore, 1) := by decide +kernel
theorem d_E_add_27 : decode b_E_add 27 = .ok (.aload_n 0, 1) := by decide +kernel
theorem d_E_add_28 : decode b_E_add 28 = .ok (.getfield 11, 3) := by decide +kernel
theorem d_E_add_31 : decode b_E_add 31 = .ok (.iload 6, 2) := by decide +kernel
theorem d_E_add_33 : decode b_E_add 33 = .ok (.iconst 1, 1) := by decide +kernel
theorem d_E_add_34 : decode b_E_add 34 = .ok (.iadd, 1) := by decide +kernel
theorem d_E_add_35 : decode b_E_add 35 = .ok (.iload_n 3, 1) := by decide +kernel
theorem d_E_add_36 : decode b_E_add 36 = .ok (.iastore, 1) := by decide +kernel
theorem d_E_add_37 : decode b_E_add 37 = .ok (.aload_n 0, 1) := by decide +kernel
theorem d_E_add_38 : decode b_E_add 38 = .ok (.getfield 11, 3) := by decide +kernel
theorem d_E_add_41 : decode b_E_add 41 = .ok (.iload 6, 2) := by decide +kernel
theorem d_E_add_43 : decode b_E_add 43 = .ok (.iconst 2, 1) := by decide +kernel
theorem d_E_add_44 : decode b_E_add 44 = .ok (.iadd, 1) := by decide +kernel
theorem d_E_add_45 : decode b_E_add 45 = .ok (.iload 4, 2) := by decide +kernel
theorem d_E_add_47 : decode b_E_add 47 = .ok (.iastore, 1) := by decide +kernel
theorem d_E_add_48 : decode b_E_add 48 = .ok (.aload_n 0, 1) := by decide +kernel
theorem d_E_add_49 : decode b_E_add 49 = .ok (.getfield 11, 3) := by decide +kernel
theorem d_E_add_52 : decode b_E_add 52 = .ok (.iload 6, 2) := by decide +kernel
theorem d_E_add_54 : decode b_E_add 54 = .ok (.iconst 3, 1) := by decide +kernel
theorem d_E_add_55 : decode b_E_add 55 = .ok (.iadd, 1) := by decide +kernel
theorem d_E_add_56 : decode b_E_add 56 = .ok (.iload 5, 2) := by decide +kernel
theorem d_E_add_58 : decode b_E_add 58 = .ok (.iastore, 1) := by decide +kernel
theorem d_E_add_59 : decode b_E_add 59 = .ok (.aload_n 0, 1) := by decide +kernel
theorem d_E_add_60 : decode b_E_add 60 = .ok (.dup, 1) := by decide +kernel
theorem d_E_add_61 : decode b_E_add 61 = .ok (.getfield 15, 3) := by decide +kernel
theorem d_E_add_64 : decode b_E_add 64 = .ok (.iconst 1, 1) := by decide +kernel
theorem d_E_add_65 : decode b_E_add 65 = .ok (.iadd, 1) := by decide +kernel
theorem d_E_add_66 : decode b_E_add 66 = .ok (.putfield 15, 3) := by decide +kernel
theorem d_E_add_69 : decode b_E_add 69 = .ok (.return_, 1) := by decide +kernel
theorem d_E_takeNew_0 : decode b_E_takeNew 0 = .ok (.aload_n 0, 1) := by decide +kernel
theorem d_E_takeNew_1 : decode b_E_takeNew 1 = .ok (.getfield 15, 3) := by decide +kernel
theorem d_E_takeNew_4 : decode b_E_takeNew 4 = .ok (.aload_n 0, 1) := by decide +kernel
theorem d_E_takeNew_5 : decode b_E_takeNew 5 = .ok (.getfield 19, 3) := by decide +kernel
theorem d_E_takeNew_8 : decode b_E_takeNew 8 = .ok (.isub, 1) := by decide +kernel
theorem d_E_takeNew_9 : decode b_E_takeNew 9 = .ok (.istore_n 1, 1) := by decide +kernel
theorem d_E_takeNew_10 : decode b_E_takeNew 10 = .ok (.aload_n 0, 1) := by decide +kernel
theorem d_E_takeNew_11 : decode b_E_takeNew 11 = .ok (.aload_n 0, 1) := by decide +kernel
theorem d_E_takeNew_12 : decode b_E_takeNew 12 = .ok (.getfield 15, 3) := by decide +kernel
theorem d_E_takeNew_15 : decode b_E_takeNew 15 = .ok (.putfield 19, 3) := by decide +kernel
theorem d_E_takeNew_18 : decode b_E_takeNew 18 = .ok (.iload_n 1, 1) := by decide +kernel
theorem d_E_takeNew_19 : decode b_E_takeNew 19 = .ok (.ireturn, 1) := by decide +kernel
theorem d_S_edge_0 : decode b_S_edge 0 = .ok (.aload_n 0, 1) := by decide +kernel
theorem d_S_edge_1 : decode b_S_edge 1 = .ok (.getfield 31, 3) := by decide +kernel
theorem d_S_edge_4 : decode b_S_edge 4 = .ok (.iload_n 1, 1) := by decide +kernel
theorem d_S_edge_5 : decode b_S_edge 5 = .ok (.iload_n 2, 1) := by decide +kernel
theorem d_S_edge_6 : decode b_S_edge 6 = .ok (.invokevirtual 82, 3) := by decide +kernel
theorem d_S_edge_9 : decode b_S_edge 9 = .ok (.ireturn, 1) := by decide +kernel
theorem d_E_read_0 : decode b_E_read 0 = .ok (.iload_n 1, 1) := by decide +kernel
theorem d_E_read_1 : decode b_E_read 1 = .ok (.ifCond .lt 18, 3) := by decide +kernel
theorem d_E_read_4 : decode b_E_read 4 = .ok (.iload_n 1, 1) := by decide +kernel
theorem d_E_read_5 : decode b_E_read 5 = .ok (.sipush 400, 3) := by decide +kernel
theorem d_E_read_8 : decode b_E_read 8 = .ok (.if_icmp .ge 11, 3) := by decide +kernel
theorem d_E_read_11 : decode b_E_read 11 = .ok (.iload_n 1, 1) := by decide +kernel
theorem d_E_read_12 : decode b_E_read 12 = .ok (.aload_n 0, 1) := by decide +kernel
theorem d_E_read_13 : decode b_E_read 13 = .ok (.getfield 15, 3) := by decide +kernel
theorem d_E_read_16 : decode b_E_read 16 = .ok (.if_icmp .lt 5, 3) := by decide +kernel
theorem d_E_read_19 : decode b_E_read 19 = .ok (.iconst (-1), 1) := by decide +kernel
theorem d_E_read_20 : decode b_E_read 20 = .ok (.ireturn, 1) := by decide +kernel
theorem d_E_read_21 : decode b_E_read 21 = .ok (.iload_n 2, 1) := by decide +kernel
theorem d_E_read_22 : decode b_E_read 22 = .ok (.ifCond .lt 8, 3) := by decide +kernel
theorem d_E_read_25 : decode b_E_read 25 = .ok (.iload_n 2, 1) := by decide +kernel
theorem d_E_read_26 : decode b_E_read 26 = .ok (.iconst 4, 1) := by decide +kernel
theorem d_E_read_27 : decode b_E_read 27 = .ok (.if_icmp .lt 5, 3) := by decide +kernel
theorem d_E_read_30 : decode b_E_read 30 = .ok (.iconst (-1), 1) := by decide +kernel
theorem d_E_read_31 : decode b_E_read 31 = .ok (.ireturn, 1) := by decide +kernel
theorem d_E_read_32 : decode b_E_read 32 = .ok (.aload_n 0, 1) := by decide +kernel
theorem d_E_read_33 : decode b_E_read 33 = .ok (.getfield 11, 3) := by decide +kernel
theorem d_E_read_36 : decode b_E_read 36 = .ok (.iload_n 1, 1) := by decide +kernel
theorem d_E_read_37 : decode b_E_read 37 = .ok (.iconst 4, 1) := by decide +kernel
theorem d_E_read_38 : decode b_E_read 38 = .ok (.imul, 1) := by decide +kernel
theorem d_E_read_39 : decode b_E_read 39 = .ok (.iload_n 2, 1) := by decide +kernel
theorem d_E_read_40 : decode b_E_read 40 = .ok (.iadd, 1) := by decide +kernel
theorem d_E_read_41 : decode b_E_read 41 = .ok (.iaload, 1) := by decide +kernel
theorem d_E_read_42 : decode b_E_read 42 = .ok (.ireturn, 1) := by decide +kernel
theorem d_S_stop_0 : decode b_S_stop 0 = .ok (.aload_n 0, 1) := by decide +kernel
theorem d_S_stop_1 : decode b_S_stop 1 = .ok (.iload_n 1, 1) := by decide +kernel
theorem d_S_stop_2 : decode b_S_stop 2 = .ok (.invokevirtual 54, 3) := by decide +kernel
theorem d_S_stop_5 : decode b_S_stop 5 = .ok (.astore 5, 2) := by decide +kernel
theorem d_S_stop_7 : decode b_S_stop 7 = .ok (.aload 5, 2) := by decide +kernel
theorem d_S_stop_9 : decode b_S_stop 9 = .ok (.ifnonnull 6, 3) := by decide +kernel
theorem d_S_stop_12 : decode b_S_stop 12 = .ok (.bipush (-11), 2) := by decide +kernel
theorem d_S_stop_14 : decode b_S_stop 14 = .ok (.ireturn, 1) := by decide +kernel
theorem d_S_stop_15 : decode b_S_stop 15 = .ok (.aload_n 0, 1) := by decide +kernel
theorem d_S_stop_16 : decode b_S_stop 16 = .ok (.lload_n 3, 1) := by decide +kernel
theorem d_S_stop_17 : decode b_S_stop 17 = .ok (.invokevirtual 62, 3) := by decide +kernel
theorem d_S_stop_20 : decode b_S_stop 20 = .ok (.ifCond .ne 6, 3) := by decide +kernel
theorem d_S_stop_23 : decode b_S_stop 23 = .ok (.bipush (-12), 2) := by decide +kernel
theorem d_S_stop_25 : decode b_S_stop 25 = .ok (.ireturn, 1) := by decide +kernel
theorem d_S_stop_26 : decode b_S_stop 26 = .ok (.aload 5, 2) := by decide +kernel
theorem d_S_stop_28 : decode b_S_stop 28 = .ok (.getfield 86, 3) := by decide +kernel
theorem d_S_stop_31 : decode b_S_stop 31 = .ok (.iload_n 2, 1) := by decide +kernel
theorem d_S_stop_32 : decode b_S_stop 32 = .ok (.if_icmp .eq 7, 3) := by decide +kernel
theorem d_S_stop_35 : decode b_S_stop 35 = .ok (.iconst 1, 1) := by decide +kernel
theorem d_S_stop_36 : decode b_S_stop 36 = .ok (.goto 4, 3) := by decide +kernel
theorem d_S_stop_39 : decode b_S_stop 39 = .ok (.iconst 0, 1) := by decide +kernel
theorem d_S_stop_40 : decode b_S_stop 40 = .ok (.istore 6, 2) := by decide +kernel
theorem d_S_stop_42 : decode b_S_stop 42 = .ok (.iload 6, 2) := by decide +kernel
theorem d_S_stop_44 : decode b_S_stop 44 = .ok (.ifCond .eq 16, 3) := by decide +kernel
theorem d_S_stop_47 : decode b_S_stop 47 = .ok (.aload 5, 2) := by decide +kernel
theorem d_S_stop_49 : decode b_S_stop 49 = .ok (.getfield 90, 3) := by decide +kernel
theorem d_S_stop_52 : decode b_S_stop 52 = .ok (.bipush 100, 2) := by decide +kernel
theorem d_S_stop_54 : decode b_S_stop 54 = .ok (.if_icmp .lt 6, 3) := by decide +kernel
theorem d_S_stop_57 : decode b_S_stop 57 = .ok (.bipush (-14), 2) := by decide +kernel
theorem d_S_stop_59 : decode b_S_stop 59 = .ok (.ireturn, 1) := by decide +kernel
theorem d_S_stop_60 : decode b_S_stop 60 = .ok (.aload_n 0, 1) := by decide +kernel
theorem d_S_stop_61 : decode b_S_stop 61 = .ok (.lload_n 3, 1) := by decide +kernel
theorem d_S_stop_62 : decode b_S_stop 62 = .ok (.invokevirtual 74, 3) := by decide +kernel
theorem d_S_stop_65 : decode b_S_stop 65 = .ok (.iload 6, 2) := by decide +kernel
theorem d_S_stop_67 : decode b_S_stop 67 = .ok (.ifCond .ne 5, 3) := by decide +kernel
theorem d_S_stop_70 : decode b_S_stop 70 = .ok (.iconst 0, 1) := by decide +kernel
theorem d_S_stop_71 : decode b_S_stop 71 = .ok (.ireturn, 1) := by decide +kernel
theorem d_S_stop_72 : decode b_S_stop 72 = .ok (.aload 5, 2) := by decide +kernel
theorem d_S_stop_74 : decode b_S_stop 74 = .ok (.iload_n 2, 1) := by decide +kernel
theorem d_S_stop_75 : decode b_S_stop 75 = .ok (.lload_n 3, 1) := by decide +kernel
theorem d_S_stop_76 : decode b_S_stop 76 = .ok (.invokevirtual 93, 3) := by decide +kernel
theorem d_S_stop_79 : decode b_S_stop 79 = .ok (.aload_n 0, 1) := by decide +kernel
theorem d_S_stop_80 : decode b_S_stop 80 = .ok (.aload 5, 2) := by decide +kernel
theorem d_S_stop_82 : decode b_S_stop 82 = .ok (.invokevirtual 97, 3) := by decide +kernel
theorem d_S_stop_85 : decode b_S_stop 85 = .ok (.iconst 1, 1) := by decide +kernel
theorem d_S_stop_86 : decode b_S_stop 86 = .ok (.ireturn, 1) := by decide +kernel
theorem d_B_tell_0 : decode b_B_tell 0 = .ok (.aload_n 0, 1) := by decide +kernel
theorem d_B_tell_1 : decode b_B_tell 1 = .ok (.aload_n 0, 1) := by decide +kernel
theorem d_B_tell_2 : decode b_B_tell 2 = .ok (.lload_n 2, 1) := by decide +kernel
theorem d_B_tell_3 : decode b_B_tell 3 = .ok (.invokevirtual 58, 3) := by decide +kernel
theorem d_B_tell_6 : decode b_B_tell 6 = .ok (.putfield 30, 3) := by decide +kernel
theorem d_B_tell_9 : decode b_B_tell 9 = .ok (.lload_n 2, 1) := by decide +kernel
theorem d_B_tell_10 : decode b_B_tell 10 = .ok (.aload_n 0, 1) := by decide +kernel
theorem d_B_tell_11 : decode b_B_tell 11 = .ok (.getfield 23, 3) := by decide +kernel
theorem d_B_tell_14 : decode b_B_tell 14 = .ok (.lcmp, 1) := by decide +kernel
theorem d_B_tell_15 : decode b_B_tell 15 = .ok (.ifCond .le 14, 3) := by decide +kernel
theorem d_B_tell_18 : decode b_B_tell 18 = .ok (.aload_n 0, 1) := by decide +kernel
theorem d_B_tell_19 : decode b_B_tell 19 = .ok (.aload_n 0, 1) := by decide +kernel
theorem d_B_tell_20 : decode b_B_tell 20 = .ok (.lload_n 2, 1) := by decide +kernel
theorem d_B_tell_21 : decode b_B_tell 21 = .ok (.lconst 1, 1) := by decide +kernel
theorem d_B_tell_22 : decode b_B_tell 22 = .ok (.lsub, 1) := by decide +kernel
theorem d_B_tell_23 : decode b_B_tell 23 = .ok (.invokevirtual 62, 3) := by decide +kernel
theorem d_B_tell_26 : decode b_B_tell 26 = .ok (.putfield 27, 3) := by decide +kernel
theorem d_B_tell_29 : decode b_B_tell 29 = .ok (.aload_n 0, 1) := by decide +kernel
theorem d_B_tell_30 : decode b_B_tell 30 = .ok (.lload_n 2, 1) := by decide +kernel
theorem d_B_tell_31 : decode b_B_tell 31 = .ok (.putfield 23, 3) := by decide +kernel
theorem d_B_tell_34 : decode b_B_tell 34 = .ok (.aload_n 0, 1) := by decide +kernel
theorem d_B_tell_35 : decode b_B_tell 35 = .ok (.iload_n 1, 1) := by decide +kernel
theorem d_B_tell_36 : decode b_B_tell 36 = .ok (.putfield 15, 3) := by decide +kernel
theorem d_B_tell_39 : decode b_B_tell 39 = .ok (.aload_n 0, 1) := by decide +kernel
theorem d_B_tell_40 : decode b_B_tell 40 = .ok (.dup, 1) := by decide +kernel
theorem d_B_tell_41 : decode b_B_tell 41 = .ok (.getfield 19, 3) := by decide +kernel
theorem d_B_tell_44 : decode b_B_tell 44 = .ok (.iconst 1, 1) := by decide +kernel
theorem d_B_tell_45 : decode b_B_tell 45 = .ok (.iadd, 1) := by decide +kernel
theorem d_B_tell_46 : decode b_B_tell 46 = .ok (.putfield 19, 3) := by decide +kernel
theorem d_B_tell_49 : decode b_B_tell 49 = .ok (.aload_n 0, 1) := by decide +kernel
theorem d_B_tell_50 : decode b_B_tell 50 = .ok (.invokevirtual 66, 3) := by decide +kernel
theorem d_B_tell_53 : decode b_B_tell 53 = .ok (.return_, 1) := by decide +kernel
theorem d_B_gearAt_0 : decode b_B_gearAt 0 = .ok (.aload_n 0, 1) := by decide +kernel
theorem d_B_gearAt_1 : decode b_B_gearAt 1 = .ok (.getfield 33, 3) := by decide +kernel
theorem d_B_gearAt_4 : decode b_B_gearAt 4 = .ok (.aload_n 0, 1) := by decide +kernel
theorem d_B_gearAt_5 : decode b_B_gearAt 5 = .ok (.lload_n 1, 1) := by decide +kernel
theorem d_B_gearAt_6 : decode b_B_gearAt 6 = .ok (.invokevirtual 82, 3) := by decide +kernel
theorem d_B_gearAt_9 : decode b_B_gearAt 9 = .ok (.iaload, 1) := by decide +kernel
theorem d_B_gearAt_10 : decode b_B_gearAt 10 = .ok (.ireturn, 1) := by decide +kernel
theorem d_S_aimItemsOn_0 : decode b_S_aimItemsOn 0 = .ok (.iconst 0, 1) := by decide +kernel
theorem d_S_aimItemsOn_1 : decode b_S_aimItemsOn 1 = .ok (.istore_n 2, 1) := by decide +kernel
theorem d_S_aimItemsOn_2 : decode b_S_aimItemsOn 2 = .ok (.iload_n 2, 1) := by decide +kernel
theorem d_S_aimItemsOn_3 : decode b_S_aimItemsOn 3 = .ok (.aload_n 0, 1) := by decide +kernel
theorem d_S_aimItemsOn_4 : decode b_S_aimItemsOn 4 = .ok (.getfield 25, 3) := by decide +kernel
theorem d_S_aimItemsOn_7 : decode b_S_aimItemsOn 7 = .ok (.if_icmp .ge 31, 3) := by decide +kernel
theorem d_S_aimItemsOn_10 : decode b_S_aimItemsOn 10 = .ok (.aload_n 0, 1) := by decide +kernel
theorem d_S_aimItemsOn_11 : decode b_S_aimItemsOn 11 = .ok (.getfield 21, 3) := by decide +kernel
theorem d_S_aimItemsOn_14 : decode b_S_aimItemsOn 14 = .ok (.iload_n 2, 1) := by decide +kernel
theorem d_S_aimItemsOn_15 : decode b_S_aimItemsOn 15 = .ok (.aaload, 1) := by decide +kernel
theorem d_S_aimItemsOn_16 : decode b_S_aimItemsOn 16 = .ok (.aload_n 1, 1) := by decide +kernel
theorem d_S_aimItemsOn_17 : decode b_S_aimItemsOn 17 = .ok (.invokevirtual 141, 3) := by decide +kernel
theorem d_S_aimItemsOn_20 : decode b_S_aimItemsOn 20 = .ok (.ifCond .eq 12, 3) := by decide +kernel
theorem d_S_aimItemsOn_23 : decode b_S_aimItemsOn 23 = .ok (.aload_n 0, 1) := by decide +kernel
theorem d_S_aimItemsOn_24 : decode b_S_aimItemsOn 24 = .ok (.getfield 21, 3) := by decide +kernel
theorem d_S_aimItemsOn_27 : decode b_S_aimItemsOn 27 = .ok (.iload_n 2, 1) := by decide +kernel
theorem d_S_aimItemsOn_28 : decode b_S_aimItemsOn 28 = .ok (.aaload, 1) := by decide +kernel
theorem d_S_aimItemsOn_29 : decode b_S_aimItemsOn 29 = .ok (.invokevirtual 124, 3) := by decide +kernel
theorem d_S_aimItemsOn_32 : decode b_S_aimItemsOn 32 = .ok (.iinc 2 1, 3) := by decide +kernel
theorem d_S_aimItemsOn_35 : decode b_S_aimItemsOn 35 = .ok (.goto (-33), 3) := by decide +kernel
theorem d_S_aimItemsOn_38 : decode b_S_aimItemsOn 38 = .ok (.return_, 1) := by decide +kernel
theorem d_S_slip_0 : decode b_S_slip 0 = .ok (.aload_n 0, 1) := by decide +kernel
theorem d_S_slip_1 : decode b_S_slip 1 = .ok (.iload_n 1, 1) := by decide +kernel
theorem d_S_slip_2 : decode b_S_slip 2 = .ok (.invokevirtual 101, 3) := by decide +kernel
theorem d_S_slip_5 : decode b_S_slip 5 = .ok (.astore 4, 2) := by decide +kernel
theorem d_S_slip_7 : decode b_S_slip 7 = .ok (.aload 4, 2) := by decide +kernel
theorem d_S_slip_9 : decode b_S_slip 9 = .ok (.ifnonnull 6, 3) := by decide +kernel
theorem d_S_slip_12 : decode b_S_slip 12 = .ok (.bipush (-11), 2) := by decide +kernel
theorem d_S_slip_14 : decode b_S_slip 14 = .ok (.ireturn, 1) := by decide +kernel
theorem d_S_slip_15 : decode b_S_slip 15 = .ok (.lload_n 2, 1) := by decide +kernel
theorem d_S_slip_16 : decode b_S_slip 16 = .ok (.lconst 0, 1) := by decide +kernel
theorem d_S_slip_17 : decode b_S_slip 17 = .ok (.lcmp, 1) := by decide +kernel
theorem d_S_slip_18 : decode b_S_slip 18 = .ok (.ifCond .lt 11, 3) := by decide +kernel
theorem d_S_slip_21 : decode b_S_slip 21 = .ok (.lload_n 2, 1) := by decide +kernel
theorem d_S_slip_22 : decode b_S_slip 22 = .ok (.ldc2_w 105, 3) := by decide +kernel
theorem d_S_slip_25 : decode b_S_slip 25 = .ok (.lcmp, 1) := by decide +kernel
theorem d_S_slip_26 : decode b_S_slip 26 = .ok (.ifCond .le 6, 3) := by decide +kernel
theorem d_S_slip_29 : decode b_S_slip 29 = .ok (.bipush (-12), 2) := by decide +kernel
theorem d_S_slip_31 : decode b_S_slip 31 = .ok (.ireturn, 1) := by decide +kernel
theorem d_S_slip_32 : decode b_S_slip 32 = .ok (.aload 4, 2) := by decide +kernel
theorem d_S_slip_34 : decode b_S_slip 34 = .ok (.invokevirtual 107, 3) := by decide +kernel
theorem d_S_slip_37 : decode b_S_slip 37 = .ok (.ifCond .ne 6, 3) := by decide +kernel
theorem d_S_slip_40 : decode b_S_slip 40 = .ok (.bipush (-13), 2) := by decide +kernel
theorem d_S_slip_42 : decode b_S_slip 42 = .ok (.ireturn, 1) := by decide +kernel
theorem d_S_slip_43 : decode b_S_slip 43 = .ok (.lload_n 2, 1) := by decide +kernel
theorem d_S_slip_44 : decode b_S_slip 44 = .ok (.aload 4, 2) := by decide +kernel
theorem d_S_slip_46 : decode b_S_slip 46 = .ok (.aload_n 0, 1) := by decide +kernel
theorem d_S_slip_47 : decode b_S_slip 47 = .ok (.getfield 35, 3) := by decide +kernel
theorem d_S_slip_50 : decode b_S_slip 50 = .ok (.invokevirtual 111, 3) := by decide +kernel
theorem d_S_slip_53 : decode b_S_slip 53 = .ok (.invokestatic 115, 3) := by decide +kernel
theorem d_S_slip_56 : decode b_S_slip 56 = .ok (.lstore 5, 2) := by decide +kernel
theorem d_S_slip_58 : decode b_S_slip 58 = .ok (.aload 4, 2) := by decide +kernel
theorem d_S_slip_60 : decode b_S_slip 60 = .ok (.dup, 1) := by decide +kernel
theorem d_S_slip_61 : decode b_S_slip 61 = .ok (.getfield 121, 3) := by decide +kernel
theorem d_S_slip_64 : decode b_S_slip 64 = .ok (.lload 5, 2) := by decide +kernel
theorem d_S_slip_66 : decode b_S_slip 66 = .ok (.ladd, 1) := by decide +kernel
theorem d_S_slip_67 : decode b_S_slip 67 = .ok (.putfield 121, 3) := by decide +kernel
theorem d_S_slip_70 : decode b_S_slip 70 = .ok (.aload 4, 2) := by decide +kernel
theorem d_S_slip_72 : decode b_S_slip 72 = .ok (.invokevirtual 124, 3) := by decide +kernel
theorem d_S_slip_75 : decode b_S_slip 75 = .ok (.lload 5, 2) := by decide +kernel
theorem d_S_slip_77 : decode b_S_slip 77 = .ok (.l2i, 1) := by decide +kernel
theorem d_S_slip_78 : decode b_S_slip 78 = .ok (.ireturn, 1) := by decide +kernel
theorem d_S_itemNumbered_0 : decode b_S_itemNumbered 0 = .ok (.iload_n 1, 1) := by decide +kernel
theorem d_S_itemNumbered_1 : decode b_S_itemNumbered 1 = .ok (.iconst 1, 1) := by decide +kernel
theorem d_S_itemNumbered_2 : decode b_S_itemNumbered 2 = .ok (.if_icmp .lt 22, 3) := by decide +kernel
theorem d_S_itemNumbered_5 : decode b_S_itemNumbered 5 = .ok (.iload_n 1, 1) := by decide +kernel
theorem d_S_itemNumbered_6 : decode b_S_itemNumbered 6 = .ok (.aload_n 0, 1) := by decide +kernel
theorem d_S_itemNumbered_7 : decode b_S_itemNumbered 7 = .ok (.getfield 25, 3) := by decide +kernel
theorem d_S_itemNumbered_10 : decode b_S_itemNumbered 10 = .ok (.if_icmp .gt 14, 3) := by decide +kernel
theorem d_S_itemNumbered_13 : decode b_S_itemNumbered 13 = .ok (.aload_n 0, 1) := by decide +kernel
theorem d_S_itemNumbered_14 : decode b_S_itemNumbered 14 = .ok (.getfield 21, 3) := by decide +kernel
theorem d_S_itemNumbered_17 : decode b_S_itemNumbered 17 = .ok (.iload_n 1, 1) := by decide +kernel
theorem d_S_itemNumbered_18 : decode b_S_itemNumbered 18 = .ok (.iconst 1, 1) := by decide +kernel
theorem d_S_itemNumbered_19 : decode b_S_itemNumbered 19 = .ok (.isub, 1) := by decide +kernel
theorem d_S_itemNumbered_20 : decode b_S_itemNumbered 20 = .ok (.aaload, 1) := by decide +kernel
theorem d_S_itemNumbered_21 : decode b_S_itemNumbered 21 = .ok (.goto 4, 3) := by decide +kernel
theorem d_S_itemNumbered_24 : decode b_S_itemNumbered 24 = .ok (.aconst_null, 1) := by decide +kernel
theorem d_S_itemNumbered_25 : decode b_S_itemNumbered 25 = .ok (.areturn, 1) := by decide +kernel
theorem d_I_isOnABelt_0 : decode b_I_isOnABelt 0 = .ok (.aload_n 0, 1) := by decide +kernel
theorem d_I_isOnABelt_1 : decode b_I_isOnABelt 1 = .ok (.getfield 32, 3) := by decide +kernel
theorem d_I_isOnABelt_4 : decode b_I_isOnABelt 4 = .ok (.ifnull 14, 3) := by decide +kernel
theorem d_I_isOnABelt_7 : decode b_I_isOnABelt 7 = .ok (.aload_n 0, 1) := by decide +kernel
theorem d_I_isOnABelt_8 : decode b_I_isOnABelt 8 = .ok (.getfield 9, 3) := by decide +kernel
theorem d_I_isOnABelt_11 : decode b_I_isOnABelt 11 = .ok (.ifCond .ne 7, 3) := by decide +kernel
theorem d_I_isOnABelt_14 : decode b_I_isOnABelt 14 = .ok (.iconst 1, 1) := by decide +kernel
theorem d_I_isOnABelt_15 : decode b_I_isOnABelt 15 = .ok (.goto 4, 3) := by decide +kernel
theorem d_I_isOnABelt_18 : decode b_I_isOnABelt 18 = .ok (.iconst 0, 1) := by decide +kernel
theorem d_I_isOnABelt_19 : decode b_I_isOnABelt 19 = .ok (.ireturn, 1) := by decide +kernel
theorem d_I_placeAt_0 : decode b_I_placeAt 0 = .ok (.aload_n 0, 1) := by decide +kernel
theorem d_I_placeAt_1 : decode b_I_placeAt 1 = .ok (.getfield 32, 3) := by decide +kernel
theorem d_I_placeAt_4 : decode b_I_placeAt 4 = .ok (.ifnonnull 7, 3) := by decide +kernel
theorem d_I_placeAt_7 : decode b_I_placeAt 7 = .ok (.lconst 0, 1) := by decide +kernel
theorem d_I_placeAt_8 : decode b_I_placeAt 8 = .ok (.goto 16, 3) := by decide +kernel
theorem d_I_placeAt_11 : decode b_I_placeAt 11 = .ok (.aload_n 0, 1) := by decide +kernel
theorem d_I_placeAt_12 : decode b_I_placeAt 12 = .ok (.getfield 32, 3) := by decide +kernel
theorem d_I_placeAt_15 : decode b_I_placeAt 15 = .ok (.lload_n 1, 1) := by decide +kernel
theorem d_I_placeAt_16 : decode b_I_placeAt 16 = .ok (.invokevirtual 39, 3) := by decide +kernel
theorem d_I_placeAt_19 : decode b_I_placeAt 19 = .ok (.aload_n 0, 1) := by decide +kernel
theorem d_I_placeAt_20 : decode b_I_placeAt 20 = .ok (.getfield 15, 3) := by decide +kernel
theorem d_I_placeAt_23 : decode b_I_placeAt 23 = .ok (.lsub, 1) := by decide +kernel
theorem d_I_placeAt_24 : decode b_I_placeAt 24 = .ok (.lreturn, 1) := by decide +kernel
theorem d_S_place_0 : decode b_S_place 0 = .ok (.aload_n 0, 1) := by decide +kernel
theorem d_S_place_1 : decode b_S_place 1 = .ok (.iload_n 1, 1) := by decide +kernel
theorem d_S_place_2 : decode b_S_place 2 = .ok (.invokevirtual 101, 3) := by decide +kernel
theorem d_S_place_5 : decode b_S_place 5 = .ok (.astore 4, 2) := by decide +kernel
theorem d_S_place_7 : decode b_S_place 7 = .ok (.aload 4, 2) := by decide +kernel
theorem d_S_place_9 : decode b_S_place 9 = .ok (.ifnonnull 7, 3) := by decide +kernel
theorem d_S_place_12 : decode b_S_place 12 = .ok (.ldc2_w 127, 3) := by decide +kernel
theorem d_S_place_15 : decode b_S_place 15 = .ok (.lreturn, 1) := by decide +kernel
theorem d_S_place_16 : decode b_S_place 16 = .ok (.aload_n 0, 1) := by decide +kernel
theorem d_S_place_17 : decode b_S_place 17 = .ok (.lload_n 2, 1) := by decide +kernel
theorem d_S_place_18 : decode b_S_place 18 = .ok (.invokevirtual 62, 3) := by decide +kernel
theorem d_S_place_21 : decode b_S_place 21 = .ok (.ifCond .ne 7, 3) := by decide +kernel
theorem d_S_place_24 : decode b_S_place 24 = .ok (.ldc2_w 129, 3) := by decide +kernel
theorem d_S_place_27 : decode b_S_place 27 = .ok (.lreturn, 1) := by decide +kernel
theorem d_S_place_28 : decode b_S_place 28 = .ok (.aload 4, 2) := by decide +kernel
theorem d_S_place_30 : decode b_S_place 30 = .ok (.lload_n 2, 1) := by decide +kernel
theorem d_S_place_31 : decode b_S_place 31 = .ok (.invokestatic 131, 3) := by decide +kernel
theorem d_S_place_34 : decode b_S_place 34 = .ok (.lreturn, 1) := by decide +kernel
theorem d_S_placeAhead_0 : decode b_S_placeAhead 0 = .ok (.aload_n 0, 1) := by decide +kernel
theorem d_S_placeAhead_1 : decode b_S_placeAhead 1 = .ok (.getfield 135, 3) := by decide +kernel
theorem d_S_placeAhead_4 : decode b_S_placeAhead 4 = .ok (.astore_n 3, 1) := by decide +kernel
theorem d_S_placeAhead_5 : decode b_S_placeAhead 5 = .ok (.aload_n 3, 1) := by decide +kernel
theorem d_S_placeAhead_6 : decode b_S_placeAhead 6 = .ok (.ifnonnull 7, 3) := by decide +kernel
theorem d_S_placeAhead_9 : decode b_S_placeAhead 9 = .ok (.ldc2_w 196, 3) := by decide +kernel
theorem d_S_placeAhead_12 : decode b_S_placeAhead 12 = .ok (.lreturn, 1) := by decide +kernel
theorem d_S_placeAhead_13 : decode b_S_placeAhead 13 = .ok (.aload_n 0, 1) := by decide +kernel
theorem d_S_placeAhead_14 : decode b_S_placeAhead 14 = .ok (.getfield 198, 3) := by decide +kernel
theorem d_S_placeAhead_17 : decode b_S_placeAhead 17 = .ok (.ifCond .eq 16, 3) := by decide +kernel
theorem d_S_placeAhead_20 : decode b_S_placeAhead 20 = .ok (.lload_n 1, 1) := by decide +kernel
theorem d_S_placeAhead_21 : decode b_S_placeAhead 21 = .ok (.aload_n 0, 1) := by decide +kernel
theorem d_S_placeAhead_22 : decode b_S_placeAhead 22 = .ok (.getfield 164, 3) := by decide +kernel
theorem d_S_placeAhead_25 : decode b_S_placeAhead 25 = .ok (.lcmp, 1) := by decide +kernel
theorem d_S_placeAhead_26 : decode b_S_placeAhead 26 = .ok (.ifCond .ge 7, 3) := by decide +kernel
theorem d_S_placeAhead_29 : decode b_S_placeAhead 29 = .ok (.ldc2_w 201, 3) := by decide +kernel
theorem d_S_placeAhead_32 : decode b_S_placeAhead 32 = .ok (.lreturn, 1) := by decide +kernel
theorem d_S_placeAhead_33 : decode b_S_placeAhead 33 = .ok (.aload_n 0, 1) := by decide +kernel
theorem d_S_placeAhead_34 : decode b_S_placeAhead 34 = .ok (.getfield 198, 3) := by decide +kernel
theorem d_S_placeAhead_37 : decode b_S_placeAhead 37 = .ok (.ifCond .eq 14, 3) := by decide +kernel
theorem d_S_placeAhead_40 : decode b_S_placeAhead 40 = .ok (.aload_n 3, 1) := by decide +kernel
theorem d_S_placeAhead_41 : decode b_S_placeAhead 41 = .ok (.aload_n 0, 1) := by decide +kernel
theorem d_S_placeAhead_42 : decode b_S_placeAhead 42 = .ok (.getfield 164, 3) := by decide +kernel
theorem d_S_placeAhead_45 : decode b_S_placeAhead 45 = .ok (.invokevirtual 174, 3) := by decide +kernel
theorem d_S_placeAhead_48 : decode b_S_placeAhead 48 = .ok (.goto 7, 3) := by decide +kernel
theorem d_S_placeAhead_51 : decode b_S_placeAhead 51 = .ok (.aload_n 0, 1) := by decide +kernel
theorem d_S_placeAhead_52 : decode b_S_placeAhead 52 = .ok (.getfield 121, 3) := by decide +kernel
theorem d_S_placeAhead_55 : decode b_S_placeAhead 55 = .ok (.lstore 4, 2) := by decide +kernel
theorem d_S_placeAhead_57 : decode b_S_placeAhead 57 = .ok (.iconst 0, 1) := by decide +kernel
theorem d_S_placeAhead_58 : decode b_S_placeAhead 58 = .ok (.istore 6, 2) := by decide +kernel
theorem d_S_placeAhead_60 : decode b_S_placeAhead 60 = .ok (.iload 6, 2) := by decide +kernel
theorem d_S_placeAhead_62 : decode b_S_placeAhead 62 = .ok (.bipush 12, 2) := by decide +kernel
theorem d_S_placeAhead_64 : decode b_S_placeAhead 64 = .ok (.if_icmp .ge 94, 3) := by decide +kernel
theorem d_S_placeAhead_67 : decode b_S_placeAhead 67 = .ok (.aload_n 3, 1) := by decide +kernel
theorem d_S_placeAhead_68 : decode b_S_placeAhead 68 = .ok (.lload 4, 2) := by decide +kernel
theorem d_S_placeAhead_70 : decode b_S_placeAhead 70 = .ok (.aload_n 3, 1) := by decide +kernel
theorem d_S_placeAhead_71 : decode b_S_placeAhead 71 = .ok (.getfield 203, 3) := by decide +kernel
theorem d_S_placeAhead_74 : decode b_S_placeAhead 74 = .ok (.ladd, 1) := by decide +kernel
theorem d_S_placeAhead_75 : decode b_S_placeAhead 75 = .ok (.invokevirtual 204, 3) := by decide +kernel
theorem d_S_placeAhead_78 : decode b_S_placeAhead 78 = .ok (.lstore 7, 2) := by decide +kernel
theorem d_S_placeAhead_80 : decode b_S_placeAhead 80 = .ok (.lload_n 1, 1) := by decide +kernel
theorem d_S_placeAhead_81 : decode b_S_placeAhead 81 = .ok (.lload 7, 2) := by decide +kernel
theorem d_S_placeAhead_83 : decode b_S_placeAhead 83 = .ok (.lcmp, 1) := by decide +kernel
theorem d_S_placeAhead_84 : decode b_S_placeAhead 84 = .ok (.ifCond .ge 22, 3) := by decide +kernel
theorem d_S_placeAhead_87 : decode b_S_placeAhead 87 = .ok (.aload_n 3, 1) := by decide +kernel
theorem d_S_placeAhead_88 : decode b_S_placeAhead 88 = .ok (.getfield 51, 3) := by decide +kernel
theorem d_S_placeAhead_91 : decode b_S_placeAhead 91 = .ok (.i2l, 1) := by decide +kernel
theorem d_S_placeAhead_92 : decode b_S_placeAhead 92 = .ok (.ldc2_w 105, 3) := by decide +kernel
theorem d_S_placeAhead_95 : decode b_S_placeAhead 95 = .ok (.lmul, 1) := by decide +kernel
theorem d_S_placeAhead_96 : decode b_S_placeAhead 96 = .ok (.aload_n 3, 1) := by decide +kernel
theorem d_S_placeAhead_97 : decode b_S_placeAhead 97 = .ok (.lload_n 1, 1) := by decide +kernel
theorem d_S_placeAhead_98 : decode b_S_placeAhead 98 = .ok (.invokevirtual 174, 3) := by decide +kernel
theorem d_S_placeAhead_101 : decode b_S_placeAhead 101 = .ok (.ladd, 1) := by decide +kernel
theorem d_S_placeAhead_102 : decode b_S_placeAhead 102 = .ok (.lload 4, 2) := by decide +kernel
theorem d_S_placeAhead_104 : decode b_S_placeAhead 104 = .ok (.lsub, 1) := by decide +kernel
theorem d_S_placeAhead_105 : decode b_S_placeAhead 105 = .ok (.lreturn, 1) := by decide +kernel
theorem d_S_placeAhead_106 : decode b_S_placeAhead 106 = .ok (.aload_n 3, 1) := by decide +kernel
theorem d_S_placeAhead_107 : decode b_S_placeAhead 107 = .ok (.getfield 58, 3) := by decide +kernel
theorem d_S_placeAhead_110 : decode b_S_placeAhead 110 = .ok (.astore 9, 2) := by decide +kernel
theorem d_S_placeAhead_112 : decode b_S_placeAhead 112 = .ok (.aload 9, 2) := by decide +kernel
theorem d_S_placeAhead_114 : decode b_S_placeAhead 114 = .ok (.ifnonnull 7, 3) := by decide +kernel
theorem d_S_placeAhead_117 : decode b_S_placeAhead 117 = .ok (.ldc2_w 196, 3) := by decide +kernel
theorem d_S_placeAhead_120 : decode b_S_placeAhead 120 = .ok (.lreturn, 1) := by decide +kernel
theorem d_S_placeAhead_121 : decode b_S_placeAhead 121 = .ok (.aload_n 3, 1) := by decide +kernel
theorem d_S_placeAhead_122 : decode b_S_placeAhead 122 = .ok (.lload 7, 2) := by decide +kernel
theorem d_S_placeAhead_124 : decode b_S_placeAhead 124 = .ok (.invokevirtual 174, 3) := by decide +kernel
theorem d_S_placeAhead_127 : decode b_S_placeAhead 127 = .ok (.lload 4, 2) := by decide +kernel
theorem d_S_placeAhead_129 : decode b_S_placeAhead 129 = .ok (.lsub, 1) := by decide +kernel
theorem d_S_placeAhead_130 : decode b_S_placeAhead 130 = .ok (.aload_n 3, 1) := by decide +kernel
theorem d_S_placeAhead_131 : decode b_S_placeAhead 131 = .ok (.getfield 203, 3) := by decide +kernel
theorem d_S_placeAhead_134 : decode b_S_placeAhead 134 = .ok (.lsub, 1) := by decide +kernel
theorem d_S_placeAhead_135 : decode b_S_placeAhead 135 = .ok (.lstore 10, 2) := by decide +kernel
theorem d_S_placeAhead_137 : decode b_S_placeAhead 137 = .ok (.aload 9, 2) := by decide +kernel
theorem d_S_placeAhead_139 : decode b_S_placeAhead 139 = .ok (.lload 7, 2) := by decide +kernel
theorem d_S_placeAhead_141 : decode b_S_placeAhead 141 = .ok (.invokevirtual 174, 3) := by decide +kernel
theorem d_S_placeAhead_144 : decode b_S_placeAhead 144 = .ok (.lload 10, 2) := by decide +kernel
theorem d_S_placeAhead_146 : decode b_S_placeAhead 146 = .ok (.lsub, 1) := by decide +kernel
theorem d_S_placeAhead_147 : decode b_S_placeAhead 147 = .ok (.lstore 4, 2) := by decide +kernel
theorem d_S_placeAhead_149 : decode b_S_placeAhead 149 = .ok (.aload 9, 2) := by decide +kernel
theorem d_S_placeAhead_151 : decode b_S_placeAhead 151 = .ok (.astore_n 3, 1) := by decide +kernel
