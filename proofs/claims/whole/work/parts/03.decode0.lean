theorem d_S_init_0 : decode b_S_init 0 = .ok (.aload_n 0, 1) := by decide +kernel
theorem d_S_init_1 : decode b_S_init 1 = .ok (.invokespecial 1, 3) := by decide +kernel
theorem d_S_init_4 : decode b_S_init 4 = .ok (.aload_n 0, 1) := by decide +kernel
theorem d_S_init_5 : decode b_S_init 5 = .ok (.bipush 12, 2) := by decide +kernel
theorem d_S_init_7 : decode b_S_init 7 = .ok (.anewarray 9, 3) := by decide +kernel
theorem d_S_init_10 : decode b_S_init 10 = .ok (.putfield 11, 3) := by decide +kernel
theorem d_S_init_13 : decode b_S_init 13 = .ok (.aload_n 0, 1) := by decide +kernel
theorem d_S_init_14 : decode b_S_init 14 = .ok (.iconst 0, 1) := by decide +kernel
theorem d_S_init_15 : decode b_S_init 15 = .ok (.putfield 15, 3) := by decide +kernel
theorem d_S_init_18 : decode b_S_init 18 = .ok (.aload_n 0, 1) := by decide +kernel
theorem d_S_init_19 : decode b_S_init 19 = .ok (.bipush 60, 2) := by decide +kernel
theorem d_S_init_21 : decode b_S_init 21 = .ok (.anewarray 19, 3) := by decide +kernel
theorem d_S_init_24 : decode b_S_init 24 = .ok (.putfield 21, 3) := by decide +kernel
theorem d_S_init_27 : decode b_S_init 27 = .ok (.aload_n 0, 1) := by decide +kernel
theorem d_S_init_28 : decode b_S_init 28 = .ok (.iconst 0, 1) := by decide +kernel
theorem d_S_init_29 : decode b_S_init 29 = .ok (.putfield 25, 3) := by decide +kernel
theorem d_S_init_32 : decode b_S_init 32 = .ok (.aload_n 0, 1) := by decide +kernel
theorem d_S_init_33 : decode b_S_init 33 = .ok (.new 28, 3) := by decide +kernel
theorem d_S_init_36 : decode b_S_init 36 = .ok (.dup, 1) := by decide +kernel
theorem d_S_init_37 : decode b_S_init 37 = .ok (.invokespecial 30, 3) := by decide +kernel
theorem d_S_init_40 : decode b_S_init 40 = .ok (.putfield 31, 3) := by decide +kernel
theorem d_S_init_43 : decode b_S_init 43 = .ok (.aload_n 0, 1) := by decide +kernel
theorem d_S_init_44 : decode b_S_init 44 = .ok (.lconst 0, 1) := by decide +kernel
theorem d_S_init_45 : decode b_S_init 45 = .ok (.putfield 35, 3) := by decide +kernel
theorem d_S_init_48 : decode b_S_init 48 = .ok (.return_, 1) := by decide +kernel
theorem d_E_init_0 : decode b_E_init 0 = .ok (.aload_n 0, 1) := by decide +kernel
theorem d_E_init_1 : decode b_E_init 1 = .ok (.invokespecial 3, 3) := by decide +kernel
theorem d_E_init_4 : decode b_E_init 4 = .ok (.aload_n 0, 1) := by decide +kernel
theorem d_E_init_5 : decode b_E_init 5 = .ok (.sipush 1600, 3) := by decide +kernel
theorem d_E_init_8 : decode b_E_init 8 = .ok (.newarray .int, 2) := by decide +kernel
theorem d_E_init_10 : decode b_E_init 10 = .ok (.putfield 11, 3) := by decide +kernel
theorem d_E_init_13 : decode b_E_init 13 = .ok (.aload_n 0, 1) := by decide +kernel
theorem d_E_init_14 : decode b_E_init 14 = .ok (.iconst 0, 1) := by decide +kernel
theorem d_E_init_15 : decode b_E_init 15 = .ok (.putfield 15, 3) := by decide +kernel
theorem d_E_init_18 : decode b_E_init 18 = .ok (.aload_n 0, 1) := by decide +kernel
theorem d_E_init_19 : decode b_E_init 19 = .ok (.iconst 0, 1) := by decide +kernel
theorem d_E_init_20 : decode b_E_init 20 = .ok (.putfield 19, 3) := by decide +kernel
theorem d_E_init_23 : decode b_E_init 23 = .ok (.return_, 1) := by decide +kernel
theorem d_S_belt_0 : decode b_S_belt 0 = .ok (.lload_n 1, 1) := by decide +kernel
theorem d_S_belt_1 : decode b_S_belt 1 = .ok (.ldc2_w 39, 3) := by decide +kernel
theorem d_S_belt_4 : decode b_S_belt 4 = .ok (.lcmp, 1) := by decide +kernel
theorem d_S_belt_5 : decode b_S_belt 5 = .ok (.ifCond .lt 11, 3) := by decide +kernel
theorem d_S_belt_8 : decode b_S_belt 8 = .ok (.lload_n 1, 1) := by decide +kernel
theorem d_S_belt_9 : decode b_S_belt 9 = .ok (.ldc2_w 41, 3) := by decide +kernel
theorem d_S_belt_12 : decode b_S_belt 12 = .ok (.lcmp, 1) := by decide +kernel
theorem d_S_belt_13 : decode b_S_belt 13 = .ok (.ifCond .le 6, 3) := by decide +kernel
theorem d_S_belt_16 : decode b_S_belt 16 = .ok (.bipush (-12), 2) := by decide +kernel
theorem d_S_belt_18 : decode b_S_belt 18 = .ok (.ireturn, 1) := by decide +kernel
theorem d_S_belt_19 : decode b_S_belt 19 = .ok (.lload_n 3, 1) := by decide +kernel
theorem d_S_belt_20 : decode b_S_belt 20 = .ok (.lconst 1, 1) := by decide +kernel
theorem d_S_belt_21 : decode b_S_belt 21 = .ok (.lcmp, 1) := by decide +kernel
theorem d_S_belt_22 : decode b_S_belt 22 = .ok (.ifCond .lt 11, 3) := by decide +kernel
theorem d_S_belt_25 : decode b_S_belt 25 = .ok (.lload_n 3, 1) := by decide +kernel
theorem d_S_belt_26 : decode b_S_belt 26 = .ok (.ldc2_w 43, 3) := by decide +kernel
theorem d_S_belt_29 : decode b_S_belt 29 = .ok (.lcmp, 1) := by decide +kernel
theorem d_S_belt_30 : decode b_S_belt 30 = .ok (.ifCond .le 6, 3) := by decide +kernel
theorem d_S_belt_33 : decode b_S_belt 33 = .ok (.bipush (-12), 2) := by decide +kernel
theorem d_S_belt_35 : decode b_S_belt 35 = .ok (.ireturn, 1) := by decide +kernel
theorem d_S_belt_36 : decode b_S_belt 36 = .ok (.aload_n 0, 1) := by decide +kernel
theorem d_S_belt_37 : decode b_S_belt 37 = .ok (.getfield 15, 3) := by decide +kernel
theorem d_S_belt_40 : decode b_S_belt 40 = .ok (.bipush 12, 2) := by decide +kernel
theorem d_S_belt_42 : decode b_S_belt 42 = .ok (.if_icmp .lt 6, 3) := by decide +kernel
theorem d_S_belt_45 : decode b_S_belt 45 = .ok (.bipush (-14), 2) := by decide +kernel
theorem d_S_belt_47 : decode b_S_belt 47 = .ok (.ireturn, 1) := by decide +kernel
theorem d_S_belt_48 : decode b_S_belt 48 = .ok (.new 9, 3) := by decide +kernel
theorem d_S_belt_51 : decode b_S_belt 51 = .ok (.dup, 1) := by decide +kernel
theorem d_S_belt_52 : decode b_S_belt 52 = .ok (.aload_n 0, 1) := by decide +kernel
theorem d_S_belt_53 : decode b_S_belt 53 = .ok (.getfield 15, 3) := by decide +kernel
theorem d_S_belt_56 : decode b_S_belt 56 = .ok (.lload_n 1, 1) := by decide +kernel
theorem d_S_belt_57 : decode b_S_belt 57 = .ok (.lload_n 3, 1) := by decide +kernel
theorem d_S_belt_58 : decode b_S_belt 58 = .ok (.invokespecial 45, 3) := by decide +kernel
theorem d_S_belt_61 : decode b_S_belt 61 = .ok (.astore 5, 2) := by decide +kernel
theorem d_S_belt_63 : decode b_S_belt 63 = .ok (.aload 5, 2) := by decide +kernel
theorem d_S_belt_65 : decode b_S_belt 65 = .ok (.invokevirtual 48, 3) := by decide +kernel
theorem d_S_belt_68 : decode b_S_belt 68 = .ok (.aload_n 0, 1) := by decide +kernel
theorem d_S_belt_69 : decode b_S_belt 69 = .ok (.getfield 11, 3) := by decide +kernel
theorem d_S_belt_72 : decode b_S_belt 72 = .ok (.aload_n 0, 1) := by decide +kernel
theorem d_S_belt_73 : decode b_S_belt 73 = .ok (.getfield 15, 3) := by decide +kernel
theorem d_S_belt_76 : decode b_S_belt 76 = .ok (.aload 5, 2) := by decide +kernel
theorem d_S_belt_78 : decode b_S_belt 78 = .ok (.aastore, 1) := by decide +kernel
theorem d_S_belt_79 : decode b_S_belt 79 = .ok (.aload_n 0, 1) := by decide +kernel
theorem d_S_belt_80 : decode b_S_belt 80 = .ok (.dup, 1) := by decide +kernel
theorem d_S_belt_81 : decode b_S_belt 81 = .ok (.getfield 15, 3) := by decide +kernel
theorem d_S_belt_84 : decode b_S_belt 84 = .ok (.iconst 1, 1) := by decide +kernel
theorem d_S_belt_85 : decode b_S_belt 85 = .ok (.iadd, 1) := by decide +kernel
theorem d_S_belt_86 : decode b_S_belt 86 = .ok (.putfield 15, 3) := by decide +kernel
theorem d_S_belt_89 : decode b_S_belt 89 = .ok (.aload 5, 2) := by decide +kernel
theorem d_S_belt_91 : decode b_S_belt 91 = .ok (.getfield 51, 3) := by decide +kernel
theorem d_S_belt_94 : decode b_S_belt 94 = .ok (.ireturn, 1) := by decide +kernel
theorem d_B_init_0 : decode b_B_init 0 = .ok (.aload_n 0, 1) := by decide +kernel
theorem d_B_init_1 : decode b_B_init 1 = .ok (.invokespecial 3, 3) := by decide +kernel
theorem d_B_init_4 : decode b_B_init 4 = .ok (.aload_n 0, 1) := by decide +kernel
theorem d_B_init_5 : decode b_B_init 5 = .ok (.aconst_null, 1) := by decide +kernel
theorem d_B_init_6 : decode b_B_init 6 = .ok (.putfield 9, 3) := by decide +kernel
theorem d_B_init_9 : decode b_B_init 9 = .ok (.aload_n 0, 1) := by decide +kernel
theorem d_B_init_10 : decode b_B_init 10 = .ok (.iconst 1, 1) := by decide +kernel
theorem d_B_init_11 : decode b_B_init 11 = .ok (.putfield 15, 3) := by decide +kernel
theorem d_B_init_14 : decode b_B_init 14 = .ok (.aload_n 0, 1) := by decide +kernel
theorem d_B_init_15 : decode b_B_init 15 = .ok (.iconst 0, 1) := by decide +kernel
theorem d_B_init_16 : decode b_B_init 16 = .ok (.putfield 19, 3) := by decide +kernel
theorem d_B_init_19 : decode b_B_init 19 = .ok (.aload_n 0, 1) := by decide +kernel
theorem d_B_init_20 : decode b_B_init 20 = .ok (.lconst 0, 1) := by decide +kernel
theorem d_B_init_21 : decode b_B_init 21 = .ok (.putfield 23, 3) := by decide +kernel
theorem d_B_init_24 : decode b_B_init 24 = .ok (.aload_n 0, 1) := by decide +kernel
theorem d_B_init_25 : decode b_B_init 25 = .ok (.bipush 8, 2) := by decide +kernel
theorem d_B_init_27 : decode b_B_init 27 = .ok (.putfield 27, 3) := by decide +kernel
theorem d_B_init_30 : decode b_B_init 30 = .ok (.aload_n 0, 1) := by decide +kernel
theorem d_B_init_31 : decode b_B_init 31 = .ok (.lconst 0, 1) := by decide +kernel
theorem d_B_init_32 : decode b_B_init 32 = .ok (.putfield 30, 3) := by decide +kernel
theorem d_B_init_35 : decode b_B_init 35 = .ok (.aload_n 0, 1) := by decide +kernel
theorem d_B_init_36 : decode b_B_init 36 = .ok (.bipush 8, 2) := by decide +kernel
theorem d_B_init_38 : decode b_B_init 38 = .ok (.newarray .int, 2) := by decide +kernel
theorem d_B_init_40 : decode b_B_init 40 = .ok (.putfield 33, 3) := by decide +kernel
theorem d_B_init_43 : decode b_B_init 43 = .ok (.aload_n 0, 1) := by decide +kernel
theorem d_B_init_44 : decode b_B_init 44 = .ok (.bipush 8, 2) := by decide +kernel
theorem d_B_init_46 : decode b_B_init 46 = .ok (.newarray .long, 2) := by decide +kernel
theorem d_B_init_48 : decode b_B_init 48 = .ok (.putfield 37, 3) := by decide +kernel
theorem d_B_init_51 : decode b_B_init 51 = .ok (.aload_n 0, 1) := by decide +kernel
theorem d_B_init_52 : decode b_B_init 52 = .ok (.bipush 8, 2) := by decide +kernel
theorem d_B_init_54 : decode b_B_init 54 = .ok (.newarray .long, 2) := by decide +kernel
theorem d_B_init_56 : decode b_B_init 56 = .ok (.putfield 41, 3) := by decide +kernel
theorem d_B_init_59 : decode b_B_init 59 = .ok (.aload_n 0, 1) := by decide +kernel
theorem d_B_init_60 : decode b_B_init 60 = .ok (.iload_n 1, 1) := by decide +kernel
theorem d_B_init_61 : decode b_B_init 61 = .ok (.putfield 44, 3) := by decide +kernel
theorem d_B_init_64 : decode b_B_init 64 = .ok (.aload_n 0, 1) := by decide +kernel
theorem d_B_init_65 : decode b_B_init 65 = .ok (.lload_n 2, 1) := by decide +kernel
theorem d_B_init_66 : decode b_B_init 66 = .ok (.putfield 47, 3) := by decide +kernel
theorem d_B_init_69 : decode b_B_init 69 = .ok (.aload_n 0, 1) := by decide +kernel
theorem d_B_init_70 : decode b_B_init 70 = .ok (.lload 4, 2) := by decide +kernel
theorem d_B_init_72 : decode b_B_init 72 = .ok (.putfield 50, 3) := by decide +kernel
theorem d_B_init_75 : decode b_B_init 75 = .ok (.aload_n 0, 1) := by decide +kernel
theorem d_B_init_76 : decode b_B_init 76 = .ok (.lload_n 2, 1) := by decide +kernel
theorem d_B_init_77 : decode b_B_init 77 = .ok (.ldc2_w 53, 3) := by decide +kernel
theorem d_B_init_80 : decode b_B_init 80 = .ok (.ldiv, 1) := by decide +kernel
theorem d_B_init_81 : decode b_B_init 81 = .ok (.putfield 55, 3) := by decide +kernel
theorem d_B_init_84 : decode b_B_init 84 = .ok (.return_, 1) := by decide +kernel
theorem d_B_layStages_0 : decode b_B_layStages 0 = .ok (.aload_n 0, 1) := by decide +kernel
theorem d_B_layStages_1 : decode b_B_layStages 1 = .ok (.getfield 30, 3) := by decide +kernel
theorem d_B_layStages_4 : decode b_B_layStages 4 = .ok (.lstore_n 1, 1) := by decide +kernel
theorem d_B_layStages_5 : decode b_B_layStages 5 = .ok (.iconst 0, 1) := by decide +kernel
theorem d_B_layStages_6 : decode b_B_layStages 6 = .ok (.istore_n 3, 1) := by decide +kernel
theorem d_B_layStages_7 : decode b_B_layStages 7 = .ok (.iload_n 3, 1) := by decide +kernel
theorem d_B_layStages_8 : decode b_B_layStages 8 = .ok (.bipush 8, 2) := by decide +kernel
theorem d_B_layStages_10 : decode b_B_layStages 10 = .ok (.if_icmp .ge 96, 3) := by decide +kernel
theorem d_B_layStages_13 : decode b_B_layStages 13 = .ok (.aload_n 0, 1) := by decide +kernel
theorem d_B_layStages_14 : decode b_B_layStages 14 = .ok (.getfield 15, 3) := by decide +kernel
theorem d_B_layStages_17 : decode b_B_layStages 17 = .ok (.ifCond .eq 14, 3) := by decide +kernel
theorem d_B_layStages_20 : decode b_B_layStages 20 = .ok (.aload_n 0, 1) := by decide +kernel
theorem d_B_layStages_21 : decode b_B_layStages 21 = .ok (.getfield 27, 3) := by decide +kernel
theorem d_B_layStages_24 : decode b_B_layStages 24 = .ok (.iload_n 3, 1) := by decide +kernel
theorem d_B_layStages_25 : decode b_B_layStages 25 = .ok (.iadd, 1) := by decide +kernel
theorem d_B_layStages_26 : decode b_B_layStages 26 = .ok (.iconst 1, 1) := by decide +kernel
theorem d_B_layStages_27 : decode b_B_layStages 27 = .ok (.iadd, 1) := by decide +kernel
theorem d_B_layStages_28 : decode b_B_layStages 28 = .ok (.goto 11, 3) := by decide +kernel
theorem d_B_layStages_31 : decode b_B_layStages 31 = .ok (.aload_n 0, 1) := by decide +kernel
theorem d_B_layStages_32 : decode b_B_layStages 32 = .ok (.getfield 27, 3) := by decide +kernel
theorem d_B_layStages_35 : decode b_B_layStages 35 = .ok (.iload_n 3, 1) := by decide +kernel
theorem d_B_layStages_36 : decode b_B_layStages 36 = .ok (.isub, 1) := by decide +kernel
theorem d_B_layStages_37 : decode b_B_layStages 37 = .ok (.iconst 1, 1) := by decide +kernel
theorem d_B_layStages_38 : decode b_B_layStages 38 = .ok (.isub, 1) := by decide +kernel
theorem d_B_layStages_39 : decode b_B_layStages 39 = .ok (.istore 4, 2) := by decide +kernel
theorem d_B_layStages_41 : decode b_B_layStages 41 = .ok (.aload_n 0, 1) := by decide +kernel
theorem d_B_layStages_42 : decode b_B_layStages 42 = .ok (.getfield 33, 3) := by decide +kernel
theorem d_B_layStages_45 : decode b_B_layStages 45 = .ok (.iload_n 3, 1) := by decide +kernel
theorem d_B_layStages_46 : decode b_B_layStages 46 = .ok (.iconst 0, 1) := by decide +kernel
theorem d_B_layStages_47 : decode b_B_layStages 47 = .ok (.bipush 8, 2) := by decide +kernel
theorem d_B_layStages_49 : decode b_B_layStages 49 = .ok (.iload 4, 2) := by decide +kernel
theorem d_B_layStages_51 : decode b_B_layStages 51 = .ok (.invokestatic 69, 3) := by decide +kernel
theorem d_B_layStages_54 : decode b_B_layStages 54 = .ok (.invokestatic 75, 3) := by decide +kernel
theorem d_B_layStages_57 : decode b_B_layStages 57 = .ok (.iastore, 1) := by decide +kernel
theorem d_B_layStages_58 : decode b_B_layStages 58 = .ok (.aload_n 0, 1) := by decide +kernel
theorem d_B_layStages_59 : decode b_B_layStages 59 = .ok (.getfield 37, 3) := by decide +kernel
theorem d_B_layStages_62 : decode b_B_layStages 62 = .ok (.iload_n 3, 1) := by decide +kernel
theorem d_B_layStages_63 : decode b_B_layStages 63 = .ok (.aload_n 0, 1) := by decide +kernel
theorem d_B_layStages_64 : decode b_B_layStages 64 = .ok (.getfield 50, 3) := by decide +kernel
theorem d_B_layStages_67 : decode b_B_layStages 67 = .ok (.aload_n 0, 1) := by decide +kernel
theorem d_B_layStages_68 : decode b_B_layStages 68 = .ok (.getfield 33, 3) := by decide +kernel
theorem d_B_layStages_71 : decode b_B_layStages 71 = .ok (.iload_n 3, 1) := by decide +kernel
theorem d_B_layStages_72 : decode b_B_layStages 72 = .ok (.iaload, 1) := by decide +kernel
theorem d_B_layStages_73 : decode b_B_layStages 73 = .ok (.i2l, 1) := by decide +kernel
theorem d_B_layStages_74 : decode b_B_layStages 74 = .ok (.lmul, 1) := by decide +kernel
theorem d_B_layStages_75 : decode b_B_layStages 75 = .ok (.ldc2_w 78, 3) := by decide +kernel
theorem d_B_layStages_78 : decode b_B_layStages 78 = .ok (.ldiv, 1) := by decide +kernel
theorem d_B_layStages_79 : decode b_B_layStages 79 = .ok (.lastore, 1) := by decide +kernel
theorem d_B_layStages_80 : decode b_B_layStages 80 = .ok (.aload_n 0, 1) := by decide +kernel
theorem d_B_layStages_81 : decode b_B_layStages 81 = .ok (.getfield 41, 3) := by decide +kernel
theorem d_B_layStages_84 : decode b_B_layStages 84 = .ok (.iload_n 3, 1) := by decide +kernel
theorem d_B_layStages_85 : decode b_B_layStages 85 = .ok (.lload_n 1, 1) := by decide +kernel
theorem d_B_layStages_86 : decode b_B_layStages 86 = .ok (.lastore, 1) := by decide +kernel
theorem d_B_layStages_87 : decode b_B_layStages 87 = .ok (.lload_n 1, 1) := by decide +kernel
theorem d_B_layStages_88 : decode b_B_layStages 88 = .ok (.aload_n 0, 1) := by decide +kernel
theorem d_B_layStages_89 : decode b_B_layStages 89 = .ok (.getfield 37, 3) := by decide +kernel
theorem d_B_layStages_92 : decode b_B_layStages 92 = .ok (.iload_n 3, 1) := by decide +kernel
theorem d_B_layStages_93 : decode b_B_layStages 93 = .ok (.laload, 1) := by decide +kernel
theorem d_B_layStages_94 : decode b_B_layStages 94 = .ok (.ldc2_w 80, 3) := by decide +kernel
theorem d_B_layStages_97 : decode b_B_layStages 97 = .ok (.lmul, 1) := by decide +kernel
theorem d_B_layStages_98 : decode b_B_layStages 98 = .ok (.ladd, 1) := by decide +kernel
theorem d_B_layStages_99 : decode b_B_layStages 99 = .ok (.lstore_n 1, 1) := by decide +kernel
theorem d_B_layStages_100 : decode b_B_layStages 100 = .ok (.iinc 3 1, 3) := by decide +kernel
theorem d_B_layStages_103 : decode b_B_layStages 103 = .ok (.goto (-96), 3) := by decide +kernel
theorem d_B_layStages_106 : decode b_B_layStages 106 = .ok (.return_, 1) := by decide +kernel
theorem d_S_join_0 : decode b_S_join 0 = .ok (.aload_n 0, 1) := by decide +kernel
theorem d_S_join_1 : decode b_S_join 1 = .ok (.iload_n 1, 1) := by decide +kernel
theorem d_S_join_2 : decode b_S_join 2 = .ok (.invokevirtual 54, 3) := by decide +kernel
theorem d_S_join_5 : decode b_S_join 5 = .ok (.astore_n 3, 1) := by decide +kernel
theorem d_S_join_6 : decode b_S_join 6 = .ok (.aload_n 0, 1) := by decide +kernel
theorem d_S_join_7 : decode b_S_join 7 = .ok (.iload_n 2, 1) := by decide +kernel
theorem d_S_join_8 : decode b_S_join 8 = .ok (.invokevirtual 54, 3) := by decide +kernel
theorem d_S_join_11 : decode b_S_join 11 = .ok (.astore 4, 2) := by decide +kernel
theorem d_S_join_13 : decode b_S_join 13 = .ok (.aload_n 3, 1) := by decide +kernel
theorem d_S_join_14 : decode b_S_join 14 = .ok (.ifnull 8, 3) := by decide +kernel
theorem d_S_join_17 : decode b_S_join 17 = .ok (.aload 4, 2) := by decide +kernel
theorem d_S_join_19 : decode b_S_join 19 = .ok (.ifnonnull 6, 3) := by decide +kernel
theorem d_S_join_22 : decode b_S_join 22 = .ok (.bipush (-11), 2) := by decide +kernel
theorem d_S_join_24 : decode b_S_join 24 = .ok (.ireturn, 1) := by decide +kernel
theorem d_S_join_25 : decode b_S_join 25 = .ok (.iload_n 2, 1) := by decide +kernel
theorem d_S_join_26 : decode b_S_join 26 = .ok (.iload_n 1, 1) := by decide +kernel
theorem d_S_join_27 : decode b_S_join 27 = .ok (.if_icmp .gt 6, 3) := by decide +kernel
theorem d_S_join_30 : decode b_S_join 30 = .ok (.bipush (-12), 2) := by decide +kernel
theorem d_S_join_32 : decode b_S_join 32 = .ok (.ireturn, 1) := by decide +kernel
theorem d_S_join_33 : decode b_S_join 33 = .ok (.aload_n 3, 1) := by decide +kernel
theorem d_S_join_34 : decode b_S_join 34 = .ok (.getfield 58, 3) := by decide +kernel
theorem d_S_join_37 : decode b_S_join 37 = .ok (.ifnonnull 7, 3) := by decide +kernel
theorem d_S_join_40 : decode b_S_join 40 = .ok (.iconst (-1), 1) := by decide +kernel
theorem d_S_join_41 : decode b_S_join 41 = .ok (.goto 10, 3) := by decide +kernel
theorem d_S_join_44 : decode b_S_join 44 = .ok (.aload_n 3, 1) := by decide +kernel
theorem d_S_join_45 : decode b_S_join 45 = .ok (.getfield 58, 3) := by decide +kernel
theorem d_S_join_48 : decode b_S_join 48 = .ok (.getfield 51, 3) := by decide +kernel
theorem d_S_join_51 : decode b_S_join 51 = .ok (.istore 5, 2) := by decide +kernel
theorem d_S_join_53 : decode b_S_join 53 = .ok (.aload_n 3, 1) := by decide +kernel
theorem d_S_join_54 : decode b_S_join 54 = .ok (.aload 4, 2) := by decide +kernel
theorem d_S_join_56 : decode b_S_join 56 = .ok (.putfield 58, 3) := by decide +kernel
theorem d_S_join_59 : decode b_S_join 59 = .ok (.iload 5, 2) := by decide +kernel
theorem d_S_join_61 : decode b_S_join 61 = .ok (.ireturn, 1) := by decide +kernel
theorem d_S_beltNumbered_0 : decode b_S_beltNumbered 0 = .ok (.iload_n 1, 1) := by decide +kernel
theorem d_S_beltNumbered_1 : decode b_S_beltNumbered 1 = .ok (.ifCond .lt 20, 3) := by decide +kernel
theorem d_S_beltNumbered_4 : decode b_S_beltNumbered 4 = .ok (.iload_n 1, 1) := by decide +kernel
theorem d_S_beltNumbered_5 : decode b_S_beltNumbered 5 = .ok (.aload_n 0, 1) := by decide +kernel
theorem d_S_beltNumbered_6 : decode b_S_beltNumbered 6 = .ok (.getfield 15, 3) := by decide +kernel
theorem d_S_beltNumbered_9 : decode b_S_beltNumbered 9 = .ok (.if_icmp .ge 12, 3) := by decide +kernel
theorem d_S_beltNumbered_12 : decode b_S_beltNumbered 12 = .ok (.aload_n 0, 1) := by decide +kernel
theorem d_S_beltNumbered_13 : decode b_S_beltNumbered 13 = .ok (.getfield 11, 3) := by decide +kernel
theorem d_S_beltNumbered_16 : decode b_S_beltNumbered 16 = .ok (.iload_n 1, 1) := by decide +kernel
theorem d_S_beltNumbered_17 : decode b_S_beltNumbered 17 = .ok (.aaload, 1) := by decide +kernel
theorem d_S_beltNumbered_18 : decode b_S_beltNumbered 18 = .ok (.goto 4, 3) := by decide +kernel
theorem d_S_beltNumbered_21 : decode b_S_beltNumbered 21 = .ok (.aconst_null, 1) := by decide +kernel
theorem d_S_beltNumbered_22 : decode b_S_beltNumbered 22 = .ok (.areturn, 1) := by decide +kernel
theorem d_S_feed_0 : decode b_S_feed 0 = .ok (.aload_n 0, 1) := by decide +kernel
theorem d_S_feed_1 : decode b_S_feed 1 = .ok (.iload_n 1, 1) := by decide +kernel
theorem d_S_feed_2 : decode b_S_feed 2 = .ok (.invokevirtual 54, 3) := by decide +kernel
theorem d_S_feed_5 : decode b_S_feed 5 = .ok (.astore 6, 2) := by decide +kernel
theorem d_S_feed_7 : decode b_S_feed 7 = .ok (.aload 6, 2) := by decide +kernel
theorem d_S_feed_9 : decode b_S_feed 9 = .ok (.ifnonnull 6, 3) := by decide +kernel
theorem d_S_feed_12 : decode b_S_feed 12 = .ok (.bipush (-11), 2) := by decide +kernel
theorem d_S_feed_14 : decode b_S_feed 14 = .ok (.ireturn, 1) := by decide +kernel
theorem d_S_feed_15 : decode b_S_feed 15 = .ok (.lload_n 2, 1) := by decide +kernel
theorem d_S_feed_16 : decode b_S_feed 16 = .ok (.lconst 1, 1) := by decide +kernel
theorem d_S_feed_17 : decode b_S_feed 17 = .ok (.lcmp, 1) := by decide +kernel
theorem d_S_feed_18 : decode b_S_feed 18 = .ok (.ifCond .lt 11, 3) := by decide +kernel
theorem d_S_feed_21 : decode b_S_feed 21 = .ok (.lload_n 2, 1) := by decide +kernel
theorem d_S_feed_22 : decode b_S_feed 22 = .ok (.ldc2_w 39, 3) := by decide +kernel
theorem d_S_feed_25 : decode b_S_feed 25 = .ok (.lcmp, 1) := by decide +kernel
theorem d_S_feed_26 : decode b_S_feed 26 = .ok (.ifCond .le 6, 3) := by decide +kernel
theorem d_S_feed_29 : decode b_S_feed 29 = .ok (.bipush (-12), 2) := by decide +kernel
theorem d_S_feed_31 : decode b_S_feed 31 = .ok (.ireturn, 1) := by decide +kernel
theorem d_S_feed_32 : decode b_S_feed 32 = .ok (.aload_n 0, 1) := by decide +kernel
theorem d_S_feed_33 : decode b_S_feed 33 = .ok (.lload 4, 2) := by decide +kernel
theorem d_S_feed_35 : decode b_S_feed 35 = .ok (.invokevirtual 62, 3) := by decide +kernel
theorem d_S_feed_38 : decode b_S_feed 38 = .ok (.ifCond .ne 6, 3) := by decide +kernel
theorem d_S_feed_41 : decode b_S_feed 41 = .ok (.bipush (-12), 2) := by decide +kernel
theorem d_S_feed_43 : decode b_S_feed 43 = .ok (.ireturn, 1) := by decide +kernel
theorem d_S_feed_44 : decode b_S_feed 44 = .ok (.aload_n 0, 1) := by decide +kernel
theorem d_S_feed_45 : decode b_S_feed 45 = .ok (.getfield 25, 3) := by decide +kernel
theorem d_S_feed_48 : decode b_S_feed 48 = .ok (.bipush 60, 2) := by decide +kernel
theorem d_S_feed_50 : decode b_S_feed 50 = .ok (.if_icmp .lt 6, 3) := by decide +kernel
theorem d_S_feed_53 : decode b_S_feed 53 = .ok (.bipush (-14), 2) := by decide +kernel
theorem d_S_feed_55 : decode b_S_feed 55 = .ok (.ireturn, 1) := by decide +kernel
theorem d_S_feed_56 : decode b_S_feed 56 = .ok (.new 19, 3) := by decide +kernel
theorem d_S_feed_59 : decode b_S_feed 59 = .ok (.dup, 1) := by decide +kernel
theorem d_S_feed_60 : decode b_S_feed 60 = .ok (.aload_n 0, 1) := by decide +kernel
theorem d_S_feed_61 : decode b_S_feed 61 = .ok (.getfield 25, 3) := by decide +kernel
theorem d_S_feed_64 : decode b_S_feed 64 = .ok (.iconst 1, 1) := by decide +kernel
theorem d_S_feed_65 : decode b_S_feed 65 = .ok (.iadd, 1) := by decide +kernel
theorem d_S_feed_66 : decode b_S_feed 66 = .ok (.lload_n 2, 1) := by decide +kernel
theorem d_S_feed_67 : decode b_S_feed 67 = .ok (.aload 6, 2) := by decide +kernel
theorem d_S_feed_69 : decode b_S_feed 69 = .ok (.lload 4, 2) := by decide +kernel
theorem d_S_feed_71 : decode b_S_feed 71 = .ok (.invokespecial 66, 3) := by decide +kernel
theorem d_S_feed_74 : decode b_S_feed 74 = .ok (.astore 7, 2) := by decide +kernel
theorem d_S_feed_76 : decode b_S_feed 76 = .ok (.lload 4, 2) := by decide +kernel
theorem d_S_feed_78 : decode b_S_feed 78 = .ok (.aload_n 0, 1) := by decide +kernel
theorem d_S_feed_79 : decode b_S_feed 79 = .ok (.getfield 35, 3) := by decide +kernel
theorem d_S_feed_82 : decode b_S_feed 82 = .ok (.lcmp, 1) := by decide +kernel
theorem d_S_feed_83 : decode b_S_feed 83 = .ok (.ifCond .ne 15, 3) := by decide +kernel
theorem d_S_feed_86 : decode b_S_feed 86 = .ok (.aload 7, 2) := by decide +kernel
theorem d_S_feed_88 : decode b_S_feed 88 = .ok (.aload 6, 2) := by decide +kernel
theorem d_S_feed_90 : decode b_S_feed 90 = .ok (.aload_n 0, 1) := by decide +kernel
theorem d_S_feed_91 : decode b_S_feed 91 = .ok (.getfield 35, 3) := by decide +kernel
theorem d_S_feed_94 : decode b_S_feed 94 = .ok (.lconst 0, 1) := by decide +kernel
theorem d_S_feed_95 : decode b_S_feed 95 = .ok (.invokevirtual 69, 3) := by decide +kernel
theorem d_S_feed_98 : decode b_S_feed 98 = .ok (.aload_n 0, 1) := by decide +kernel
theorem d_S_feed_99 : decode b_S_feed 99 = .ok (.getfield 21, 3) := by decide +kernel
theorem d_S_feed_102 : decode b_S_feed 102 = .ok (.aload_n 0, 1) := by decide +kernel
theorem d_S_feed_103 : decode b_S_feed 103 = .ok (.getfield 25, 3) := by decide +kernel
theorem d_S_feed_106 : decode b_S_feed 106 = .ok (.aload 7, 2) := by decide +kernel
theorem d_S_feed_108 : decode b_S_feed 108 = .ok (.aastore, 1) := by decide +kernel
theorem d_S_feed_109 : decode b_S_feed 109 = .ok (.aload_n 0, 1) := by decide +kernel
theorem d_S_feed_110 : decode b_S_feed 110 = .ok (.dup, 1) := by decide +kernel
theorem d_S_feed_111 : decode b_S_feed 111 = .ok (.getfield 25, 3) := by decide +kernel
theorem d_S_feed_114 : decode b_S_feed 114 = .ok (.iconst 1, 1) := by decide +kernel
theorem d_S_feed_115 : decode b_S_feed 115 = .ok (.iadd, 1) := by decide +kernel
theorem d_S_feed_116 : decode b_S_feed 116 = .ok (.putfield 25, 3) := by decide +kernel
theorem d_S_feed_119 : decode b_S_feed 119 = .ok (.aload 7, 2) := by decide +kernel
theorem d_S_feed_121 : decode b_S_feed 121 = .ok (.getfield 73, 3) := by decide +kernel
theorem d_S_feed_124 : decode b_S_feed 124 = .ok (.ireturn, 1) := by decide +kernel
theorem d_S_isNowOrLater_0 : decode b_S_isNowOrLater 0 = .ok (.lload_n 1, 1) := by decide +kernel
theorem d_S_isNowOrLater_1 : decode b_S_isNowOrLater 1 = .ok (.aload_n 0, 1) := by decide +kernel
theorem d_S_isNowOrLater_2 : decode b_S_isNowOrLater 2 = .ok (.getfield 35, 3) := by decide +kernel
theorem d_S_isNowOrLater_5 : decode b_S_isNowOrLater 5 = .ok (.lcmp, 1) := by decide +kernel
theorem d_S_isNowOrLater_6 : decode b_S_isNowOrLater 6 = .ok (.ifCond .lt 15, 3) := by decide +kernel
theorem d_S_isNowOrLater_9 : decode b_S_isNowOrLater 9 = .ok (.lload_n 1, 1) := by decide +kernel
theorem d_S_isNowOrLater_10 : decode b_S_isNowOrLater 10 = .ok (.ldc2_w 149, 3) := by decide +kernel
theorem d_S_isNowOrLater_13 : decode b_S_isNowOrLater 13 = .ok (.lcmp, 1) := by decide +kernel
theorem d_S_isNowOrLater_14 : decode b_S_isNowOrLater 14 = .ok (.ifCond .gt 7, 3) := by decide +kernel
theorem d_S_isNowOrLater_17 : decode b_S_isNowOrLater 17 = .ok (.iconst 1, 1) := by decide +kernel
theorem d_S_isNowOrLater_18 : decode b_S_isNowOrLater 18 = .ok (.goto 4, 3) := by decide +kernel
theorem d_S_isNowOrLater_21 : decode b_S_isNowOrLater 21 = .ok (.iconst 0, 1) := by decide +kernel
theorem d_S_isNowOrLater_22 : decode b_S_isNowOrLater 22 = .ok (.ireturn, 1) := by decide +kernel
theorem d_I_init_0 : decode b_I_init 0 = .ok (.aload_n 0, 1) := by decide +kernel
theorem d_I_init_1 : decode b_I_init 1 = .ok (.invokespecial 3, 3) := by decide +kernel
theorem d_I_init_4 : decode b_I_init 4 = .ok (.aload_n 0, 1) := by decide +kernel
theorem d_I_init_5 : decode b_I_init 5 = .ok (.iconst 1, 1) := by decide +kernel
theorem d_I_init_6 : decode b_I_init 6 = .ok (.putfield 9, 3) := by decide +kernel
theorem d_I_init_9 : decode b_I_init 9 = .ok (.aload_n 0, 1) := by decide +kernel
theorem d_I_init_10 : decode b_I_init 10 = .ok (.lconst 0, 1) := by decide +kernel
theorem d_I_init_11 : decode b_I_init 11 = .ok (.putfield 15, 3) := by decide +kernel
theorem d_I_init_14 : decode b_I_init 14 = .ok (.aload_n 0, 1) := by decide +kernel
theorem d_I_init_15 : decode b_I_init 15 = .ok (.iconst 0, 1) := by decide +kernel
theorem d_I_init_16 : decode b_I_init 16 = .ok (.putfield 19, 3) := by decide +kernel
theorem d_I_init_19 : decode b_I_init 19 = .ok (.aload_n 0, 1) := by decide +kernel
theorem d_I_init_20 : decode b_I_init 20 = .ok (.iconst 0, 1) := by decide +kernel
theorem d_I_init_21 : decode b_I_init 21 = .ok (.putfield 22, 3) := by decide +kernel
theorem d_I_init_24 : decode b_I_init 24 = .ok (.aload_n 0, 1) := by decide +kernel
theorem d_I_init_25 : decode b_I_init 25 = .ok (.iload_n 1, 1) := by decide +kernel
theorem d_I_init_26 : decode b_I_init 26 = .ok (.putfield 25, 3) := by decide +kernel
theorem d_I_init_29 : decode b_I_init 29 = .ok (.aload_n 0, 1) := by decide +kernel
theorem d_I_init_30 : decode b_I_init 30 = .ok (.lload_n 2, 1) := by decide +kernel
theorem d_I_init_31 : decode b_I_init 31 = .ok (.putfield 29, 3) := by decide +kernel
theorem d_I_init_34 : decode b_I_init 34 = .ok (.aload_n 0, 1) := by decide +kernel
theorem d_I_init_35 : decode b_I_init 35 = .ok (.aload 4, 2) := by decide +kernel
theorem d_I_init_37 : decode b_I_init 37 = .ok (.putfield 32, 3) := by decide +kernel
theorem d_I_init_40 : decode b_I_init 40 = .ok (.aload_n 0, 1) := by decide +kernel
theorem d_I_init_41 : decode b_I_init 41 = .ok (.lload 5, 2) := by decide +kernel
theorem d_I_init_43 : decode b_I_init 43 = .ok (.putfield 36, 3) := by decide +kernel
theorem d_I_init_46 : decode b_I_init 46 = .ok (.return_, 1) := by decide +kernel
theorem d_I_comeOnto_0 : decode b_I_comeOnto 0 = .ok (.aload_n 0, 1) := by decide +kernel
theorem d_I_comeOnto_1 : decode b_I_comeOnto 1 = .ok (.aload_n 1, 1) := by decide +kernel
theorem d_I_comeOnto_2 : decode b_I_comeOnto 2 = .ok (.putfield 32, 3) := by decide +kernel
theorem d_I_comeOnto_5 : decode b_I_comeOnto 5 = .ok (.aload_n 0, 1) := by decide +kernel
theorem d_I_comeOnto_6 : decode b_I_comeOnto 6 = .ok (.iconst 0, 1) := by decide +kernel
theorem d_I_comeOnto_7 : decode b_I_comeOnto 7 = .ok (.putfield 9, 3) := by decide +kernel
theorem d_I_comeOnto_10 : decode b_I_comeOnto 10 = .ok (.aload_n 0, 1) := by decide +kernel
theorem d_I_comeOnto_11 : decode b_I_comeOnto 11 = .ok (.aload_n 1, 1) := by decide +kernel
theorem d_I_comeOnto_12 : decode b_I_comeOnto 12 = .ok (.lload_n 2, 1) := by decide +kernel
theorem d_I_comeOnto_13 : decode b_I_comeOnto 13 = .ok (.invokevirtual 39, 3) := by decide +kernel
theorem d_I_comeOnto_16 : decode b_I_comeOnto 16 = .ok (.lload 4, 2) := by decide +kernel
theorem d_I_comeOnto_18 : decode b_I_comeOnto 18 = .ok (.lsub, 1) := by decide +kernel
theorem d_I_comeOnto_19 : decode b_I_comeOnto 19 = .ok (.putfield 15, 3) := by decide +kernel
theorem d_I_comeOnto_22 : decode b_I_comeOnto 22 = .ok (.aload_n 0, 1) := by decide +kernel
theorem d_I_comeOnto_23 : decode b_I_comeOnto 23 = .ok (.iconst 0, 1) := by decide +kernel
theorem d_I_comeOnto_24 : decode b_I_comeOnto 24 = .ok (.putfield 19, 3) := by decide +kernel
theorem d_I_comeOnto_27 : decode b_I_comeOnto 27 = .ok (.aload_n 0, 1) := by decide +kernel
theorem d_I_comeOnto_28 : decode b_I_comeOnto 28 = .ok (.iconst 0, 1) := by decide +kernel
theorem d_I_comeOnto_29 : decode b_I_comeOnto 29 = .ok (.putfield 22, 3) := by decide +kernel
theorem d_I_comeOnto_32 : decode b_I_comeOnto 32 = .ok (.aload_n 0, 1) := by decide +kernel
theorem d_I_comeOnto_33 : decode b_I_comeOnto 33 = .ok (.invokevirtual 45, 3) := by decide +kernel
theorem d_I_comeOnto_36 : decode b_I_comeOnto 36 = .ok (.return_, 1) := by decide +kernel
theorem d_B_wayAt_0 : decode b_B_wayAt 0 = .ok (.aload_n 0, 1) := by decide +kernel
theorem d_B_wayAt_1 : decode b_B_wayAt 1 = .ok (.lload_n 1, 1) := by decide +kernel
theorem d_B_wayAt_2 : decode b_B_wayAt 2 = .ok (.invokevirtual 82, 3) := by decide +kernel
theorem d_B_wayAt_5 : decode b_B_wayAt 5 = .ok (.istore_n 3, 1) := by decide +kernel
theorem d_B_wayAt_6 : decode b_B_wayAt 6 = .ok (.aload_n 0, 1) := by decide +kernel
theorem d_B_wayAt_7 : decode b_B_wayAt 7 = .ok (.getfield 41, 3) := by decide +kernel
theorem d_B_wayAt_10 : decode b_B_wayAt 10 = .ok (.iload_n 3, 1) := by decide +kernel
theorem d_B_wayAt_11 : decode b_B_wayAt 11 = .ok (.laload, 1) := by decide +kernel
theorem d_B_wayAt_12 : decode b_B_wayAt 12 = .ok (.lload_n 1, 1) := by decide +kernel
theorem d_B_wayAt_13 : decode b_B_wayAt 13 = .ok (.aload_n 0, 1) := by decide +kernel
theorem d_B_wayAt_14 : decode b_B_wayAt 14 = .ok (.getfield 23, 3) := by decide +kernel
theorem d_B_wayAt_17 : decode b_B_wayAt 17 = .ok (.lsub, 1) := by decide +kernel
theorem d_B_wayAt_18 : decode b_B_wayAt 18 = .ok (.iload_n 3, 1) := by decide +kernel
theorem d_B_wayAt_19 : decode b_B_wayAt 19 = .ok (.i2l, 1) := by decide +kernel
theorem d_B_wayAt_20 : decode b_B_wayAt 20 = .ok (.ldc2_w 80, 3) := by decide +kernel
theorem d_B_wayAt_23 : decode b_B_wayAt 23 = .ok (.lmul, 1) := by decide +kernel
theorem d_B_wayAt_24 : decode b_B_wayAt 24 = .ok (.lsub, 1) := by decide +kernel
theorem d_B_wayAt_25 : decode b_B_wayAt 25 = .ok (.aload_n 0, 1) := by decide +kernel
theorem d_B_wayAt_26 : decode b_B_wayAt 26 = .ok (.getfield 37, 3) := by decide +kernel
theorem d_B_wayAt_29 : decode b_B_wayAt 29 = .ok (.iload_n 3, 1) := by decide +kernel
theorem d_B_wayAt_30 : decode b_B_wayAt 30 = .ok (.laload, 1) := by decide +kernel
theorem d_B_wayAt_31 : decode b_B_wayAt 31 = .ok (.lmul, 1) := by decide +kernel
theorem d_B_wayAt_32 : decode b_B_wayAt 32 = .ok (.ladd, 1) := by decide +kernel
theorem d_B_wayAt_33 : decode b_B_wayAt 33 = .ok (.lreturn, 1) := by decide +kernel
theorem d_B_stageAt_0 : decode b_B_stageAt 0 = .ok (.lload_n 1, 1) := by decide +kernel
theorem d_B_stageAt_1 : decode b_B_stageAt 1 = .ok (.aload_n 0, 1) := by decide +kernel
theorem d_B_stageAt_2 : decode b_B_stageAt 2 = .ok (.getfield 23, 3) := by decide +kernel
theorem d_B_stageAt_5 : decode b_B_stageAt 5 = .ok (.lsub, 1) := by decide +kernel
theorem d_B_stageAt_6 : decode b_B_stageAt 6 = .ok (.ldc2_w 80, 3) := by decide +kernel
theorem d_B_stageAt_9 : decode b_B_stageAt 9 = .ok (.ldiv, 1) := by decide +kernel
theorem d_B_stageAt_10 : decode b_B_stageAt 10 = .ok (.lstore_n 3, 1) := by decide +kernel
theorem d_B_stageAt_11 : decode b_B_stageAt 11 = .ok (.lload_n 3, 1) := by decide +kernel
theorem d_B_stageAt_12 : decode b_B_stageAt 12 = .ok (.lconst 0, 1) := by decide +kernel
theorem d_B_stageAt_13 : decode b_B_stageAt 13 = .ok (.lcmp, 1) := by decide +kernel
theorem d_B_stageAt_14 : decode b_B_stageAt 14 = .ok (.ifCond .ge 5, 3) := by decide +kernel
theorem d_B_stageAt_17 : decode b_B_stageAt 17 = .ok (.iconst 0, 1) := by decide +kernel
theorem d_B_stageAt_18 : decode b_B_stageAt 18 = .ok (.ireturn, 1) := by decide +kernel
theorem d_B_stageAt_19 : decode b_B_stageAt 19 = .ok (.lload_n 3, 1) := by decide +kernel
theorem d_B_stageAt_20 : decode b_B_stageAt 20 = .ok (.ldc2_w 78, 3) := by decide +kernel
theorem d_B_stageAt_23 : decode b_B_stageAt 23 = .ok (.lcmp, 1) := by decide +kernel
theorem d_B_stageAt_24 : decode b_B_stageAt 24 = .ok (.ifCond .ge 8, 3) := by decide +kernel
theorem d_B_stageAt_27 : decode b_B_stageAt 27 = .ok (.lload_n 3, 1) := by decide +kernel
theorem d_B_stageAt_28 : decode b_B_stageAt 28 = .ok (.l2i, 1) := by decide +kernel
theorem d_B_stageAt_29 : decode b_B_stageAt 29 = .ok (.goto 5, 3) := by decide +kernel
theorem d_B_stageAt_32 : decode b_B_stageAt 32 = .ok (.bipush 7, 2) := by decide +kernel
theorem d_B_stageAt_34 : decode b_B_stageAt 34 = .ok (.ireturn, 1) := by decide +kernel
theorem d_I_aim_0 : decode b_I_aim 0 = .ok (.aload_n 0, 1) := by decide +kernel
theorem d_I_aim_1 : decode b_I_aim 1 = .ok (.getfield 32, 3) := by decide +kernel
theorem d_I_aim_4 : decode b_I_aim 4 = .ok (.ifnonnull 4, 3) := by decide +kernel
theorem d_I_aim_7 : decode b_I_aim 7 = .ok (.return_, 1) := by decide +kernel
theorem d_I_aim_8 : decode b_I_aim 8 = .ok (.aload_n 0, 1) := by decide +kernel
theorem d_I_aim_9 : decode b_I_aim 9 = .ok (.getfield 32, 3) := by decide +kernel
theorem d_I_aim_12 : decode b_I_aim 12 = .ok (.getfield 52, 3) := by decide +kernel
theorem d_I_aim_15 : decode b_I_aim 15 = .ok (.lstore_n 1, 1) := by decide +kernel
theorem d_I_aim_16 : decode b_I_aim 16 = .ok (.aload_n 0, 1) := by decide +kernel
theorem d_I_aim_17 : decode b_I_aim 17 = .ok (.getfield 19, 3) := by decide +kernel
theorem d_I_aim_20 : decode b_I_aim 20 = .ok (.ifCond .ne 14, 3) := by decide +kernel
theorem d_I_aim_23 : decode b_I_aim 23 = .ok (.aload_n 0, 1) := by decide +kernel
theorem d_I_aim_24 : decode b_I_aim 24 = .ok (.getfield 32, 3) := by decide +kernel
theorem d_I_aim_27 : decode b_I_aim 27 = .ok (.getfield 58, 3) := by decide +kernel
theorem d_I_aim_30 : decode b_I_aim 30 = .ok (.lstore_n 1, 1) := by decide +kernel
theorem d_I_aim_31 : decode b_I_aim 31 = .ok (.goto 33, 3) := by decide +kernel
theorem d_I_aim_34 : decode b_I_aim 34 = .ok (.aload_n 0, 1) := by decide +kernel
theorem d_I_aim_35 : decode b_I_aim 35 = .ok (.getfield 22, 3) := by decide +kernel
theorem d_I_aim_38 : decode b_I_aim 38 = .ok (.ifCond .ne 26, 3) := by decide +kernel
theorem d_I_aim_41 : decode b_I_aim 41 = .ok (.aload_n 0, 1) := by decide +kernel
theorem d_I_aim_42 : decode b_I_aim 42 = .ok (.getfield 32, 3) := by decide +kernel
theorem d_I_aim_45 : decode b_I_aim 45 = .ok (.getfield 58, 3) := by decide +kernel
theorem d_I_aim_48 : decode b_I_aim 48 = .ok (.aload_n 0, 1) := by decide +kernel
theorem d_I_aim_49 : decode b_I_aim 49 = .ok (.getfield 29, 3) := by decide +kernel
theorem d_I_aim_52 : decode b_I_aim 52 = .ok (.ladd, 1) := by decide +kernel
theorem d_I_aim_53 : decode b_I_aim 53 = .ok (.aload_n 0, 1) := by decide +kernel
theorem d_I_aim_54 : decode b_I_aim 54 = .ok (.getfield 32, 3) := by decide +kernel
theorem d_I_aim_57 : decode b_I_aim 57 = .ok (.getfield 52, 3) := by decide +kernel
theorem d_I_aim_60 : decode b_I_aim 60 = .ok (.invokestatic 61, 3) := by decide +kernel
theorem d_I_aim_63 : decode b_I_aim 63 = .ok (.lstore_n 1, 1) := by decide +kernel
theorem d_I_aim_64 : decode b_I_aim 64 = .ok (.aload_n 0, 1) := by decide +kernel
theorem d_I_aim_65 : decode b_I_aim 65 = .ok (.aload_n 0, 1) := by decide +kernel
theorem d_I_aim_66 : decode b_I_aim 66 = .ok (.getfield 32, 3) := by decide +kernel
theorem d_I_aim_69 : decode b_I_aim 69 = .ok (.aload_n 0, 1) := by decide +kernel
theorem d_I_aim_70 : decode b_I_aim 70 = .ok (.getfield 15, 3) := by decide +kernel
theorem d_I_aim_73 : decode b_I_aim 73 = .ok (.lload_n 1, 1) := by decide +kernel
theorem d_I_aim_74 : decode b_I_aim 74 = .ok (.ladd, 1) := by decide +kernel
theorem d_I_aim_75 : decode b_I_aim 75 = .ok (.invokevirtual 67, 3) := by decide +kernel
theorem d_I_aim_78 : decode b_I_aim 78 = .ok (.putfield 36, 3) := by decide +kernel
theorem d_I_aim_81 : decode b_I_aim 81 = .ok (.return_, 1) := by decide +kernel
theorem d_B_timeOfWay_0 : decode b_B_timeOfWay 0 = .ok (.iconst 0, 1) := by decide +kernel
theorem d_B_timeOfWay_1 : decode b_B_timeOfWay 1 = .ok (.istore_n 3, 1) := by decide +kernel
theorem d_B_timeOfWay_2 : decode b_B_timeOfWay 2 = .ok (.iload_n 3, 1) := by decide +kernel
theorem d_B_timeOfWay_3 : decode b_B_timeOfWay 3 = .ok (.bipush 7, 2) := by decide +kernel
theorem d_B_timeOfWay_5 : decode b_B_timeOfWay 5 = .ok (.if_icmp .ge 22, 3) := by decide +kernel
theorem d_B_timeOfWay_8 : decode b_B_timeOfWay 8 = .ok (.aload_n 0, 1) := by decide +kernel
theorem d_B_timeOfWay_9 : decode b_B_timeOfWay 9 = .ok (.getfield 41, 3) := by decide +kernel
theorem d_B_timeOfWay_12 : decode b_B_timeOfWay 12 = .ok (.iload_n 3, 1) := by decide +kernel
theorem d_B_timeOfWay_13 : decode b_B_timeOfWay 13 = .ok (.iconst 1, 1) := by decide +kernel
theorem d_B_timeOfWay_14 : decode b_B_timeOfWay 14 = .ok (.iadd, 1) := by decide +kernel
theorem d_B_timeOfWay_15 : decode b_B_timeOfWay 15 = .ok (.laload, 1) := by decide +kernel
theorem d_B_timeOfWay_16 : decode b_B_timeOfWay 16 = .ok (.lload_n 1, 1) := by decide +kernel
theorem d_B_timeOfWay_17 : decode b_B_timeOfWay 17 = .ok (.lcmp, 1) := by decide +kernel
theorem d_B_timeOfWay_18 : decode b_B_timeOfWay 18 = .ok (.ifCond .ge 9, 3) := by decide +kernel
theorem d_B_timeOfWay_21 : decode b_B_timeOfWay 21 = .ok (.iinc 3 1, 3) := by decide +kernel
theorem d_B_timeOfWay_24 : decode b_B_timeOfWay 24 = .ok (.goto (-22), 3) := by decide +kernel
theorem d_B_timeOfWay_27 : decode b_B_timeOfWay 27 = .ok (.aload_n 0, 1) := by decide +kernel
theorem d_B_timeOfWay_28 : decode b_B_timeOfWay 28 = .ok (.getfield 23, 3) := by decide +kernel
theorem d_B_timeOfWay_31 : decode b_B_timeOfWay 31 = .ok (.iload_n 3, 1) := by decide +kernel
theorem d_B_timeOfWay_32 : decode b_B_timeOfWay 32 = .ok (.i2l, 1) := by decide +kernel
theorem d_B_timeOfWay_33 : decode b_B_timeOfWay 33 = .ok (.ldc2_w 80, 3) := by decide +kernel
theorem d_B_timeOfWay_36 : decode b_B_timeOfWay 36 = .ok (.lmul, 1) := by decide +kernel
theorem d_B_timeOfWay_37 : decode b_B_timeOfWay 37 = .ok (.ladd, 1) := by decide +kernel
theorem d_B_timeOfWay_38 : decode b_B_timeOfWay 38 = .ok (.lstore 4, 2) := by decide +kernel
theorem d_B_timeOfWay_40 : decode b_B_timeOfWay 40 = .ok (.lload_n 1, 1) := by decide +kernel
theorem d_B_timeOfWay_41 : decode b_B_timeOfWay 41 = .ok (.aload_n 0, 1) := by decide +kernel
theorem d_B_timeOfWay_42 : decode b_B_timeOfWay 42 = .ok (.getfield 41, 3) := by decide +kernel
theorem d_B_timeOfWay_45 : decode b_B_timeOfWay 45 = .ok (.iload_n 3, 1) := by decide +kernel
theorem d_B_timeOfWay_46 : decode b_B_timeOfWay 46 = .ok (.laload, 1) := by decide +kernel
theorem d_B_timeOfWay_47 : decode b_B_timeOfWay 47 = .ok (.lsub, 1) := by decide +kernel
theorem d_B_timeOfWay_48 : decode b_B_timeOfWay 48 = .ok (.lstore 6, 2) := by decide +kernel
theorem d_B_timeOfWay_50 : decode b_B_timeOfWay 50 = .ok (.lload 6, 2) := by decide +kernel
theorem d_B_timeOfWay_52 : decode b_B_timeOfWay 52 = .ok (.lconst 0, 1) := by decide +kernel
theorem d_B_timeOfWay_53 : decode b_B_timeOfWay 53 = .ok (.lcmp, 1) := by decide +kernel
theorem d_B_timeOfWay_54 : decode b_B_timeOfWay 54 = .ok (.ifCond .gt 6, 3) := by decide +kernel
theorem d_B_timeOfWay_57 : decode b_B_timeOfWay 57 = .ok (.lload 4, 2) := by decide +kernel
theorem d_B_timeOfWay_59 : decode b_B_timeOfWay 59 = .ok (.lreturn, 1) := by decide +kernel
theorem d_B_timeOfWay_60 : decode b_B_timeOfWay 60 = .ok (.aload_n 0, 1) := by decide +kernel
theorem d_B_timeOfWay_61 : decode b_B_timeOfWay 61 = .ok (.getfield 37, 3) := by decide +kernel
theorem d_B_timeOfWay_64 : decode b_B_timeOfWay 64 = .ok (.iload_n 3, 1) := by decide +kernel
theorem d_B_timeOfWay_65 : decode b_B_timeOfWay 65 = .ok (.laload, 1) := by decide +kernel
theorem d_B_timeOfWay_66 : decode b_B_timeOfWay 66 = .ok (.lstore 8, 2) := by decide +kernel
theorem d_B_timeOfWay_68 : decode b_B_timeOfWay 68 = .ok (.lload 8, 2) := by decide +kernel
theorem d_B_timeOfWay_70 : decode b_B_timeOfWay 70 = .ok (.lconst 0, 1) := by decide +kernel
theorem d_B_timeOfWay_71 : decode b_B_timeOfWay 71 = .ok (.lcmp, 1) := by decide +kernel
theorem d_B_timeOfWay_72 : decode b_B_timeOfWay 72 = .ok (.ifCond .le 19, 3) := by decide +kernel
theorem d_B_timeOfWay_75 : decode b_B_timeOfWay 75 = .ok (.lload 4, 2) := by decide +kernel
theorem d_B_timeOfWay_77 : decode b_B_timeOfWay 77 = .ok (.lload 6, 2) := by decide +kernel
theorem d_B_timeOfWay_79 : decode b_B_timeOfWay 79 = .ok (.lload 8, 2) := by decide +kernel
theorem d_B_timeOfWay_81 : decode b_B_timeOfWay 81 = .ok (.ladd, 1) := by decide +kernel
theorem d_B_timeOfWay_82 : decode b_B_timeOfWay 82 = .ok (.lconst 1, 1) := by decide +kernel
theorem d_B_timeOfWay_83 : decode b_B_timeOfWay 83 = .ok (.lsub, 1) := by decide +kernel
theorem d_B_timeOfWay_84 : decode b_B_timeOfWay 84 = .ok (.lload 8, 2) := by decide +kernel
theorem d_B_timeOfWay_86 : decode b_B_timeOfWay 86 = .ok (.ldiv, 1) := by decide +kernel
theorem d_B_timeOfWay_87 : decode b_B_timeOfWay 87 = .ok (.ladd, 1) := by decide +kernel
theorem d_B_timeOfWay_88 : decode b_B_timeOfWay 88 = .ok (.goto 6, 3) := by decide +kernel
theorem d_B_timeOfWay_91 : decode b_B_timeOfWay 91 = .ok (.ldc2_w 85, 3) := by decide +kernel
theorem d_B_timeOfWay_94 : decode b_B_timeOfWay 94 = .ok (.lreturn, 1) := by decide +kernel
theorem d_S_step_0 : decode b_S_step 0 = .ok (.aload_n 0, 1) := by decide +kernel
theorem d_S_step_1 : decode b_S_step 1 = .ok (.lload_n 1, 1) := by decide +kernel
theorem d_S_step_2 : decode b_S_step 2 = .ok (.invokevirtual 62, 3) := by decide +kernel
theorem d_S_step_5 : decode b_S_step 5 = .ok (.ifCond .ne 6, 3) := by decide +kernel
theorem d_S_step_8 : decode b_S_step 8 = .ok (.bipush (-12), 2) := by decide +kernel
theorem d_S_step_10 : decode b_S_step 10 = .ok (.ireturn, 1) := by decide +kernel
theorem d_S_step_11 : decode b_S_step 11 = .ok (.aload_n 0, 1) := by decide +kernel
theorem d_S_step_12 : decode b_S_step 12 = .ok (.lload_n 1, 1) := by decide +kernel
theorem d_S_step_13 : decode b_S_step 13 = .ok (.invokevirtual 74, 3) := by decide +kernel
theorem d_S_step_16 : decode b_S_step 16 = .ok (.aload_n 0, 1) := by decide +kernel
theorem d_S_step_17 : decode b_S_step 17 = .ok (.getfield 31, 3) := by decide +kernel
theorem d_S_step_20 : decode b_S_step 20 = .ok (.invokevirtual 78, 3) := by decide +kernel
theorem d_S_step_23 : decode b_S_step 23 = .ok (.ireturn, 1) := by decide +kernel
theorem d_S_passTo_0 : decode b_S_passTo 0 = .ok (.iconst 0, 1) := by decide +kernel
theorem d_S_passTo_1 : decode b_S_passTo 1 = .ok (.istore_n 3, 1) := by decide +kernel
theorem d_S_passTo_2 : decode b_S_passTo 2 = .ok (.iload_n 3, 1) := by decide +kernel
theorem d_S_passTo_3 : decode b_S_passTo 3 = .ok (.ldc 151, 2) := by decide +kernel
theorem d_S_passTo_5 : decode b_S_passTo 5 = .ok (.if_icmp .ge 37, 3) := by decide +kernel
theorem d_S_passTo_8 : decode b_S_passTo 8 = .ok (.aload_n 0, 1) := by decide +kernel
theorem d_S_passTo_9 : decode b_S_passTo 9 = .ok (.invokevirtual 152, 3) := by decide +kernel
theorem d_S_passTo_12 : decode b_S_passTo 12 = .ok (.lstore 4, 2) := by decide +kernel
theorem d_S_passTo_14 : decode b_S_passTo 14 = .ok (.lload 4, 2) := by decide +kernel
theorem d_S_passTo_16 : decode b_S_passTo 16 = .ok (.lload_n 1, 1) := by decide +kernel
theorem d_S_passTo_17 : decode b_S_passTo 17 = .ok (.lcmp, 1) := by decide +kernel
theorem d_S_passTo_18 : decode b_S_passTo 18 = .ok (.ifCond .le 6, 3) := by decide +kernel
theorem d_S_passTo_21 : decode b_S_passTo 21 = .ok (.goto 21, 3) := by decide +kernel
theorem d_S_passTo_24 : decode b_S_passTo 24 = .ok (.aload_n 0, 1) := by decide +kernel
theorem d_S_passTo_25 : decode b_S_passTo 25 = .ok (.lload 4, 2) := by decide +kernel
theorem d_S_passTo_27 : decode b_S_passTo 27 = .ok (.invokevirtual 156, 3) := by decide +kernel
theorem d_S_passTo_30 : decode b_S_passTo 30 = .ok (.aload_n 0, 1) := by decide +kernel
theorem d_S_passTo_31 : decode b_S_passTo 31 = .ok (.lload 4, 2) := by decide +kernel
theorem d_S_passTo_33 : decode b_S_passTo 33 = .ok (.invokevirtual 159, 3) := by decide +kernel
theorem d_S_passTo_36 : decode b_S_passTo 36 = .ok (.iinc 3 1, 3) := by decide +kernel
theorem d_S_passTo_39 : decode b_S_passTo 39 = .ok (.goto (-37), 3) := by decide +kernel
theorem d_S_passTo_42 : decode b_S_passTo 42 = .ok (.aload_n 0, 1) := by decide +kernel
theorem d_S_passTo_43 : decode b_S_passTo 43 = .ok (.lload_n 1, 1) := by decide +kernel
theorem d_S_passTo_44 : decode b_S_passTo 44 = .ok (.putfield 35, 3) := by decide +kernel
theorem d_S_passTo_47 : decode b_S_passTo 47 = .ok (.return_, 1) := by decide +kernel
theorem d_S_nextTurn_0 : decode b_S_nextTurn 0 = .ok (.ldc2_w 162, 3) := by decide +kernel
theorem d_S_nextTurn_3 : decode b_S_nextTurn 3 = .ok (.lstore_n 1, 1) := by decide +kernel
theorem d_S_nextTurn_4 : decode b_S_nextTurn 4 = .ok (.iconst 0, 1) := by decide +kernel
theorem d_S_nextTurn_5 : decode b_S_nextTurn 5 = .ok (.istore_n 3, 1) := by decide +kernel
theorem d_S_nextTurn_6 : decode b_S_nextTurn 6 = .ok (.iload_n 3, 1) := by decide +kernel
theorem d_S_nextTurn_7 : decode b_S_nextTurn 7 = .ok (.aload_n 0, 1) := by decide +kernel
theorem d_S_nextTurn_8 : decode b_S_nextTurn 8 = .ok (.getfield 25, 3) := by decide +kernel
theorem d_S_nextTurn_11 : decode b_S_nextTurn 11 = .ok (.if_icmp .ge 33, 3) := by decide +kernel
theorem d_S_nextTurn_14 : decode b_S_nextTurn 14 = .ok (.aload_n 0, 1) := by decide +kernel
theorem d_S_nextTurn_15 : decode b_S_nextTurn 15 = .ok (.getfield 21, 3) := by decide +kernel
theorem d_S_nextTurn_18 : decode b_S_nextTurn 18 = .ok (.iload_n 3, 1) := by decide +kernel
theorem d_S_nextTurn_19 : decode b_S_nextTurn 19 = .ok (.aaload, 1) := by decide +kernel
theorem d_S_nextTurn_20 : decode b_S_nextTurn 20 = .ok (.getfield 164, 3) := by decide +kernel
theorem d_S_nextTurn_23 : decode b_S_nextTurn 23 = .ok (.lload_n 1, 1) := by decide +kernel
theorem d_S_nextTurn_24 : decode b_S_nextTurn 24 = .ok (.lcmp, 1) := by decide +kernel
theorem d_S_nextTurn_25 : decode b_S_nextTurn 25 = .ok (.ifCond .ge 13, 3) := by decide +kernel
theorem d_S_nextTurn_28 : decode b_S_nextTurn 28 = .ok (.aload_n 0, 1) := by decide +kernel
theorem d_S_nextTurn_29 : decode b_S_nextTurn 29 = .ok (.getfield 21, 3) := by decide +kernel
theorem d_S_nextTurn_32 : decode b_S_nextTurn 32 = .ok (.iload_n 3, 1) := by decide +kernel
theorem d_S_nextTurn_33 : decode b_S_nextTurn 33 = .ok (.aaload, 1) := by decide +kernel
theorem d_S_nextTurn_34 : decode b_S_nextTurn 34 = .ok (.getfield 164, 3) := by decide +kernel
theorem d_S_nextTurn_37 : decode b_S_nextTurn 37 = .ok (.lstore_n 1, 1) := by decide +kernel
theorem d_S_nextTurn_38 : decode b_S_nextTurn 38 = .ok (.iinc 3 1, 3) := by decide +kernel
theorem d_S_nextTurn_41 : decode b_S_nextTurn 41 = .ok (.goto (-35), 3) := by decide +kernel
theorem d_S_nextTurn_44 : decode b_S_nextTurn 44 = .ok (.lload_n 1, 1) := by decide +kernel
theorem d_S_nextTurn_45 : decode b_S_nextTurn 45 = .ok (.lreturn, 1) := by decide +kernel
theorem d_S_moveItems_0 : decode b_S_moveItems 0 = .ok (.iconst 0, 1) := by decide +kernel
theorem d_S_moveItems_1 : decode b_S_moveItems 1 = .ok (.istore_n 3, 1) := by decide +kernel
theorem d_S_moveItems_2 : decode b_S_moveItems 2 = .ok (.iload_n 3, 1) := by decide +kernel
theorem d_S_moveItems_3 : decode b_S_moveItems 3 = .ok (.aload_n 0, 1) := by decide +kernel
theorem d_S_moveItems_4 : decode b_S_moveItems 4 = .ok (.getfield 25, 3) := by decide +kernel
theorem d_S_moveItems_7 : decode b_S_moveItems 7 = .ok (.if_icmp .ge 33, 3) := by decide +kernel
theorem d_S_moveItems_10 : decode b_S_moveItems 10 = .ok (.aload_n 0, 1) := by decide +kernel
theorem d_S_moveItems_11 : decode b_S_moveItems 11 = .ok (.getfield 21, 3) := by decide +kernel
theorem d_S_moveItems_14 : decode b_S_moveItems 14 = .ok (.iload_n 3, 1) := by decide +kernel
theorem d_S_moveItems_15 : decode b_S_moveItems 15 = .ok (.aaload, 1) := by decide +kernel
theorem d_S_moveItems_16 : decode b_S_moveItems 16 = .ok (.getfield 164, 3) := by decide +kernel
theorem d_S_moveItems_19 : decode b_S_moveItems 19 = .ok (.lload_n 1, 1) := by decide +kernel
theorem d_S_moveItems_20 : decode b_S_moveItems 20 = .ok (.lcmp, 1) := by decide +kernel
theorem d_S_moveItems_21 : decode b_S_moveItems 21 = .ok (.ifCond .ne 13, 3) := by decide +kernel
theorem d_S_moveItems_24 : decode b_S_moveItems 24 = .ok (.aload_n 0, 1) := by decide +kernel
theorem d_S_moveItems_25 : decode b_S_moveItems 25 = .ok (.getfield 21, 3) := by decide +kernel
