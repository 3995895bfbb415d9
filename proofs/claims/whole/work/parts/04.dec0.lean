theorem dX0_init_0 : decode cX0_init 0 = .ok (.aload_n 0, 1) := by decide +kernel
theorem dX0_init_1 : decode cX0_init 1 = .ok (.invokespecial 1, 3) := by decide +kernel
theorem dX0_init_4 : decode cX0_init 4 = .ok (.aload_n 0, 1) := by decide +kernel
theorem dX0_init_5 : decode cX0_init 5 = .ok (.lload_n 1, 1) := by decide +kernel
theorem dX0_init_6 : decode cX0_init 6 = .ok (.putfield 7, 3) := by decide +kernel
theorem dX0_init_9 : decode cX0_init 9 = .ok (.aload_n 0, 1) := by decide +kernel
theorem dX0_init_10 : decode cX0_init 10 = .ok (.lload_n 3, 1) := by decide +kernel
theorem dX0_init_11 : decode cX0_init 11 = .ok (.putfield 13, 3) := by decide +kernel
theorem dX0_init_14 : decode cX0_init 14 = .ok (.aload_n 0, 1) := by decide +kernel
theorem dX0_init_15 : decode cX0_init 15 = .ok (.lload 5, 2) := by decide +kernel
theorem dX0_init_17 : decode cX0_init 17 = .ok (.putfield 16, 3) := by decide +kernel
theorem dX0_init_20 : decode cX0_init 20 = .ok (.aload_n 0, 1) := by decide +kernel
theorem dX0_init_21 : decode cX0_init 21 = .ok (.iload 7, 2) := by decide +kernel
theorem dX0_init_23 : decode cX0_init 23 = .ok (.putfield 19, 3) := by decide +kernel
theorem dX0_init_26 : decode cX0_init 26 = .ok (.aload_n 0, 1) := by decide +kernel
theorem dX0_init_27 : decode cX0_init 27 = .ok (.iload 8, 2) := by decide +kernel
theorem dX0_init_29 : decode cX0_init 29 = .ok (.putfield 23, 3) := by decide +kernel
theorem dX0_init_32 : decode cX0_init 32 = .ok (.return_, 1) := by decide +kernel
theorem dX0_holds_0 : decode cX0_holds 0 = .ok (.lload_n 1, 1) := by decide +kernel
theorem dX0_holds_1 : decode cX0_holds 1 = .ok (.aload_n 0, 1) := by decide +kernel
theorem dX0_holds_2 : decode cX0_holds 2 = .ok (.getfield 7, 3) := by decide +kernel
theorem dX0_holds_5 : decode cX0_holds 5 = .ok (.lsub, 1) := by decide +kernel
theorem dX0_holds_6 : decode cX0_holds 6 = .ok (.lstore 6, 2) := by decide +kernel
theorem dX0_holds_8 : decode cX0_holds 8 = .ok (.lload_n 3, 1) := by decide +kernel
theorem dX0_holds_9 : decode cX0_holds 9 = .ok (.aload_n 0, 1) := by decide +kernel
theorem dX0_holds_10 : decode cX0_holds 10 = .ok (.getfield 13, 3) := by decide +kernel
theorem dX0_holds_13 : decode cX0_holds 13 = .ok (.lsub, 1) := by decide +kernel
theorem dX0_holds_14 : decode cX0_holds 14 = .ok (.lstore 8, 2) := by decide +kernel
theorem dX0_holds_16 : decode cX0_holds 16 = .ok (.aload 5, 2) := by decide +kernel
theorem dX0_holds_18 : decode cX0_holds 18 = .ok (.lload 6, 2) := by decide +kernel
theorem dX0_holds_20 : decode cX0_holds 20 = .ok (.lload 8, 2) := by decide +kernel
theorem dX0_holds_22 : decode cX0_holds 22 = .ok (.lload 6, 2) := by decide +kernel
theorem dX0_holds_24 : decode cX0_holds 24 = .ok (.lload 8, 2) := by decide +kernel
theorem dX0_holds_26 : decode cX0_holds 26 = .ok (.invokevirtual 26, 3) := by decide +kernel
theorem dX0_holds_29 : decode cX0_holds 29 = .ok (.aload 5, 2) := by decide +kernel
theorem dX0_holds_31 : decode cX0_holds 31 = .ok (.aload_n 0, 1) := by decide +kernel
theorem dX0_holds_32 : decode cX0_holds 32 = .ok (.getfield 16, 3) := by decide +kernel
theorem dX0_holds_35 : decode cX0_holds 35 = .ok (.ldc2_w 32, 3) := by decide +kernel
theorem dX0_holds_38 : decode cX0_holds 38 = .ok (.invokevirtual 34, 3) := by decide +kernel
theorem dX0_holds_41 : decode cX0_holds 41 = .ok (.aload 5, 2) := by decide +kernel
theorem dX0_holds_43 : decode cX0_holds 43 = .ok (.invokevirtual 38, 3) := by decide +kernel
theorem dX0_holds_46 : decode cX0_holds 46 = .ok (.ifCond .ne 40, 3) := by decide +kernel
theorem dX0_holds_49 : decode cX0_holds 49 = .ok (.aload_n 0, 1) := by decide +kernel
theorem dX0_holds_50 : decode cX0_holds 50 = .ok (.lload 6, 2) := by decide +kernel
theorem dX0_holds_52 : decode cX0_holds 52 = .ok (.invokestatic 42, 3) := by decide +kernel
theorem dX0_holds_55 : decode cX0_holds 55 = .ok (.lload 8, 2) := by decide +kernel
theorem dX0_holds_57 : decode cX0_holds 57 = .ok (.invokestatic 42, 3) := by decide +kernel
theorem dX0_holds_60 : decode cX0_holds 60 = .ok (.lload 6, 2) := by decide +kernel
theorem dX0_holds_62 : decode cX0_holds 62 = .ok (.lload 8, 2) := by decide +kernel
theorem dX0_holds_64 : decode cX0_holds 64 = .ok (.lsub, 1) := by decide +kernel
theorem dX0_holds_65 : decode cX0_holds 65 = .ok (.invokestatic 42, 3) := by decide +kernel
theorem dX0_holds_68 : decode cX0_holds 68 = .ok (.lload 6, 2) := by decide +kernel
theorem dX0_holds_70 : decode cX0_holds 70 = .ok (.lload 8, 2) := by decide +kernel
theorem dX0_holds_72 : decode cX0_holds 72 = .ok (.ladd, 1) := by decide +kernel
theorem dX0_holds_73 : decode cX0_holds 73 = .ok (.invokestatic 42, 3) := by decide +kernel
theorem dX0_holds_76 : decode cX0_holds 76 = .ok (.invokevirtual 48, 3) := by decide +kernel
theorem dX0_holds_79 : decode cX0_holds 79 = .ok (.ifCond .eq 7, 3) := by decide +kernel
theorem dX0_holds_82 : decode cX0_holds 82 = .ok (.iconst 1, 1) := by decide +kernel
theorem dX0_holds_83 : decode cX0_holds 83 = .ok (.goto 4, 3) := by decide +kernel
theorem dX0_holds_86 : decode cX0_holds 86 = .ok (.iconst 0, 1) := by decide +kernel
theorem dX0_holds_87 : decode cX0_holds 87 = .ok (.ireturn, 1) := by decide +kernel
theorem dX0_reaches_0 : decode cX0_reaches 0 = .ok (.aload_n 0, 1) := by decide +kernel
theorem dX0_reaches_1 : decode cX0_reaches 1 = .ok (.getfield 19, 3) := by decide +kernel
theorem dX0_reaches_4 : decode cX0_reaches 4 = .ok (.aload_n 0, 1) := by decide +kernel
theorem dX0_reaches_5 : decode cX0_reaches 5 = .ok (.getfield 23, 3) := by decide +kernel
theorem dX0_reaches_8 : decode cX0_reaches 8 = .ok (.if_icmp .ne 5, 3) := by decide +kernel
theorem dX0_reaches_11 : decode cX0_reaches 11 = .ok (.iconst 1, 1) := by decide +kernel
theorem dX0_reaches_12 : decode cX0_reaches 12 = .ok (.ireturn, 1) := by decide +kernel
theorem dX0_reaches_13 : decode cX0_reaches 13 = .ok (.iload_n 2, 1) := by decide +kernel
theorem dX0_reaches_14 : decode cX0_reaches 14 = .ok (.ifCond .lt 11, 3) := by decide +kernel
theorem dX0_reaches_17 : decode cX0_reaches 17 = .ok (.iload_n 2, 1) := by decide +kernel
theorem dX0_reaches_18 : decode cX0_reaches 18 = .ok (.ifCond .ne 11, 3) := by decide +kernel
theorem dX0_reaches_21 : decode cX0_reaches 21 = .ok (.iload_n 1, 1) := by decide +kernel
theorem dX0_reaches_22 : decode cX0_reaches 22 = .ok (.ifCond .ge 7, 3) := by decide +kernel
theorem dX0_reaches_25 : decode cX0_reaches 25 = .ok (.iconst 1, 1) := by decide +kernel
theorem dX0_reaches_26 : decode cX0_reaches 26 = .ok (.goto 4, 3) := by decide +kernel
theorem dX0_reaches_29 : decode cX0_reaches 29 = .ok (.iconst 0, 1) := by decide +kernel
theorem dX0_reaches_30 : decode cX0_reaches 30 = .ok (.istore 5, 2) := by decide +kernel
theorem dX0_reaches_32 : decode cX0_reaches 32 = .ok (.iload 5, 2) := by decide +kernel
theorem dX0_reaches_34 : decode cX0_reaches 34 = .ok (.ifCond .eq 7, 3) := by decide +kernel
theorem dX0_reaches_37 : decode cX0_reaches 37 = .ok (.iconst (-1), 1) := by decide +kernel
theorem dX0_reaches_38 : decode cX0_reaches 38 = .ok (.goto 4, 3) := by decide +kernel
theorem dX0_reaches_41 : decode cX0_reaches 41 = .ok (.iconst 1, 1) := by decide +kernel
theorem dX0_reaches_42 : decode cX0_reaches 42 = .ok (.istore 6, 2) := by decide +kernel
theorem dX0_reaches_44 : decode cX0_reaches 44 = .ok (.iload 5, 2) := by decide +kernel
theorem dX0_reaches_46 : decode cX0_reaches 46 = .ok (.ifCond .eq 8, 3) := by decide +kernel
theorem dX0_reaches_49 : decode cX0_reaches 49 = .ok (.bipush 8, 2) := by decide +kernel
theorem dX0_reaches_51 : decode cX0_reaches 51 = .ok (.goto 4, 3) := by decide +kernel
theorem dX0_reaches_54 : decode cX0_reaches 54 = .ok (.iconst 0, 1) := by decide +kernel
theorem dX0_reaches_55 : decode cX0_reaches 55 = .ok (.iload_n 2, 1) := by decide +kernel
theorem dX0_reaches_56 : decode cX0_reaches 56 = .ok (.ifCond .ne 7, 3) := by decide +kernel
theorem dX0_reaches_59 : decode cX0_reaches 59 = .ok (.iconst 0, 1) := by decide +kernel
theorem dX0_reaches_60 : decode cX0_reaches 60 = .ok (.goto 4, 3) := by decide +kernel
theorem dX0_reaches_63 : decode cX0_reaches 63 = .ok (.iconst 1, 1) := by decide +kernel
theorem dX0_reaches_64 : decode cX0_reaches 64 = .ok (.iadd, 1) := by decide +kernel
theorem dX0_reaches_65 : decode cX0_reaches 65 = .ok (.iconst 3, 1) := by decide +kernel
theorem dX0_reaches_66 : decode cX0_reaches 66 = .ok (.iadd, 1) := by decide +kernel
theorem dX0_reaches_67 : decode cX0_reaches 67 = .ok (.iload 6, 2) := by decide +kernel
theorem dX0_reaches_69 : decode cX0_reaches 69 = .ok (.iload_n 3, 1) := by decide +kernel
theorem dX0_reaches_70 : decode cX0_reaches 70 = .ok (.iload_n 1, 1) := by decide +kernel
theorem dX0_reaches_71 : decode cX0_reaches 71 = .ok (.iadd, 1) := by decide +kernel
theorem dX0_reaches_72 : decode cX0_reaches 72 = .ok (.iload 4, 2) := by decide +kernel
theorem dX0_reaches_74 : decode cX0_reaches 74 = .ok (.iadd, 1) := by decide +kernel
theorem dX0_reaches_75 : decode cX0_reaches 75 = .ok (.imul, 1) := by decide +kernel
theorem dX0_reaches_76 : decode cX0_reaches 76 = .ok (.isub, 1) := by decide +kernel
theorem dX0_reaches_77 : decode cX0_reaches 77 = .ok (.istore 7, 2) := by decide +kernel
theorem dX0_reaches_79 : decode cX0_reaches 79 = .ok (.iload 7, 2) := by decide +kernel
theorem dX0_reaches_81 : decode cX0_reaches 81 = .ok (.iconst 2, 1) := by decide +kernel
theorem dX0_reaches_82 : decode cX0_reaches 82 = .ok (.aload_n 0, 1) := by decide +kernel
theorem dX0_reaches_83 : decode cX0_reaches 83 = .ok (.getfield 19, 3) := by decide +kernel
theorem dX0_reaches_86 : decode cX0_reaches 86 = .ok (.imul, 1) := by decide +kernel
theorem dX0_reaches_87 : decode cX0_reaches 87 = .ok (.isub, 1) := by decide +kernel
theorem dX0_reaches_88 : decode cX0_reaches 88 = .ok (.bipush 15, 2) := by decide +kernel
theorem dX0_reaches_90 : decode cX0_reaches 90 = .ok (.iand, 1) := by decide +kernel
theorem dX0_reaches_91 : decode cX0_reaches 91 = .ok (.iconst 2, 1) := by decide +kernel
theorem dX0_reaches_92 : decode cX0_reaches 92 = .ok (.aload_n 0, 1) := by decide +kernel
theorem dX0_reaches_93 : decode cX0_reaches 93 = .ok (.getfield 23, 3) := by decide +kernel
theorem dX0_reaches_96 : decode cX0_reaches 96 = .ok (.imul, 1) := by decide +kernel
theorem dX0_reaches_97 : decode cX0_reaches 97 = .ok (.iconst 2, 1) := by decide +kernel
theorem dX0_reaches_98 : decode cX0_reaches 98 = .ok (.aload_n 0, 1) := by decide +kernel
theorem dX0_reaches_99 : decode cX0_reaches 99 = .ok (.getfield 19, 3) := by decide +kernel
theorem dX0_reaches_102 : decode cX0_reaches 102 = .ok (.imul, 1) := by decide +kernel
theorem dX0_reaches_103 : decode cX0_reaches 103 = .ok (.isub, 1) := by decide +kernel
theorem dX0_reaches_104 : decode cX0_reaches 104 = .ok (.bipush 15, 2) := by decide +kernel
theorem dX0_reaches_106 : decode cX0_reaches 106 = .ok (.iand, 1) := by decide +kernel
theorem dX0_reaches_107 : decode cX0_reaches 107 = .ok (.if_icmp .gt 7, 3) := by decide +kernel
theorem dX0_reaches_110 : decode cX0_reaches 110 = .ok (.iconst 1, 1) := by decide +kernel
theorem dX0_reaches_111 : decode cX0_reaches 111 = .ok (.goto 4, 3) := by decide +kernel
theorem dX0_reaches_114 : decode cX0_reaches 114 = .ok (.iconst 0, 1) := by decide +kernel
theorem dX0_reaches_115 : decode cX0_reaches 115 = .ok (.ireturn, 1) := by decide +kernel
theorem dX2_init_0 : decode cX2_init 0 = .ok (.aload_n 0, 1) := by decide +kernel
theorem dX2_init_1 : decode cX2_init 1 = .ok (.invokespecial 1, 3) := by decide +kernel
theorem dX2_init_4 : decode cX2_init 4 = .ok (.aload_n 0, 1) := by decide +kernel
theorem dX2_init_5 : decode cX2_init 5 = .ok (.new 7, 3) := by decide +kernel
theorem dX2_init_8 : decode cX2_init 8 = .ok (.dup, 1) := by decide +kernel
theorem dX2_init_9 : decode cX2_init 9 = .ok (.invokespecial 9, 3) := by decide +kernel
theorem dX2_init_12 : decode cX2_init 12 = .ok (.putfield 10, 3) := by decide +kernel
theorem dX2_init_15 : decode cX2_init 15 = .ok (.aload_n 0, 1) := by decide +kernel
theorem dX2_init_16 : decode cX2_init 16 = .ok (.new 7, 3) := by decide +kernel
theorem dX2_init_19 : decode cX2_init 19 = .ok (.dup, 1) := by decide +kernel
theorem dX2_init_20 : decode cX2_init 20 = .ok (.invokespecial 9, 3) := by decide +kernel
theorem dX2_init_23 : decode cX2_init 23 = .ok (.putfield 16, 3) := by decide +kernel
theorem dX2_init_26 : decode cX2_init 26 = .ok (.aload_n 0, 1) := by decide +kernel
theorem dX2_init_27 : decode cX2_init 27 = .ok (.new 7, 3) := by decide +kernel
theorem dX2_init_30 : decode cX2_init 30 = .ok (.dup, 1) := by decide +kernel
theorem dX2_init_31 : decode cX2_init 31 = .ok (.invokespecial 9, 3) := by decide +kernel
theorem dX2_init_34 : decode cX2_init 34 = .ok (.putfield 19, 3) := by decide +kernel
theorem dX2_init_37 : decode cX2_init 37 = .ok (.aload_n 0, 1) := by decide +kernel
theorem dX2_init_38 : decode cX2_init 38 = .ok (.new 7, 3) := by decide +kernel
theorem dX2_init_41 : decode cX2_init 41 = .ok (.dup, 1) := by decide +kernel
theorem dX2_init_42 : decode cX2_init 42 = .ok (.invokespecial 9, 3) := by decide +kernel
theorem dX2_init_45 : decode cX2_init 45 = .ok (.putfield 22, 3) := by decide +kernel
theorem dX2_init_48 : decode cX2_init 48 = .ok (.aload_n 0, 1) := by decide +kernel
theorem dX2_init_49 : decode cX2_init 49 = .ok (.new 7, 3) := by decide +kernel
theorem dX2_init_52 : decode cX2_init 52 = .ok (.dup, 1) := by decide +kernel
theorem dX2_init_53 : decode cX2_init 53 = .ok (.invokespecial 9, 3) := by decide +kernel
theorem dX2_init_56 : decode cX2_init 56 = .ok (.putfield 25, 3) := by decide +kernel
theorem dX2_init_59 : decode cX2_init 59 = .ok (.aload_n 0, 1) := by decide +kernel
theorem dX2_init_60 : decode cX2_init 60 = .ok (.new 7, 3) := by decide +kernel
theorem dX2_init_63 : decode cX2_init 63 = .ok (.dup, 1) := by decide +kernel
theorem dX2_init_64 : decode cX2_init 64 = .ok (.invokespecial 9, 3) := by decide +kernel
theorem dX2_init_67 : decode cX2_init 67 = .ok (.putfield 28, 3) := by decide +kernel
theorem dX2_init_70 : decode cX2_init 70 = .ok (.aload_n 0, 1) := by decide +kernel
theorem dX2_init_71 : decode cX2_init 71 = .ok (.new 7, 3) := by decide +kernel
theorem dX2_init_74 : decode cX2_init 74 = .ok (.dup, 1) := by decide +kernel
theorem dX2_init_75 : decode cX2_init 75 = .ok (.invokespecial 9, 3) := by decide +kernel
theorem dX2_init_78 : decode cX2_init 78 = .ok (.putfield 31, 3) := by decide +kernel
theorem dX2_init_81 : decode cX2_init 81 = .ok (.aload_n 0, 1) := by decide +kernel
theorem dX2_init_82 : decode cX2_init 82 = .ok (.new 7, 3) := by decide +kernel
theorem dX2_init_85 : decode cX2_init 85 = .ok (.dup, 1) := by decide +kernel
theorem dX2_init_86 : decode cX2_init 86 = .ok (.invokespecial 9, 3) := by decide +kernel
theorem dX2_init_89 : decode cX2_init 89 = .ok (.putfield 34, 3) := by decide +kernel
theorem dX2_init_92 : decode cX2_init 92 = .ok (.return_, 1) := by decide +kernel
theorem dX2_measure_0 : decode cX2_measure 0 = .ok (.aload_n 1, 1) := by decide +kernel
theorem dX2_measure_1 : decode cX2_measure 1 = .ok (.aload_n 0, 1) := by decide +kernel
theorem dX2_measure_2 : decode cX2_measure 2 = .ok (.getfield 37, 3) := by decide +kernel
theorem dX2_measure_5 : decode cX2_measure 5 = .ok (.if_acmp .ne 12, 3) := by decide +kernel
theorem dX2_measure_8 : decode cX2_measure 8 = .ok (.aload_n 2, 1) := by decide +kernel
theorem dX2_measure_9 : decode cX2_measure 9 = .ok (.aload_n 0, 1) := by decide +kernel
theorem dX2_measure_10 : decode cX2_measure 10 = .ok (.getfield 41, 3) := by decide +kernel
theorem dX2_measure_13 : decode cX2_measure 13 = .ok (.if_acmp .ne 4, 3) := by decide +kernel
theorem dX2_measure_16 : decode cX2_measure 16 = .ok (.return_, 1) := by decide +kernel
theorem dX2_measure_17 : decode cX2_measure 17 = .ok (.aload_n 0, 1) := by decide +kernel
theorem dX2_measure_18 : decode cX2_measure 18 = .ok (.aload_n 1, 1) := by decide +kernel
theorem dX2_measure_19 : decode cX2_measure 19 = .ok (.putfield 37, 3) := by decide +kernel
theorem dX2_measure_22 : decode cX2_measure 22 = .ok (.aload_n 0, 1) := by decide +kernel
theorem dX2_measure_23 : decode cX2_measure 23 = .ok (.aload_n 2, 1) := by decide +kernel
theorem dX2_measure_24 : decode cX2_measure 24 = .ok (.putfield 41, 3) := by decide +kernel
theorem dX2_measure_27 : decode cX2_measure 27 = .ok (.aload_n 0, 1) := by decide +kernel
theorem dX2_measure_28 : decode cX2_measure 28 = .ok (.aload_n 1, 1) := by decide +kernel
theorem dX2_measure_29 : decode cX2_measure 29 = .ok (.aload_n 2, 1) := by decide +kernel
theorem dX2_measure_30 : decode cX2_measure 30 = .ok (.invokevirtual 44, 3) := by decide +kernel
theorem dX2_measure_33 : decode cX2_measure 33 = .ok (.ifCond .eq 29, 3) := by decide +kernel
theorem dX2_measure_36 : decode cX2_measure 36 = .ok (.aload_n 0, 1) := by decide +kernel
theorem dX2_measure_37 : decode cX2_measure 37 = .ok (.aload_n 2, 1) := by decide +kernel
theorem dX2_measure_38 : decode cX2_measure 38 = .ok (.aload_n 1, 1) := by decide +kernel
theorem dX2_measure_39 : decode cX2_measure 39 = .ok (.invokevirtual 44, 3) := by decide +kernel
theorem dX2_measure_42 : decode cX2_measure 42 = .ok (.ifCond .eq 20, 3) := by decide +kernel
theorem dX2_measure_45 : decode cX2_measure 45 = .ok (.aload_n 0, 1) := by decide +kernel
theorem dX2_measure_46 : decode cX2_measure 46 = .ok (.getfield 10, 3) := by decide +kernel
theorem dX2_measure_49 : decode cX2_measure 49 = .ok (.lconst 0, 1) := by decide +kernel
theorem dX2_measure_50 : decode cX2_measure 50 = .ok (.invokevirtual 48, 3) := by decide +kernel
theorem dX2_measure_53 : decode cX2_measure 53 = .ok (.aload_n 0, 1) := by decide +kernel
theorem dX2_measure_54 : decode cX2_measure 54 = .ok (.getfield 16, 3) := by decide +kernel
theorem dX2_measure_57 : decode cX2_measure 57 = .ok (.lconst 1, 1) := by decide +kernel
theorem dX2_measure_58 : decode cX2_measure 58 = .ok (.invokevirtual 48, 3) := by decide +kernel
theorem dX2_measure_61 : decode cX2_measure 61 = .ok (.return_, 1) := by decide +kernel
theorem dX2_measure_62 : decode cX2_measure 62 = .ok (.aload_n 0, 1) := by decide +kernel
theorem dX2_measure_63 : decode cX2_measure 63 = .ok (.getfield 10, 3) := by decide +kernel
theorem dX2_measure_66 : decode cX2_measure 66 = .ok (.lconst 1, 1) := by decide +kernel
theorem dX2_measure_67 : decode cX2_measure 67 = .ok (.invokevirtual 48, 3) := by decide +kernel
theorem dX2_measure_70 : decode cX2_measure 70 = .ok (.aload_n 0, 1) := by decide +kernel
theorem dX2_measure_71 : decode cX2_measure 71 = .ok (.getfield 16, 3) := by decide +kernel
theorem dX2_measure_74 : decode cX2_measure 74 = .ok (.lconst 0, 1) := by decide +kernel
theorem dX2_measure_75 : decode cX2_measure 75 = .ok (.invokevirtual 48, 3) := by decide +kernel
theorem dX2_measure_78 : decode cX2_measure 78 = .ok (.aload_n 0, 1) := by decide +kernel
theorem dX2_measure_79 : decode cX2_measure 79 = .ok (.aload_n 1, 1) := by decide +kernel
theorem dX2_measure_80 : decode cX2_measure 80 = .ok (.aload_n 2, 1) := by decide +kernel
theorem dX2_measure_81 : decode cX2_measure 81 = .ok (.getfield 52, 3) := by decide +kernel
theorem dX2_measure_84 : decode cX2_measure 84 = .ok (.aload_n 2, 1) := by decide +kernel
theorem dX2_measure_85 : decode cX2_measure 85 = .ok (.getfield 58, 3) := by decide +kernel
theorem dX2_measure_88 : decode cX2_measure 88 = .ok (.invokevirtual 61, 3) := by decide +kernel
theorem dX2_measure_91 : decode cX2_measure 91 = .ok (.aload_n 0, 1) := by decide +kernel
theorem dX2_measure_92 : decode cX2_measure 92 = .ok (.aload_n 1, 1) := by decide +kernel
theorem dX2_measure_93 : decode cX2_measure 93 = .ok (.aload_n 2, 1) := by decide +kernel
theorem dX2_measure_94 : decode cX2_measure 94 = .ok (.getfield 65, 3) := by decide +kernel
theorem dX2_measure_97 : decode cX2_measure 97 = .ok (.aload_n 2, 1) := by decide +kernel
theorem dX2_measure_98 : decode cX2_measure 98 = .ok (.getfield 68, 3) := by decide +kernel
theorem dX2_measure_101 : decode cX2_measure 101 = .ok (.invokevirtual 61, 3) := by decide +kernel
theorem dX2_measure_104 : decode cX2_measure 104 = .ok (.aload_n 0, 1) := by decide +kernel
theorem dX2_measure_105 : decode cX2_measure 105 = .ok (.aload_n 2, 1) := by decide +kernel
theorem dX2_measure_106 : decode cX2_measure 106 = .ok (.aload_n 1, 1) := by decide +kernel
theorem dX2_measure_107 : decode cX2_measure 107 = .ok (.getfield 52, 3) := by decide +kernel
theorem dX2_measure_110 : decode cX2_measure 110 = .ok (.aload_n 1, 1) := by decide +kernel
theorem dX2_measure_111 : decode cX2_measure 111 = .ok (.getfield 58, 3) := by decide +kernel
theorem dX2_measure_114 : decode cX2_measure 114 = .ok (.invokevirtual 61, 3) := by decide +kernel
theorem dX2_measure_117 : decode cX2_measure 117 = .ok (.aload_n 0, 1) := by decide +kernel
theorem dX2_measure_118 : decode cX2_measure 118 = .ok (.aload_n 2, 1) := by decide +kernel
theorem dX2_measure_119 : decode cX2_measure 119 = .ok (.aload_n 1, 1) := by decide +kernel
theorem dX2_measure_120 : decode cX2_measure 120 = .ok (.getfield 65, 3) := by decide +kernel
theorem dX2_measure_123 : decode cX2_measure 123 = .ok (.aload_n 1, 1) := by decide +kernel
theorem dX2_measure_124 : decode cX2_measure 124 = .ok (.getfield 68, 3) := by decide +kernel
theorem dX2_measure_127 : decode cX2_measure 127 = .ok (.invokevirtual 61, 3) := by decide +kernel
theorem dX2_measure_130 : decode cX2_measure 130 = .ok (.aload_n 0, 1) := by decide +kernel
theorem dX2_measure_131 : decode cX2_measure 131 = .ok (.invokevirtual 71, 3) := by decide +kernel
theorem dX2_measure_134 : decode cX2_measure 134 = .ok (.return_, 1) := by decide +kernel
theorem dX2_isParted_0 : decode cX2_isParted 0 = .ok (.aload_n 0, 1) := by decide +kernel
theorem dX2_isParted_1 : decode cX2_isParted 1 = .ok (.getfield 25, 3) := by decide +kernel
theorem dX2_isParted_4 : decode cX2_isParted 4 = .ok (.aload_n 1, 1) := by decide +kernel
theorem dX2_isParted_5 : decode cX2_isParted 5 = .ok (.getfield 74, 3) := by decide +kernel
theorem dX2_isParted_8 : decode cX2_isParted 8 = .ok (.aload_n 1, 1) := by decide +kernel
theorem dX2_isParted_9 : decode cX2_isParted 9 = .ok (.getfield 77, 3) := by decide +kernel
theorem dX2_isParted_12 : decode cX2_isParted 12 = .ok (.aload_n 2, 1) := by decide +kernel
theorem dX2_isParted_13 : decode cX2_isParted 13 = .ok (.getfield 52, 3) := by decide +kernel
theorem dX2_isParted_16 : decode cX2_isParted 16 = .ok (.aload_n 1, 1) := by decide +kernel
theorem dX2_isParted_17 : decode cX2_isParted 17 = .ok (.getfield 52, 3) := by decide +kernel
theorem dX2_isParted_20 : decode cX2_isParted 20 = .ok (.lsub, 1) := by decide +kernel
theorem dX2_isParted_21 : decode cX2_isParted 21 = .ok (.aload_n 2, 1) := by decide +kernel
theorem dX2_isParted_22 : decode cX2_isParted 22 = .ok (.getfield 58, 3) := by decide +kernel
theorem dX2_isParted_25 : decode cX2_isParted 25 = .ok (.aload_n 1, 1) := by decide +kernel
theorem dX2_isParted_26 : decode cX2_isParted 26 = .ok (.getfield 58, 3) := by decide +kernel
theorem dX2_isParted_29 : decode cX2_isParted 29 = .ok (.lsub, 1) := by decide +kernel
theorem dX2_isParted_30 : decode cX2_isParted 30 = .ok (.invokevirtual 80, 3) := by decide +kernel
theorem dX2_isParted_33 : decode cX2_isParted 33 = .ok (.aload_n 0, 1) := by decide +kernel
theorem dX2_isParted_34 : decode cX2_isParted 34 = .ok (.getfield 28, 3) := by decide +kernel
theorem dX2_isParted_37 : decode cX2_isParted 37 = .ok (.aload_n 1, 1) := by decide +kernel
theorem dX2_isParted_38 : decode cX2_isParted 38 = .ok (.getfield 74, 3) := by decide +kernel
theorem dX2_isParted_41 : decode cX2_isParted 41 = .ok (.aload_n 1, 1) := by decide +kernel
theorem dX2_isParted_42 : decode cX2_isParted 42 = .ok (.getfield 77, 3) := by decide +kernel
theorem dX2_isParted_45 : decode cX2_isParted 45 = .ok (.aload_n 2, 1) := by decide +kernel
theorem dX2_isParted_46 : decode cX2_isParted 46 = .ok (.getfield 65, 3) := by decide +kernel
theorem dX2_isParted_49 : decode cX2_isParted 49 = .ok (.aload_n 1, 1) := by decide +kernel
theorem dX2_isParted_50 : decode cX2_isParted 50 = .ok (.getfield 52, 3) := by decide +kernel
theorem dX2_isParted_53 : decode cX2_isParted 53 = .ok (.lsub, 1) := by decide +kernel
theorem dX2_isParted_54 : decode cX2_isParted 54 = .ok (.aload_n 2, 1) := by decide +kernel
theorem dX2_isParted_55 : decode cX2_isParted 55 = .ok (.getfield 68, 3) := by decide +kernel
theorem dX2_isParted_58 : decode cX2_isParted 58 = .ok (.aload_n 1, 1) := by decide +kernel
theorem dX2_isParted_59 : decode cX2_isParted 59 = .ok (.getfield 58, 3) := by decide +kernel
theorem dX2_isParted_62 : decode cX2_isParted 62 = .ok (.lsub, 1) := by decide +kernel
theorem dX2_isParted_63 : decode cX2_isParted 63 = .ok (.invokevirtual 80, 3) := by decide +kernel
theorem dX2_isParted_66 : decode cX2_isParted 66 = .ok (.aload_n 0, 1) := by decide +kernel
theorem dX2_isParted_67 : decode cX2_isParted 67 = .ok (.getfield 25, 3) := by decide +kernel
theorem dX2_isParted_70 : decode cX2_isParted 70 = .ok (.invokevirtual 84, 3) := by decide +kernel
theorem dX2_isParted_73 : decode cX2_isParted 73 = .ok (.aload_n 0, 1) := by decide +kernel
theorem dX2_isParted_74 : decode cX2_isParted 74 = .ok (.getfield 28, 3) := by decide +kernel
theorem dX2_isParted_77 : decode cX2_isParted 77 = .ok (.invokevirtual 84, 3) := by decide +kernel
theorem dX2_isParted_80 : decode cX2_isParted 80 = .ok (.imul, 1) := by decide +kernel
theorem dX2_isParted_81 : decode cX2_isParted 81 = .ok (.ifCond .ge 7, 3) := by decide +kernel
theorem dX2_isParted_84 : decode cX2_isParted 84 = .ok (.iconst 1, 1) := by decide +kernel
theorem dX2_isParted_85 : decode cX2_isParted 85 = .ok (.goto 4, 3) := by decide +kernel
theorem dX2_isParted_88 : decode cX2_isParted 88 = .ok (.iconst 0, 1) := by decide +kernel
theorem dX2_isParted_89 : decode cX2_isParted 89 = .ok (.ireturn, 1) := by decide +kernel
theorem dX2_takeIfNearer_0 : decode cX2_takeIfNearer 0 = .ok (.aload_n 0, 1) := by decide +kernel
theorem dX2_takeIfNearer_1 : decode cX2_takeIfNearer 1 = .ok (.aload_n 1, 1) := by decide +kernel
theorem dX2_takeIfNearer_2 : decode cX2_takeIfNearer 2 = .ok (.lload_n 2, 1) := by decide +kernel
theorem dX2_takeIfNearer_3 : decode cX2_takeIfNearer 3 = .ok (.lload 4, 2) := by decide +kernel
theorem dX2_takeIfNearer_5 : decode cX2_takeIfNearer 5 = .ok (.invokevirtual 88, 3) := by decide +kernel
theorem dX2_takeIfNearer_8 : decode cX2_takeIfNearer 8 = .ok (.aload_n 0, 1) := by decide +kernel
theorem dX2_takeIfNearer_9 : decode cX2_takeIfNearer 9 = .ok (.getfield 25, 3) := by decide +kernel
theorem dX2_takeIfNearer_12 : decode cX2_takeIfNearer 12 = .ok (.aload_n 0, 1) := by decide +kernel
theorem dX2_takeIfNearer_13 : decode cX2_takeIfNearer 13 = .ok (.getfield 19, 3) := by decide +kernel
theorem dX2_takeIfNearer_16 : decode cX2_takeIfNearer 16 = .ok (.aload_n 0, 1) := by decide +kernel
theorem dX2_takeIfNearer_17 : decode cX2_takeIfNearer 17 = .ok (.getfield 16, 3) := by decide +kernel
theorem dX2_takeIfNearer_20 : decode cX2_takeIfNearer 20 = .ok (.invokevirtual 91, 3) := by decide +kernel
theorem dX2_takeIfNearer_23 : decode cX2_takeIfNearer 23 = .ok (.aload_n 0, 1) := by decide +kernel
theorem dX2_takeIfNearer_24 : decode cX2_takeIfNearer 24 = .ok (.getfield 28, 3) := by decide +kernel
theorem dX2_takeIfNearer_27 : decode cX2_takeIfNearer 27 = .ok (.aload_n 0, 1) := by decide +kernel
theorem dX2_takeIfNearer_28 : decode cX2_takeIfNearer 28 = .ok (.getfield 22, 3) := by decide +kernel
theorem dX2_takeIfNearer_31 : decode cX2_takeIfNearer 31 = .ok (.aload_n 0, 1) := by decide +kernel
theorem dX2_takeIfNearer_32 : decode cX2_takeIfNearer 32 = .ok (.getfield 10, 3) := by decide +kernel
theorem dX2_takeIfNearer_35 : decode cX2_takeIfNearer 35 = .ok (.invokevirtual 91, 3) := by decide +kernel
theorem dX2_takeIfNearer_38 : decode cX2_takeIfNearer 38 = .ok (.aload_n 0, 1) := by decide +kernel
theorem dX2_takeIfNearer_39 : decode cX2_takeIfNearer 39 = .ok (.getfield 25, 3) := by decide +kernel
theorem dX2_takeIfNearer_42 : decode cX2_takeIfNearer 42 = .ok (.aload_n 0, 1) := by decide +kernel
theorem dX2_takeIfNearer_43 : decode cX2_takeIfNearer 43 = .ok (.getfield 28, 3) := by decide +kernel
theorem dX2_takeIfNearer_46 : decode cX2_takeIfNearer 46 = .ok (.invokevirtual 95, 3) := by decide +kernel
theorem dX2_takeIfNearer_49 : decode cX2_takeIfNearer 49 = .ok (.ifCond .ge 25, 3) := by decide +kernel
theorem dX2_takeIfNearer_52 : decode cX2_takeIfNearer 52 = .ok (.aload_n 0, 1) := by decide +kernel
theorem dX2_takeIfNearer_53 : decode cX2_takeIfNearer 53 = .ok (.getfield 10, 3) := by decide +kernel
theorem dX2_takeIfNearer_56 : decode cX2_takeIfNearer 56 = .ok (.aload_n 0, 1) := by decide +kernel
theorem dX2_takeIfNearer_57 : decode cX2_takeIfNearer 57 = .ok (.getfield 19, 3) := by decide +kernel
theorem dX2_takeIfNearer_60 : decode cX2_takeIfNearer 60 = .ok (.invokevirtual 99, 3) := by decide +kernel
theorem dX2_takeIfNearer_63 : decode cX2_takeIfNearer 63 = .ok (.aload_n 0, 1) := by decide +kernel
theorem dX2_takeIfNearer_64 : decode cX2_takeIfNearer 64 = .ok (.getfield 16, 3) := by decide +kernel
theorem dX2_takeIfNearer_67 : decode cX2_takeIfNearer 67 = .ok (.aload_n 0, 1) := by decide +kernel
theorem dX2_takeIfNearer_68 : decode cX2_takeIfNearer 68 = .ok (.getfield 22, 3) := by decide +kernel
theorem dX2_takeIfNearer_71 : decode cX2_takeIfNearer 71 = .ok (.invokevirtual 99, 3) := by decide +kernel
theorem dX2_takeIfNearer_74 : decode cX2_takeIfNearer 74 = .ok (.return_, 1) := by decide +kernel
theorem dX2_setNew_0 : decode cX2_setNew 0 = .ok (.lload_n 2, 1) := by decide +kernel
theorem dX2_setNew_1 : decode cX2_setNew 1 = .ok (.aload_n 1, 1) := by decide +kernel
theorem dX2_setNew_2 : decode cX2_setNew 2 = .ok (.getfield 52, 3) := by decide +kernel
theorem dX2_setNew_5 : decode cX2_setNew 5 = .ok (.lsub, 1) := by decide +kernel
theorem dX2_setNew_6 : decode cX2_setNew 6 = .ok (.lstore 6, 2) := by decide +kernel
theorem dX2_setNew_8 : decode cX2_setNew 8 = .ok (.lload 4, 2) := by decide +kernel
theorem dX2_setNew_10 : decode cX2_setNew 10 = .ok (.aload_n 1, 1) := by decide +kernel
theorem dX2_setNew_11 : decode cX2_setNew 11 = .ok (.getfield 58, 3) := by decide +kernel
theorem dX2_setNew_14 : decode cX2_setNew 14 = .ok (.lsub, 1) := by decide +kernel
theorem dX2_setNew_15 : decode cX2_setNew 15 = .ok (.lstore 8, 2) := by decide +kernel
theorem dX2_setNew_17 : decode cX2_setNew 17 = .ok (.aload_n 0, 1) := by decide +kernel
theorem dX2_setNew_18 : decode cX2_setNew 18 = .ok (.getfield 22, 3) := by decide +kernel
theorem dX2_setNew_21 : decode cX2_setNew 21 = .ok (.aload_n 1, 1) := by decide +kernel
theorem dX2_setNew_22 : decode cX2_setNew 22 = .ok (.getfield 74, 3) := by decide +kernel
theorem dX2_setNew_25 : decode cX2_setNew 25 = .ok (.aload_n 1, 1) := by decide +kernel
theorem dX2_setNew_26 : decode cX2_setNew 26 = .ok (.getfield 77, 3) := by decide +kernel
theorem dX2_setNew_29 : decode cX2_setNew 29 = .ok (.aload_n 1, 1) := by decide +kernel
theorem dX2_setNew_30 : decode cX2_setNew 30 = .ok (.getfield 74, 3) := by decide +kernel
theorem dX2_setNew_33 : decode cX2_setNew 33 = .ok (.aload_n 1, 1) := by decide +kernel
theorem dX2_setNew_34 : decode cX2_setNew 34 = .ok (.getfield 77, 3) := by decide +kernel
theorem dX2_setNew_37 : decode cX2_setNew 37 = .ok (.invokevirtual 102, 3) := by decide +kernel
theorem dX2_setNew_40 : decode cX2_setNew 40 = .ok (.aload_n 0, 1) := by decide +kernel
theorem dX2_setNew_41 : decode cX2_setNew 41 = .ok (.getfield 25, 3) := by decide +kernel
theorem dX2_setNew_44 : decode cX2_setNew 44 = .ok (.lload 6, 2) := by decide +kernel
theorem dX2_setNew_46 : decode cX2_setNew 46 = .ok (.lload 8, 2) := by decide +kernel
theorem dX2_setNew_48 : decode cX2_setNew 48 = .ok (.aload_n 1, 1) := by decide +kernel
theorem dX2_setNew_49 : decode cX2_setNew 49 = .ok (.getfield 74, 3) := by decide +kernel
theorem dX2_setNew_52 : decode cX2_setNew 52 = .ok (.aload_n 1, 1) := by decide +kernel
theorem dX2_setNew_53 : decode cX2_setNew 53 = .ok (.getfield 77, 3) := by decide +kernel
theorem dX2_setNew_56 : decode cX2_setNew 56 = .ok (.invokevirtual 102, 3) := by decide +kernel
theorem dX2_setNew_59 : decode cX2_setNew 59 = .ok (.aload_n 0, 1) := by decide +kernel
theorem dX2_setNew_60 : decode cX2_setNew 60 = .ok (.getfield 25, 3) := by decide +kernel
theorem dX2_setNew_63 : decode cX2_setNew 63 = .ok (.invokevirtual 84, 3) := by decide +kernel
theorem dX2_setNew_66 : decode cX2_setNew 66 = .ok (.ifCond .gt 29, 3) := by decide +kernel
theorem dX2_setNew_69 : decode cX2_setNew 69 = .ok (.aload_n 0, 1) := by decide +kernel
theorem dX2_setNew_70 : decode cX2_setNew 70 = .ok (.getfield 19, 3) := by decide +kernel
theorem dX2_setNew_73 : decode cX2_setNew 73 = .ok (.lload 6, 2) := by decide +kernel
theorem dX2_setNew_75 : decode cX2_setNew 75 = .ok (.lload 8, 2) := by decide +kernel
theorem dX2_setNew_77 : decode cX2_setNew 77 = .ok (.lload 6, 2) := by decide +kernel
theorem dX2_setNew_79 : decode cX2_setNew 79 = .ok (.lload 8, 2) := by decide +kernel
theorem dX2_setNew_81 : decode cX2_setNew 81 = .ok (.invokevirtual 102, 3) := by decide +kernel
theorem dX2_setNew_84 : decode cX2_setNew 84 = .ok (.aload_n 0, 1) := by decide +kernel
theorem dX2_setNew_85 : decode cX2_setNew 85 = .ok (.getfield 22, 3) := by decide +kernel
theorem dX2_setNew_88 : decode cX2_setNew 88 = .ok (.lconst 1, 1) := by decide +kernel
theorem dX2_setNew_89 : decode cX2_setNew 89 = .ok (.invokevirtual 48, 3) := by decide +kernel
theorem dX2_setNew_92 : decode cX2_setNew 92 = .ok (.goto 95, 3) := by decide +kernel
theorem dX2_setNew_95 : decode cX2_setNew 95 = .ok (.aload_n 0, 1) := by decide +kernel
theorem dX2_setNew_96 : decode cX2_setNew 96 = .ok (.getfield 25, 3) := by decide +kernel
theorem dX2_setNew_99 : decode cX2_setNew 99 = .ok (.aload_n 0, 1) := by decide +kernel
theorem dX2_setNew_100 : decode cX2_setNew 100 = .ok (.getfield 22, 3) := by decide +kernel
theorem dX2_setNew_103 : decode cX2_setNew 103 = .ok (.invokevirtual 95, 3) := by decide +kernel
theorem dX2_setNew_106 : decode cX2_setNew 106 = .ok (.ifCond .lt 47, 3) := by decide +kernel
theorem dX2_setNew_109 : decode cX2_setNew 109 = .ok (.aload_n 0, 1) := by decide +kernel
theorem dX2_setNew_110 : decode cX2_setNew 110 = .ok (.getfield 19, 3) := by decide +kernel
theorem dX2_setNew_113 : decode cX2_setNew 113 = .ok (.lload_n 2, 1) := by decide +kernel
theorem dX2_setNew_114 : decode cX2_setNew 114 = .ok (.aload_n 1, 1) := by decide +kernel
theorem dX2_setNew_115 : decode cX2_setNew 115 = .ok (.getfield 65, 3) := by decide +kernel
theorem dX2_setNew_118 : decode cX2_setNew 118 = .ok (.lsub, 1) := by decide +kernel
theorem dX2_setNew_119 : decode cX2_setNew 119 = .ok (.lload 4, 2) := by decide +kernel
theorem dX2_setNew_121 : decode cX2_setNew 121 = .ok (.aload_n 1, 1) := by decide +kernel
theorem dX2_setNew_122 : decode cX2_setNew 122 = .ok (.getfield 68, 3) := by decide +kernel
theorem dX2_setNew_125 : decode cX2_setNew 125 = .ok (.lsub, 1) := by decide +kernel
theorem dX2_setNew_126 : decode cX2_setNew 126 = .ok (.lload_n 2, 1) := by decide +kernel
theorem dX2_setNew_127 : decode cX2_setNew 127 = .ok (.aload_n 1, 1) := by decide +kernel
theorem dX2_setNew_128 : decode cX2_setNew 128 = .ok (.getfield 65, 3) := by decide +kernel
theorem dX2_setNew_131 : decode cX2_setNew 131 = .ok (.lsub, 1) := by decide +kernel
theorem dX2_setNew_132 : decode cX2_setNew 132 = .ok (.lload 4, 2) := by decide +kernel
theorem dX2_setNew_134 : decode cX2_setNew 134 = .ok (.aload_n 1, 1) := by decide +kernel
theorem dX2_setNew_135 : decode cX2_setNew 135 = .ok (.getfield 68, 3) := by decide +kernel
theorem dX2_setNew_138 : decode cX2_setNew 138 = .ok (.lsub, 1) := by decide +kernel
theorem dX2_setNew_139 : decode cX2_setNew 139 = .ok (.invokevirtual 102, 3) := by decide +kernel
theorem dX2_setNew_142 : decode cX2_setNew 142 = .ok (.aload_n 0, 1) := by decide +kernel
theorem dX2_setNew_143 : decode cX2_setNew 143 = .ok (.getfield 22, 3) := by decide +kernel
theorem dX2_setNew_146 : decode cX2_setNew 146 = .ok (.lconst 1, 1) := by decide +kernel
theorem dX2_setNew_147 : decode cX2_setNew 147 = .ok (.invokevirtual 48, 3) := by decide +kernel
theorem dX2_setNew_150 : decode cX2_setNew 150 = .ok (.goto 37, 3) := by decide +kernel
theorem dX2_setNew_153 : decode cX2_setNew 153 = .ok (.aload_n 0, 1) := by decide +kernel
theorem dX2_setNew_154 : decode cX2_setNew 154 = .ok (.getfield 25, 3) := by decide +kernel
theorem dX2_setNew_157 : decode cX2_setNew 157 = .ok (.aload_n 1, 1) := by decide +kernel
theorem dX2_setNew_158 : decode cX2_setNew 158 = .ok (.getfield 74, 3) := by decide +kernel
theorem dX2_setNew_161 : decode cX2_setNew 161 = .ok (.aload_n 1, 1) := by decide +kernel
theorem dX2_setNew_162 : decode cX2_setNew 162 = .ok (.getfield 77, 3) := by decide +kernel
theorem dX2_setNew_165 : decode cX2_setNew 165 = .ok (.lload 6, 2) := by decide +kernel
theorem dX2_setNew_167 : decode cX2_setNew 167 = .ok (.lload 8, 2) := by decide +kernel
theorem dX2_setNew_169 : decode cX2_setNew 169 = .ok (.invokevirtual 80, 3) := by decide +kernel
theorem dX2_setNew_172 : decode cX2_setNew 172 = .ok (.aload_n 0, 1) := by decide +kernel
theorem dX2_setNew_173 : decode cX2_setNew 173 = .ok (.getfield 19, 3) := by decide +kernel
theorem dX2_setNew_176 : decode cX2_setNew 176 = .ok (.aload_n 0, 1) := by decide +kernel
theorem dX2_setNew_177 : decode cX2_setNew 177 = .ok (.getfield 25, 3) := by decide +kernel
theorem dX2_setNew_180 : decode cX2_setNew 180 = .ok (.aload_n 0, 1) := by decide +kernel
theorem dX2_setNew_181 : decode cX2_setNew 181 = .ok (.getfield 25, 3) := by decide +kernel
theorem dX2_setNew_184 : decode cX2_setNew 184 = .ok (.invokevirtual 91, 3) := by decide +kernel
theorem dX2_setNew_187 : decode cX2_setNew 187 = .ok (.return_, 1) := by decide +kernel
theorem dX2_reduce_0 : decode cX2_reduce 0 = .ok (.aload_n 0, 1) := by decide +kernel
theorem dX2_reduce_1 : decode cX2_reduce 1 = .ok (.invokevirtual 105, 3) := by decide +kernel
theorem dX2_reduce_4 : decode cX2_reduce 4 = .ok (.astore_n 1, 1) := by decide +kernel
theorem dX2_reduce_5 : decode cX2_reduce 5 = .ok (.aload_n 0, 1) := by decide +kernel
theorem dX2_reduce_6 : decode cX2_reduce 6 = .ok (.getfield 19, 3) := by decide +kernel
theorem dX2_reduce_9 : decode cX2_reduce 9 = .ok (.aload_n 0, 1) := by decide +kernel
theorem dX2_reduce_10 : decode cX2_reduce 10 = .ok (.getfield 10, 3) := by decide +kernel
theorem dX2_reduce_13 : decode cX2_reduce 13 = .ok (.invokevirtual 99, 3) := by decide +kernel
theorem dX2_reduce_16 : decode cX2_reduce 16 = .ok (.aload_n 0, 1) := by decide +kernel
theorem dX2_reduce_17 : decode cX2_reduce 17 = .ok (.aload_n 0, 1) := by decide +kernel
theorem dX2_reduce_18 : decode cX2_reduce 18 = .ok (.getfield 19, 3) := by decide +kernel
theorem dX2_reduce_21 : decode cX2_reduce 21 = .ok (.aload_n 1, 1) := by decide +kernel
theorem dX2_reduce_22 : decode cX2_reduce 22 = .ok (.invokevirtual 109, 3) := by decide +kernel
theorem dX2_reduce_25 : decode cX2_reduce 25 = .ok (.aload_n 0, 1) := by decide +kernel
theorem dX2_reduce_26 : decode cX2_reduce 26 = .ok (.getfield 10, 3) := by decide +kernel
theorem dX2_reduce_29 : decode cX2_reduce 29 = .ok (.aload_n 0, 1) := by decide +kernel
theorem dX2_reduce_30 : decode cX2_reduce 30 = .ok (.getfield 31, 3) := by decide +kernel
theorem dX2_reduce_33 : decode cX2_reduce 33 = .ok (.invokevirtual 99, 3) := by decide +kernel
theorem dX2_reduce_36 : decode cX2_reduce 36 = .ok (.aload_n 0, 1) := by decide +kernel
theorem dX2_reduce_37 : decode cX2_reduce 37 = .ok (.getfield 22, 3) := by decide +kernel
theorem dX2_reduce_40 : decode cX2_reduce 40 = .ok (.aload_n 0, 1) := by decide +kernel
theorem dX2_reduce_41 : decode cX2_reduce 41 = .ok (.getfield 16, 3) := by decide +kernel
theorem dX2_reduce_44 : decode cX2_reduce 44 = .ok (.invokevirtual 99, 3) := by decide +kernel
theorem dX2_reduce_47 : decode cX2_reduce 47 = .ok (.aload_n 0, 1) := by decide +kernel
theorem dX2_reduce_48 : decode cX2_reduce 48 = .ok (.aload_n 0, 1) := by decide +kernel
theorem dX2_reduce_49 : decode cX2_reduce 49 = .ok (.getfield 22, 3) := by decide +kernel
theorem dX2_reduce_52 : decode cX2_reduce 52 = .ok (.aload_n 1, 1) := by decide +kernel
theorem dX2_reduce_53 : decode cX2_reduce 53 = .ok (.invokevirtual 109, 3) := by decide +kernel
theorem dX2_reduce_56 : decode cX2_reduce 56 = .ok (.aload_n 0, 1) := by decide +kernel
theorem dX2_reduce_57 : decode cX2_reduce 57 = .ok (.getfield 16, 3) := by decide +kernel
theorem dX2_reduce_60 : decode cX2_reduce 60 = .ok (.aload_n 0, 1) := by decide +kernel
theorem dX2_reduce_61 : decode cX2_reduce 61 = .ok (.getfield 31, 3) := by decide +kernel
theorem dX2_reduce_64 : decode cX2_reduce 64 = .ok (.invokevirtual 99, 3) := by decide +kernel
theorem dX2_reduce_67 : decode cX2_reduce 67 = .ok (.return_, 1) := by decide +kernel
theorem dX2_commonDivisor_0 : decode cX2_commonDivisor 0 = .ok (.aload_n 0, 1) := by decide +kernel
theorem dX2_commonDivisor_1 : decode cX2_commonDivisor 1 = .ok (.getfield 25, 3) := by decide +kernel
theorem dX2_commonDivisor_4 : decode cX2_commonDivisor 4 = .ok (.aload_n 0, 1) := by decide +kernel
theorem dX2_commonDivisor_5 : decode cX2_commonDivisor 5 = .ok (.getfield 10, 3) := by decide +kernel
theorem dX2_commonDivisor_8 : decode cX2_commonDivisor 8 = .ok (.invokevirtual 99, 3) := by decide +kernel
theorem dX2_commonDivisor_11 : decode cX2_commonDivisor 11 = .ok (.aload_n 0, 1) := by decide +kernel
theorem dX2_commonDivisor_12 : decode cX2_commonDivisor 12 = .ok (.getfield 28, 3) := by decide +kernel
theorem dX2_commonDivisor_15 : decode cX2_commonDivisor 15 = .ok (.aload_n 0, 1) := by decide +kernel
theorem dX2_commonDivisor_16 : decode cX2_commonDivisor 16 = .ok (.getfield 16, 3) := by decide +kernel
theorem dX2_commonDivisor_19 : decode cX2_commonDivisor 19 = .ok (.invokevirtual 99, 3) := by decide +kernel
theorem dX2_commonDivisor_22 : decode cX2_commonDivisor 22 = .ok (.aload_n 0, 1) := by decide +kernel
theorem dX2_commonDivisor_23 : decode cX2_commonDivisor 23 = .ok (.getfield 25, 3) := by decide +kernel
theorem dX2_commonDivisor_26 : decode cX2_commonDivisor 26 = .ok (.astore_n 1, 1) := by decide +kernel
theorem dX2_commonDivisor_27 : decode cX2_commonDivisor 27 = .ok (.aload_n 0, 1) := by decide +kernel
theorem dX2_commonDivisor_28 : decode cX2_commonDivisor 28 = .ok (.getfield 28, 3) := by decide +kernel
theorem dX2_commonDivisor_31 : decode cX2_commonDivisor 31 = .ok (.astore_n 2, 1) := by decide +kernel
theorem dX2_commonDivisor_32 : decode cX2_commonDivisor 32 = .ok (.iconst 0, 1) := by decide +kernel
theorem dX2_commonDivisor_33 : decode cX2_commonDivisor 33 = .ok (.istore_n 3, 1) := by decide +kernel
theorem dX2_commonDivisor_34 : decode cX2_commonDivisor 34 = .ok (.iload_n 3, 1) := by decide +kernel
theorem dX2_commonDivisor_35 : decode cX2_commonDivisor 35 = .ok (.sipush 1000, 3) := by decide +kernel
theorem dX2_commonDivisor_38 : decode cX2_commonDivisor 38 = .ok (.if_icmp .ge 30, 3) := by decide +kernel
theorem dX2_commonDivisor_41 : decode cX2_commonDivisor 41 = .ok (.aload_n 2, 1) := by decide +kernel
theorem dX2_commonDivisor_42 : decode cX2_commonDivisor 42 = .ok (.invokevirtual 84, 3) := by decide +kernel
theorem dX2_commonDivisor_45 : decode cX2_commonDivisor 45 = .ok (.ifCond .eq 23, 3) := by decide +kernel
theorem dX2_commonDivisor_48 : decode cX2_commonDivisor 48 = .ok (.aload_n 0, 1) := by decide +kernel
theorem dX2_commonDivisor_49 : decode cX2_commonDivisor 49 = .ok (.aload_n 1, 1) := by decide +kernel
theorem dX2_commonDivisor_50 : decode cX2_commonDivisor 50 = .ok (.aload_n 2, 1) := by decide +kernel
theorem dX2_commonDivisor_51 : decode cX2_commonDivisor 51 = .ok (.invokevirtual 109, 3) := by decide +kernel
theorem dX2_commonDivisor_54 : decode cX2_commonDivisor 54 = .ok (.aload_n 1, 1) := by decide +kernel
theorem dX2_commonDivisor_55 : decode cX2_commonDivisor 55 = .ok (.astore 4, 2) := by decide +kernel
theorem dX2_commonDivisor_57 : decode cX2_commonDivisor 57 = .ok (.aload_n 2, 1) := by decide +kernel
theorem dX2_commonDivisor_58 : decode cX2_commonDivisor 58 = .ok (.astore_n 1, 1) := by decide +kernel
theorem dX2_commonDivisor_59 : decode cX2_commonDivisor 59 = .ok (.aload 4, 2) := by decide +kernel
theorem dX2_commonDivisor_61 : decode cX2_commonDivisor 61 = .ok (.astore_n 2, 1) := by decide +kernel
theorem dX2_commonDivisor_62 : decode cX2_commonDivisor 62 = .ok (.iinc 3 1, 3) := by decide +kernel
theorem dX2_commonDivisor_65 : decode cX2_commonDivisor 65 = .ok (.goto (-31), 3) := by decide +kernel
theorem dX2_commonDivisor_68 : decode cX2_commonDivisor 68 = .ok (.aload_n 1, 1) := by decide +kernel
theorem dX2_commonDivisor_69 : decode cX2_commonDivisor 69 = .ok (.areturn, 1) := by decide +kernel
theorem dX2_divide_0 : decode cX2_divide 0 = .ok (.aload_n 1, 1) := by decide +kernel
theorem dX2_divide_1 : decode cX2_divide 1 = .ok (.invokevirtual 112, 3) := by decide +kernel
theorem dX2_divide_4 : decode cX2_divide 4 = .ok (.aload_n 2, 1) := by decide +kernel
theorem dX2_divide_5 : decode cX2_divide 5 = .ok (.invokevirtual 112, 3) := by decide +kernel
theorem dX2_divide_8 : decode cX2_divide 8 = .ok (.isub, 1) := by decide +kernel
theorem dX2_divide_9 : decode cX2_divide 9 = .ok (.istore_n 3, 1) := by decide +kernel
theorem dX2_divide_10 : decode cX2_divide 10 = .ok (.aload_n 0, 1) := by decide +kernel
theorem dX2_divide_11 : decode cX2_divide 11 = .ok (.getfield 31, 3) := by decide +kernel
theorem dX2_divide_14 : decode cX2_divide 14 = .ok (.lconst 0, 1) := by decide +kernel
theorem dX2_divide_15 : decode cX2_divide 15 = .ok (.invokevirtual 48, 3) := by decide +kernel
theorem dX2_divide_18 : decode cX2_divide 18 = .ok (.iload_n 3, 1) := by decide +kernel
theorem dX2_divide_19 : decode cX2_divide 19 = .ok (.ifCond .ge 4, 3) := by decide +kernel
theorem dX2_divide_22 : decode cX2_divide 22 = .ok (.return_, 1) := by decide +kernel
theorem dX2_divide_23 : decode cX2_divide 23 = .ok (.aload_n 0, 1) := by decide +kernel
theorem dX2_divide_24 : decode cX2_divide 24 = .ok (.getfield 34, 3) := by decide +kernel
theorem dX2_divide_27 : decode cX2_divide 27 = .ok (.aload_n 2, 1) := by decide +kernel
theorem dX2_divide_28 : decode cX2_divide 28 = .ok (.invokevirtual 99, 3) := by decide +kernel
theorem dX2_divide_31 : decode cX2_divide 31 = .ok (.aload_n 0, 1) := by decide +kernel
theorem dX2_divide_32 : decode cX2_divide 32 = .ok (.getfield 34, 3) := by decide +kernel
theorem dX2_divide_35 : decode cX2_divide 35 = .ok (.iload_n 3, 1) := by decide +kernel
theorem dX2_divide_36 : decode cX2_divide 36 = .ok (.invokevirtual 115, 3) := by decide +kernel
theorem dX2_divide_39 : decode cX2_divide 39 = .ok (.iload_n 3, 1) := by decide +kernel
theorem dX2_divide_40 : decode cX2_divide 40 = .ok (.istore 4, 2) := by decide +kernel
theorem dX2_divide_42 : decode cX2_divide 42 = .ok (.iload 4, 2) := by decide +kernel
theorem dX2_divide_44 : decode cX2_divide 44 = .ok (.ifCond .lt 44, 3) := by decide +kernel
theorem dX2_divide_47 : decode cX2_divide 47 = .ok (.aload_n 1, 1) := by decide +kernel
theorem dX2_divide_48 : decode cX2_divide 48 = .ok (.aload_n 0, 1) := by decide +kernel
theorem dX2_divide_49 : decode cX2_divide 49 = .ok (.getfield 34, 3) := by decide +kernel
theorem dX2_divide_52 : decode cX2_divide 52 = .ok (.invokevirtual 95, 3) := by decide +kernel
theorem dX2_divide_55 : decode cX2_divide 55 = .ok (.ifCond .lt 20, 3) := by decide +kernel
theorem dX2_divide_58 : decode cX2_divide 58 = .ok (.aload_n 1, 1) := by decide +kernel
theorem dX2_divide_59 : decode cX2_divide 59 = .ok (.aload_n 0, 1) := by decide +kernel
theorem dX2_divide_60 : decode cX2_divide 60 = .ok (.getfield 34, 3) := by decide +kernel
theorem dX2_divide_63 : decode cX2_divide 63 = .ok (.invokevirtual 119, 3) := by decide +kernel
theorem dX2_divide_66 : decode cX2_divide 66 = .ok (.aload_n 0, 1) := by decide +kernel
theorem dX2_divide_67 : decode cX2_divide 67 = .ok (.getfield 31, 3) := by decide +kernel
theorem dX2_divide_70 : decode cX2_divide 70 = .ok (.iload 4, 2) := by decide +kernel
theorem dX2_divide_72 : decode cX2_divide 72 = .ok (.invokevirtual 122, 3) := by decide +kernel
theorem dX2_divide_75 : decode cX2_divide 75 = .ok (.aload_n 0, 1) := by decide +kernel
theorem dX2_divide_76 : decode cX2_divide 76 = .ok (.getfield 34, 3) := by decide +kernel
theorem dX2_divide_79 : decode cX2_divide 79 = .ok (.invokevirtual 125, 3) := by decide +kernel
theorem dX2_divide_82 : decode cX2_divide 82 = .ok (.iinc 4 (-1), 3) := by decide +kernel
theorem dX2_divide_85 : decode cX2_divide 85 = .ok (.goto (-43), 3) := by decide +kernel
theorem dX2_divide_88 : decode cX2_divide 88 = .ok (.return_, 1) := by decide +kernel
theorem dX3_init_0 : decode cX3_init 0 = .ok (.aload_n 0, 1) := by decide +kernel
theorem dX3_init_1 : decode cX3_init 1 = .ok (.invokespecial 1, 3) := by decide +kernel
theorem dX3_init_4 : decode cX3_init 4 = .ok (.aload_n 0, 1) := by decide +kernel
theorem dX3_init_5 : decode cX3_init 5 = .ok (.new 7, 3) := by decide +kernel
theorem dX3_init_8 : decode cX3_init 8 = .ok (.dup, 1) := by decide +kernel
theorem dX3_init_9 : decode cX3_init 9 = .ok (.invokespecial 9, 3) := by decide +kernel
theorem dX3_init_12 : decode cX3_init 12 = .ok (.putfield 10, 3) := by decide +kernel
theorem dX3_init_15 : decode cX3_init 15 = .ok (.aload_n 0, 1) := by decide +kernel
theorem dX3_init_16 : decode cX3_init 16 = .ok (.new 7, 3) := by decide +kernel
theorem dX3_init_19 : decode cX3_init 19 = .ok (.dup, 1) := by decide +kernel
theorem dX3_init_20 : decode cX3_init 20 = .ok (.invokespecial 9, 3) := by decide +kernel
theorem dX3_init_23 : decode cX3_init 23 = .ok (.putfield 16, 3) := by decide +kernel
theorem dX3_init_26 : decode cX3_init 26 = .ok (.return_, 1) := by decide +kernel
theorem dX4_init_0 : decode cX4_init 0 = .ok (.aload_n 0, 1) := by decide +kernel
theorem dX4_init_1 : decode cX4_init 1 = .ok (.invokespecial 1, 3) := by decide +kernel
theorem dX4_init_4 : decode cX4_init 4 = .ok (.aload_n 0, 1) := by decide +kernel
theorem dX4_init_5 : decode cX4_init 5 = .ok (.new 7, 3) := by decide +kernel
theorem dX4_init_8 : decode cX4_init 8 = .ok (.dup, 1) := by decide +kernel
theorem dX4_init_9 : decode cX4_init 9 = .ok (.invokespecial 9, 3) := by decide +kernel
theorem dX4_init_12 : decode cX4_init 12 = .ok (.putfield 10, 3) := by decide +kernel
theorem dX4_init_15 : decode cX4_init 15 = .ok (.return_, 1) := by decide +kernel
theorem dX4_forget_0 : decode cX4_forget 0 = .ok (.aload_n 0, 1) := by decide +kernel
theorem dX4_forget_1 : decode cX4_forget 1 = .ok (.iconst 0, 1) := by decide +kernel
theorem dX4_forget_2 : decode cX4_forget 2 = .ok (.putfield 16, 3) := by decide +kernel
theorem dX4_forget_5 : decode cX4_forget 5 = .ok (.aload_n 0, 1) := by decide +kernel
theorem dX4_forget_6 : decode cX4_forget 6 = .ok (.lconst 0, 1) := by decide +kernel
theorem dX4_forget_7 : decode cX4_forget 7 = .ok (.putfield 20, 3) := by decide +kernel
theorem dX4_forget_10 : decode cX4_forget 10 = .ok (.aload_n 0, 1) := by decide +kernel
theorem dX4_forget_11 : decode cX4_forget 11 = .ok (.lconst 0, 1) := by decide +kernel
theorem dX4_forget_12 : decode cX4_forget 12 = .ok (.putfield 24, 3) := by decide +kernel
theorem dX4_forget_15 : decode cX4_forget 15 = .ok (.aload_n 0, 1) := by decide +kernel
theorem dX4_forget_16 : decode cX4_forget 16 = .ok (.lconst 0, 1) := by decide +kernel
theorem dX4_forget_17 : decode cX4_forget 17 = .ok (.putfield 27, 3) := by decide +kernel
theorem dX4_forget_20 : decode cX4_forget 20 = .ok (.aload_n 0, 1) := by decide +kernel
theorem dX4_forget_21 : decode cX4_forget 21 = .ok (.lconst 0, 1) := by decide +kernel
theorem dX4_forget_22 : decode cX4_forget 22 = .ok (.putfield 30, 3) := by decide +kernel
theorem dX4_forget_25 : decode cX4_forget 25 = .ok (.aload_n 0, 1) := by decide +kernel
theorem dX4_forget_26 : decode cX4_forget 26 = .ok (.getfield 10, 3) := by decide +kernel
theorem dX4_forget_29 : decode cX4_forget 29 = .ok (.lconst 0, 1) := by decide +kernel
theorem dX4_forget_30 : decode cX4_forget 30 = .ok (.invokevirtual 33, 3) := by decide +kernel
theorem dX4_forget_33 : decode cX4_forget 33 = .ok (.return_, 1) := by decide +kernel
theorem dX4_add_0 : decode cX4_add 0 = .ok (.aload_n 0, 1) := by decide +kernel
theorem dX4_add_1 : decode cX4_add 1 = .ok (.getfield 16, 3) := by decide +kernel
theorem dX4_add_4 : decode cX4_add 4 = .ok (.ifCond .ne 16, 3) := by decide +kernel
theorem dX4_add_7 : decode cX4_add 7 = .ok (.aload_n 0, 1) := by decide +kernel
theorem dX4_add_8 : decode cX4_add 8 = .ok (.lload_n 1, 1) := by decide +kernel
theorem dX4_add_9 : decode cX4_add 9 = .ok (.putfield 20, 3) := by decide +kernel
theorem dX4_add_12 : decode cX4_add 12 = .ok (.aload_n 0, 1) := by decide +kernel
theorem dX4_add_13 : decode cX4_add 13 = .ok (.lload_n 3, 1) := by decide +kernel
theorem dX4_add_14 : decode cX4_add 14 = .ok (.putfield 24, 3) := by decide +kernel
theorem dX4_add_17 : decode cX4_add 17 = .ok (.goto 20, 3) := by decide +kernel
theorem dX4_add_20 : decode cX4_add 20 = .ok (.aload_n 0, 1) := by decide +kernel
theorem dX4_add_21 : decode cX4_add 21 = .ok (.getfield 10, 3) := by decide +kernel
theorem dX4_add_24 : decode cX4_add 24 = .ok (.aload_n 0, 1) := by decide +kernel
theorem dX4_add_25 : decode cX4_add 25 = .ok (.getfield 27, 3) := by decide +kernel
theorem dX4_add_28 : decode cX4_add 28 = .ok (.aload_n 0, 1) := by decide +kernel
theorem dX4_add_29 : decode cX4_add 29 = .ok (.getfield 30, 3) := by decide +kernel
theorem dX4_add_32 : decode cX4_add 32 = .ok (.lload_n 1, 1) := by decide +kernel
theorem dX4_add_33 : decode cX4_add 33 = .ok (.lload_n 3, 1) := by decide +kernel
theorem dX4_add_34 : decode cX4_add 34 = .ok (.invokevirtual 37, 3) := by decide +kernel
theorem dX4_add_37 : decode cX4_add 37 = .ok (.aload_n 0, 1) := by decide +kernel
theorem dX4_add_38 : decode cX4_add 38 = .ok (.lload_n 1, 1) := by decide +kernel
theorem dX4_add_39 : decode cX4_add 39 = .ok (.putfield 27, 3) := by decide +kernel
theorem dX4_add_42 : decode cX4_add 42 = .ok (.aload_n 0, 1) := by decide +kernel
theorem dX4_add_43 : decode cX4_add 43 = .ok (.lload_n 3, 1) := by decide +kernel
theorem dX4_add_44 : decode cX4_add 44 = .ok (.putfield 30, 3) := by decide +kernel
theorem dX4_add_47 : decode cX4_add 47 = .ok (.aload_n 0, 1) := by decide +kernel
theorem dX4_add_48 : decode cX4_add 48 = .ok (.dup, 1) := by decide +kernel
theorem dX4_add_49 : decode cX4_add 49 = .ok (.getfield 16, 3) := by decide +kernel
theorem dX4_add_52 : decode cX4_add 52 = .ok (.iconst 1, 1) := by decide +kernel
theorem dX4_add_53 : decode cX4_add 53 = .ok (.iadd, 1) := by decide +kernel
theorem dX4_add_54 : decode cX4_add 54 = .ok (.putfield 16, 3) := by decide +kernel
theorem dX4_add_57 : decode cX4_add 57 = .ok (.return_, 1) := by decide +kernel
theorem dX4_measureTwice_0 : decode cX4_measureTwice 0 = .ok (.aload_n 1, 1) := by decide +kernel
theorem dX4_measureTwice_1 : decode cX4_measureTwice 1 = .ok (.aload_n 0, 1) := by decide +kernel
theorem dX4_measureTwice_2 : decode cX4_measureTwice 2 = .ok (.getfield 10, 3) := by decide +kernel
theorem dX4_measureTwice_5 : decode cX4_measureTwice 5 = .ok (.invokevirtual 41, 3) := by decide +kernel
theorem dX4_measureTwice_8 : decode cX4_measureTwice 8 = .ok (.aload_n 1, 1) := by decide +kernel
theorem dX4_measureTwice_9 : decode cX4_measureTwice 9 = .ok (.aload_n 0, 1) := by decide +kernel
theorem dX4_measureTwice_10 : decode cX4_measureTwice 10 = .ok (.getfield 27, 3) := by decide +kernel
theorem dX4_measureTwice_13 : decode cX4_measureTwice 13 = .ok (.aload_n 0, 1) := by decide +kernel
theorem dX4_measureTwice_14 : decode cX4_measureTwice 14 = .ok (.getfield 30, 3) := by decide +kernel
theorem dX4_measureTwice_17 : decode cX4_measureTwice 17 = .ok (.aload_n 0, 1) := by decide +kernel
theorem dX4_measureTwice_18 : decode cX4_measureTwice 18 = .ok (.getfield 20, 3) := by decide +kernel
theorem dX4_measureTwice_21 : decode cX4_measureTwice 21 = .ok (.aload_n 0, 1) := by decide +kernel
theorem dX4_measureTwice_22 : decode cX4_measureTwice 22 = .ok (.getfield 24, 3) := by decide +kernel
theorem dX4_measureTwice_25 : decode cX4_measureTwice 25 = .ok (.invokevirtual 37, 3) := by decide +kernel
theorem dX4_measureTwice_28 : decode cX4_measureTwice 28 = .ok (.return_, 1) := by decide +kernel
theorem dX5_init_0 : decode cX5_init 0 = .ok (.aload_n 0, 1) := by decide +kernel
theorem dX5_init_1 : decode cX5_init 1 = .ok (.invokespecial 1, 3) := by decide +kernel
theorem dX5_init_4 : decode cX5_init 4 = .ok (.aload_n 0, 1) := by decide +kernel
theorem dX5_init_5 : decode cX5_init 5 = .ok (.new 7, 3) := by decide +kernel
theorem dX5_init_8 : decode cX5_init 8 = .ok (.dup, 1) := by decide +kernel
theorem dX5_init_9 : decode cX5_init 9 = .ok (.invokespecial 9, 3) := by decide +kernel
theorem dX5_init_12 : decode cX5_init 12 = .ok (.putfield 10, 3) := by decide +kernel
theorem dX5_init_15 : decode cX5_init 15 = .ok (.aload_n 0, 1) := by decide +kernel
theorem dX5_init_16 : decode cX5_init 16 = .ok (.new 7, 3) := by decide +kernel
theorem dX5_init_19 : decode cX5_init 19 = .ok (.dup, 1) := by decide +kernel
theorem dX5_init_20 : decode cX5_init 20 = .ok (.invokespecial 9, 3) := by decide +kernel
theorem dX5_init_23 : decode cX5_init 23 = .ok (.putfield 16, 3) := by decide +kernel
theorem dX5_init_26 : decode cX5_init 26 = .ok (.aload_n 0, 1) := by decide +kernel
theorem dX5_init_27 : decode cX5_init 27 = .ok (.new 7, 3) := by decide +kernel
theorem dX5_init_30 : decode cX5_init 30 = .ok (.dup, 1) := by decide +kernel
theorem dX5_init_31 : decode cX5_init 31 = .ok (.invokespecial 9, 3) := by decide +kernel
theorem dX5_init_34 : decode cX5_init 34 = .ok (.putfield 19, 3) := by decide +kernel
theorem dX5_init_37 : decode cX5_init 37 = .ok (.return_, 1) := by decide +kernel
theorem dX5_setTo_0 : decode cX5_setTo 0 = .ok (.aload_n 0, 1) := by decide +kernel
theorem dX5_setTo_1 : decode cX5_setTo 1 = .ok (.getfield 10, 3) := by decide +kernel
theorem dX5_setTo_4 : decode cX5_setTo 4 = .ok (.aload_n 1, 1) := by decide +kernel
theorem dX5_setTo_5 : decode cX5_setTo 5 = .ok (.getfield 10, 3) := by decide +kernel
theorem dX5_setTo_8 : decode cX5_setTo 8 = .ok (.invokevirtual 22, 3) := by decide +kernel
theorem dX5_setTo_11 : decode cX5_setTo 11 = .ok (.aload_n 0, 1) := by decide +kernel
theorem dX5_setTo_12 : decode cX5_setTo 12 = .ok (.getfield 16, 3) := by decide +kernel
theorem dX5_setTo_15 : decode cX5_setTo 15 = .ok (.aload_n 1, 1) := by decide +kernel
theorem dX5_setTo_16 : decode cX5_setTo 16 = .ok (.getfield 16, 3) := by decide +kernel
theorem dX5_setTo_19 : decode cX5_setTo 19 = .ok (.invokevirtual 22, 3) := by decide +kernel
theorem dX5_setTo_22 : decode cX5_setTo 22 = .ok (.aload_n 0, 1) := by decide +kernel
theorem dX5_setTo_23 : decode cX5_setTo 23 = .ok (.aload_n 1, 1) := by decide +kernel
theorem dX5_setTo_24 : decode cX5_setTo 24 = .ok (.getfield 26, 3) := by decide +kernel
theorem dX5_setTo_27 : decode cX5_setTo 27 = .ok (.putfield 26, 3) := by decide +kernel
theorem dX5_setTo_30 : decode cX5_setTo 30 = .ok (.aload_n 0, 1) := by decide +kernel
theorem dX5_setTo_31 : decode cX5_setTo 31 = .ok (.aload_n 1, 1) := by decide +kernel
theorem dX5_setTo_32 : decode cX5_setTo 32 = .ok (.getfield 30, 3) := by decide +kernel
theorem dX5_setTo_35 : decode cX5_setTo 35 = .ok (.putfield 30, 3) := by decide +kernel
theorem dX5_setTo_38 : decode cX5_setTo 38 = .ok (.return_, 1) := by decide +kernel
theorem dX5_setRoot_0 : decode cX5_setRoot 0 = .ok (.aload_n 0, 1) := by decide +kernel
theorem dX5_setRoot_1 : decode cX5_setRoot 1 = .ok (.lload_n 1, 1) := by decide +kernel
theorem dX5_setRoot_2 : decode cX5_setRoot 2 = .ok (.putfield 30, 3) := by decide +kernel
theorem dX5_setRoot_5 : decode cX5_setRoot 5 = .ok (.aload_n 0, 1) := by decide +kernel
theorem dX5_setRoot_6 : decode cX5_setRoot 6 = .ok (.lload_n 1, 1) := by decide +kernel
theorem dX5_setRoot_7 : decode cX5_setRoot 7 = .ok (.invokestatic 34, 3) := by decide +kernel
theorem dX5_setRoot_10 : decode cX5_setRoot 10 = .ok (.aload_n 3, 1) := by decide +kernel
theorem dX5_setRoot_11 : decode cX5_setRoot 11 = .ok (.invokevirtual 40, 3) := by decide +kernel
theorem dX5_setRoot_14 : decode cX5_setRoot 14 = .ok (.imul, 1) := by decide +kernel
theorem dX5_setRoot_15 : decode cX5_setRoot 15 = .ok (.putfield 26, 3) := by decide +kernel
theorem dX5_setRoot_18 : decode cX5_setRoot 18 = .ok (.aload_n 0, 1) := by decide +kernel
theorem dX5_setRoot_19 : decode cX5_setRoot 19 = .ok (.getfield 19, 3) := by decide +kernel
theorem dX5_setRoot_22 : decode cX5_setRoot 22 = .ok (.lconst 0, 1) := by decide +kernel
theorem dX5_setRoot_23 : decode cX5_setRoot 23 = .ok (.invokevirtual 44, 3) := by decide +kernel
theorem dX5_setRoot_26 : decode cX5_setRoot 26 = .ok (.aload_n 0, 1) := by decide +kernel
theorem dX5_setRoot_27 : decode cX5_setRoot 27 = .ok (.getfield 19, 3) := by decide +kernel
theorem dX5_setRoot_30 : decode cX5_setRoot 30 = .ok (.lload_n 1, 1) := by decide +kernel
theorem dX5_setRoot_31 : decode cX5_setRoot 31 = .ok (.lload_n 1, 1) := by decide +kernel
theorem dX5_setRoot_32 : decode cX5_setRoot 32 = .ok (.invokevirtual 47, 3) := by decide +kernel
theorem dX5_setRoot_35 : decode cX5_setRoot 35 = .ok (.aload_n 0, 1) := by decide +kernel
theorem dX5_setRoot_36 : decode cX5_setRoot 36 = .ok (.getfield 16, 3) := by decide +kernel
theorem dX5_setRoot_39 : decode cX5_setRoot 39 = .ok (.aload_n 0, 1) := by decide +kernel
theorem dX5_setRoot_40 : decode cX5_setRoot 40 = .ok (.getfield 19, 3) := by decide +kernel
theorem dX5_setRoot_43 : decode cX5_setRoot 43 = .ok (.aload_n 3, 1) := by decide +kernel
theorem dX5_setRoot_44 : decode cX5_setRoot 44 = .ok (.invokevirtual 51, 3) := by decide +kernel
theorem dX5_setRoot_47 : decode cX5_setRoot 47 = .ok (.return_, 1) := by decide +kernel
theorem dX6_init_0 : decode cX6_init 0 = .ok (.aload_n 0, 1) := by decide +kernel
theorem dX6_init_1 : decode cX6_init 1 = .ok (.invokespecial 3, 3) := by decide +kernel
theorem dX6_init_4 : decode cX6_init 4 = .ok (.aload_n 0, 1) := by decide +kernel
theorem dX6_init_5 : decode cX6_init 5 = .ok (.new 9, 3) := by decide +kernel
theorem dX6_init_8 : decode cX6_init 8 = .ok (.dup, 1) := by decide +kernel
theorem dX6_init_9 : decode cX6_init 9 = .ok (.invokespecial 11, 3) := by decide +kernel
theorem dX6_init_12 : decode cX6_init 12 = .ok (.putfield 12, 3) := by decide +kernel
theorem dX6_init_15 : decode cX6_init 15 = .ok (.aload_n 0, 1) := by decide +kernel
theorem dX6_init_16 : decode cX6_init 16 = .ok (.new 9, 3) := by decide +kernel
theorem dX6_init_19 : decode cX6_init 19 = .ok (.dup, 1) := by decide +kernel
theorem dX6_init_20 : decode cX6_init 20 = .ok (.invokespecial 11, 3) := by decide +kernel
theorem dX6_init_23 : decode cX6_init 23 = .ok (.putfield 18, 3) := by decide +kernel
theorem dX6_init_26 : decode cX6_init 26 = .ok (.aload_n 0, 1) := by decide +kernel
theorem dX6_init_27 : decode cX6_init 27 = .ok (.new 21, 3) := by decide +kernel
theorem dX6_init_30 : decode cX6_init 30 = .ok (.dup, 1) := by decide +kernel
theorem dX6_init_31 : decode cX6_init 31 = .ok (.invokespecial 23, 3) := by decide +kernel
theorem dX6_init_34 : decode cX6_init 34 = .ok (.putfield 24, 3) := by decide +kernel
theorem dX6_init_37 : decode cX6_init 37 = .ok (.aload_n 0, 1) := by decide +kernel
theorem dX6_init_38 : decode cX6_init 38 = .ok (.new 9, 3) := by decide +kernel
theorem dX6_init_41 : decode cX6_init 41 = .ok (.dup, 1) := by decide +kernel
theorem dX6_init_42 : decode cX6_init 42 = .ok (.invokespecial 11, 3) := by decide +kernel
theorem dX6_init_45 : decode cX6_init 45 = .ok (.putfield 28, 3) := by decide +kernel
theorem dX6_init_48 : decode cX6_init 48 = .ok (.return_, 1) := by decide +kernel
theorem dX6_sign_0 : decode cX6_sign 0 = .ok (.aload_n 1, 1) := by decide +kernel
theorem dX6_sign_1 : decode cX6_sign 1 = .ok (.getfield 31, 3) := by decide +kernel
theorem dX6_sign_4 : decode cX6_sign 4 = .ok (.invokevirtual 34, 3) := by decide +kernel
theorem dX6_sign_7 : decode cX6_sign 7 = .ok (.istore_n 2, 1) := by decide +kernel
theorem dX6_sign_8 : decode cX6_sign 8 = .ok (.aload_n 1, 1) := by decide +kernel
theorem dX6_sign_9 : decode cX6_sign 9 = .ok (.getfield 38, 3) := by decide +kernel
theorem dX6_sign_12 : decode cX6_sign 12 = .ok (.ifCond .eq 11, 3) := by decide +kernel
theorem dX6_sign_15 : decode cX6_sign 15 = .ok (.iload_n 2, 1) := by decide +kernel
theorem dX6_sign_16 : decode cX6_sign 16 = .ok (.aload_n 1, 1) := by decide +kernel
theorem dX6_sign_17 : decode cX6_sign 17 = .ok (.getfield 38, 3) := by decide +kernel
theorem dX6_sign_20 : decode cX6_sign 20 = .ok (.if_icmp .ne 5, 3) := by decide +kernel
theorem dX6_sign_23 : decode cX6_sign 23 = .ok (.iload_n 2, 1) := by decide +kernel
theorem dX6_sign_24 : decode cX6_sign 24 = .ok (.ireturn, 1) := by decide +kernel
theorem dX6_sign_25 : decode cX6_sign 25 = .ok (.iload_n 2, 1) := by decide +kernel
theorem dX6_sign_26 : decode cX6_sign 26 = .ok (.ifCond .ne 8, 3) := by decide +kernel
theorem dX6_sign_29 : decode cX6_sign 29 = .ok (.aload_n 1, 1) := by decide +kernel
theorem dX6_sign_30 : decode cX6_sign 30 = .ok (.getfield 38, 3) := by decide +kernel
theorem dX6_sign_33 : decode cX6_sign 33 = .ok (.ireturn, 1) := by decide +kernel
theorem dX6_sign_34 : decode cX6_sign 34 = .ok (.aload_n 0, 1) := by decide +kernel
theorem dX6_sign_35 : decode cX6_sign 35 = .ok (.getfield 12, 3) := by decide +kernel
theorem dX6_sign_38 : decode cX6_sign 38 = .ok (.aload_n 1, 1) := by decide +kernel
theorem dX6_sign_39 : decode cX6_sign 39 = .ok (.getfield 31, 3) := by decide +kernel
theorem dX6_sign_42 : decode cX6_sign 42 = .ok (.invokevirtual 42, 3) := by decide +kernel
theorem dX6_sign_45 : decode cX6_sign 45 = .ok (.iload_n 2, 1) := by decide +kernel
theorem dX6_sign_46 : decode cX6_sign 46 = .ok (.ifCond .ge 10, 3) := by decide +kernel
theorem dX6_sign_49 : decode cX6_sign 49 = .ok (.aload_n 0, 1) := by decide +kernel
theorem dX6_sign_50 : decode cX6_sign 50 = .ok (.getfield 12, 3) := by decide +kernel
theorem dX6_sign_53 : decode cX6_sign 53 = .ok (.invokevirtual 46, 3) := by decide +kernel
theorem dX6_sign_56 : decode cX6_sign 56 = .ok (.aload_n 0, 1) := by decide +kernel
theorem dX6_sign_57 : decode cX6_sign 57 = .ok (.getfield 18, 3) := by decide +kernel
theorem dX6_sign_60 : decode cX6_sign 60 = .ok (.aload_n 0, 1) := by decide +kernel
theorem dX6_sign_61 : decode cX6_sign 61 = .ok (.getfield 12, 3) := by decide +kernel
theorem dX6_sign_64 : decode cX6_sign 64 = .ok (.aload_n 0, 1) := by decide +kernel
theorem dX6_sign_65 : decode cX6_sign 65 = .ok (.getfield 12, 3) := by decide +kernel
theorem dX6_sign_68 : decode cX6_sign 68 = .ok (.invokevirtual 49, 3) := by decide +kernel
theorem dX6_sign_71 : decode cX6_sign 71 = .ok (.iload_n 2, 1) := by decide +kernel
theorem dX6_sign_72 : decode cX6_sign 72 = .ok (.aload_n 0, 1) := by decide +kernel
theorem dX6_sign_73 : decode cX6_sign 73 = .ok (.getfield 18, 3) := by decide +kernel
theorem dX6_sign_76 : decode cX6_sign 76 = .ok (.aload_n 1, 1) := by decide +kernel
theorem dX6_sign_77 : decode cX6_sign 77 = .ok (.getfield 53, 3) := by decide +kernel
theorem dX6_sign_80 : decode cX6_sign 80 = .ok (.invokevirtual 56, 3) := by decide +kernel
theorem dX6_sign_83 : decode cX6_sign 83 = .ok (.imul, 1) := by decide +kernel
theorem dX6_sign_84 : decode cX6_sign 84 = .ok (.ireturn, 1) := by decide +kernel
theorem dX6_rounded_0 : decode cX6_rounded 0 = .ok (.aload_n 0, 1) := by decide +kernel
theorem dX6_rounded_1 : decode cX6_rounded 1 = .ok (.getfield 24, 3) := by decide +kernel
theorem dX6_rounded_4 : decode cX6_rounded 4 = .ok (.aload_n 1, 1) := by decide +kernel
theorem dX6_rounded_5 : decode cX6_rounded 5 = .ok (.invokevirtual 60, 3) := by decide +kernel
theorem dX6_rounded_8 : decode cX6_rounded 8 = .ok (.aload_n 0, 1) := by decide +kernel
theorem dX6_rounded_9 : decode cX6_rounded 9 = .ok (.getfield 28, 3) := by decide +kernel
theorem dX6_rounded_12 : decode cX6_rounded 12 = .ok (.aload_n 2, 1) := by decide +kernel
theorem dX6_rounded_13 : decode cX6_rounded 13 = .ok (.invokevirtual 42, 3) := by decide +kernel
theorem dX6_rounded_16 : decode cX6_rounded 16 = .ok (.iload_n 3, 1) := by decide +kernel
theorem dX6_rounded_17 : decode cX6_rounded 17 = .ok (.iconst 2, 1) := by decide +kernel
theorem dX6_rounded_18 : decode cX6_rounded 18 = .ok (.if_icmp .ne 8, 3) := by decide +kernel
theorem dX6_rounded_21 : decode cX6_rounded 21 = .ok (.aload_n 0, 1) := by decide +kernel
theorem dX6_rounded_22 : decode cX6_rounded 22 = .ok (.aload_n 2, 1) := by decide +kernel
theorem dX6_rounded_23 : decode cX6_rounded 23 = .ok (.invokevirtual 63, 3) := by decide +kernel
theorem dX6_rounded_26 : decode cX6_rounded 26 = .ok (.aload_n 0, 1) := by decide +kernel
theorem dX6_rounded_27 : decode cX6_rounded 27 = .ok (.getfield 28, 3) := by decide +kernel
theorem dX6_rounded_30 : decode cX6_rounded 30 = .ok (.bipush 42, 2) := by decide +kernel
theorem dX6_rounded_32 : decode cX6_rounded 32 = .ok (.invokevirtual 66, 3) := by decide +kernel
theorem dX6_rounded_35 : decode cX6_rounded 35 = .ok (.aload_n 0, 1) := by decide +kernel
theorem dX6_rounded_36 : decode cX6_rounded 36 = .ok (.getfield 24, 3) := by decide +kernel
theorem dX6_rounded_39 : decode cX6_rounded 39 = .ok (.getfield 31, 3) := by decide +kernel
theorem dX6_rounded_42 : decode cX6_rounded 42 = .ok (.aload_n 0, 1) := by decide +kernel
theorem dX6_rounded_43 : decode cX6_rounded 43 = .ok (.getfield 28, 3) := by decide +kernel
theorem dX6_rounded_46 : decode cX6_rounded 46 = .ok (.invokevirtual 70, 3) := by decide +kernel
theorem dX6_rounded_49 : decode cX6_rounded 49 = .ok (.ldc2_w 73, 3) := by decide +kernel
theorem dX6_rounded_52 : decode cX6_rounded 52 = .ok (.lstore 4, 2) := by decide +kernel
theorem dX6_rounded_54 : decode cX6_rounded 54 = .ok (.bipush 42, 2) := by decide +kernel
theorem dX6_rounded_56 : decode cX6_rounded 56 = .ok (.istore 6, 2) := by decide +kernel
theorem dX6_rounded_58 : decode cX6_rounded 58 = .ok (.iload 6, 2) := by decide +kernel
theorem dX6_rounded_60 : decode cX6_rounded 60 = .ok (.ifCond .lt 67, 3) := by decide +kernel
theorem dX6_rounded_63 : decode cX6_rounded 63 = .ok (.aload_n 0, 1) := by decide +kernel
theorem dX6_rounded_64 : decode cX6_rounded 64 = .ok (.getfield 24, 3) := by decide +kernel
theorem dX6_rounded_67 : decode cX6_rounded 67 = .ok (.getfield 31, 3) := by decide +kernel
theorem dX6_rounded_70 : decode cX6_rounded 70 = .ok (.aload_n 0, 1) := by decide +kernel
theorem dX6_rounded_71 : decode cX6_rounded 71 = .ok (.getfield 28, 3) := by decide +kernel
theorem dX6_rounded_74 : decode cX6_rounded 74 = .ok (.invokevirtual 75, 3) := by decide +kernel
theorem dX6_rounded_77 : decode cX6_rounded 77 = .ok (.aload_n 0, 1) := by decide +kernel
theorem dX6_rounded_78 : decode cX6_rounded 78 = .ok (.aload_n 0, 1) := by decide +kernel
theorem dX6_rounded_79 : decode cX6_rounded 79 = .ok (.getfield 24, 3) := by decide +kernel
theorem dX6_rounded_82 : decode cX6_rounded 82 = .ok (.invokevirtual 78, 3) := by decide +kernel
theorem dX6_rounded_85 : decode cX6_rounded 85 = .ok (.ifCond .lt 15, 3) := by decide +kernel
theorem dX6_rounded_88 : decode cX6_rounded 88 = .ok (.lload 4, 2) := by decide +kernel
theorem dX6_rounded_90 : decode cX6_rounded 90 = .ok (.lconst 1, 1) := by decide +kernel
theorem dX6_rounded_91 : decode cX6_rounded 91 = .ok (.iload 6, 2) := by decide +kernel
theorem dX6_rounded_93 : decode cX6_rounded 93 = .ok (.lshl, 1) := by decide +kernel
theorem dX6_rounded_94 : decode cX6_rounded 94 = .ok (.ladd, 1) := by decide +kernel
theorem dX6_rounded_95 : decode cX6_rounded 95 = .ok (.lstore 4, 2) := by decide +kernel
theorem dX6_rounded_97 : decode cX6_rounded 97 = .ok (.goto 17, 3) := by decide +kernel
theorem dX6_rounded_100 : decode cX6_rounded 100 = .ok (.aload_n 0, 1) := by decide +kernel
theorem dX6_rounded_101 : decode cX6_rounded 101 = .ok (.getfield 24, 3) := by decide +kernel
theorem dX6_rounded_104 : decode cX6_rounded 104 = .ok (.getfield 31, 3) := by decide +kernel
theorem dX6_rounded_107 : decode cX6_rounded 107 = .ok (.aload_n 0, 1) := by decide +kernel
theorem dX6_rounded_108 : decode cX6_rounded 108 = .ok (.getfield 28, 3) := by decide +kernel
theorem dX6_rounded_111 : decode cX6_rounded 111 = .ok (.invokevirtual 70, 3) := by decide +kernel
theorem dX6_rounded_114 : decode cX6_rounded 114 = .ok (.aload_n 0, 1) := by decide +kernel
theorem dX6_rounded_115 : decode cX6_rounded 115 = .ok (.getfield 28, 3) := by decide +kernel
theorem dX6_rounded_118 : decode cX6_rounded 118 = .ok (.invokevirtual 81, 3) := by decide +kernel
theorem dX6_rounded_121 : decode cX6_rounded 121 = .ok (.iinc 6 (-1), 3) := by decide +kernel
theorem dX6_rounded_124 : decode cX6_rounded 124 = .ok (.goto (-66), 3) := by decide +kernel
theorem dX6_rounded_127 : decode cX6_rounded 127 = .ok (.iload_n 3, 1) := by decide +kernel
theorem dX6_rounded_128 : decode cX6_rounded 128 = .ok (.iconst 1, 1) := by decide +kernel
theorem dX6_rounded_129 : decode cX6_rounded 129 = .ok (.if_icmp .ne 21, 3) := by decide +kernel
theorem dX6_rounded_132 : decode cX6_rounded 132 = .ok (.aload_n 0, 1) := by decide +kernel
theorem dX6_rounded_133 : decode cX6_rounded 133 = .ok (.aload_n 0, 1) := by decide +kernel
theorem dX6_rounded_134 : decode cX6_rounded 134 = .ok (.getfield 24, 3) := by decide +kernel
theorem dX6_rounded_137 : decode cX6_rounded 137 = .ok (.invokevirtual 78, 3) := by decide +kernel
theorem dX6_rounded_140 : decode cX6_rounded 140 = .ok (.ifCond .eq 10, 3) := by decide +kernel
theorem dX6_rounded_143 : decode cX6_rounded 143 = .ok (.lload 4, 2) := by decide +kernel
theorem dX6_rounded_145 : decode cX6_rounded 145 = .ok (.lconst 1, 1) := by decide +kernel
theorem dX6_rounded_146 : decode cX6_rounded 146 = .ok (.ladd, 1) := by decide +kernel
theorem dX6_rounded_147 : decode cX6_rounded 147 = .ok (.goto 5, 3) := by decide +kernel
theorem dX6_rounded_150 : decode cX6_rounded 150 = .ok (.lload 4, 2) := by decide +kernel
theorem dX6_rounded_152 : decode cX6_rounded 152 = .ok (.lreturn, 1) := by decide +kernel
theorem dX6_addHalf_0 : decode cX6_addHalf 0 = .ok (.aload_n 0, 1) := by decide +kernel
theorem dX6_addHalf_1 : decode cX6_addHalf 1 = .ok (.getfield 24, 3) := by decide +kernel
theorem dX6_addHalf_4 : decode cX6_addHalf 4 = .ok (.getfield 31, 3) := by decide +kernel
theorem dX6_addHalf_7 : decode cX6_addHalf 7 = .ok (.iconst 1, 1) := by decide +kernel
theorem dX6_addHalf_8 : decode cX6_addHalf 8 = .ok (.invokevirtual 66, 3) := by decide +kernel
theorem dX6_addHalf_11 : decode cX6_addHalf 11 = .ok (.aload_n 0, 1) := by decide +kernel
theorem dX6_addHalf_12 : decode cX6_addHalf 12 = .ok (.getfield 24, 3) := by decide +kernel
theorem dX6_addHalf_15 : decode cX6_addHalf 15 = .ok (.getfield 31, 3) := by decide +kernel
theorem dX6_addHalf_18 : decode cX6_addHalf 18 = .ok (.aload_n 1, 1) := by decide +kernel
theorem dX6_addHalf_19 : decode cX6_addHalf 19 = .ok (.invokevirtual 70, 3) := by decide +kernel
theorem dX6_addHalf_22 : decode cX6_addHalf 22 = .ok (.aload_n 0, 1) := by decide +kernel
theorem dX6_addHalf_23 : decode cX6_addHalf 23 = .ok (.getfield 24, 3) := by decide +kernel
theorem dX6_addHalf_26 : decode cX6_addHalf 26 = .ok (.getfield 53, 3) := by decide +kernel
theorem dX6_addHalf_29 : decode cX6_addHalf 29 = .ok (.iconst 2, 1) := by decide +kernel
theorem dX6_addHalf_30 : decode cX6_addHalf 30 = .ok (.invokevirtual 66, 3) := by decide +kernel
theorem dX6_addHalf_33 : decode cX6_addHalf 33 = .ok (.aload_n 0, 1) := by decide +kernel
theorem dX6_addHalf_34 : decode cX6_addHalf 34 = .ok (.getfield 28, 3) := by decide +kernel
theorem dX6_addHalf_37 : decode cX6_addHalf 37 = .ok (.iconst 1, 1) := by decide +kernel
theorem dX6_addHalf_38 : decode cX6_addHalf 38 = .ok (.invokevirtual 66, 3) := by decide +kernel
theorem dX6_addHalf_41 : decode cX6_addHalf 41 = .ok (.return_, 1) := by decide +kernel
theorem dX7_init_0 : decode cX7_init 0 = .ok (.aload_n 0, 1) := by decide +kernel
theorem dX7_init_1 : decode cX7_init 1 = .ok (.invokespecial 1, 3) := by decide +kernel
theorem dX7_init_4 : decode cX7_init 4 = .ok (.aload_n 0, 1) := by decide +kernel
theorem dX7_init_5 : decode cX7_init 5 = .ok (.lload_n 1, 1) := by decide +kernel
theorem dX7_init_6 : decode cX7_init 6 = .ok (.putfield 7, 3) := by decide +kernel
theorem dX7_init_9 : decode cX7_init 9 = .ok (.aload_n 0, 1) := by decide +kernel
theorem dX7_init_10 : decode cX7_init 10 = .ok (.lload_n 3, 1) := by decide +kernel
theorem dX7_init_11 : decode cX7_init 11 = .ok (.putfield 13, 3) := by decide +kernel
theorem dX7_init_14 : decode cX7_init 14 = .ok (.aload_n 0, 1) := by decide +kernel
theorem dX7_init_15 : decode cX7_init 15 = .ok (.lload 5, 2) := by decide +kernel
theorem dX7_init_17 : decode cX7_init 17 = .ok (.putfield 16, 3) := by decide +kernel
theorem dX7_init_20 : decode cX7_init 20 = .ok (.aload_n 0, 1) := by decide +kernel
theorem dX7_init_21 : decode cX7_init 21 = .ok (.lload 7, 2) := by decide +kernel
theorem dX7_init_23 : decode cX7_init 23 = .ok (.putfield 19, 3) := by decide +kernel
theorem dX7_init_26 : decode cX7_init 26 = .ok (.aload_n 0, 1) := by decide +kernel
theorem dX7_init_27 : decode cX7_init 27 = .ok (.lload 5, 2) := by decide +kernel
theorem dX7_init_29 : decode cX7_init 29 = .ok (.lload_n 1, 1) := by decide +kernel
theorem dX7_init_30 : decode cX7_init 30 = .ok (.lsub, 1) := by decide +kernel
theorem dX7_init_31 : decode cX7_init 31 = .ok (.putfield 22, 3) := by decide +kernel
theorem dX7_init_34 : decode cX7_init 34 = .ok (.aload_n 0, 1) := by decide +kernel
theorem dX7_init_35 : decode cX7_init 35 = .ok (.lload 7, 2) := by decide +kernel
theorem dX7_init_37 : decode cX7_init 37 = .ok (.lload_n 3, 1) := by decide +kernel
theorem dX7_init_38 : decode cX7_init 38 = .ok (.lsub, 1) := by decide +kernel
theorem dX7_init_39 : decode cX7_init 39 = .ok (.putfield 25, 3) := by decide +kernel
theorem dX7_init_42 : decode cX7_init 42 = .ok (.return_, 1) := by decide +kernel
theorem dX7_holds_0 : decode cX7_holds 0 = .ok (.lload_n 1, 1) := by decide +kernel
theorem dX7_holds_1 : decode cX7_holds 1 = .ok (.aload_n 0, 1) := by decide +kernel
theorem dX7_holds_2 : decode cX7_holds 2 = .ok (.getfield 7, 3) := by decide +kernel
theorem dX7_holds_5 : decode cX7_holds 5 = .ok (.aload_n 0, 1) := by decide +kernel
theorem dX7_holds_6 : decode cX7_holds 6 = .ok (.getfield 16, 3) := by decide +kernel
theorem dX7_holds_9 : decode cX7_holds 9 = .ok (.invokestatic 28, 3) := by decide +kernel
theorem dX7_holds_12 : decode cX7_holds 12 = .ok (.lcmp, 1) := by decide +kernel
theorem dX7_holds_13 : decode cX7_holds 13 = .ok (.ifCond .lt 19, 3) := by decide +kernel
theorem dX7_holds_16 : decode cX7_holds 16 = .ok (.lload_n 1, 1) := by decide +kernel
theorem dX7_holds_17 : decode cX7_holds 17 = .ok (.aload_n 0, 1) := by decide +kernel
theorem dX7_holds_18 : decode cX7_holds 18 = .ok (.getfield 7, 3) := by decide +kernel
theorem dX7_holds_21 : decode cX7_holds 21 = .ok (.aload_n 0, 1) := by decide +kernel
theorem dX7_holds_22 : decode cX7_holds 22 = .ok (.getfield 16, 3) := by decide +kernel
theorem dX7_holds_25 : decode cX7_holds 25 = .ok (.invokestatic 34, 3) := by decide +kernel
theorem dX7_holds_28 : decode cX7_holds 28 = .ok (.lcmp, 1) := by decide +kernel
theorem dX7_holds_29 : decode cX7_holds 29 = .ok (.ifCond .le 5, 3) := by decide +kernel
theorem dX7_holds_32 : decode cX7_holds 32 = .ok (.iconst 0, 1) := by decide +kernel
theorem dX7_holds_33 : decode cX7_holds 33 = .ok (.ireturn, 1) := by decide +kernel
theorem dX7_holds_34 : decode cX7_holds 34 = .ok (.lload_n 3, 1) := by decide +kernel
theorem dX7_holds_35 : decode cX7_holds 35 = .ok (.aload_n 0, 1) := by decide +kernel
theorem dX7_holds_36 : decode cX7_holds 36 = .ok (.getfield 13, 3) := by decide +kernel
theorem dX7_holds_39 : decode cX7_holds 39 = .ok (.aload_n 0, 1) := by decide +kernel
theorem dX7_holds_40 : decode cX7_holds 40 = .ok (.getfield 19, 3) := by decide +kernel
theorem dX7_holds_43 : decode cX7_holds 43 = .ok (.invokestatic 28, 3) := by decide +kernel
theorem dX7_holds_46 : decode cX7_holds 46 = .ok (.lcmp, 1) := by decide +kernel
theorem dX7_holds_47 : decode cX7_holds 47 = .ok (.ifCond .lt 19, 3) := by decide +kernel
theorem dX7_holds_50 : decode cX7_holds 50 = .ok (.lload_n 3, 1) := by decide +kernel
theorem dX7_holds_51 : decode cX7_holds 51 = .ok (.aload_n 0, 1) := by decide +kernel
theorem dX7_holds_52 : decode cX7_holds 52 = .ok (.getfield 13, 3) := by decide +kernel
theorem dX7_holds_55 : decode cX7_holds 55 = .ok (.aload_n 0, 1) := by decide +kernel
theorem dX7_holds_56 : decode cX7_holds 56 = .ok (.getfield 19, 3) := by decide +kernel
theorem dX7_holds_59 : decode cX7_holds 59 = .ok (.invokestatic 34, 3) := by decide +kernel
theorem dX7_holds_62 : decode cX7_holds 62 = .ok (.lcmp, 1) := by decide +kernel
theorem dX7_holds_63 : decode cX7_holds 63 = .ok (.ifCond .le 5, 3) := by decide +kernel
theorem dX7_holds_66 : decode cX7_holds 66 = .ok (.iconst 0, 1) := by decide +kernel
theorem dX7_holds_67 : decode cX7_holds 67 = .ok (.ireturn, 1) := by decide +kernel
theorem dX7_holds_68 : decode cX7_holds 68 = .ok (.aload 5, 2) := by decide +kernel
theorem dX7_holds_70 : decode cX7_holds 70 = .ok (.aload_n 0, 1) := by decide +kernel
theorem dX7_holds_71 : decode cX7_holds 71 = .ok (.getfield 22, 3) := by decide +kernel
theorem dX7_holds_74 : decode cX7_holds 74 = .ok (.aload_n 0, 1) := by decide +kernel
theorem dX7_holds_75 : decode cX7_holds 75 = .ok (.getfield 25, 3) := by decide +kernel
theorem dX7_holds_78 : decode cX7_holds 78 = .ok (.lload_n 1, 1) := by decide +kernel
theorem dX7_holds_79 : decode cX7_holds 79 = .ok (.aload_n 0, 1) := by decide +kernel
theorem dX7_holds_80 : decode cX7_holds 80 = .ok (.getfield 7, 3) := by decide +kernel
theorem dX7_holds_83 : decode cX7_holds 83 = .ok (.lsub, 1) := by decide +kernel
theorem dX7_holds_84 : decode cX7_holds 84 = .ok (.lload_n 3, 1) := by decide +kernel
theorem dX7_holds_85 : decode cX7_holds 85 = .ok (.aload_n 0, 1) := by decide +kernel
theorem dX7_holds_86 : decode cX7_holds 86 = .ok (.getfield 13, 3) := by decide +kernel
theorem dX7_holds_89 : decode cX7_holds 89 = .ok (.lsub, 1) := by decide +kernel
theorem dX7_holds_90 : decode cX7_holds 90 = .ok (.invokevirtual 37, 3) := by decide +kernel
theorem dX7_holds_93 : decode cX7_holds 93 = .ok (.aload 5, 2) := by decide +kernel
theorem dX7_holds_95 : decode cX7_holds 95 = .ok (.invokevirtual 43, 3) := by decide +kernel
theorem dX7_holds_98 : decode cX7_holds 98 = .ok (.ifCond .ne 7, 3) := by decide +kernel
theorem dX7_holds_101 : decode cX7_holds 101 = .ok (.iconst 1, 1) := by decide +kernel
theorem dX7_holds_102 : decode cX7_holds 102 = .ok (.goto 4, 3) := by decide +kernel
theorem dX7_holds_105 : decode cX7_holds 105 = .ok (.iconst 0, 1) := by decide +kernel
theorem dX7_holds_106 : decode cX7_holds 106 = .ok (.ireturn, 1) := by decide +kernel
theorem dX7_along_0 : decode cX7_along 0 = .ok (.aload_n 0, 1) := by decide +kernel
theorem dX7_along_1 : decode cX7_along 1 = .ok (.getfield 22, 3) := by decide +kernel
theorem dX7_along_4 : decode cX7_along 4 = .ok (.lconst 0, 1) := by decide +kernel
theorem dX7_along_5 : decode cX7_along 5 = .ok (.lcmp, 1) := by decide +kernel
theorem dX7_along_6 : decode cX7_along 6 = .ok (.ifCond .eq 7, 3) := by decide +kernel
theorem dX7_along_9 : decode cX7_along 9 = .ok (.lload_n 1, 1) := by decide +kernel
theorem dX7_along_10 : decode cX7_along 10 = .ok (.goto 4, 3) := by decide +kernel
theorem dX7_along_13 : decode cX7_along 13 = .ok (.lload_n 3, 1) := by decide +kernel
theorem dX7_along_14 : decode cX7_along 14 = .ok (.lreturn, 1) := by decide +kernel
theorem dX8_init_0 : decode cX8_init 0 = .ok (.aload_n 0, 1) := by decide +kernel
theorem dX8_init_1 : decode cX8_init 1 = .ok (.invokespecial 1, 3) := by decide +kernel
theorem dX8_init_4 : decode cX8_init 4 = .ok (.return_, 1) := by decide +kernel
theorem dX9_init_0 : decode cX9_init 0 = .ok (.aload_n 0, 1) := by decide +kernel
theorem dX9_init_1 : decode cX9_init 1 = .ok (.invokespecial 1, 3) := by decide +kernel
theorem dX9_init_4 : decode cX9_init 4 = .ok (.aload_n 0, 1) := by decide +kernel
theorem dX9_init_5 : decode cX9_init 5 = .ok (.bipush 8, 2) := by decide +kernel
theorem dX9_init_7 : decode cX9_init 7 = .ok (.newarray .long, 2) := by decide +kernel
theorem dX9_init_9 : decode cX9_init 9 = .ok (.putfield 9, 3) := by decide +kernel
theorem dX9_init_12 : decode cX9_init 12 = .ok (.return_, 1) := by decide +kernel
theorem dX9_limb_0 : decode cX9_limb 0 = .ok (.iload_n 1, 1) := by decide +kernel
theorem dX9_limb_1 : decode cX9_limb 1 = .ok (.ifCond .lt 18, 3) := by decide +kernel
theorem dX9_limb_4 : decode cX9_limb 4 = .ok (.iload_n 1, 1) := by decide +kernel
theorem dX9_limb_5 : decode cX9_limb 5 = .ok (.bipush 8, 2) := by decide +kernel
theorem dX9_limb_7 : decode cX9_limb 7 = .ok (.if_icmp .ge 12, 3) := by decide +kernel
theorem dX9_limb_10 : decode cX9_limb 10 = .ok (.aload_n 0, 1) := by decide +kernel
theorem dX9_limb_11 : decode cX9_limb 11 = .ok (.getfield 9, 3) := by decide +kernel
theorem dX9_limb_14 : decode cX9_limb 14 = .ok (.iload_n 1, 1) := by decide +kernel
theorem dX9_limb_15 : decode cX9_limb 15 = .ok (.laload, 1) := by decide +kernel
theorem dX9_limb_16 : decode cX9_limb 16 = .ok (.goto 4, 3) := by decide +kernel
theorem dX9_limb_19 : decode cX9_limb 19 = .ok (.lconst 0, 1) := by decide +kernel
theorem dX9_limb_20 : decode cX9_limb 20 = .ok (.lreturn, 1) := by decide +kernel
theorem dX9_sign_0 : decode cX9_sign 0 = .ok (.aload_n 0, 1) := by decide +kernel
theorem dX9_sign_1 : decode cX9_sign 1 = .ok (.getfield 9, 3) := by decide +kernel
theorem dX9_sign_4 : decode cX9_sign 4 = .ok (.bipush 7, 2) := by decide +kernel
theorem dX9_sign_6 : decode cX9_sign 6 = .ok (.laload, 1) := by decide +kernel
theorem dX9_sign_7 : decode cX9_sign 7 = .ok (.bipush 31, 2) := by decide +kernel
theorem dX9_sign_9 : decode cX9_sign 9 = .ok (.lushr, 1) := by decide +kernel
theorem dX9_sign_10 : decode cX9_sign 10 = .ok (.lconst 0, 1) := by decide +kernel
theorem dX9_sign_11 : decode cX9_sign 11 = .ok (.lcmp, 1) := by decide +kernel
theorem dX9_sign_12 : decode cX9_sign 12 = .ok (.ifCond .eq 5, 3) := by decide +kernel
theorem dX9_sign_15 : decode cX9_sign 15 = .ok (.iconst (-1), 1) := by decide +kernel
theorem dX9_sign_16 : decode cX9_sign 16 = .ok (.ireturn, 1) := by decide +kernel
theorem dX9_sign_17 : decode cX9_sign 17 = .ok (.iconst 0, 1) := by decide +kernel
theorem dX9_sign_18 : decode cX9_sign 18 = .ok (.istore_n 1, 1) := by decide +kernel
theorem dX9_sign_19 : decode cX9_sign 19 = .ok (.iload_n 1, 1) := by decide +kernel
theorem dX9_sign_20 : decode cX9_sign 20 = .ok (.bipush 8, 2) := by decide +kernel
theorem dX9_sign_22 : decode cX9_sign 22 = .ok (.if_icmp .ge 22, 3) := by decide +kernel
theorem dX9_sign_25 : decode cX9_sign 25 = .ok (.aload_n 0, 1) := by decide +kernel
theorem dX9_sign_26 : decode cX9_sign 26 = .ok (.getfield 9, 3) := by decide +kernel
theorem dX9_sign_29 : decode cX9_sign 29 = .ok (.iload_n 1, 1) := by decide +kernel
theorem dX9_sign_30 : decode cX9_sign 30 = .ok (.laload, 1) := by decide +kernel
theorem dX9_sign_31 : decode cX9_sign 31 = .ok (.lconst 0, 1) := by decide +kernel
theorem dX9_sign_32 : decode cX9_sign 32 = .ok (.lcmp, 1) := by decide +kernel
theorem dX9_sign_33 : decode cX9_sign 33 = .ok (.ifCond .eq 5, 3) := by decide +kernel
theorem dX9_sign_36 : decode cX9_sign 36 = .ok (.iconst 1, 1) := by decide +kernel
theorem dX9_sign_37 : decode cX9_sign 37 = .ok (.ireturn, 1) := by decide +kernel
theorem dX9_sign_38 : decode cX9_sign 38 = .ok (.iinc 1 1, 3) := by decide +kernel
theorem dX9_sign_41 : decode cX9_sign 41 = .ok (.goto (-22), 3) := by decide +kernel
theorem dX9_sign_44 : decode cX9_sign 44 = .ok (.iconst 0, 1) := by decide +kernel
theorem dX9_sign_45 : decode cX9_sign 45 = .ok (.ireturn, 1) := by decide +kernel
theorem dX9_against_0 : decode cX9_against 0 = .ok (.bipush 7, 2) := by decide +kernel
theorem dX9_against_2 : decode cX9_against 2 = .ok (.istore_n 2, 1) := by decide +kernel
theorem dX9_against_3 : decode cX9_against 3 = .ok (.iload_n 2, 1) := by decide +kernel
theorem dX9_against_4 : decode cX9_against 4 = .ok (.ifCond .lt 47, 3) := by decide +kernel
theorem dX9_against_7 : decode cX9_against 7 = .ok (.aload_n 0, 1) := by decide +kernel
theorem dX9_against_8 : decode cX9_against 8 = .ok (.getfield 9, 3) := by decide +kernel
theorem dX9_against_11 : decode cX9_against 11 = .ok (.iload_n 2, 1) := by decide +kernel
theorem dX9_against_12 : decode cX9_against 12 = .ok (.laload, 1) := by decide +kernel
theorem dX9_against_13 : decode cX9_against 13 = .ok (.aload_n 1, 1) := by decide +kernel
theorem dX9_against_14 : decode cX9_against 14 = .ok (.getfield 9, 3) := by decide +kernel
theorem dX9_against_17 : decode cX9_against 17 = .ok (.iload_n 2, 1) := by decide +kernel
theorem dX9_against_18 : decode cX9_against 18 = .ok (.laload, 1) := by decide +kernel
theorem dX9_against_19 : decode cX9_against 19 = .ok (.lcmp, 1) := by decide +kernel
theorem dX9_against_20 : decode cX9_against 20 = .ok (.ifCond .eq 25, 3) := by decide +kernel
theorem dX9_against_23 : decode cX9_against 23 = .ok (.aload_n 0, 1) := by decide +kernel
theorem dX9_against_24 : decode cX9_against 24 = .ok (.getfield 9, 3) := by decide +kernel
theorem dX9_against_27 : decode cX9_against 27 = .ok (.iload_n 2, 1) := by decide +kernel
theorem dX9_against_28 : decode cX9_against 28 = .ok (.laload, 1) := by decide +kernel
theorem dX9_against_29 : decode cX9_against 29 = .ok (.aload_n 1, 1) := by decide +kernel
theorem dX9_against_30 : decode cX9_against 30 = .ok (.getfield 9, 3) := by decide +kernel
theorem dX9_against_33 : decode cX9_against 33 = .ok (.iload_n 2, 1) := by decide +kernel
theorem dX9_against_34 : decode cX9_against 34 = .ok (.laload, 1) := by decide +kernel
theorem dX9_against_35 : decode cX9_against 35 = .ok (.lcmp, 1) := by decide +kernel
theorem dX9_against_36 : decode cX9_against 36 = .ok (.ifCond .ge 7, 3) := by decide +kernel
theorem dX9_against_39 : decode cX9_against 39 = .ok (.iconst (-1), 1) := by decide +kernel
theorem dX9_against_40 : decode cX9_against 40 = .ok (.goto 4, 3) := by decide +kernel
theorem dX9_against_43 : decode cX9_against 43 = .ok (.iconst 1, 1) := by decide +kernel
theorem dX9_against_44 : decode cX9_against 44 = .ok (.ireturn, 1) := by decide +kernel
theorem dX9_against_45 : decode cX9_against 45 = .ok (.iinc 2 (-1), 3) := by decide +kernel
theorem dX9_against_48 : decode cX9_against 48 = .ok (.goto (-45), 3) := by decide +kernel
theorem dX9_against_51 : decode cX9_against 51 = .ok (.iconst 0, 1) := by decide +kernel
theorem dX9_against_52 : decode cX9_against 52 = .ok (.ireturn, 1) := by decide +kernel
theorem dX9_bits_0 : decode cX9_bits 0 = .ok (.bipush 7, 2) := by decide +kernel
theorem dX9_bits_2 : decode cX9_bits 2 = .ok (.istore_n 1, 1) := by decide +kernel
theorem dX9_bits_3 : decode cX9_bits 3 = .ok (.iload_n 1, 1) := by decide +kernel
theorem dX9_bits_4 : decode cX9_bits 4 = .ok (.ifCond .lt 38, 3) := by decide +kernel
theorem dX9_bits_7 : decode cX9_bits 7 = .ok (.aload_n 0, 1) := by decide +kernel
theorem dX9_bits_8 : decode cX9_bits 8 = .ok (.getfield 9, 3) := by decide +kernel
theorem dX9_bits_11 : decode cX9_bits 11 = .ok (.iload_n 1, 1) := by decide +kernel
theorem dX9_bits_12 : decode cX9_bits 12 = .ok (.laload, 1) := by decide +kernel
theorem dX9_bits_13 : decode cX9_bits 13 = .ok (.lconst 0, 1) := by decide +kernel
theorem dX9_bits_14 : decode cX9_bits 14 = .ok (.lcmp, 1) := by decide +kernel
theorem dX9_bits_15 : decode cX9_bits 15 = .ok (.ifCond .eq 21, 3) := by decide +kernel
theorem dX9_bits_18 : decode cX9_bits 18 = .ok (.bipush 32, 2) := by decide +kernel
theorem dX9_bits_20 : decode cX9_bits 20 = .ok (.iload_n 1, 1) := by decide +kernel
theorem dX9_bits_21 : decode cX9_bits 21 = .ok (.imul, 1) := by decide +kernel
theorem dX9_bits_22 : decode cX9_bits 22 = .ok (.bipush 64, 2) := by decide +kernel
theorem dX9_bits_24 : decode cX9_bits 24 = .ok (.iadd, 1) := by decide +kernel
theorem dX9_bits_25 : decode cX9_bits 25 = .ok (.aload_n 0, 1) := by decide +kernel
theorem dX9_bits_26 : decode cX9_bits 26 = .ok (.getfield 9, 3) := by decide +kernel
theorem dX9_bits_29 : decode cX9_bits 29 = .ok (.iload_n 1, 1) := by decide +kernel
theorem dX9_bits_30 : decode cX9_bits 30 = .ok (.laload, 1) := by decide +kernel
theorem dX9_bits_31 : decode cX9_bits 31 = .ok (.invokestatic 13, 3) := by decide +kernel
theorem dX9_bits_34 : decode cX9_bits 34 = .ok (.isub, 1) := by decide +kernel
theorem dX9_bits_35 : decode cX9_bits 35 = .ok (.ireturn, 1) := by decide +kernel
theorem dX9_bits_36 : decode cX9_bits 36 = .ok (.iinc 1 (-1), 3) := by decide +kernel
theorem dX9_bits_39 : decode cX9_bits 39 = .ok (.goto (-36), 3) := by decide +kernel
theorem dX9_bits_42 : decode cX9_bits 42 = .ok (.iconst 0, 1) := by decide +kernel
theorem dX9_bits_43 : decode cX9_bits 43 = .ok (.ireturn, 1) := by decide +kernel
theorem dX9_setTo_0 : decode cX9_setTo 0 = .ok (.lload_n 1, 1) := by decide +kernel
theorem dX9_setTo_1 : decode cX9_setTo 1 = .ok (.lstore_n 3, 1) := by decide +kernel
theorem dX9_setTo_2 : decode cX9_setTo 2 = .ok (.iconst 0, 1) := by decide +kernel
theorem dX9_setTo_3 : decode cX9_setTo 3 = .ok (.istore 5, 2) := by decide +kernel
theorem dX9_setTo_5 : decode cX9_setTo 5 = .ok (.iload 5, 2) := by decide +kernel
theorem dX9_setTo_7 : decode cX9_setTo 7 = .ok (.bipush 8, 2) := by decide +kernel
theorem dX9_setTo_9 : decode cX9_setTo 9 = .ok (.if_icmp .ge 26, 3) := by decide +kernel
theorem dX9_setTo_12 : decode cX9_setTo 12 = .ok (.aload_n 0, 1) := by decide +kernel
theorem dX9_setTo_13 : decode cX9_setTo 13 = .ok (.getfield 9, 3) := by decide +kernel
theorem dX9_setTo_16 : decode cX9_setTo 16 = .ok (.iload 5, 2) := by decide +kernel
theorem dX9_setTo_18 : decode cX9_setTo 18 = .ok (.lload_n 3, 1) := by decide +kernel
theorem dX9_setTo_19 : decode cX9_setTo 19 = .ok (.ldc2_w 19, 3) := by decide +kernel
theorem dX9_setTo_22 : decode cX9_setTo 22 = .ok (.land, 1) := by decide +kernel
theorem dX9_setTo_23 : decode cX9_setTo 23 = .ok (.lastore, 1) := by decide +kernel
theorem dX9_setTo_24 : decode cX9_setTo 24 = .ok (.lload_n 3, 1) := by decide +kernel
theorem dX9_setTo_25 : decode cX9_setTo 25 = .ok (.bipush 32, 2) := by decide +kernel
theorem dX9_setTo_27 : decode cX9_setTo 27 = .ok (.lshr, 1) := by decide +kernel
theorem dX9_setTo_28 : decode cX9_setTo 28 = .ok (.lstore_n 3, 1) := by decide +kernel
theorem dX9_setTo_29 : decode cX9_setTo 29 = .ok (.iinc 5 1, 3) := by decide +kernel
theorem dX9_setTo_32 : decode cX9_setTo 32 = .ok (.goto (-27), 3) := by decide +kernel
theorem dX9_setTo_35 : decode cX9_setTo 35 = .ok (.return_, 1) := by decide +kernel
theorem dX9_setTo__0 : decode cX9_setTo_ 0 = .ok (.aload_n 1, 1) := by decide +kernel
theorem dX9_setTo__1 : decode cX9_setTo_ 1 = .ok (.getfield 9, 3) := by decide +kernel
theorem dX9_setTo__4 : decode cX9_setTo_ 4 = .ok (.iconst 0, 1) := by decide +kernel
theorem dX9_setTo__5 : decode cX9_setTo_ 5 = .ok (.aload_n 0, 1) := by decide +kernel
theorem dX9_setTo__6 : decode cX9_setTo_ 6 = .ok (.getfield 9, 3) := by decide +kernel
theorem dX9_setTo__9 : decode cX9_setTo_ 9 = .ok (.iconst 0, 1) := by decide +kernel
theorem dX9_setTo__10 : decode cX9_setTo_ 10 = .ok (.bipush 8, 2) := by decide +kernel
theorem dX9_setTo__12 : decode cX9_setTo_ 12 = .ok (.invokestatic 21, 3) := by decide +kernel
theorem dX9_setTo__15 : decode cX9_setTo_ 15 = .ok (.return_, 1) := by decide +kernel
theorem dX9_setToCross_0 : decode cX9_setToCross 0 = .ok (.aload_n 0, 1) := by decide +kernel
theorem dX9_setToCross_1 : decode cX9_setToCross 1 = .ok (.lconst 0, 1) := by decide +kernel
theorem dX9_setToCross_2 : decode cX9_setToCross 2 = .ok (.invokevirtual 27, 3) := by decide +kernel
theorem dX9_setToCross_5 : decode cX9_setToCross 5 = .ok (.aload_n 0, 1) := by decide +kernel
theorem dX9_setToCross_6 : decode cX9_setToCross 6 = .ok (.lload_n 1, 1) := by decide +kernel
theorem dX9_setToCross_7 : decode cX9_setToCross 7 = .ok (.lload 7, 2) := by decide +kernel
theorem dX9_setToCross_9 : decode cX9_setToCross 9 = .ok (.invokevirtual 31, 3) := by decide +kernel
theorem dX9_setToCross_12 : decode cX9_setToCross 12 = .ok (.aload_n 0, 1) := by decide +kernel
theorem dX9_setToCross_13 : decode cX9_setToCross 13 = .ok (.lload_n 3, 1) := by decide +kernel
theorem dX9_setToCross_14 : decode cX9_setToCross 14 = .ok (.lneg, 1) := by decide +kernel
theorem dX9_setToCross_15 : decode cX9_setToCross 15 = .ok (.lload 5, 2) := by decide +kernel
theorem dX9_setToCross_17 : decode cX9_setToCross 17 = .ok (.invokevirtual 31, 3) := by decide +kernel
theorem dX9_setToCross_20 : decode cX9_setToCross 20 = .ok (.return_, 1) := by decide +kernel
theorem dX9_setToDot_0 : decode cX9_setToDot 0 = .ok (.aload_n 0, 1) := by decide +kernel
theorem dX9_setToDot_1 : decode cX9_setToDot 1 = .ok (.lconst 0, 1) := by decide +kernel
theorem dX9_setToDot_2 : decode cX9_setToDot 2 = .ok (.invokevirtual 27, 3) := by decide +kernel
theorem dX9_setToDot_5 : decode cX9_setToDot 5 = .ok (.aload_n 0, 1) := by decide +kernel
theorem dX9_setToDot_6 : decode cX9_setToDot 6 = .ok (.lload_n 1, 1) := by decide +kernel
theorem dX9_setToDot_7 : decode cX9_setToDot 7 = .ok (.lload 5, 2) := by decide +kernel
theorem dX9_setToDot_9 : decode cX9_setToDot 9 = .ok (.invokevirtual 31, 3) := by decide +kernel
theorem dX9_setToDot_12 : decode cX9_setToDot 12 = .ok (.aload_n 0, 1) := by decide +kernel
theorem dX9_setToDot_13 : decode cX9_setToDot 13 = .ok (.lload_n 3, 1) := by decide +kernel
theorem dX9_setToDot_14 : decode cX9_setToDot 14 = .ok (.lload 7, 2) := by decide +kernel
theorem dX9_setToDot_16 : decode cX9_setToDot 16 = .ok (.invokevirtual 31, 3) := by decide +kernel
theorem dX9_setToDot_19 : decode cX9_setToDot 19 = .ok (.return_, 1) := by decide +kernel
theorem dX9_setToProduct_0 : decode cX9_setToProduct 0 = .ok (.aload_n 0, 1) := by decide +kernel
theorem dX9_setToProduct_1 : decode cX9_setToProduct 1 = .ok (.lconst 0, 1) := by decide +kernel
theorem dX9_setToProduct_2 : decode cX9_setToProduct 2 = .ok (.invokevirtual 27, 3) := by decide +kernel
theorem dX9_setToProduct_5 : decode cX9_setToProduct 5 = .ok (.iconst 0, 1) := by decide +kernel
theorem dX9_setToProduct_6 : decode cX9_setToProduct 6 = .ok (.istore_n 3, 1) := by decide +kernel
theorem dX9_setToProduct_7 : decode cX9_setToProduct 7 = .ok (.iload_n 3, 1) := by decide +kernel
theorem dX9_setToProduct_8 : decode cX9_setToProduct 8 = .ok (.bipush 8, 2) := by decide +kernel
theorem dX9_setToProduct_10 : decode cX9_setToProduct 10 = .ok (.if_icmp .ge 92, 3) := by decide +kernel
theorem dX9_setToProduct_13 : decode cX9_setToProduct 13 = .ok (.aload_n 1, 1) := by decide +kernel
theorem dX9_setToProduct_14 : decode cX9_setToProduct 14 = .ok (.getfield 9, 3) := by decide +kernel
theorem dX9_setToProduct_17 : decode cX9_setToProduct 17 = .ok (.iload_n 3, 1) := by decide +kernel
theorem dX9_setToProduct_18 : decode cX9_setToProduct 18 = .ok (.laload, 1) := by decide +kernel
theorem dX9_setToProduct_19 : decode cX9_setToProduct 19 = .ok (.lstore 4, 2) := by decide +kernel
theorem dX9_setToProduct_21 : decode cX9_setToProduct 21 = .ok (.lconst 0, 1) := by decide +kernel
theorem dX9_setToProduct_22 : decode cX9_setToProduct 22 = .ok (.lstore 6, 2) := by decide +kernel
theorem dX9_setToProduct_24 : decode cX9_setToProduct 24 = .ok (.iconst 0, 1) := by decide +kernel
theorem dX9_setToProduct_25 : decode cX9_setToProduct 25 = .ok (.istore 8, 2) := by decide +kernel
theorem dX9_setToProduct_27 : decode cX9_setToProduct 27 = .ok (.lload 4, 2) := by decide +kernel
theorem dX9_setToProduct_29 : decode cX9_setToProduct 29 = .ok (.lconst 0, 1) := by decide +kernel
theorem dX9_setToProduct_30 : decode cX9_setToProduct 30 = .ok (.lcmp, 1) := by decide +kernel
theorem dX9_setToProduct_31 : decode cX9_setToProduct 31 = .ok (.ifCond .eq 65, 3) := by decide +kernel
theorem dX9_setToProduct_34 : decode cX9_setToProduct 34 = .ok (.iload_n 3, 1) := by decide +kernel
theorem dX9_setToProduct_35 : decode cX9_setToProduct 35 = .ok (.iload 8, 2) := by decide +kernel
theorem dX9_setToProduct_37 : decode cX9_setToProduct 37 = .ok (.iadd, 1) := by decide +kernel
theorem dX9_setToProduct_38 : decode cX9_setToProduct 38 = .ok (.bipush 8, 2) := by decide +kernel
theorem dX9_setToProduct_40 : decode cX9_setToProduct 40 = .ok (.if_icmp .ge 56, 3) := by decide +kernel
theorem dX9_setToProduct_43 : decode cX9_setToProduct 43 = .ok (.lload 4, 2) := by decide +kernel
theorem dX9_setToProduct_45 : decode cX9_setToProduct 45 = .ok (.aload_n 2, 1) := by decide +kernel
theorem dX9_setToProduct_46 : decode cX9_setToProduct 46 = .ok (.getfield 9, 3) := by decide +kernel
theorem dX9_setToProduct_49 : decode cX9_setToProduct 49 = .ok (.iload 8, 2) := by decide +kernel
theorem dX9_setToProduct_51 : decode cX9_setToProduct 51 = .ok (.laload, 1) := by decide +kernel
theorem dX9_setToProduct_52 : decode cX9_setToProduct 52 = .ok (.lmul, 1) := by decide +kernel
theorem dX9_setToProduct_53 : decode cX9_setToProduct 53 = .ok (.aload_n 0, 1) := by decide +kernel
theorem dX9_setToProduct_54 : decode cX9_setToProduct 54 = .ok (.getfield 9, 3) := by decide +kernel
theorem dX9_setToProduct_57 : decode cX9_setToProduct 57 = .ok (.iload_n 3, 1) := by decide +kernel
theorem dX9_setToProduct_58 : decode cX9_setToProduct 58 = .ok (.iload 8, 2) := by decide +kernel
theorem dX9_setToProduct_60 : decode cX9_setToProduct 60 = .ok (.iadd, 1) := by decide +kernel
theorem dX9_setToProduct_61 : decode cX9_setToProduct 61 = .ok (.laload, 1) := by decide +kernel
theorem dX9_setToProduct_62 : decode cX9_setToProduct 62 = .ok (.ladd, 1) := by decide +kernel
theorem dX9_setToProduct_63 : decode cX9_setToProduct 63 = .ok (.lload 6, 2) := by decide +kernel
theorem dX9_setToProduct_65 : decode cX9_setToProduct 65 = .ok (.ladd, 1) := by decide +kernel
theorem dX9_setToProduct_66 : decode cX9_setToProduct 66 = .ok (.lstore 9, 2) := by decide +kernel
theorem dX9_setToProduct_68 : decode cX9_setToProduct 68 = .ok (.aload_n 0, 1) := by decide +kernel
theorem dX9_setToProduct_69 : decode cX9_setToProduct 69 = .ok (.getfield 9, 3) := by decide +kernel
theorem dX9_setToProduct_72 : decode cX9_setToProduct 72 = .ok (.iload_n 3, 1) := by decide +kernel
theorem dX9_setToProduct_73 : decode cX9_setToProduct 73 = .ok (.iload 8, 2) := by decide +kernel
theorem dX9_setToProduct_75 : decode cX9_setToProduct 75 = .ok (.iadd, 1) := by decide +kernel
theorem dX9_setToProduct_76 : decode cX9_setToProduct 76 = .ok (.lload 9, 2) := by decide +kernel
theorem dX9_setToProduct_78 : decode cX9_setToProduct 78 = .ok (.ldc2_w 19, 3) := by decide +kernel
theorem dX9_setToProduct_81 : decode cX9_setToProduct 81 = .ok (.land, 1) := by decide +kernel
theorem dX9_setToProduct_82 : decode cX9_setToProduct 82 = .ok (.lastore, 1) := by decide +kernel
theorem dX9_setToProduct_83 : decode cX9_setToProduct 83 = .ok (.lload 9, 2) := by decide +kernel
theorem dX9_setToProduct_85 : decode cX9_setToProduct 85 = .ok (.bipush 32, 2) := by decide +kernel
theorem dX9_setToProduct_87 : decode cX9_setToProduct 87 = .ok (.lushr, 1) := by decide +kernel
theorem dX9_setToProduct_88 : decode cX9_setToProduct 88 = .ok (.lstore 6, 2) := by decide +kernel
theorem dX9_setToProduct_90 : decode cX9_setToProduct 90 = .ok (.iinc 8 1, 3) := by decide +kernel
theorem dX9_setToProduct_93 : decode cX9_setToProduct 93 = .ok (.goto (-66), 3) := by decide +kernel
theorem dX9_setToProduct_96 : decode cX9_setToProduct 96 = .ok (.iinc 3 1, 3) := by decide +kernel
theorem dX9_setToProduct_99 : decode cX9_setToProduct 99 = .ok (.goto (-92), 3) := by decide +kernel
theorem dX9_setToProduct_102 : decode cX9_setToProduct 102 = .ok (.return_, 1) := by decide +kernel
theorem dX9_addCross_0 : decode cX9_addCross 0 = .ok (.aload_n 0, 1) := by decide +kernel
theorem dX9_addCross_1 : decode cX9_addCross 1 = .ok (.lload_n 1, 1) := by decide +kernel
theorem dX9_addCross_2 : decode cX9_addCross 2 = .ok (.lload 7, 2) := by decide +kernel
theorem dX9_addCross_4 : decode cX9_addCross 4 = .ok (.invokevirtual 31, 3) := by decide +kernel
theorem dX9_addCross_7 : decode cX9_addCross 7 = .ok (.aload_n 0, 1) := by decide +kernel
theorem dX9_addCross_8 : decode cX9_addCross 8 = .ok (.lload_n 3, 1) := by decide +kernel
theorem dX9_addCross_9 : decode cX9_addCross 9 = .ok (.lneg, 1) := by decide +kernel
theorem dX9_addCross_10 : decode cX9_addCross 10 = .ok (.lload 5, 2) := by decide +kernel
theorem dX9_addCross_12 : decode cX9_addCross 12 = .ok (.invokevirtual 31, 3) := by decide +kernel
theorem dX9_addCross_15 : decode cX9_addCross 15 = .ok (.return_, 1) := by decide +kernel
theorem dX9_addProduct_0 : decode cX9_addProduct 0 = .ok (.lload_n 1, 1) := by decide +kernel
theorem dX9_addProduct_1 : decode cX9_addProduct 1 = .ok (.lload_n 3, 1) := by decide +kernel
theorem dX9_addProduct_2 : decode cX9_addProduct 2 = .ok (.lmul, 1) := by decide +kernel
theorem dX9_addProduct_3 : decode cX9_addProduct 3 = .ok (.lstore 5, 2) := by decide +kernel
theorem dX9_addProduct_5 : decode cX9_addProduct 5 = .ok (.lload_n 1, 1) := by decide +kernel
theorem dX9_addProduct_6 : decode cX9_addProduct 6 = .ok (.lload_n 3, 1) := by decide +kernel
theorem dX9_addProduct_7 : decode cX9_addProduct 7 = .ok (.invokestatic 35, 3) := by decide +kernel
theorem dX9_addProduct_10 : decode cX9_addProduct 10 = .ok (.lstore 7, 2) := by decide +kernel
theorem dX9_addProduct_12 : decode cX9_addProduct 12 = .ok (.lconst 0, 1) := by decide +kernel
theorem dX9_addProduct_13 : decode cX9_addProduct 13 = .ok (.lstore 9, 2) := by decide +kernel
theorem dX9_addProduct_15 : decode cX9_addProduct 15 = .ok (.iconst 0, 1) := by decide +kernel
theorem dX9_addProduct_16 : decode cX9_addProduct 16 = .ok (.istore 11, 2) := by decide +kernel
theorem dX9_addProduct_18 : decode cX9_addProduct 18 = .ok (.iload 11, 2) := by decide +kernel
theorem dX9_addProduct_20 : decode cX9_addProduct 20 = .ok (.bipush 8, 2) := by decide +kernel
theorem dX9_addProduct_22 : decode cX9_addProduct 22 = .ok (.if_icmp .ge 68, 3) := by decide +kernel
theorem dX9_addProduct_25 : decode cX9_addProduct 25 = .ok (.aload_n 0, 1) := by decide +kernel
theorem dX9_addProduct_26 : decode cX9_addProduct 26 = .ok (.getfield 9, 3) := by decide +kernel
theorem dX9_addProduct_29 : decode cX9_addProduct 29 = .ok (.iload 11, 2) := by decide +kernel
theorem dX9_addProduct_31 : decode cX9_addProduct 31 = .ok (.laload, 1) := by decide +kernel
theorem dX9_addProduct_32 : decode cX9_addProduct 32 = .ok (.lload 5, 2) := by decide +kernel
theorem dX9_addProduct_34 : decode cX9_addProduct 34 = .ok (.ldc2_w 19, 3) := by decide +kernel
theorem dX9_addProduct_37 : decode cX9_addProduct 37 = .ok (.land, 1) := by decide +kernel
theorem dX9_addProduct_38 : decode cX9_addProduct 38 = .ok (.ladd, 1) := by decide +kernel
theorem dX9_addProduct_39 : decode cX9_addProduct 39 = .ok (.lload 9, 2) := by decide +kernel
theorem dX9_addProduct_41 : decode cX9_addProduct 41 = .ok (.ladd, 1) := by decide +kernel
theorem dX9_addProduct_42 : decode cX9_addProduct 42 = .ok (.lstore 12, 2) := by decide +kernel
theorem dX9_addProduct_44 : decode cX9_addProduct 44 = .ok (.aload_n 0, 1) := by decide +kernel
theorem dX9_addProduct_45 : decode cX9_addProduct 45 = .ok (.getfield 9, 3) := by decide +kernel
theorem dX9_addProduct_48 : decode cX9_addProduct 48 = .ok (.iload 11, 2) := by decide +kernel
theorem dX9_addProduct_50 : decode cX9_addProduct 50 = .ok (.lload 12, 2) := by decide +kernel
theorem dX9_addProduct_52 : decode cX9_addProduct 52 = .ok (.ldc2_w 19, 3) := by decide +kernel
theorem dX9_addProduct_55 : decode cX9_addProduct 55 = .ok (.land, 1) := by decide +kernel
theorem dX9_addProduct_56 : decode cX9_addProduct 56 = .ok (.lastore, 1) := by decide +kernel
theorem dX9_addProduct_57 : decode cX9_addProduct 57 = .ok (.lload 12, 2) := by decide +kernel
theorem dX9_addProduct_59 : decode cX9_addProduct 59 = .ok (.bipush 32, 2) := by decide +kernel
theorem dX9_addProduct_61 : decode cX9_addProduct 61 = .ok (.lushr, 1) := by decide +kernel
theorem dX9_addProduct_62 : decode cX9_addProduct 62 = .ok (.lstore 9, 2) := by decide +kernel
theorem dX9_addProduct_64 : decode cX9_addProduct 64 = .ok (.lload 5, 2) := by decide +kernel
theorem dX9_addProduct_66 : decode cX9_addProduct 66 = .ok (.bipush 32, 2) := by decide +kernel
theorem dX9_addProduct_68 : decode cX9_addProduct 68 = .ok (.lushr, 1) := by decide +kernel
theorem dX9_addProduct_69 : decode cX9_addProduct 69 = .ok (.lload 7, 2) := by decide +kernel
theorem dX9_addProduct_71 : decode cX9_addProduct 71 = .ok (.bipush 32, 2) := by decide +kernel
theorem dX9_addProduct_73 : decode cX9_addProduct 73 = .ok (.lshl, 1) := by decide +kernel
theorem dX9_addProduct_74 : decode cX9_addProduct 74 = .ok (.lor, 1) := by decide +kernel
theorem dX9_addProduct_75 : decode cX9_addProduct 75 = .ok (.lstore 5, 2) := by decide +kernel
theorem dX9_addProduct_77 : decode cX9_addProduct 77 = .ok (.lload 7, 2) := by decide +kernel
theorem dX9_addProduct_79 : decode cX9_addProduct 79 = .ok (.bipush 32, 2) := by decide +kernel
theorem dX9_addProduct_81 : decode cX9_addProduct 81 = .ok (.lshr, 1) := by decide +kernel
theorem dX9_addProduct_82 : decode cX9_addProduct 82 = .ok (.lstore 7, 2) := by decide +kernel
theorem dX9_addProduct_84 : decode cX9_addProduct 84 = .ok (.iinc 11 1, 3) := by decide +kernel
theorem dX9_addProduct_87 : decode cX9_addProduct 87 = .ok (.goto (-69), 3) := by decide +kernel
theorem dX9_addProduct_90 : decode cX9_addProduct 90 = .ok (.return_, 1) := by decide +kernel
theorem dX9_highOfProduct_0 : decode cX9_highOfProduct 0 = .ok (.lload_n 0, 1) := by decide +kernel
theorem dX9_highOfProduct_1 : decode cX9_highOfProduct 1 = .ok (.bipush 32, 2) := by decide +kernel
theorem dX9_highOfProduct_3 : decode cX9_highOfProduct 3 = .ok (.lshr, 1) := by decide +kernel
theorem dX9_highOfProduct_4 : decode cX9_highOfProduct 4 = .ok (.lstore 4, 2) := by decide +kernel
theorem dX9_highOfProduct_6 : decode cX9_highOfProduct 6 = .ok (.lload_n 0, 1) := by decide +kernel
theorem dX9_highOfProduct_7 : decode cX9_highOfProduct 7 = .ok (.ldc2_w 19, 3) := by decide +kernel
theorem dX9_highOfProduct_10 : decode cX9_highOfProduct 10 = .ok (.land, 1) := by decide +kernel
theorem dX9_highOfProduct_11 : decode cX9_highOfProduct 11 = .ok (.lstore 6, 2) := by decide +kernel
theorem dX9_highOfProduct_13 : decode cX9_highOfProduct 13 = .ok (.lload_n 2, 1) := by decide +kernel
theorem dX9_highOfProduct_14 : decode cX9_highOfProduct 14 = .ok (.bipush 32, 2) := by decide +kernel
theorem dX9_highOfProduct_16 : decode cX9_highOfProduct 16 = .ok (.lshr, 1) := by decide +kernel
theorem dX9_highOfProduct_17 : decode cX9_highOfProduct 17 = .ok (.lstore 8, 2) := by decide +kernel
theorem dX9_highOfProduct_19 : decode cX9_highOfProduct 19 = .ok (.lload_n 2, 1) := by decide +kernel
theorem dX9_highOfProduct_20 : decode cX9_highOfProduct 20 = .ok (.ldc2_w 19, 3) := by decide +kernel
theorem dX9_highOfProduct_23 : decode cX9_highOfProduct 23 = .ok (.land, 1) := by decide +kernel
theorem dX9_highOfProduct_24 : decode cX9_highOfProduct 24 = .ok (.lstore 10, 2) := by decide +kernel
theorem dX9_highOfProduct_26 : decode cX9_highOfProduct 26 = .ok (.lload 4, 2) := by decide +kernel
theorem dX9_highOfProduct_28 : decode cX9_highOfProduct 28 = .ok (.lload 10, 2) := by decide +kernel
theorem dX9_highOfProduct_30 : decode cX9_highOfProduct 30 = .ok (.lmul, 1) := by decide +kernel
theorem dX9_highOfProduct_31 : decode cX9_highOfProduct 31 = .ok (.lload 6, 2) := by decide +kernel
theorem dX9_highOfProduct_33 : decode cX9_highOfProduct 33 = .ok (.lload 10, 2) := by decide +kernel
theorem dX9_highOfProduct_35 : decode cX9_highOfProduct 35 = .ok (.lmul, 1) := by decide +kernel
theorem dX9_highOfProduct_36 : decode cX9_highOfProduct 36 = .ok (.bipush 32, 2) := by decide +kernel
theorem dX9_highOfProduct_38 : decode cX9_highOfProduct 38 = .ok (.lushr, 1) := by decide +kernel
theorem dX9_highOfProduct_39 : decode cX9_highOfProduct 39 = .ok (.ladd, 1) := by decide +kernel
theorem dX9_highOfProduct_40 : decode cX9_highOfProduct 40 = .ok (.lstore 12, 2) := by decide +kernel
theorem dX9_highOfProduct_42 : decode cX9_highOfProduct 42 = .ok (.lload 6, 2) := by decide +kernel
theorem dX9_highOfProduct_44 : decode cX9_highOfProduct 44 = .ok (.lload 8, 2) := by decide +kernel
theorem dX9_highOfProduct_46 : decode cX9_highOfProduct 46 = .ok (.lmul, 1) := by decide +kernel
theorem dX9_highOfProduct_47 : decode cX9_highOfProduct 47 = .ok (.lload 12, 2) := by decide +kernel
theorem dX9_highOfProduct_49 : decode cX9_highOfProduct 49 = .ok (.ldc2_w 19, 3) := by decide +kernel
theorem dX9_highOfProduct_52 : decode cX9_highOfProduct 52 = .ok (.land, 1) := by decide +kernel
theorem dX9_highOfProduct_53 : decode cX9_highOfProduct 53 = .ok (.ladd, 1) := by decide +kernel
theorem dX9_highOfProduct_54 : decode cX9_highOfProduct 54 = .ok (.lstore 14, 2) := by decide +kernel
theorem dX9_highOfProduct_56 : decode cX9_highOfProduct 56 = .ok (.lload 4, 2) := by decide +kernel
theorem dX9_highOfProduct_58 : decode cX9_highOfProduct 58 = .ok (.lload 8, 2) := by decide +kernel
theorem dX9_highOfProduct_60 : decode cX9_highOfProduct 60 = .ok (.lmul, 1) := by decide +kernel
theorem dX9_highOfProduct_61 : decode cX9_highOfProduct 61 = .ok (.lload 12, 2) := by decide +kernel
theorem dX9_highOfProduct_63 : decode cX9_highOfProduct 63 = .ok (.bipush 32, 2) := by decide +kernel
theorem dX9_highOfProduct_65 : decode cX9_highOfProduct 65 = .ok (.lshr, 1) := by decide +kernel
theorem dX9_highOfProduct_66 : decode cX9_highOfProduct 66 = .ok (.ladd, 1) := by decide +kernel
theorem dX9_highOfProduct_67 : decode cX9_highOfProduct 67 = .ok (.lload 14, 2) := by decide +kernel
theorem dX9_highOfProduct_69 : decode cX9_highOfProduct 69 = .ok (.bipush 32, 2) := by decide +kernel
theorem dX9_highOfProduct_71 : decode cX9_highOfProduct 71 = .ok (.lshr, 1) := by decide +kernel
theorem dX9_highOfProduct_72 : decode cX9_highOfProduct 72 = .ok (.ladd, 1) := by decide +kernel
theorem dX9_highOfProduct_73 : decode cX9_highOfProduct 73 = .ok (.lreturn, 1) := by decide +kernel
theorem dX9_add_0 : decode cX9_add 0 = .ok (.lconst 0, 1) := by decide +kernel
theorem dX9_add_1 : decode cX9_add 1 = .ok (.lstore_n 2, 1) := by decide +kernel
theorem dX9_add_2 : decode cX9_add 2 = .ok (.iconst 0, 1) := by decide +kernel
theorem dX9_add_3 : decode cX9_add 3 = .ok (.istore 4, 2) := by decide +kernel
theorem dX9_add_5 : decode cX9_add 5 = .ok (.iload 4, 2) := by decide +kernel
theorem dX9_add_7 : decode cX9_add 7 = .ok (.bipush 8, 2) := by decide +kernel
theorem dX9_add_9 : decode cX9_add 9 = .ok (.if_icmp .ge 47, 3) := by decide +kernel
theorem dX9_add_12 : decode cX9_add 12 = .ok (.aload_n 0, 1) := by decide +kernel
theorem dX9_add_13 : decode cX9_add 13 = .ok (.getfield 9, 3) := by decide +kernel
theorem dX9_add_16 : decode cX9_add 16 = .ok (.iload 4, 2) := by decide +kernel
theorem dX9_add_18 : decode cX9_add 18 = .ok (.laload, 1) := by decide +kernel
theorem dX9_add_19 : decode cX9_add 19 = .ok (.aload_n 1, 1) := by decide +kernel
theorem dX9_add_20 : decode cX9_add 20 = .ok (.getfield 9, 3) := by decide +kernel
theorem dX9_add_23 : decode cX9_add 23 = .ok (.iload 4, 2) := by decide +kernel
theorem dX9_add_25 : decode cX9_add 25 = .ok (.laload, 1) := by decide +kernel
theorem dX9_add_26 : decode cX9_add 26 = .ok (.ladd, 1) := by decide +kernel
theorem dX9_add_27 : decode cX9_add 27 = .ok (.lload_n 2, 1) := by decide +kernel
theorem dX9_add_28 : decode cX9_add 28 = .ok (.ladd, 1) := by decide +kernel
theorem dX9_add_29 : decode cX9_add 29 = .ok (.lstore 5, 2) := by decide +kernel
theorem dX9_add_31 : decode cX9_add 31 = .ok (.aload_n 0, 1) := by decide +kernel
theorem dX9_add_32 : decode cX9_add 32 = .ok (.getfield 9, 3) := by decide +kernel
theorem dX9_add_35 : decode cX9_add 35 = .ok (.iload 4, 2) := by decide +kernel
theorem dX9_add_37 : decode cX9_add 37 = .ok (.lload 5, 2) := by decide +kernel
theorem dX9_add_39 : decode cX9_add 39 = .ok (.ldc2_w 19, 3) := by decide +kernel
theorem dX9_add_42 : decode cX9_add 42 = .ok (.land, 1) := by decide +kernel
theorem dX9_add_43 : decode cX9_add 43 = .ok (.lastore, 1) := by decide +kernel
theorem dX9_add_44 : decode cX9_add 44 = .ok (.lload 5, 2) := by decide +kernel
theorem dX9_add_46 : decode cX9_add 46 = .ok (.bipush 32, 2) := by decide +kernel
theorem dX9_add_48 : decode cX9_add 48 = .ok (.lushr, 1) := by decide +kernel
theorem dX9_add_49 : decode cX9_add 49 = .ok (.lstore_n 2, 1) := by decide +kernel
theorem dX9_add_50 : decode cX9_add 50 = .ok (.iinc 4 1, 3) := by decide +kernel
theorem dX9_add_53 : decode cX9_add 53 = .ok (.goto (-48), 3) := by decide +kernel
theorem dX9_add_56 : decode cX9_add 56 = .ok (.return_, 1) := by decide +kernel
theorem dX9_subtract_0 : decode cX9_subtract 0 = .ok (.lconst 0, 1) := by decide +kernel
theorem dX9_subtract_1 : decode cX9_subtract 1 = .ok (.lstore_n 2, 1) := by decide +kernel
theorem dX9_subtract_2 : decode cX9_subtract 2 = .ok (.iconst 0, 1) := by decide +kernel
theorem dX9_subtract_3 : decode cX9_subtract 3 = .ok (.istore 4, 2) := by decide +kernel
theorem dX9_subtract_5 : decode cX9_subtract 5 = .ok (.iload 4, 2) := by decide +kernel
theorem dX9_subtract_7 : decode cX9_subtract 7 = .ok (.bipush 8, 2) := by decide +kernel
theorem dX9_subtract_9 : decode cX9_subtract 9 = .ok (.if_icmp .ge 47, 3) := by decide +kernel
theorem dX9_subtract_12 : decode cX9_subtract 12 = .ok (.aload_n 0, 1) := by decide +kernel
theorem dX9_subtract_13 : decode cX9_subtract 13 = .ok (.getfield 9, 3) := by decide +kernel
theorem dX9_subtract_16 : decode cX9_subtract 16 = .ok (.iload 4, 2) := by decide +kernel
theorem dX9_subtract_18 : decode cX9_subtract 18 = .ok (.laload, 1) := by decide +kernel
theorem dX9_subtract_19 : decode cX9_subtract 19 = .ok (.aload_n 1, 1) := by decide +kernel
theorem dX9_subtract_20 : decode cX9_subtract 20 = .ok (.getfield 9, 3) := by decide +kernel
theorem dX9_subtract_23 : decode cX9_subtract 23 = .ok (.iload 4, 2) := by decide +kernel
theorem dX9_subtract_25 : decode cX9_subtract 25 = .ok (.laload, 1) := by decide +kernel
theorem dX9_subtract_26 : decode cX9_subtract 26 = .ok (.lsub, 1) := by decide +kernel
theorem dX9_subtract_27 : decode cX9_subtract 27 = .ok (.lload_n 2, 1) := by decide +kernel
theorem dX9_subtract_28 : decode cX9_subtract 28 = .ok (.ladd, 1) := by decide +kernel
theorem dX9_subtract_29 : decode cX9_subtract 29 = .ok (.lstore 5, 2) := by decide +kernel
theorem dX9_subtract_31 : decode cX9_subtract 31 = .ok (.aload_n 0, 1) := by decide +kernel
theorem dX9_subtract_32 : decode cX9_subtract 32 = .ok (.getfield 9, 3) := by decide +kernel
theorem dX9_subtract_35 : decode cX9_subtract 35 = .ok (.iload 4, 2) := by decide +kernel
theorem dX9_subtract_37 : decode cX9_subtract 37 = .ok (.lload 5, 2) := by decide +kernel
theorem dX9_subtract_39 : decode cX9_subtract 39 = .ok (.ldc2_w 19, 3) := by decide +kernel
theorem dX9_subtract_42 : decode cX9_subtract 42 = .ok (.land, 1) := by decide +kernel
theorem dX9_subtract_43 : decode cX9_subtract 43 = .ok (.lastore, 1) := by decide +kernel
theorem dX9_subtract_44 : decode cX9_subtract 44 = .ok (.lload 5, 2) := by decide +kernel
theorem dX9_subtract_46 : decode cX9_subtract 46 = .ok (.bipush 32, 2) := by decide +kernel
theorem dX9_subtract_48 : decode cX9_subtract 48 = .ok (.lshr, 1) := by decide +kernel
theorem dX9_subtract_49 : decode cX9_subtract 49 = .ok (.lstore_n 2, 1) := by decide +kernel
theorem dX9_subtract_50 : decode cX9_subtract 50 = .ok (.iinc 4 1, 3) := by decide +kernel
theorem dX9_subtract_53 : decode cX9_subtract 53 = .ok (.goto (-48), 3) := by decide +kernel
theorem dX9_subtract_56 : decode cX9_subtract 56 = .ok (.return_, 1) := by decide +kernel
theorem dX9_negate_0 : decode cX9_negate 0 = .ok (.lconst 1, 1) := by decide +kernel
theorem dX9_negate_1 : decode cX9_negate 1 = .ok (.lstore_n 1, 1) := by decide +kernel
theorem dX9_negate_2 : decode cX9_negate 2 = .ok (.iconst 0, 1) := by decide +kernel
theorem dX9_negate_3 : decode cX9_negate 3 = .ok (.istore_n 3, 1) := by decide +kernel
theorem dX9_negate_4 : decode cX9_negate 4 = .ok (.iload_n 3, 1) := by decide +kernel
theorem dX9_negate_5 : decode cX9_negate 5 = .ok (.bipush 8, 2) := by decide +kernel
theorem dX9_negate_7 : decode cX9_negate 7 = .ok (.if_icmp .ge 41, 3) := by decide +kernel
theorem dX9_negate_10 : decode cX9_negate 10 = .ok (.aload_n 0, 1) := by decide +kernel
theorem dX9_negate_11 : decode cX9_negate 11 = .ok (.getfield 9, 3) := by decide +kernel
theorem dX9_negate_14 : decode cX9_negate 14 = .ok (.iload_n 3, 1) := by decide +kernel
theorem dX9_negate_15 : decode cX9_negate 15 = .ok (.laload, 1) := by decide +kernel
theorem dX9_negate_16 : decode cX9_negate 16 = .ok (.ldc2_w 19, 3) := by decide +kernel
theorem dX9_negate_19 : decode cX9_negate 19 = .ok (.lxor, 1) := by decide +kernel
theorem dX9_negate_20 : decode cX9_negate 20 = .ok (.lload_n 1, 1) := by decide +kernel
theorem dX9_negate_21 : decode cX9_negate 21 = .ok (.ladd, 1) := by decide +kernel
theorem dX9_negate_22 : decode cX9_negate 22 = .ok (.lstore 4, 2) := by decide +kernel
theorem dX9_negate_24 : decode cX9_negate 24 = .ok (.aload_n 0, 1) := by decide +kernel
theorem dX9_negate_25 : decode cX9_negate 25 = .ok (.getfield 9, 3) := by decide +kernel
theorem dX9_negate_28 : decode cX9_negate 28 = .ok (.iload_n 3, 1) := by decide +kernel
theorem dX9_negate_29 : decode cX9_negate 29 = .ok (.lload 4, 2) := by decide +kernel
theorem dX9_negate_31 : decode cX9_negate 31 = .ok (.ldc2_w 19, 3) := by decide +kernel
theorem dX9_negate_34 : decode cX9_negate 34 = .ok (.land, 1) := by decide +kernel
theorem dX9_negate_35 : decode cX9_negate 35 = .ok (.lastore, 1) := by decide +kernel
theorem dX9_negate_36 : decode cX9_negate 36 = .ok (.lload 4, 2) := by decide +kernel
theorem dX9_negate_38 : decode cX9_negate 38 = .ok (.bipush 32, 2) := by decide +kernel
theorem dX9_negate_40 : decode cX9_negate 40 = .ok (.lushr, 1) := by decide +kernel
theorem dX9_negate_41 : decode cX9_negate 41 = .ok (.lstore_n 1, 1) := by decide +kernel
theorem dX9_negate_42 : decode cX9_negate 42 = .ok (.iinc 3 1, 3) := by decide +kernel
theorem dX9_negate_45 : decode cX9_negate 45 = .ok (.goto (-41), 3) := by decide +kernel
theorem dX9_negate_48 : decode cX9_negate 48 = .ok (.return_, 1) := by decide +kernel
theorem dX9_shiftLeft_0 : decode cX9_shiftLeft 0 = .ok (.iload_n 1, 1) := by decide +kernel
theorem dX9_shiftLeft_1 : decode cX9_shiftLeft 1 = .ok (.bipush 32, 2) := by decide +kernel
theorem dX9_shiftLeft_3 : decode cX9_shiftLeft 3 = .ok (.idiv, 1) := by decide +kernel
theorem dX9_shiftLeft_4 : decode cX9_shiftLeft 4 = .ok (.istore_n 2, 1) := by decide +kernel
theorem dX9_shiftLeft_5 : decode cX9_shiftLeft 5 = .ok (.iload_n 1, 1) := by decide +kernel
theorem dX9_shiftLeft_6 : decode cX9_shiftLeft 6 = .ok (.bipush 32, 2) := by decide +kernel
theorem dX9_shiftLeft_8 : decode cX9_shiftLeft 8 = .ok (.irem, 1) := by decide +kernel
theorem dX9_shiftLeft_9 : decode cX9_shiftLeft 9 = .ok (.istore_n 3, 1) := by decide +kernel
theorem dX9_shiftLeft_10 : decode cX9_shiftLeft 10 = .ok (.bipush 7, 2) := by decide +kernel
theorem dX9_shiftLeft_12 : decode cX9_shiftLeft 12 = .ok (.istore 4, 2) := by decide +kernel
theorem dX9_shiftLeft_14 : decode cX9_shiftLeft 14 = .ok (.iload 4, 2) := by decide +kernel
theorem dX9_shiftLeft_16 : decode cX9_shiftLeft 16 = .ok (.ifCond .lt 54, 3) := by decide +kernel
theorem dX9_shiftLeft_19 : decode cX9_shiftLeft 19 = .ok (.aload_n 0, 1) := by decide +kernel
theorem dX9_shiftLeft_20 : decode cX9_shiftLeft 20 = .ok (.iload 4, 2) := by decide +kernel
theorem dX9_shiftLeft_22 : decode cX9_shiftLeft 22 = .ok (.iload_n 2, 1) := by decide +kernel
theorem dX9_shiftLeft_23 : decode cX9_shiftLeft 23 = .ok (.isub, 1) := by decide +kernel
theorem dX9_shiftLeft_24 : decode cX9_shiftLeft 24 = .ok (.invokevirtual 39, 3) := by decide +kernel
theorem dX9_shiftLeft_27 : decode cX9_shiftLeft 27 = .ok (.iload_n 3, 1) := by decide +kernel
theorem dX9_shiftLeft_28 : decode cX9_shiftLeft 28 = .ok (.lshl, 1) := by decide +kernel
theorem dX9_shiftLeft_29 : decode cX9_shiftLeft 29 = .ok (.lstore 5, 2) := by decide +kernel
theorem dX9_shiftLeft_31 : decode cX9_shiftLeft 31 = .ok (.aload_n 0, 1) := by decide +kernel
theorem dX9_shiftLeft_32 : decode cX9_shiftLeft 32 = .ok (.iload 4, 2) := by decide +kernel
theorem dX9_shiftLeft_34 : decode cX9_shiftLeft 34 = .ok (.iload_n 2, 1) := by decide +kernel
theorem dX9_shiftLeft_35 : decode cX9_shiftLeft 35 = .ok (.isub, 1) := by decide +kernel
theorem dX9_shiftLeft_36 : decode cX9_shiftLeft 36 = .ok (.iconst 1, 1) := by decide +kernel
theorem dX9_shiftLeft_37 : decode cX9_shiftLeft 37 = .ok (.isub, 1) := by decide +kernel
theorem dX9_shiftLeft_38 : decode cX9_shiftLeft 38 = .ok (.invokevirtual 39, 3) := by decide +kernel
theorem dX9_shiftLeft_41 : decode cX9_shiftLeft 41 = .ok (.bipush 32, 2) := by decide +kernel
theorem dX9_shiftLeft_43 : decode cX9_shiftLeft 43 = .ok (.iload_n 3, 1) := by decide +kernel
theorem dX9_shiftLeft_44 : decode cX9_shiftLeft 44 = .ok (.isub, 1) := by decide +kernel
theorem dX9_shiftLeft_45 : decode cX9_shiftLeft 45 = .ok (.lushr, 1) := by decide +kernel
theorem dX9_shiftLeft_46 : decode cX9_shiftLeft 46 = .ok (.lstore 7, 2) := by decide +kernel
theorem dX9_shiftLeft_48 : decode cX9_shiftLeft 48 = .ok (.aload_n 0, 1) := by decide +kernel
theorem dX9_shiftLeft_49 : decode cX9_shiftLeft 49 = .ok (.getfield 9, 3) := by decide +kernel
theorem dX9_shiftLeft_52 : decode cX9_shiftLeft 52 = .ok (.iload 4, 2) := by decide +kernel
theorem dX9_shiftLeft_54 : decode cX9_shiftLeft 54 = .ok (.lload 5, 2) := by decide +kernel
theorem dX9_shiftLeft_56 : decode cX9_shiftLeft 56 = .ok (.lload 7, 2) := by decide +kernel
theorem dX9_shiftLeft_58 : decode cX9_shiftLeft 58 = .ok (.lor, 1) := by decide +kernel
theorem dX9_shiftLeft_59 : decode cX9_shiftLeft 59 = .ok (.ldc2_w 19, 3) := by decide +kernel
theorem dX9_shiftLeft_62 : decode cX9_shiftLeft 62 = .ok (.land, 1) := by decide +kernel
theorem dX9_shiftLeft_63 : decode cX9_shiftLeft 63 = .ok (.lastore, 1) := by decide +kernel
theorem dX9_shiftLeft_64 : decode cX9_shiftLeft 64 = .ok (.iinc 4 (-1), 3) := by decide +kernel
theorem dX9_shiftLeft_67 : decode cX9_shiftLeft 67 = .ok (.goto (-53), 3) := by decide +kernel
theorem dX9_shiftLeft_70 : decode cX9_shiftLeft 70 = .ok (.return_, 1) := by decide +kernel
theorem dX9_halve_0 : decode cX9_halve 0 = .ok (.lconst 0, 1) := by decide +kernel
theorem dX9_halve_1 : decode cX9_halve 1 = .ok (.lstore_n 1, 1) := by decide +kernel
theorem dX9_halve_2 : decode cX9_halve 2 = .ok (.bipush 7, 2) := by decide +kernel
theorem dX9_halve_4 : decode cX9_halve 4 = .ok (.istore_n 3, 1) := by decide +kernel
theorem dX9_halve_5 : decode cX9_halve 5 = .ok (.iload_n 3, 1) := by decide +kernel
theorem dX9_halve_6 : decode cX9_halve 6 = .ok (.ifCond .lt 37, 3) := by decide +kernel
theorem dX9_halve_9 : decode cX9_halve 9 = .ok (.aload_n 0, 1) := by decide +kernel
theorem dX9_halve_10 : decode cX9_halve 10 = .ok (.getfield 9, 3) := by decide +kernel
theorem dX9_halve_13 : decode cX9_halve 13 = .ok (.iload_n 3, 1) := by decide +kernel
theorem dX9_halve_14 : decode cX9_halve 14 = .ok (.laload, 1) := by decide +kernel
theorem dX9_halve_15 : decode cX9_halve 15 = .ok (.lstore 4, 2) := by decide +kernel
theorem dX9_halve_17 : decode cX9_halve 17 = .ok (.aload_n 0, 1) := by decide +kernel
theorem dX9_halve_18 : decode cX9_halve 18 = .ok (.getfield 9, 3) := by decide +kernel
theorem dX9_halve_21 : decode cX9_halve 21 = .ok (.iload_n 3, 1) := by decide +kernel
theorem dX9_halve_22 : decode cX9_halve 22 = .ok (.lload 4, 2) := by decide +kernel
theorem dX9_halve_24 : decode cX9_halve 24 = .ok (.iconst 1, 1) := by decide +kernel
theorem dX9_halve_25 : decode cX9_halve 25 = .ok (.lushr, 1) := by decide +kernel
theorem dX9_halve_26 : decode cX9_halve 26 = .ok (.lload_n 1, 1) := by decide +kernel
theorem dX9_halve_27 : decode cX9_halve 27 = .ok (.bipush 31, 2) := by decide +kernel
theorem dX9_halve_29 : decode cX9_halve 29 = .ok (.lshl, 1) := by decide +kernel
theorem dX9_halve_30 : decode cX9_halve 30 = .ok (.lor, 1) := by decide +kernel
theorem dX9_halve_31 : decode cX9_halve 31 = .ok (.lastore, 1) := by decide +kernel
theorem dX9_halve_32 : decode cX9_halve 32 = .ok (.lload 4, 2) := by decide +kernel
theorem dX9_halve_34 : decode cX9_halve 34 = .ok (.lconst 1, 1) := by decide +kernel
theorem dX9_halve_35 : decode cX9_halve 35 = .ok (.land, 1) := by decide +kernel
theorem dX9_halve_36 : decode cX9_halve 36 = .ok (.lstore_n 1, 1) := by decide +kernel
theorem dX9_halve_37 : decode cX9_halve 37 = .ok (.iinc 3 (-1), 3) := by decide +kernel
theorem dX9_halve_40 : decode cX9_halve 40 = .ok (.goto (-35), 3) := by decide +kernel
theorem dX9_halve_43 : decode cX9_halve 43 = .ok (.return_, 1) := by decide +kernel
theorem dX9_setBit_0 : decode cX9_setBit 0 = .ok (.iload_n 1, 1) := by decide +kernel
theorem dX9_setBit_1 : decode cX9_setBit 1 = .ok (.bipush 32, 2) := by decide +kernel
theorem dX9_setBit_3 : decode cX9_setBit 3 = .ok (.idiv, 1) := by decide +kernel
theorem dX9_setBit_4 : decode cX9_setBit 4 = .ok (.istore_n 2, 1) := by decide +kernel
theorem dX9_setBit_5 : decode cX9_setBit 5 = .ok (.iload_n 1, 1) := by decide +kernel
theorem dX9_setBit_6 : decode cX9_setBit 6 = .ok (.ifCond .lt 24, 3) := by decide +kernel
theorem dX9_setBit_9 : decode cX9_setBit 9 = .ok (.iload_n 2, 1) := by decide +kernel
theorem dX9_setBit_10 : decode cX9_setBit 10 = .ok (.bipush 8, 2) := by decide +kernel
theorem dX9_setBit_12 : decode cX9_setBit 12 = .ok (.if_icmp .ge 18, 3) := by decide +kernel
theorem dX9_setBit_15 : decode cX9_setBit 15 = .ok (.aload_n 0, 1) := by decide +kernel
theorem dX9_setBit_16 : decode cX9_setBit 16 = .ok (.getfield 9, 3) := by decide +kernel
theorem dX9_setBit_19 : decode cX9_setBit 19 = .ok (.iload_n 2, 1) := by decide +kernel
theorem dX9_setBit_20 : decode cX9_setBit 20 = .ok (.dup2, 1) := by decide +kernel
theorem dX9_setBit_21 : decode cX9_setBit 21 = .ok (.laload, 1) := by decide +kernel
theorem dX9_setBit_22 : decode cX9_setBit 22 = .ok (.lconst 1, 1) := by decide +kernel
theorem dX9_setBit_23 : decode cX9_setBit 23 = .ok (.iload_n 1, 1) := by decide +kernel
theorem dX9_setBit_24 : decode cX9_setBit 24 = .ok (.bipush 32, 2) := by decide +kernel
theorem dX9_setBit_26 : decode cX9_setBit 26 = .ok (.irem, 1) := by decide +kernel
theorem dX9_setBit_27 : decode cX9_setBit 27 = .ok (.lshl, 1) := by decide +kernel
theorem dX9_setBit_28 : decode cX9_setBit 28 = .ok (.lor, 1) := by decide +kernel
theorem dX9_setBit_29 : decode cX9_setBit 29 = .ok (.lastore, 1) := by decide +kernel
theorem dX9_setBit_30 : decode cX9_setBit 30 = .ok (.return_, 1) := by decide +kernel
theorem dJ6_numberOfLeadingZeros_0f7a4_0 : decode cJ6_numberOfLeadingZeros_0f7a4 0 = .ok (.iload_n 0, 1) := by decide +kernel
theorem dJ6_numberOfLeadingZeros_0f7a4_1 : decode cJ6_numberOfLeadingZeros_0f7a4 1 = .ok (.ifCond .gt 14, 3) := by decide +kernel
theorem dJ6_numberOfLeadingZeros_0f7a4_4 : decode cJ6_numberOfLeadingZeros_0f7a4 4 = .ok (.iload_n 0, 1) := by decide +kernel
theorem dJ6_numberOfLeadingZeros_0f7a4_5 : decode cJ6_numberOfLeadingZeros_0f7a4 5 = .ok (.ifCond .ne 8, 3) := by decide +kernel
theorem dJ6_numberOfLeadingZeros_0f7a4_8 : decode cJ6_numberOfLeadingZeros_0f7a4 8 = .ok (.bipush 32, 2) := by decide +kernel
theorem dJ6_numberOfLeadingZeros_0f7a4_10 : decode cJ6_numberOfLeadingZeros_0f7a4 10 = .ok (.goto 4, 3) := by decide +kernel
theorem dJ6_numberOfLeadingZeros_0f7a4_13 : decode cJ6_numberOfLeadingZeros_0f7a4 13 = .ok (.iconst 0, 1) := by decide +kernel
theorem dJ6_numberOfLeadingZeros_0f7a4_14 : decode cJ6_numberOfLeadingZeros_0f7a4 14 = .ok (.ireturn, 1) := by decide +kernel
theorem dJ6_numberOfLeadingZeros_0f7a4_15 : decode cJ6_numberOfLeadingZeros_0f7a4 15 = .ok (.bipush 31, 2) := by decide +kernel
theorem dJ6_numberOfLeadingZeros_0f7a4_17 : decode cJ6_numberOfLeadingZeros_0f7a4 17 = .ok (.istore_n 1, 1) := by decide +kernel
theorem dJ6_numberOfLeadingZeros_0f7a4_18 : decode cJ6_numberOfLeadingZeros_0f7a4 18 = .ok (.iload_n 0, 1) := by decide +kernel
theorem dJ6_numberOfLeadingZeros_0f7a4_19 : decode cJ6_numberOfLeadingZeros_0f7a4 19 = .ok (.ldc_w 264, 3) := by decide +kernel
theorem dJ6_numberOfLeadingZeros_0f7a4_22 : decode cJ6_numberOfLeadingZeros_0f7a4 22 = .ok (.if_icmp .lt 11, 3) := by decide +kernel
theorem dJ6_numberOfLeadingZeros_0f7a4_25 : decode cJ6_numberOfLeadingZeros_0f7a4 25 = .ok (.iinc 1 (-16), 3) := by decide +kernel
theorem dJ6_numberOfLeadingZeros_0f7a4_28 : decode cJ6_numberOfLeadingZeros_0f7a4 28 = .ok (.iload_n 0, 1) := by decide +kernel
theorem dJ6_numberOfLeadingZeros_0f7a4_29 : decode cJ6_numberOfLeadingZeros_0f7a4 29 = .ok (.bipush 16, 2) := by decide +kernel
theorem dJ6_numberOfLeadingZeros_0f7a4_31 : decode cJ6_numberOfLeadingZeros_0f7a4 31 = .ok (.iushr, 1) := by decide +kernel
theorem dJ6_numberOfLeadingZeros_0f7a4_32 : decode cJ6_numberOfLeadingZeros_0f7a4 32 = .ok (.istore_n 0, 1) := by decide +kernel
theorem dJ6_numberOfLeadingZeros_0f7a4_33 : decode cJ6_numberOfLeadingZeros_0f7a4 33 = .ok (.iload_n 0, 1) := by decide +kernel
theorem dJ6_numberOfLeadingZeros_0f7a4_34 : decode cJ6_numberOfLeadingZeros_0f7a4 34 = .ok (.sipush 256, 3) := by decide +kernel
theorem dJ6_numberOfLeadingZeros_0f7a4_37 : decode cJ6_numberOfLeadingZeros_0f7a4 37 = .ok (.if_icmp .lt 11, 3) := by decide +kernel
theorem dJ6_numberOfLeadingZeros_0f7a4_40 : decode cJ6_numberOfLeadingZeros_0f7a4 40 = .ok (.iinc 1 (-8), 3) := by decide +kernel
theorem dJ6_numberOfLeadingZeros_0f7a4_43 : decode cJ6_numberOfLeadingZeros_0f7a4 43 = .ok (.iload_n 0, 1) := by decide +kernel
theorem dJ6_numberOfLeadingZeros_0f7a4_44 : decode cJ6_numberOfLeadingZeros_0f7a4 44 = .ok (.bipush 8, 2) := by decide +kernel
theorem dJ6_numberOfLeadingZeros_0f7a4_46 : decode cJ6_numberOfLeadingZeros_0f7a4 46 = .ok (.iushr, 1) := by decide +kernel
theorem dJ6_numberOfLeadingZeros_0f7a4_47 : decode cJ6_numberOfLeadingZeros_0f7a4 47 = .ok (.istore_n 0, 1) := by decide +kernel
theorem dJ6_numberOfLeadingZeros_0f7a4_48 : decode cJ6_numberOfLeadingZeros_0f7a4 48 = .ok (.iload_n 0, 1) := by decide +kernel
theorem dJ6_numberOfLeadingZeros_0f7a4_49 : decode cJ6_numberOfLeadingZeros_0f7a4 49 = .ok (.bipush 16, 2) := by decide +kernel
theorem dJ6_numberOfLeadingZeros_0f7a4_51 : decode cJ6_numberOfLeadingZeros_0f7a4 51 = .ok (.if_icmp .lt 10, 3) := by decide +kernel
theorem dJ6_numberOfLeadingZeros_0f7a4_54 : decode cJ6_numberOfLeadingZeros_0f7a4 54 = .ok (.iinc 1 (-4), 3) := by decide +kernel
theorem dJ6_numberOfLeadingZeros_0f7a4_57 : decode cJ6_numberOfLeadingZeros_0f7a4 57 = .ok (.iload_n 0, 1) := by decide +kernel
theorem dJ6_numberOfLeadingZeros_0f7a4_58 : decode cJ6_numberOfLeadingZeros_0f7a4 58 = .ok (.iconst 4, 1) := by decide +kernel
theorem dJ6_numberOfLeadingZeros_0f7a4_59 : decode cJ6_numberOfLeadingZeros_0f7a4 59 = .ok (.iushr, 1) := by decide +kernel
theorem dJ6_numberOfLeadingZeros_0f7a4_60 : decode cJ6_numberOfLeadingZeros_0f7a4 60 = .ok (.istore_n 0, 1) := by decide +kernel
theorem dJ6_numberOfLeadingZeros_0f7a4_61 : decode cJ6_numberOfLeadingZeros_0f7a4 61 = .ok (.iload_n 0, 1) := by decide +kernel
theorem dJ6_numberOfLeadingZeros_0f7a4_62 : decode cJ6_numberOfLeadingZeros_0f7a4 62 = .ok (.iconst 4, 1) := by decide +kernel
theorem dJ6_numberOfLeadingZeros_0f7a4_63 : decode cJ6_numberOfLeadingZeros_0f7a4 63 = .ok (.if_icmp .lt 10, 3) := by decide +kernel
theorem dJ6_numberOfLeadingZeros_0f7a4_66 : decode cJ6_numberOfLeadingZeros_0f7a4 66 = .ok (.iinc 1 (-2), 3) := by decide +kernel
theorem dJ6_numberOfLeadingZeros_0f7a4_69 : decode cJ6_numberOfLeadingZeros_0f7a4 69 = .ok (.iload_n 0, 1) := by decide +kernel
theorem dJ6_numberOfLeadingZeros_0f7a4_70 : decode cJ6_numberOfLeadingZeros_0f7a4 70 = .ok (.iconst 2, 1) := by decide +kernel
theorem dJ6_numberOfLeadingZeros_0f7a4_71 : decode cJ6_numberOfLeadingZeros_0f7a4 71 = .ok (.iushr, 1) := by decide +kernel
theorem dJ6_numberOfLeadingZeros_0f7a4_72 : decode cJ6_numberOfLeadingZeros_0f7a4 72 = .ok (.istore_n 0, 1) := by decide +kernel
theorem dJ6_numberOfLeadingZeros_0f7a4_73 : decode cJ6_numberOfLeadingZeros_0f7a4 73 = .ok (.iload_n 1, 1) := by decide +kernel
theorem dJ6_numberOfLeadingZeros_0f7a4_74 : decode cJ6_numberOfLeadingZeros_0f7a4 74 = .ok (.iload_n 0, 1) := by decide +kernel
theorem dJ6_numberOfLeadingZeros_0f7a4_75 : decode cJ6_numberOfLeadingZeros_0f7a4 75 = .ok (.iconst 1, 1) := by decide +kernel
theorem dJ6_numberOfLeadingZeros_0f7a4_76 : decode cJ6_numberOfLeadingZeros_0f7a4 76 = .ok (.iushr, 1) := by decide +kernel
theorem dJ6_numberOfLeadingZeros_0f7a4_77 : decode cJ6_numberOfLeadingZeros_0f7a4 77 = .ok (.isub, 1) := by decide +kernel
theorem dJ6_numberOfLeadingZeros_0f7a4_78 : decode cJ6_numberOfLeadingZeros_0f7a4 78 = .ok (.ireturn, 1) := by decide +kernel
theorem dJ13_numberOfLeadingZeros_95d88_0 : decode cJ13_numberOfLeadingZeros_95d88 0 = .ok (.lload_n 0, 1) := by decide +kernel
theorem dJ13_numberOfLeadingZeros_95d88_1 : decode cJ13_numberOfLeadingZeros_95d88 1 = .ok (.bipush 32, 2) := by decide +kernel
theorem dJ13_numberOfLeadingZeros_95d88_3 : decode cJ13_numberOfLeadingZeros_95d88 3 = .ok (.lushr, 1) := by decide +kernel
theorem dJ13_numberOfLeadingZeros_95d88_4 : decode cJ13_numberOfLeadingZeros_95d88 4 = .ok (.l2i, 1) := by decide +kernel
theorem dJ13_numberOfLeadingZeros_95d88_5 : decode cJ13_numberOfLeadingZeros_95d88 5 = .ok (.istore_n 2, 1) := by decide +kernel
theorem dJ13_numberOfLeadingZeros_95d88_6 : decode cJ13_numberOfLeadingZeros_95d88 6 = .ok (.iload_n 2, 1) := by decide +kernel
theorem dJ13_numberOfLeadingZeros_95d88_7 : decode cJ13_numberOfLeadingZeros_95d88 7 = .ok (.ifCond .ne 14, 3) := by decide +kernel
theorem dJ13_numberOfLeadingZeros_95d88_10 : decode cJ13_numberOfLeadingZeros_95d88 10 = .ok (.bipush 32, 2) := by decide +kernel
theorem dJ13_numberOfLeadingZeros_95d88_12 : decode cJ13_numberOfLeadingZeros_95d88 12 = .ok (.lload_n 0, 1) := by decide +kernel
theorem dJ13_numberOfLeadingZeros_95d88_13 : decode cJ13_numberOfLeadingZeros_95d88 13 = .ok (.l2i, 1) := by decide +kernel
theorem dJ13_numberOfLeadingZeros_95d88_14 : decode cJ13_numberOfLeadingZeros_95d88 14 = .ok (.invokestatic 308, 3) := by decide +kernel
theorem dJ13_numberOfLeadingZeros_95d88_17 : decode cJ13_numberOfLeadingZeros_95d88 17 = .ok (.iadd, 1) := by decide +kernel
theorem dJ13_numberOfLeadingZeros_95d88_18 : decode cJ13_numberOfLeadingZeros_95d88 18 = .ok (.goto 7, 3) := by decide +kernel
theorem dJ13_numberOfLeadingZeros_95d88_21 : decode cJ13_numberOfLeadingZeros_95d88 21 = .ok (.iload_n 2, 1) := by decide +kernel
theorem dJ13_numberOfLeadingZeros_95d88_22 : decode cJ13_numberOfLeadingZeros_95d88 22 = .ok (.invokestatic 308, 3) := by decide +kernel
theorem dJ13_numberOfLeadingZeros_95d88_25 : decode cJ13_numberOfLeadingZeros_95d88 25 = .ok (.ireturn, 1) := by decide +kernel
theorem dJ13_signum_95d88_0 : decode cJ13_signum_95d88 0 = .ok (.lload_n 0, 1) := by decide +kernel
theorem dJ13_signum_95d88_1 : decode cJ13_signum_95d88 1 = .ok (.bipush 63, 2) := by decide +kernel
theorem dJ13_signum_95d88_3 : decode cJ13_signum_95d88 3 = .ok (.lshr, 1) := by decide +kernel
theorem dJ13_signum_95d88_4 : decode cJ13_signum_95d88 4 = .ok (.lload_n 0, 1) := by decide +kernel
theorem dJ13_signum_95d88_5 : decode cJ13_signum_95d88 5 = .ok (.lneg, 1) := by decide +kernel
theorem dJ13_signum_95d88_6 : decode cJ13_signum_95d88 6 = .ok (.bipush 63, 2) := by decide +kernel
theorem dJ13_signum_95d88_8 : decode cJ13_signum_95d88 8 = .ok (.lushr, 1) := by decide +kernel
theorem dJ13_signum_95d88_9 : decode cJ13_signum_95d88 9 = .ok (.lor, 1) := by decide +kernel
theorem dJ13_signum_95d88_10 : decode cJ13_signum_95d88 10 = .ok (.l2i, 1) := by decide +kernel
theorem dJ13_signum_95d88_11 : decode cJ13_signum_95d88 11 = .ok (.ireturn, 1) := by decide +kernel
theorem dJ9_floorDiv_f86c9_0 : decode cJ9_floorDiv_f86c9 0 = .ok (.lload_n 0, 1) := by decide +kernel
theorem dJ9_floorDiv_f86c9_1 : decode cJ9_floorDiv_f86c9 1 = .ok (.lload_n 2, 1) := by decide +kernel
theorem dJ9_floorDiv_f86c9_2 : decode cJ9_floorDiv_f86c9 2 = .ok (.ldiv, 1) := by decide +kernel
theorem dJ9_floorDiv_f86c9_3 : decode cJ9_floorDiv_f86c9 3 = .ok (.lstore 4, 2) := by decide +kernel
theorem dJ9_floorDiv_f86c9_5 : decode cJ9_floorDiv_f86c9 5 = .ok (.lload_n 0, 1) := by decide +kernel
theorem dJ9_floorDiv_f86c9_6 : decode cJ9_floorDiv_f86c9 6 = .ok (.lload_n 2, 1) := by decide +kernel
theorem dJ9_floorDiv_f86c9_7 : decode cJ9_floorDiv_f86c9 7 = .ok (.lxor, 1) := by decide +kernel
theorem dJ9_floorDiv_f86c9_8 : decode cJ9_floorDiv_f86c9 8 = .ok (.lconst 0, 1) := by decide +kernel
theorem dJ9_floorDiv_f86c9_9 : decode cJ9_floorDiv_f86c9 9 = .ok (.lcmp, 1) := by decide +kernel
theorem dJ9_floorDiv_f86c9_10 : decode cJ9_floorDiv_f86c9 10 = .ok (.ifCond .ge 17, 3) := by decide +kernel
theorem dJ9_floorDiv_f86c9_13 : decode cJ9_floorDiv_f86c9 13 = .ok (.lload 4, 2) := by decide +kernel
theorem dJ9_floorDiv_f86c9_15 : decode cJ9_floorDiv_f86c9 15 = .ok (.lload_n 2, 1) := by decide +kernel
theorem dJ9_floorDiv_f86c9_16 : decode cJ9_floorDiv_f86c9 16 = .ok (.lmul, 1) := by decide +kernel
theorem dJ9_floorDiv_f86c9_17 : decode cJ9_floorDiv_f86c9 17 = .ok (.lload_n 0, 1) := by decide +kernel
theorem dJ9_floorDiv_f86c9_18 : decode cJ9_floorDiv_f86c9 18 = .ok (.lcmp, 1) := by decide +kernel
theorem dJ9_floorDiv_f86c9_19 : decode cJ9_floorDiv_f86c9 19 = .ok (.ifCond .eq 8, 3) := by decide +kernel
theorem dJ9_floorDiv_f86c9_22 : decode cJ9_floorDiv_f86c9 22 = .ok (.lload 4, 2) := by decide +kernel
theorem dJ9_floorDiv_f86c9_24 : decode cJ9_floorDiv_f86c9 24 = .ok (.lconst 1, 1) := by decide +kernel
theorem dJ9_floorDiv_f86c9_25 : decode cJ9_floorDiv_f86c9 25 = .ok (.lsub, 1) := by decide +kernel
theorem dJ9_floorDiv_f86c9_26 : decode cJ9_floorDiv_f86c9 26 = .ok (.lreturn, 1) := by decide +kernel
theorem dJ9_floorDiv_f86c9_27 : decode cJ9_floorDiv_f86c9 27 = .ok (.lload 4, 2) := by decide +kernel
theorem dJ9_floorDiv_f86c9_29 : decode cJ9_floorDiv_f86c9 29 = .ok (.lreturn, 1) := by decide +kernel
theorem dJ9_max_f86c9_0 : decode cJ9_max_f86c9 0 = .ok (.lload_n 0, 1) := by decide +kernel
theorem dJ9_max_f86c9_1 : decode cJ9_max_f86c9 1 = .ok (.lload_n 2, 1) := by decide +kernel
theorem dJ9_max_f86c9_2 : decode cJ9_max_f86c9 2 = .ok (.lcmp, 1) := by decide +kernel
theorem dJ9_max_f86c9_3 : decode cJ9_max_f86c9 3 = .ok (.ifCond .lt 7, 3) := by decide +kernel
theorem dJ9_max_f86c9_6 : decode cJ9_max_f86c9 6 = .ok (.lload_n 0, 1) := by decide +kernel
theorem dJ9_max_f86c9_7 : decode cJ9_max_f86c9 7 = .ok (.goto 4, 3) := by decide +kernel
theorem dJ9_max_f86c9_10 : decode cJ9_max_f86c9 10 = .ok (.lload_n 2, 1) := by decide +kernel
theorem dJ9_max_f86c9_11 : decode cJ9_max_f86c9 11 = .ok (.lreturn, 1) := by decide +kernel
theorem dJ9_min_f86c9_0 : decode cJ9_min_f86c9 0 = .ok (.lload_n 0, 1) := by decide +kernel
theorem dJ9_min_f86c9_1 : decode cJ9_min_f86c9 1 = .ok (.lload_n 2, 1) := by decide +kernel
theorem dJ9_min_f86c9_2 : decode cJ9_min_f86c9 2 = .ok (.lcmp, 1) := by decide +kernel
theorem dJ9_min_f86c9_3 : decode cJ9_min_f86c9 3 = .ok (.ifCond .gt 7, 3) := by decide +kernel
theorem dJ9_min_f86c9_6 : decode cJ9_min_f86c9 6 = .ok (.lload_n 0, 1) := by decide +kernel
theorem dJ9_min_f86c9_7 : decode cJ9_min_f86c9 7 = .ok (.goto 4, 3) := by decide +kernel
theorem dJ9_min_f86c9_10 : decode cJ9_min_f86c9 10 = .ok (.lload_n 2, 1) := by decide +kernel
theorem dJ9_min_f86c9_11 : decode cJ9_min_f86c9 11 = .ok (.lreturn, 1) := by decide +kernel
