theorem dX10_init_0 : decode cX10_init 0 = .ok (.aload_n 0, 1) := by decide +kernel
theorem dX10_init_1 : decode cX10_init 1 = .ok (.invokespecial 1, 3) := by decide +kernel
theorem dX10_init_4 : decode cX10_init 4 = .ok (.aload_n 0, 1) := by decide +kernel
theorem dX10_init_5 : decode cX10_init 5 = .ok (.sipush 200, 3) := by decide +kernel
theorem dX10_init_8 : decode cX10_init 8 = .ok (.anewarray 9, 3) := by decide +kernel
theorem dX10_init_11 : decode cX10_init 11 = .ok (.putfield 11, 3) := by decide +kernel
theorem dX10_init_14 : decode cX10_init 14 = .ok (.aload_n 0, 1) := by decide +kernel
theorem dX10_init_15 : decode cX10_init 15 = .ok (.new 15, 3) := by decide +kernel
theorem dX10_init_18 : decode cX10_init 18 = .ok (.dup, 1) := by decide +kernel
theorem dX10_init_19 : decode cX10_init 19 = .ok (.invokespecial 17, 3) := by decide +kernel
theorem dX10_init_22 : decode cX10_init 22 = .ok (.putfield 18, 3) := by decide +kernel
theorem dX10_init_25 : decode cX10_init 25 = .ok (.aload_n 0, 1) := by decide +kernel
theorem dX10_init_26 : decode cX10_init 26 = .ok (.new 22, 3) := by decide +kernel
theorem dX10_init_29 : decode cX10_init 29 = .ok (.dup, 1) := by decide +kernel
theorem dX10_init_30 : decode cX10_init 30 = .ok (.invokespecial 24, 3) := by decide +kernel
theorem dX10_init_33 : decode cX10_init 33 = .ok (.putfield 25, 3) := by decide +kernel
theorem dX10_init_36 : decode cX10_init 36 = .ok (.aload_n 0, 1) := by decide +kernel
theorem dX10_init_37 : decode cX10_init 37 = .ok (.new 29, 3) := by decide +kernel
theorem dX10_init_40 : decode cX10_init 40 = .ok (.dup, 1) := by decide +kernel
theorem dX10_init_41 : decode cX10_init 41 = .ok (.invokespecial 31, 3) := by decide +kernel
theorem dX10_init_44 : decode cX10_init 44 = .ok (.putfield 32, 3) := by decide +kernel
theorem dX10_init_47 : decode cX10_init 47 = .ok (.aload_n 0, 1) := by decide +kernel
theorem dX10_init_48 : decode cX10_init 48 = .ok (.new 36, 3) := by decide +kernel
theorem dX10_init_51 : decode cX10_init 51 = .ok (.dup, 1) := by decide +kernel
theorem dX10_init_52 : decode cX10_init 52 = .ok (.invokespecial 38, 3) := by decide +kernel
theorem dX10_init_55 : decode cX10_init 55 = .ok (.putfield 39, 3) := by decide +kernel
theorem dX10_init_58 : decode cX10_init 58 = .ok (.aload_n 0, 1) := by decide +kernel
theorem dX10_init_59 : decode cX10_init 59 = .ok (.new 43, 3) := by decide +kernel
theorem dX10_init_62 : decode cX10_init 62 = .ok (.dup, 1) := by decide +kernel
theorem dX10_init_63 : decode cX10_init 63 = .ok (.invokespecial 45, 3) := by decide +kernel
theorem dX10_init_66 : decode cX10_init 66 = .ok (.putfield 46, 3) := by decide +kernel
theorem dX10_init_69 : decode cX10_init 69 = .ok (.aload_n 0, 1) := by decide +kernel
theorem dX10_init_70 : decode cX10_init 70 = .ok (.new 50, 3) := by decide +kernel
theorem dX10_init_73 : decode cX10_init 73 = .ok (.dup, 1) := by decide +kernel
theorem dX10_init_74 : decode cX10_init 74 = .ok (.invokespecial 52, 3) := by decide +kernel
theorem dX10_init_77 : decode cX10_init 77 = .ok (.putfield 53, 3) := by decide +kernel
theorem dX10_init_80 : decode cX10_init 80 = .ok (.aload_n 0, 1) := by decide +kernel
theorem dX10_init_81 : decode cX10_init 81 = .ok (.iconst 0, 1) := by decide +kernel
theorem dX10_init_82 : decode cX10_init 82 = .ok (.putfield 57, 3) := by decide +kernel
theorem dX10_init_85 : decode cX10_init 85 = .ok (.return_, 1) := by decide +kernel
theorem dX10_turn_0 : decode cX10_turn 0 = .ok (.lload_n 1, 1) := by decide +kernel
theorem dX10_turn_1 : decode cX10_turn 1 = .ok (.lload_n 3, 1) := by decide +kernel
theorem dX10_turn_2 : decode cX10_turn 2 = .ok (.invokestatic 61, 3) := by decide +kernel
theorem dX10_turn_5 : decode cX10_turn 5 = .ok (.ifCond .eq 23, 3) := by decide +kernel
theorem dX10_turn_8 : decode cX10_turn 8 = .ok (.lload 5, 2) := by decide +kernel
theorem dX10_turn_10 : decode cX10_turn 10 = .ok (.lload 7, 2) := by decide +kernel
theorem dX10_turn_12 : decode cX10_turn 12 = .ok (.invokestatic 61, 3) := by decide +kernel
theorem dX10_turn_15 : decode cX10_turn 15 = .ok (.ifCond .eq 13, 3) := by decide +kernel
theorem dX10_turn_18 : decode cX10_turn 18 = .ok (.lload 9, 2) := by decide +kernel
theorem dX10_turn_20 : decode cX10_turn 20 = .ok (.lload 11, 2) := by decide +kernel
theorem dX10_turn_22 : decode cX10_turn 22 = .ok (.invokestatic 61, 3) := by decide +kernel
theorem dX10_turn_25 : decode cX10_turn 25 = .ok (.ifCond .ne 13, 3) := by decide +kernel
theorem dX10_turn_28 : decode cX10_turn 28 = .ok (.new 65, 3) := by decide +kernel
theorem dX10_turn_31 : decode cX10_turn 31 = .ok (.dup, 1) := by decide +kernel
theorem dX10_turn_32 : decode cX10_turn 32 = .ok (.ldc 67, 2) := by decide +kernel
theorem dX10_turn_34 : decode cX10_turn 34 = .ok (.invokespecial 69, 3) := by decide +kernel
theorem dX10_turn_37 : decode cX10_turn 37 = .ok (.athrow, 1) := by decide +kernel
theorem dX10_turn_38 : decode cX10_turn 38 = .ok (.aload_n 0, 1) := by decide +kernel
theorem dX10_turn_39 : decode cX10_turn 39 = .ok (.getfield 53, 3) := by decide +kernel
theorem dX10_turn_42 : decode cX10_turn 42 = .ok (.lload 5, 2) := by decide +kernel
theorem dX10_turn_44 : decode cX10_turn 44 = .ok (.lload_n 1, 1) := by decide +kernel
theorem dX10_turn_45 : decode cX10_turn 45 = .ok (.lsub, 1) := by decide +kernel
theorem dX10_turn_46 : decode cX10_turn 46 = .ok (.lload 7, 2) := by decide +kernel
theorem dX10_turn_48 : decode cX10_turn 48 = .ok (.lload_n 3, 1) := by decide +kernel
theorem dX10_turn_49 : decode cX10_turn 49 = .ok (.lsub, 1) := by decide +kernel
theorem dX10_turn_50 : decode cX10_turn 50 = .ok (.lload 9, 2) := by decide +kernel
theorem dX10_turn_52 : decode cX10_turn 52 = .ok (.lload_n 1, 1) := by decide +kernel
theorem dX10_turn_53 : decode cX10_turn 53 = .ok (.lsub, 1) := by decide +kernel
theorem dX10_turn_54 : decode cX10_turn 54 = .ok (.lload 11, 2) := by decide +kernel
theorem dX10_turn_56 : decode cX10_turn 56 = .ok (.lload_n 3, 1) := by decide +kernel
theorem dX10_turn_57 : decode cX10_turn 57 = .ok (.lsub, 1) := by decide +kernel
theorem dX10_turn_58 : decode cX10_turn 58 = .ok (.invokevirtual 72, 3) := by decide +kernel
theorem dX10_turn_61 : decode cX10_turn 61 = .ok (.aload_n 0, 1) := by decide +kernel
theorem dX10_turn_62 : decode cX10_turn 62 = .ok (.getfield 53, 3) := by decide +kernel
theorem dX10_turn_65 : decode cX10_turn 65 = .ok (.invokevirtual 76, 3) := by decide +kernel
theorem dX10_turn_68 : decode cX10_turn 68 = .ok (.ireturn, 1) := by decide +kernel
theorem dX10_segment_0 : decode cX10_segment 0 = .ok (.lload_n 1, 1) := by decide +kernel
theorem dX10_segment_1 : decode cX10_segment 1 = .ok (.lload_n 3, 1) := by decide +kernel
theorem dX10_segment_2 : decode cX10_segment 2 = .ok (.invokestatic 61, 3) := by decide +kernel
theorem dX10_segment_5 : decode cX10_segment 5 = .ok (.ifCond .eq 13, 3) := by decide +kernel
theorem dX10_segment_8 : decode cX10_segment 8 = .ok (.lload 5, 2) := by decide +kernel
theorem dX10_segment_10 : decode cX10_segment 10 = .ok (.lload 7, 2) := by decide +kernel
theorem dX10_segment_12 : decode cX10_segment 12 = .ok (.invokestatic 61, 3) := by decide +kernel
theorem dX10_segment_15 : decode cX10_segment 15 = .ok (.ifCond .ne 13, 3) := by decide +kernel
theorem dX10_segment_18 : decode cX10_segment 18 = .ok (.new 65, 3) := by decide +kernel
theorem dX10_segment_21 : decode cX10_segment 21 = .ok (.dup, 1) := by decide +kernel
theorem dX10_segment_22 : decode cX10_segment 22 = .ok (.ldc 67, 2) := by decide +kernel
theorem dX10_segment_24 : decode cX10_segment 24 = .ok (.invokespecial 69, 3) := by decide +kernel
theorem dX10_segment_27 : decode cX10_segment 27 = .ok (.athrow, 1) := by decide +kernel
theorem dX10_segment_28 : decode cX10_segment 28 = .ok (.lload_n 1, 1) := by decide +kernel
theorem dX10_segment_29 : decode cX10_segment 29 = .ok (.lload 5, 2) := by decide +kernel
theorem dX10_segment_31 : decode cX10_segment 31 = .ok (.lcmp, 1) := by decide +kernel
theorem dX10_segment_32 : decode cX10_segment 32 = .ok (.ifCond .ne 20, 3) := by decide +kernel
theorem dX10_segment_35 : decode cX10_segment 35 = .ok (.lload_n 3, 1) := by decide +kernel
theorem dX10_segment_36 : decode cX10_segment 36 = .ok (.lload 7, 2) := by decide +kernel
theorem dX10_segment_38 : decode cX10_segment 38 = .ok (.lcmp, 1) := by decide +kernel
theorem dX10_segment_39 : decode cX10_segment 39 = .ok (.ifCond .ne 13, 3) := by decide +kernel
theorem dX10_segment_42 : decode cX10_segment 42 = .ok (.new 65, 3) := by decide +kernel
theorem dX10_segment_45 : decode cX10_segment 45 = .ok (.dup, 1) := by decide +kernel
theorem dX10_segment_46 : decode cX10_segment 46 = .ok (.ldc 80, 2) := by decide +kernel
theorem dX10_segment_48 : decode cX10_segment 48 = .ok (.invokespecial 69, 3) := by decide +kernel
theorem dX10_segment_51 : decode cX10_segment 51 = .ok (.athrow, 1) := by decide +kernel
theorem dX10_segment_52 : decode cX10_segment 52 = .ok (.aload_n 0, 1) := by decide +kernel
theorem dX10_segment_53 : decode cX10_segment 53 = .ok (.new 82, 3) := by decide +kernel
theorem dX10_segment_56 : decode cX10_segment 56 = .ok (.dup, 1) := by decide +kernel
theorem dX10_segment_57 : decode cX10_segment 57 = .ok (.lload_n 1, 1) := by decide +kernel
theorem dX10_segment_58 : decode cX10_segment 58 = .ok (.lload_n 3, 1) := by decide +kernel
theorem dX10_segment_59 : decode cX10_segment 59 = .ok (.lload 5, 2) := by decide +kernel
theorem dX10_segment_61 : decode cX10_segment 61 = .ok (.lload 7, 2) := by decide +kernel
theorem dX10_segment_63 : decode cX10_segment 63 = .ok (.invokespecial 84, 3) := by decide +kernel
theorem dX10_segment_66 : decode cX10_segment 66 = .ok (.invokevirtual 86, 3) := by decide +kernel
theorem dX10_segment_69 : decode cX10_segment 69 = .ok (.ireturn, 1) := by decide +kernel
theorem dX10_arc_0 : decode cX10_arc 0 = .ok (.lload_n 1, 1) := by decide +kernel
theorem dX10_arc_1 : decode cX10_arc 1 = .ok (.lload_n 3, 1) := by decide +kernel
theorem dX10_arc_2 : decode cX10_arc 2 = .ok (.invokestatic 61, 3) := by decide +kernel
theorem dX10_arc_5 : decode cX10_arc 5 = .ok (.ifCond .ne 13, 3) := by decide +kernel
theorem dX10_arc_8 : decode cX10_arc 8 = .ok (.new 65, 3) := by decide +kernel
theorem dX10_arc_11 : decode cX10_arc 11 = .ok (.dup, 1) := by decide +kernel
theorem dX10_arc_12 : decode cX10_arc 12 = .ok (.ldc 67, 2) := by decide +kernel
theorem dX10_arc_14 : decode cX10_arc 14 = .ok (.invokespecial 69, 3) := by decide +kernel
theorem dX10_arc_17 : decode cX10_arc 17 = .ok (.athrow, 1) := by decide +kernel
theorem dX10_arc_18 : decode cX10_arc 18 = .ok (.lload 5, 2) := by decide +kernel
theorem dX10_arc_20 : decode cX10_arc 20 = .ok (.lconst 1, 1) := by decide +kernel
theorem dX10_arc_21 : decode cX10_arc 21 = .ok (.lcmp, 1) := by decide +kernel
theorem dX10_arc_22 : decode cX10_arc 22 = .ok (.ifCond .lt 12, 3) := by decide +kernel
theorem dX10_arc_25 : decode cX10_arc 25 = .ok (.lload 5, 2) := by decide +kernel
theorem dX10_arc_27 : decode cX10_arc 27 = .ok (.ldc2_w 90, 3) := by decide +kernel
theorem dX10_arc_30 : decode cX10_arc 30 = .ok (.lcmp, 1) := by decide +kernel
theorem dX10_arc_31 : decode cX10_arc 31 = .ok (.ifCond .le 13, 3) := by decide +kernel
theorem dX10_arc_34 : decode cX10_arc 34 = .ok (.new 65, 3) := by decide +kernel
theorem dX10_arc_37 : decode cX10_arc 37 = .ok (.dup, 1) := by decide +kernel
theorem dX10_arc_38 : decode cX10_arc 38 = .ok (.ldc 92, 2) := by decide +kernel
theorem dX10_arc_40 : decode cX10_arc 40 = .ok (.invokespecial 69, 3) := by decide +kernel
theorem dX10_arc_43 : decode cX10_arc 43 = .ok (.athrow, 1) := by decide +kernel
theorem dX10_arc_44 : decode cX10_arc 44 = .ok (.iload 7, 2) := by decide +kernel
theorem dX10_arc_46 : decode cX10_arc 46 = .ok (.invokestatic 94, 3) := by decide +kernel
theorem dX10_arc_49 : decode cX10_arc 49 = .ok (.ifCond .eq 11, 3) := by decide +kernel
theorem dX10_arc_52 : decode cX10_arc 52 = .ok (.iload 8, 2) := by decide +kernel
theorem dX10_arc_54 : decode cX10_arc 54 = .ok (.invokestatic 94, 3) := by decide +kernel
theorem dX10_arc_57 : decode cX10_arc 57 = .ok (.ifCond .ne 13, 3) := by decide +kernel
theorem dX10_arc_60 : decode cX10_arc 60 = .ok (.new 65, 3) := by decide +kernel
theorem dX10_arc_63 : decode cX10_arc 63 = .ok (.dup, 1) := by decide +kernel
theorem dX10_arc_64 : decode cX10_arc 64 = .ok (.ldc 98, 2) := by decide +kernel
theorem dX10_arc_66 : decode cX10_arc 66 = .ok (.invokespecial 69, 3) := by decide +kernel
theorem dX10_arc_69 : decode cX10_arc 69 = .ok (.athrow, 1) := by decide +kernel
theorem dX10_arc_70 : decode cX10_arc 70 = .ok (.aload_n 0, 1) := by decide +kernel
theorem dX10_arc_71 : decode cX10_arc 71 = .ok (.new 100, 3) := by decide +kernel
theorem dX10_arc_74 : decode cX10_arc 74 = .ok (.dup, 1) := by decide +kernel
theorem dX10_arc_75 : decode cX10_arc 75 = .ok (.lload_n 1, 1) := by decide +kernel
theorem dX10_arc_76 : decode cX10_arc 76 = .ok (.lload_n 3, 1) := by decide +kernel
theorem dX10_arc_77 : decode cX10_arc 77 = .ok (.lload 5, 2) := by decide +kernel
theorem dX10_arc_79 : decode cX10_arc 79 = .ok (.iload 7, 2) := by decide +kernel
theorem dX10_arc_81 : decode cX10_arc 81 = .ok (.iload 8, 2) := by decide +kernel
theorem dX10_arc_83 : decode cX10_arc 83 = .ok (.invokespecial 102, 3) := by decide +kernel
theorem dX10_arc_86 : decode cX10_arc 86 = .ok (.invokevirtual 86, 3) := by decide +kernel
theorem dX10_arc_89 : decode cX10_arc 89 = .ok (.ireturn, 1) := by decide +kernel
theorem dX10_distance_0 : decode cX10_distance 0 = .ok (.aload_n 0, 1) := by decide +kernel
theorem dX10_distance_1 : decode cX10_distance 1 = .ok (.iload_n 1, 1) := by decide +kernel
theorem dX10_distance_2 : decode cX10_distance 2 = .ok (.invokevirtual 105, 3) := by decide +kernel
theorem dX10_distance_5 : decode cX10_distance 5 = .ok (.astore 5, 2) := by decide +kernel
theorem dX10_distance_7 : decode cX10_distance 7 = .ok (.aload_n 0, 1) := by decide +kernel
theorem dX10_distance_8 : decode cX10_distance 8 = .ok (.iload_n 2, 1) := by decide +kernel
theorem dX10_distance_9 : decode cX10_distance 9 = .ok (.invokevirtual 105, 3) := by decide +kernel
theorem dX10_distance_12 : decode cX10_distance 12 = .ok (.astore 6, 2) := by decide +kernel
theorem dX10_distance_14 : decode cX10_distance 14 = .ok (.aload 5, 2) := by decide +kernel
theorem dX10_distance_16 : decode cX10_distance 16 = .ok (.ifnull 8, 3) := by decide +kernel
theorem dX10_distance_19 : decode cX10_distance 19 = .ok (.aload 6, 2) := by decide +kernel
theorem dX10_distance_21 : decode cX10_distance 21 = .ok (.ifnonnull 13, 3) := by decide +kernel
theorem dX10_distance_24 : decode cX10_distance 24 = .ok (.new 109, 3) := by decide +kernel
theorem dX10_distance_27 : decode cX10_distance 27 = .ok (.dup, 1) := by decide +kernel
theorem dX10_distance_28 : decode cX10_distance 28 = .ok (.ldc 111, 2) := by decide +kernel
theorem dX10_distance_30 : decode cX10_distance 30 = .ok (.invokespecial 113, 3) := by decide +kernel
theorem dX10_distance_33 : decode cX10_distance 33 = .ok (.athrow, 1) := by decide +kernel
theorem dX10_distance_34 : decode cX10_distance 34 = .ok (.iload_n 3, 1) := by decide +kernel
theorem dX10_distance_35 : decode cX10_distance 35 = .ok (.ifCond .lt 20, 3) := by decide +kernel
theorem dX10_distance_38 : decode cX10_distance 38 = .ok (.iload_n 3, 1) := by decide +kernel
theorem dX10_distance_39 : decode cX10_distance 39 = .ok (.iconst 1, 1) := by decide +kernel
theorem dX10_distance_40 : decode cX10_distance 40 = .ok (.if_icmp .gt 15, 3) := by decide +kernel
theorem dX10_distance_43 : decode cX10_distance 43 = .ok (.iload 4, 2) := by decide +kernel
theorem dX10_distance_45 : decode cX10_distance 45 = .ok (.ifCond .lt 10, 3) := by decide +kernel
theorem dX10_distance_48 : decode cX10_distance 48 = .ok (.iload 4, 2) := by decide +kernel
theorem dX10_distance_50 : decode cX10_distance 50 = .ok (.bipush 6, 2) := by decide +kernel
theorem dX10_distance_52 : decode cX10_distance 52 = .ok (.if_icmp .lt 13, 3) := by decide +kernel
theorem dX10_distance_55 : decode cX10_distance 55 = .ok (.new 109, 3) := by decide +kernel
theorem dX10_distance_58 : decode cX10_distance 58 = .ok (.dup, 1) := by decide +kernel
theorem dX10_distance_59 : decode cX10_distance 59 = .ok (.ldc 114, 2) := by decide +kernel
theorem dX10_distance_61 : decode cX10_distance 61 = .ok (.invokespecial 113, 3) := by decide +kernel
theorem dX10_distance_64 : decode cX10_distance 64 = .ok (.athrow, 1) := by decide +kernel
theorem dX10_distance_65 : decode cX10_distance 65 = .ok (.aload 5, 2) := by decide +kernel
theorem dX10_distance_67 : decode cX10_distance 67 = .ok (.instanceof 82, 3) := by decide +kernel
theorem dX10_distance_70 : decode cX10_distance 70 = .ok (.ifCond .eq 68, 3) := by decide +kernel
theorem dX10_distance_73 : decode cX10_distance 73 = .ok (.aload 5, 2) := by decide +kernel
theorem dX10_distance_75 : decode cX10_distance 75 = .ok (.checkcast 82, 3) := by decide +kernel
theorem dX10_distance_78 : decode cX10_distance 78 = .ok (.astore 7, 2) := by decide +kernel
theorem dX10_distance_80 : decode cX10_distance 80 = .ok (.aload 6, 2) := by decide +kernel
theorem dX10_distance_82 : decode cX10_distance 82 = .ok (.instanceof 82, 3) := by decide +kernel
theorem dX10_distance_85 : decode cX10_distance 85 = .ok (.ifCond .eq 53, 3) := by decide +kernel
theorem dX10_distance_88 : decode cX10_distance 88 = .ok (.aload 6, 2) := by decide +kernel
theorem dX10_distance_90 : decode cX10_distance 90 = .ok (.checkcast 82, 3) := by decide +kernel
theorem dX10_distance_93 : decode cX10_distance 93 = .ok (.astore 8, 2) := by decide +kernel
theorem dX10_distance_95 : decode cX10_distance 95 = .ok (.aload_n 0, 1) := by decide +kernel
theorem dX10_distance_96 : decode cX10_distance 96 = .ok (.getfield 39, 3) := by decide +kernel
theorem dX10_distance_99 : decode cX10_distance 99 = .ok (.aload 7, 2) := by decide +kernel
theorem dX10_distance_101 : decode cX10_distance 101 = .ok (.aload 8, 2) := by decide +kernel
theorem dX10_distance_103 : decode cX10_distance 103 = .ok (.invokevirtual 116, 3) := by decide +kernel
theorem dX10_distance_106 : decode cX10_distance 106 = .ok (.iload_n 3, 1) := by decide +kernel
theorem dX10_distance_107 : decode cX10_distance 107 = .ok (.ifCond .ne 18, 3) := by decide +kernel
theorem dX10_distance_110 : decode cX10_distance 110 = .ok (.aload_n 0, 1) := by decide +kernel
theorem dX10_distance_111 : decode cX10_distance 111 = .ok (.getfield 39, 3) := by decide +kernel
theorem dX10_distance_114 : decode cX10_distance 114 = .ok (.getfield 120, 3) := by decide +kernel
theorem dX10_distance_117 : decode cX10_distance 117 = .ok (.iload 4, 2) := by decide +kernel
theorem dX10_distance_119 : decode cX10_distance 119 = .ok (.invokevirtual 123, 3) := by decide +kernel
theorem dX10_distance_122 : decode cX10_distance 122 = .ok (.goto 15, 3) := by decide +kernel
theorem dX10_distance_125 : decode cX10_distance 125 = .ok (.aload_n 0, 1) := by decide +kernel
theorem dX10_distance_126 : decode cX10_distance 126 = .ok (.getfield 39, 3) := by decide +kernel
theorem dX10_distance_129 : decode cX10_distance 129 = .ok (.getfield 127, 3) := by decide +kernel
theorem dX10_distance_132 : decode cX10_distance 132 = .ok (.iload 4, 2) := by decide +kernel
theorem dX10_distance_134 : decode cX10_distance 134 = .ok (.invokevirtual 123, 3) := by decide +kernel
theorem dX10_distance_137 : decode cX10_distance 137 = .ok (.lreturn, 1) := by decide +kernel
theorem dX10_distance_138 : decode cX10_distance 138 = .ok (.new 65, 3) := by decide +kernel
theorem dX10_distance_141 : decode cX10_distance 141 = .ok (.dup, 1) := by decide +kernel
theorem dX10_distance_142 : decode cX10_distance 142 = .ok (.ldc 130, 2) := by decide +kernel
theorem dX10_distance_144 : decode cX10_distance 144 = .ok (.invokespecial 69, 3) := by decide +kernel
theorem dX10_distance_147 : decode cX10_distance 147 = .ok (.athrow, 1) := by decide +kernel
theorem dX10_compare_0 : decode cX10_compare 0 = .ok (.lload 5, 2) := by decide +kernel
theorem dX10_compare_2 : decode cX10_compare 2 = .ok (.lconst 0, 1) := by decide +kernel
theorem dX10_compare_3 : decode cX10_compare 3 = .ok (.lcmp, 1) := by decide +kernel
theorem dX10_compare_4 : decode cX10_compare 4 = .ok (.ifCond .ge 13, 3) := by decide +kernel
theorem dX10_compare_7 : decode cX10_compare 7 = .ok (.new 65, 3) := by decide +kernel
theorem dX10_compare_10 : decode cX10_compare 10 = .ok (.dup, 1) := by decide +kernel
theorem dX10_compare_11 : decode cX10_compare 11 = .ok (.ldc 132, 2) := by decide +kernel
theorem dX10_compare_13 : decode cX10_compare 13 = .ok (.invokespecial 69, 3) := by decide +kernel
theorem dX10_compare_16 : decode cX10_compare 16 = .ok (.athrow, 1) := by decide +kernel
theorem dX10_compare_17 : decode cX10_compare 17 = .ok (.aload_n 0, 1) := by decide +kernel
theorem dX10_compare_18 : decode cX10_compare 18 = .ok (.getfield 46, 3) := by decide +kernel
theorem dX10_compare_21 : decode cX10_compare 21 = .ok (.getfield 134, 3) := by decide +kernel
theorem dX10_compare_24 : decode cX10_compare 24 = .ok (.lload_n 1, 1) := by decide +kernel
theorem dX10_compare_25 : decode cX10_compare 25 = .ok (.invokevirtual 137, 3) := by decide +kernel
theorem dX10_compare_28 : decode cX10_compare 28 = .ok (.aload_n 0, 1) := by decide +kernel
theorem dX10_compare_29 : decode cX10_compare 29 = .ok (.getfield 46, 3) := by decide +kernel
theorem dX10_compare_32 : decode cX10_compare 32 = .ok (.getfield 134, 3) := by decide +kernel
theorem dX10_compare_35 : decode cX10_compare 35 = .ok (.lload 7, 2) := by decide +kernel
theorem dX10_compare_37 : decode cX10_compare 37 = .ok (.ldc2_w 141, 3) := by decide +kernel
theorem dX10_compare_40 : decode cX10_compare 40 = .ok (.invokevirtual 143, 3) := by decide +kernel
theorem dX10_compare_43 : decode cX10_compare 43 = .ok (.aload_n 0, 1) := by decide +kernel
theorem dX10_compare_44 : decode cX10_compare 44 = .ok (.getfield 53, 3) := by decide +kernel
theorem dX10_compare_47 : decode cX10_compare 47 = .ok (.lload 5, 2) := by decide +kernel
theorem dX10_compare_49 : decode cX10_compare 49 = .ok (.invokevirtual 137, 3) := by decide +kernel
theorem dX10_compare_52 : decode cX10_compare 52 = .ok (.aload_n 0, 1) := by decide +kernel
theorem dX10_compare_53 : decode cX10_compare 53 = .ok (.getfield 46, 3) := by decide +kernel
theorem dX10_compare_56 : decode cX10_compare 56 = .ok (.lload_n 3, 1) := by decide +kernel
theorem dX10_compare_57 : decode cX10_compare 57 = .ok (.aload_n 0, 1) := by decide +kernel
theorem dX10_compare_58 : decode cX10_compare 58 = .ok (.getfield 53, 3) := by decide +kernel
theorem dX10_compare_61 : decode cX10_compare 61 = .ok (.invokevirtual 147, 3) := by decide +kernel
theorem dX10_compare_64 : decode cX10_compare 64 = .ok (.aload_n 0, 1) := by decide +kernel
theorem dX10_compare_65 : decode cX10_compare 65 = .ok (.getfield 25, 3) := by decide +kernel
theorem dX10_compare_68 : decode cX10_compare 68 = .ok (.aload_n 0, 1) := by decide +kernel
theorem dX10_compare_69 : decode cX10_compare 69 = .ok (.getfield 46, 3) := by decide +kernel
theorem dX10_compare_72 : decode cX10_compare 72 = .ok (.invokevirtual 151, 3) := by decide +kernel
theorem dX10_compare_75 : decode cX10_compare 75 = .ok (.ireturn, 1) := by decide +kernel
theorem dX10_cross_0 : decode cX10_cross 0 = .ok (.aload_n 0, 1) := by decide +kernel
theorem dX10_cross_1 : decode cX10_cross 1 = .ok (.getfield 32, 3) := by decide +kernel
theorem dX10_cross_4 : decode cX10_cross 4 = .ok (.invokevirtual 154, 3) := by decide +kernel
theorem dX10_cross_7 : decode cX10_cross 7 = .ok (.aload_n 0, 1) := by decide +kernel
theorem dX10_cross_8 : decode cX10_cross 8 = .ok (.iload_n 1, 1) := by decide +kernel
theorem dX10_cross_9 : decode cX10_cross 9 = .ok (.invokevirtual 105, 3) := by decide +kernel
theorem dX10_cross_12 : decode cX10_cross 12 = .ok (.astore_n 3, 1) := by decide +kernel
theorem dX10_cross_13 : decode cX10_cross 13 = .ok (.aload_n 0, 1) := by decide +kernel
theorem dX10_cross_14 : decode cX10_cross 14 = .ok (.iload_n 2, 1) := by decide +kernel
theorem dX10_cross_15 : decode cX10_cross 15 = .ok (.invokevirtual 105, 3) := by decide +kernel
theorem dX10_cross_18 : decode cX10_cross 18 = .ok (.astore 4, 2) := by decide +kernel
theorem dX10_cross_20 : decode cX10_cross 20 = .ok (.aload_n 3, 1) := by decide +kernel
theorem dX10_cross_21 : decode cX10_cross 21 = .ok (.ifnull 8, 3) := by decide +kernel
theorem dX10_cross_24 : decode cX10_cross 24 = .ok (.aload 4, 2) := by decide +kernel
theorem dX10_cross_26 : decode cX10_cross 26 = .ok (.ifnonnull 13, 3) := by decide +kernel
theorem dX10_cross_29 : decode cX10_cross 29 = .ok (.new 109, 3) := by decide +kernel
theorem dX10_cross_32 : decode cX10_cross 32 = .ok (.dup, 1) := by decide +kernel
theorem dX10_cross_33 : decode cX10_cross 33 = .ok (.ldc 111, 2) := by decide +kernel
theorem dX10_cross_35 : decode cX10_cross 35 = .ok (.invokespecial 113, 3) := by decide +kernel
theorem dX10_cross_38 : decode cX10_cross 38 = .ok (.athrow, 1) := by decide +kernel
theorem dX10_cross_39 : decode cX10_cross 39 = .ok (.aload_n 3, 1) := by decide +kernel
theorem dX10_cross_40 : decode cX10_cross 40 = .ok (.instanceof 82, 3) := by decide +kernel
theorem dX10_cross_43 : decode cX10_cross 43 = .ok (.ifCond .eq 38, 3) := by decide +kernel
theorem dX10_cross_46 : decode cX10_cross 46 = .ok (.aload_n 3, 1) := by decide +kernel
theorem dX10_cross_47 : decode cX10_cross 47 = .ok (.checkcast 82, 3) := by decide +kernel
theorem dX10_cross_50 : decode cX10_cross 50 = .ok (.astore 5, 2) := by decide +kernel
theorem dX10_cross_52 : decode cX10_cross 52 = .ok (.aload 4, 2) := by decide +kernel
theorem dX10_cross_54 : decode cX10_cross 54 = .ok (.instanceof 82, 3) := by decide +kernel
theorem dX10_cross_57 : decode cX10_cross 57 = .ok (.ifCond .eq 24, 3) := by decide +kernel
theorem dX10_cross_60 : decode cX10_cross 60 = .ok (.aload 4, 2) := by decide +kernel
theorem dX10_cross_62 : decode cX10_cross 62 = .ok (.checkcast 82, 3) := by decide +kernel
theorem dX10_cross_65 : decode cX10_cross 65 = .ok (.astore 6, 2) := by decide +kernel
theorem dX10_cross_67 : decode cX10_cross 67 = .ok (.aload_n 0, 1) := by decide +kernel
theorem dX10_cross_68 : decode cX10_cross 68 = .ok (.getfield 32, 3) := by decide +kernel
theorem dX10_cross_71 : decode cX10_cross 71 = .ok (.aload 5, 2) := by decide +kernel
theorem dX10_cross_73 : decode cX10_cross 73 = .ok (.aload 6, 2) := by decide +kernel
theorem dX10_cross_75 : decode cX10_cross 75 = .ok (.invokevirtual 157, 3) := by decide +kernel
theorem dX10_cross_78 : decode cX10_cross 78 = .ok (.goto 126, 3) := by decide +kernel
theorem dX10_cross_81 : decode cX10_cross 81 = .ok (.aload_n 3, 1) := by decide +kernel
theorem dX10_cross_82 : decode cX10_cross 82 = .ok (.instanceof 82, 3) := by decide +kernel
theorem dX10_cross_85 : decode cX10_cross 85 = .ok (.ifCond .eq 38, 3) := by decide +kernel
theorem dX10_cross_88 : decode cX10_cross 88 = .ok (.aload_n 3, 1) := by decide +kernel
theorem dX10_cross_89 : decode cX10_cross 89 = .ok (.checkcast 82, 3) := by decide +kernel
theorem dX10_cross_92 : decode cX10_cross 92 = .ok (.astore 7, 2) := by decide +kernel
theorem dX10_cross_94 : decode cX10_cross 94 = .ok (.aload 4, 2) := by decide +kernel
theorem dX10_cross_96 : decode cX10_cross 96 = .ok (.instanceof 100, 3) := by decide +kernel
theorem dX10_cross_99 : decode cX10_cross 99 = .ok (.ifCond .eq 24, 3) := by decide +kernel
theorem dX10_cross_102 : decode cX10_cross 102 = .ok (.aload 4, 2) := by decide +kernel
theorem dX10_cross_104 : decode cX10_cross 104 = .ok (.checkcast 100, 3) := by decide +kernel
theorem dX10_cross_107 : decode cX10_cross 107 = .ok (.astore 8, 2) := by decide +kernel
theorem dX10_cross_109 : decode cX10_cross 109 = .ok (.aload_n 0, 1) := by decide +kernel
theorem dX10_cross_110 : decode cX10_cross 110 = .ok (.getfield 32, 3) := by decide +kernel
theorem dX10_cross_113 : decode cX10_cross 113 = .ok (.aload 7, 2) := by decide +kernel
theorem dX10_cross_115 : decode cX10_cross 115 = .ok (.aload 8, 2) := by decide +kernel
theorem dX10_cross_117 : decode cX10_cross 117 = .ok (.invokevirtual 160, 3) := by decide +kernel
theorem dX10_cross_120 : decode cX10_cross 120 = .ok (.goto 84, 3) := by decide +kernel
theorem dX10_cross_123 : decode cX10_cross 123 = .ok (.aload_n 3, 1) := by decide +kernel
theorem dX10_cross_124 : decode cX10_cross 124 = .ok (.instanceof 100, 3) := by decide +kernel
theorem dX10_cross_127 : decode cX10_cross 127 = .ok (.ifCond .eq 38, 3) := by decide +kernel
theorem dX10_cross_130 : decode cX10_cross 130 = .ok (.aload_n 3, 1) := by decide +kernel
theorem dX10_cross_131 : decode cX10_cross 131 = .ok (.checkcast 100, 3) := by decide +kernel
theorem dX10_cross_134 : decode cX10_cross 134 = .ok (.astore 9, 2) := by decide +kernel
theorem dX10_cross_136 : decode cX10_cross 136 = .ok (.aload 4, 2) := by decide +kernel
theorem dX10_cross_138 : decode cX10_cross 138 = .ok (.instanceof 82, 3) := by decide +kernel
theorem dX10_cross_141 : decode cX10_cross 141 = .ok (.ifCond .eq 24, 3) := by decide +kernel
theorem dX10_cross_144 : decode cX10_cross 144 = .ok (.aload 4, 2) := by decide +kernel
theorem dX10_cross_146 : decode cX10_cross 146 = .ok (.checkcast 82, 3) := by decide +kernel
theorem dX10_cross_149 : decode cX10_cross 149 = .ok (.astore 10, 2) := by decide +kernel
theorem dX10_cross_151 : decode cX10_cross 151 = .ok (.aload_n 0, 1) := by decide +kernel
theorem dX10_cross_152 : decode cX10_cross 152 = .ok (.getfield 32, 3) := by decide +kernel
theorem dX10_cross_155 : decode cX10_cross 155 = .ok (.aload 10, 2) := by decide +kernel
theorem dX10_cross_157 : decode cX10_cross 157 = .ok (.aload 9, 2) := by decide +kernel
theorem dX10_cross_159 : decode cX10_cross 159 = .ok (.invokevirtual 160, 3) := by decide +kernel
theorem dX10_cross_162 : decode cX10_cross 162 = .ok (.goto 42, 3) := by decide +kernel
theorem dX10_cross_165 : decode cX10_cross 165 = .ok (.aload_n 3, 1) := by decide +kernel
theorem dX10_cross_166 : decode cX10_cross 166 = .ok (.instanceof 100, 3) := by decide +kernel
theorem dX10_cross_169 : decode cX10_cross 169 = .ok (.ifCond .eq 35, 3) := by decide +kernel
theorem dX10_cross_172 : decode cX10_cross 172 = .ok (.aload_n 3, 1) := by decide +kernel
theorem dX10_cross_173 : decode cX10_cross 173 = .ok (.checkcast 100, 3) := by decide +kernel
theorem dX10_cross_176 : decode cX10_cross 176 = .ok (.astore 11, 2) := by decide +kernel
theorem dX10_cross_178 : decode cX10_cross 178 = .ok (.aload 4, 2) := by decide +kernel
theorem dX10_cross_180 : decode cX10_cross 180 = .ok (.instanceof 100, 3) := by decide +kernel
theorem dX10_cross_183 : decode cX10_cross 183 = .ok (.ifCond .eq 21, 3) := by decide +kernel
theorem dX10_cross_186 : decode cX10_cross 186 = .ok (.aload 4, 2) := by decide +kernel
theorem dX10_cross_188 : decode cX10_cross 188 = .ok (.checkcast 100, 3) := by decide +kernel
theorem dX10_cross_191 : decode cX10_cross 191 = .ok (.astore 12, 2) := by decide +kernel
theorem dX10_cross_193 : decode cX10_cross 193 = .ok (.aload_n 0, 1) := by decide +kernel
theorem dX10_cross_194 : decode cX10_cross 194 = .ok (.getfield 32, 3) := by decide +kernel
theorem dX10_cross_197 : decode cX10_cross 197 = .ok (.aload 11, 2) := by decide +kernel
theorem dX10_cross_199 : decode cX10_cross 199 = .ok (.aload 12, 2) := by decide +kernel
theorem dX10_cross_201 : decode cX10_cross 201 = .ok (.invokevirtual 164, 3) := by decide +kernel
theorem dX10_cross_204 : decode cX10_cross 204 = .ok (.aload_n 0, 1) := by decide +kernel
theorem dX10_cross_205 : decode cX10_cross 205 = .ok (.getfield 32, 3) := by decide +kernel
theorem dX10_cross_208 : decode cX10_cross 208 = .ok (.getfield 168, 3) := by decide +kernel
theorem dX10_cross_211 : decode cX10_cross 211 = .ok (.ifCond .ne 13, 3) := by decide +kernel
theorem dX10_cross_214 : decode cX10_cross 214 = .ok (.new 65, 3) := by decide +kernel
theorem dX10_cross_217 : decode cX10_cross 217 = .ok (.dup, 1) := by decide +kernel
theorem dX10_cross_218 : decode cX10_cross 218 = .ok (.ldc 172, 2) := by decide +kernel
theorem dX10_cross_220 : decode cX10_cross 220 = .ok (.invokespecial 69, 3) := by decide +kernel
theorem dX10_cross_223 : decode cX10_cross 223 = .ok (.athrow, 1) := by decide +kernel
theorem dX10_cross_224 : decode cX10_cross 224 = .ok (.aload_n 0, 1) := by decide +kernel
theorem dX10_cross_225 : decode cX10_cross 225 = .ok (.getfield 32, 3) := by decide +kernel
theorem dX10_cross_228 : decode cX10_cross 228 = .ok (.getfield 174, 3) := by decide +kernel
theorem dX10_cross_231 : decode cX10_cross 231 = .ok (.ireturn, 1) := by decide +kernel
theorem dX10_at_0 : decode cX10_at 0 = .ok (.aload_n 0, 1) := by decide +kernel
theorem dX10_at_1 : decode cX10_at 1 = .ok (.getfield 32, 3) := by decide +kernel
theorem dX10_at_4 : decode cX10_at 4 = .ok (.getfield 168, 3) := by decide +kernel
theorem dX10_at_7 : decode cX10_at 7 = .ok (.ifCond .ne 13, 3) := by decide +kernel
theorem dX10_at_10 : decode cX10_at 10 = .ok (.new 177, 3) := by decide +kernel
theorem dX10_at_13 : decode cX10_at 13 = .ok (.dup, 1) := by decide +kernel
theorem dX10_at_14 : decode cX10_at 14 = .ok (.ldc 179, 2) := by decide +kernel
theorem dX10_at_16 : decode cX10_at 16 = .ok (.invokespecial 181, 3) := by decide +kernel
theorem dX10_at_19 : decode cX10_at 19 = .ok (.athrow, 1) := by decide +kernel
theorem dX10_at_20 : decode cX10_at 20 = .ok (.iload_n 1, 1) := by decide +kernel
theorem dX10_at_21 : decode cX10_at 21 = .ok (.ifCond .lt 14, 3) := by decide +kernel
theorem dX10_at_24 : decode cX10_at 24 = .ok (.iload_n 1, 1) := by decide +kernel
theorem dX10_at_25 : decode cX10_at 25 = .ok (.aload_n 0, 1) := by decide +kernel
theorem dX10_at_26 : decode cX10_at 26 = .ok (.getfield 32, 3) := by decide +kernel
theorem dX10_at_29 : decode cX10_at 29 = .ok (.getfield 174, 3) := by decide +kernel
theorem dX10_at_32 : decode cX10_at 32 = .ok (.if_icmp .lt 13, 3) := by decide +kernel
theorem dX10_at_35 : decode cX10_at 35 = .ok (.new 109, 3) := by decide +kernel
theorem dX10_at_38 : decode cX10_at 38 = .ok (.dup, 1) := by decide +kernel
theorem dX10_at_39 : decode cX10_at 39 = .ok (.ldc 182, 2) := by decide +kernel
theorem dX10_at_41 : decode cX10_at 41 = .ok (.invokespecial 113, 3) := by decide +kernel
theorem dX10_at_44 : decode cX10_at 44 = .ok (.athrow, 1) := by decide +kernel
theorem dX10_at_45 : decode cX10_at 45 = .ok (.iload_n 2, 1) := by decide +kernel
theorem dX10_at_46 : decode cX10_at 46 = .ok (.ifCond .lt 15, 3) := by decide +kernel
theorem dX10_at_49 : decode cX10_at 49 = .ok (.iload_n 2, 1) := by decide +kernel
theorem dX10_at_50 : decode cX10_at 50 = .ok (.iconst 1, 1) := by decide +kernel
theorem dX10_at_51 : decode cX10_at 51 = .ok (.if_icmp .gt 10, 3) := by decide +kernel
theorem dX10_at_54 : decode cX10_at 54 = .ok (.iload_n 3, 1) := by decide +kernel
theorem dX10_at_55 : decode cX10_at 55 = .ok (.invokestatic 184, 3) := by decide +kernel
theorem dX10_at_58 : decode cX10_at 58 = .ok (.ifCond .ne 13, 3) := by decide +kernel
theorem dX10_at_61 : decode cX10_at 61 = .ok (.new 109, 3) := by decide +kernel
theorem dX10_at_64 : decode cX10_at 64 = .ok (.dup, 1) := by decide +kernel
theorem dX10_at_65 : decode cX10_at 65 = .ok (.ldc 187, 2) := by decide +kernel
theorem dX10_at_67 : decode cX10_at 67 = .ok (.invokespecial 113, 3) := by decide +kernel
theorem dX10_at_70 : decode cX10_at 70 = .ok (.athrow, 1) := by decide +kernel
theorem dX10_at_71 : decode cX10_at 71 = .ok (.aload_n 0, 1) := by decide +kernel
theorem dX10_at_72 : decode cX10_at 72 = .ok (.getfield 32, 3) := by decide +kernel
theorem dX10_at_75 : decode cX10_at 75 = .ok (.iload_n 1, 1) := by decide +kernel
theorem dX10_at_76 : decode cX10_at 76 = .ok (.iload_n 2, 1) := by decide +kernel
theorem dX10_at_77 : decode cX10_at 77 = .ok (.iload_n 3, 1) := by decide +kernel
theorem dX10_at_78 : decode cX10_at 78 = .ok (.invokevirtual 189, 3) := by decide +kernel
theorem dX10_at_81 : decode cX10_at 81 = .ok (.lreturn, 1) := by decide +kernel
theorem dX10_on_0 : decode cX10_on 0 = .ok (.aload_n 0, 1) := by decide +kernel
theorem dX10_on_1 : decode cX10_on 1 = .ok (.iload_n 1, 1) := by decide +kernel
theorem dX10_on_2 : decode cX10_on 2 = .ok (.invokevirtual 105, 3) := by decide +kernel
theorem dX10_on_5 : decode cX10_on 5 = .ok (.astore 6, 2) := by decide +kernel
theorem dX10_on_7 : decode cX10_on 7 = .ok (.aload 6, 2) := by decide +kernel
theorem dX10_on_9 : decode cX10_on 9 = .ok (.ifnonnull 13, 3) := by decide +kernel
theorem dX10_on_12 : decode cX10_on 12 = .ok (.new 109, 3) := by decide +kernel
theorem dX10_on_15 : decode cX10_on 15 = .ok (.dup, 1) := by decide +kernel
theorem dX10_on_16 : decode cX10_on 16 = .ok (.ldc 111, 2) := by decide +kernel
theorem dX10_on_18 : decode cX10_on 18 = .ok (.invokespecial 113, 3) := by decide +kernel
theorem dX10_on_21 : decode cX10_on 21 = .ok (.athrow, 1) := by decide +kernel
theorem dX10_on_22 : decode cX10_on 22 = .ok (.lload_n 2, 1) := by decide +kernel
theorem dX10_on_23 : decode cX10_on 23 = .ok (.lload 4, 2) := by decide +kernel
theorem dX10_on_25 : decode cX10_on 25 = .ok (.invokestatic 61, 3) := by decide +kernel
theorem dX10_on_28 : decode cX10_on 28 = .ok (.ifCond .ne 13, 3) := by decide +kernel
theorem dX10_on_31 : decode cX10_on 31 = .ok (.new 65, 3) := by decide +kernel
theorem dX10_on_34 : decode cX10_on 34 = .ok (.dup, 1) := by decide +kernel
theorem dX10_on_35 : decode cX10_on 35 = .ok (.ldc 67, 2) := by decide +kernel
theorem dX10_on_37 : decode cX10_on 37 = .ok (.invokespecial 69, 3) := by decide +kernel
theorem dX10_on_40 : decode cX10_on 40 = .ok (.athrow, 1) := by decide +kernel
theorem dX10_on_41 : decode cX10_on 41 = .ok (.aload 6, 2) := by decide +kernel
theorem dX10_on_43 : decode cX10_on 43 = .ok (.lload_n 2, 1) := by decide +kernel
theorem dX10_on_44 : decode cX10_on 44 = .ok (.lload 4, 2) := by decide +kernel
theorem dX10_on_46 : decode cX10_on 46 = .ok (.aload_n 0, 1) := by decide +kernel
theorem dX10_on_47 : decode cX10_on 47 = .ok (.getfield 53, 3) := by decide +kernel
theorem dX10_on_50 : decode cX10_on 50 = .ok (.invokevirtual 193, 3) := by decide +kernel
theorem dX10_on_53 : decode cX10_on 53 = .ok (.ireturn, 1) := by decide +kernel
theorem dX10_over_0 : decode cX10_over 0 = .ok (.lload_n 3, 1) := by decide +kernel
theorem dX10_over_1 : decode cX10_over 1 = .ok (.lconst 0, 1) := by decide +kernel
theorem dX10_over_2 : decode cX10_over 2 = .ok (.lcmp, 1) := by decide +kernel
theorem dX10_over_3 : decode cX10_over 3 = .ok (.ifCond .ne 13, 3) := by decide +kernel
theorem dX10_over_6 : decode cX10_over 6 = .ok (.new 197, 3) := by decide +kernel
theorem dX10_over_9 : decode cX10_over 9 = .ok (.dup, 1) := by decide +kernel
theorem dX10_over_10 : decode cX10_over 10 = .ok (.ldc 199, 2) := by decide +kernel
theorem dX10_over_12 : decode cX10_over 12 = .ok (.invokespecial 201, 3) := by decide +kernel
theorem dX10_over_15 : decode cX10_over 15 = .ok (.athrow, 1) := by decide +kernel
theorem dX10_over_16 : decode cX10_over 16 = .ok (.iload 5, 2) := by decide +kernel
theorem dX10_over_18 : decode cX10_over 18 = .ok (.invokestatic 184, 3) := by decide +kernel
theorem dX10_over_21 : decode cX10_over 21 = .ok (.ifCond .ne 13, 3) := by decide +kernel
theorem dX10_over_24 : decode cX10_over 24 = .ok (.new 109, 3) := by decide +kernel
theorem dX10_over_27 : decode cX10_over 27 = .ok (.dup, 1) := by decide +kernel
theorem dX10_over_28 : decode cX10_over 28 = .ok (.ldc 202, 2) := by decide +kernel
theorem dX10_over_30 : decode cX10_over 30 = .ok (.invokespecial 113, 3) := by decide +kernel
theorem dX10_over_33 : decode cX10_over 33 = .ok (.athrow, 1) := by decide +kernel
theorem dX10_over_34 : decode cX10_over 34 = .ok (.lload_n 3, 1) := by decide +kernel
theorem dX10_over_35 : decode cX10_over 35 = .ok (.ldc2_w 141, 3) := by decide +kernel
theorem dX10_over_38 : decode cX10_over 38 = .ok (.lcmp, 1) := by decide +kernel
theorem dX10_over_39 : decode cX10_over 39 = .ok (.ifCond .ne 6, 3) := by decide +kernel
theorem dX10_over_42 : decode cX10_over 42 = .ok (.lload_n 1, 1) := by decide +kernel
theorem dX10_over_43 : decode cX10_over 43 = .ok (.lneg, 1) := by decide +kernel
theorem dX10_over_44 : decode cX10_over 44 = .ok (.lreturn, 1) := by decide +kernel
theorem dX10_over_45 : decode cX10_over 45 = .ok (.lload_n 1, 1) := by decide +kernel
theorem dX10_over_46 : decode cX10_over 46 = .ok (.lload_n 3, 1) := by decide +kernel
theorem dX10_over_47 : decode cX10_over 47 = .ok (.invokestatic 204, 3) := by decide +kernel
theorem dX10_over_50 : decode cX10_over 50 = .ok (.lstore 6, 2) := by decide +kernel
theorem dX10_over_52 : decode cX10_over 52 = .ok (.lload_n 1, 1) := by decide +kernel
theorem dX10_over_53 : decode cX10_over 53 = .ok (.lload 6, 2) := by decide +kernel
theorem dX10_over_55 : decode cX10_over 55 = .ok (.lload_n 3, 1) := by decide +kernel
theorem dX10_over_56 : decode cX10_over 56 = .ok (.lmul, 1) := by decide +kernel
theorem dX10_over_57 : decode cX10_over 57 = .ok (.lsub, 1) := by decide +kernel
theorem dX10_over_58 : decode cX10_over 58 = .ok (.lstore 8, 2) := by decide +kernel
theorem dX10_over_60 : decode cX10_over 60 = .ok (.lload 8, 2) := by decide +kernel
theorem dX10_over_62 : decode cX10_over 62 = .ok (.lconst 0, 1) := by decide +kernel
theorem dX10_over_63 : decode cX10_over 63 = .ok (.lcmp, 1) := by decide +kernel
theorem dX10_over_64 : decode cX10_over 64 = .ok (.ifCond .eq 8, 3) := by decide +kernel
theorem dX10_over_67 : decode cX10_over 67 = .ok (.iload 5, 2) := by decide +kernel
theorem dX10_over_69 : decode cX10_over 69 = .ok (.ifCond .ne 6, 3) := by decide +kernel
theorem dX10_over_72 : decode cX10_over 72 = .ok (.lload 6, 2) := by decide +kernel
theorem dX10_over_74 : decode cX10_over 74 = .ok (.lreturn, 1) := by decide +kernel
theorem dX10_over_75 : decode cX10_over 75 = .ok (.lload_n 3, 1) := by decide +kernel
theorem dX10_over_76 : decode cX10_over 76 = .ok (.lconst 0, 1) := by decide +kernel
theorem dX10_over_77 : decode cX10_over 77 = .ok (.lcmp, 1) := by decide +kernel
theorem dX10_over_78 : decode cX10_over 78 = .ok (.ifCond .le 21, 3) := by decide +kernel
theorem dX10_over_81 : decode cX10_over 81 = .ok (.lload 8, 2) := by decide +kernel
theorem dX10_over_83 : decode cX10_over 83 = .ok (.lload_n 3, 1) := by decide +kernel
theorem dX10_over_84 : decode cX10_over 84 = .ok (.lload 8, 2) := by decide +kernel
theorem dX10_over_86 : decode cX10_over 86 = .ok (.lsub, 1) := by decide +kernel
theorem dX10_over_87 : decode cX10_over 87 = .ok (.lcmp, 1) := by decide +kernel
theorem dX10_over_88 : decode cX10_over 88 = .ok (.ifCond .lt 7, 3) := by decide +kernel
theorem dX10_over_91 : decode cX10_over 91 = .ok (.iconst 1, 1) := by decide +kernel
theorem dX10_over_92 : decode cX10_over 92 = .ok (.goto 22, 3) := by decide +kernel
theorem dX10_over_95 : decode cX10_over 95 = .ok (.iconst 0, 1) := by decide +kernel
theorem dX10_over_96 : decode cX10_over 96 = .ok (.goto 18, 3) := by decide +kernel
theorem dX10_over_99 : decode cX10_over 99 = .ok (.lload 8, 2) := by decide +kernel
theorem dX10_over_101 : decode cX10_over 101 = .ok (.lload_n 3, 1) := by decide +kernel
theorem dX10_over_102 : decode cX10_over 102 = .ok (.lload 8, 2) := by decide +kernel
theorem dX10_over_104 : decode cX10_over 104 = .ok (.lsub, 1) := by decide +kernel
theorem dX10_over_105 : decode cX10_over 105 = .ok (.lcmp, 1) := by decide +kernel
theorem dX10_over_106 : decode cX10_over 106 = .ok (.ifCond .gt 7, 3) := by decide +kernel
theorem dX10_over_109 : decode cX10_over 109 = .ok (.iconst 1, 1) := by decide +kernel
theorem dX10_over_110 : decode cX10_over 110 = .ok (.goto 4, 3) := by decide +kernel
theorem dX10_over_113 : decode cX10_over 113 = .ok (.iconst 0, 1) := by decide +kernel
theorem dX10_over_114 : decode cX10_over 114 = .ok (.istore 10, 2) := by decide +kernel
theorem dX10_over_116 : decode cX10_over 116 = .ok (.iload 5, 2) := by decide +kernel
theorem dX10_over_118 : decode cX10_over 118 = .ok (.iconst 1, 1) := by decide +kernel
theorem dX10_over_119 : decode cX10_over 119 = .ok (.if_icmp .eq 8, 3) := by decide +kernel
theorem dX10_over_122 : decode cX10_over 122 = .ok (.iload 10, 2) := by decide +kernel
theorem dX10_over_124 : decode cX10_over 124 = .ok (.ifCond .eq 10, 3) := by decide +kernel
theorem dX10_over_127 : decode cX10_over 127 = .ok (.lload 6, 2) := by decide +kernel
theorem dX10_over_129 : decode cX10_over 129 = .ok (.lconst 1, 1) := by decide +kernel
theorem dX10_over_130 : decode cX10_over 130 = .ok (.ladd, 1) := by decide +kernel
theorem dX10_over_131 : decode cX10_over 131 = .ok (.goto 5, 3) := by decide +kernel
theorem dX10_over_134 : decode cX10_over 134 = .ok (.lload 6, 2) := by decide +kernel
theorem dX10_over_136 : decode cX10_over 136 = .ok (.lreturn, 1) := by decide +kernel
theorem dX10_root_0 : decode cX10_root 0 = .ok (.iload_n 3, 1) := by decide +kernel
theorem dX10_root_1 : decode cX10_root 1 = .ok (.invokestatic 184, 3) := by decide +kernel
theorem dX10_root_4 : decode cX10_root 4 = .ok (.ifCond .ne 13, 3) := by decide +kernel
theorem dX10_root_7 : decode cX10_root 7 = .ok (.new 109, 3) := by decide +kernel
theorem dX10_root_10 : decode cX10_root 10 = .ok (.dup, 1) := by decide +kernel
theorem dX10_root_11 : decode cX10_root 11 = .ok (.ldc 202, 2) := by decide +kernel
theorem dX10_root_13 : decode cX10_root 13 = .ok (.invokespecial 113, 3) := by decide +kernel
theorem dX10_root_16 : decode cX10_root 16 = .ok (.athrow, 1) := by decide +kernel
theorem dX10_root_17 : decode cX10_root 17 = .ok (.lload_n 1, 1) := by decide +kernel
theorem dX10_root_18 : decode cX10_root 18 = .ok (.lconst 0, 1) := by decide +kernel
theorem dX10_root_19 : decode cX10_root 19 = .ok (.lcmp, 1) := by decide +kernel
theorem dX10_root_20 : decode cX10_root 20 = .ok (.ifCond .ge 13, 3) := by decide +kernel
theorem dX10_root_23 : decode cX10_root 23 = .ok (.new 65, 3) := by decide +kernel
theorem dX10_root_26 : decode cX10_root 26 = .ok (.dup, 1) := by decide +kernel
theorem dX10_root_27 : decode cX10_root 27 = .ok (.ldc 132, 2) := by decide +kernel
theorem dX10_root_29 : decode cX10_root 29 = .ok (.invokespecial 69, 3) := by decide +kernel
theorem dX10_root_32 : decode cX10_root 32 = .ok (.athrow, 1) := by decide +kernel
theorem dX10_root_33 : decode cX10_root 33 = .ok (.lload_n 1, 1) := by decide +kernel
theorem dX10_root_34 : decode cX10_root 34 = .ok (.invokestatic 210, 3) := by decide +kernel
theorem dX10_root_37 : decode cX10_root 37 = .ok (.lstore 4, 2) := by decide +kernel
theorem dX10_root_39 : decode cX10_root 39 = .ok (.lload_n 1, 1) := by decide +kernel
theorem dX10_root_40 : decode cX10_root 40 = .ok (.lload 4, 2) := by decide +kernel
theorem dX10_root_42 : decode cX10_root 42 = .ok (.lload 4, 2) := by decide +kernel
theorem dX10_root_44 : decode cX10_root 44 = .ok (.lmul, 1) := by decide +kernel
theorem dX10_root_45 : decode cX10_root 45 = .ok (.lsub, 1) := by decide +kernel
theorem dX10_root_46 : decode cX10_root 46 = .ok (.lstore 6, 2) := by decide +kernel
theorem dX10_root_48 : decode cX10_root 48 = .ok (.lload 6, 2) := by decide +kernel
theorem dX10_root_50 : decode cX10_root 50 = .ok (.lconst 0, 1) := by decide +kernel
theorem dX10_root_51 : decode cX10_root 51 = .ok (.lcmp, 1) := by decide +kernel
theorem dX10_root_52 : decode cX10_root 52 = .ok (.ifCond .eq 7, 3) := by decide +kernel
theorem dX10_root_55 : decode cX10_root 55 = .ok (.iload_n 3, 1) := by decide +kernel
theorem dX10_root_56 : decode cX10_root 56 = .ok (.ifCond .ne 6, 3) := by decide +kernel
theorem dX10_root_59 : decode cX10_root 59 = .ok (.lload 4, 2) := by decide +kernel
theorem dX10_root_61 : decode cX10_root 61 = .ok (.lreturn, 1) := by decide +kernel
theorem dX10_root_62 : decode cX10_root 62 = .ok (.iload_n 3, 1) := by decide +kernel
theorem dX10_root_63 : decode cX10_root 63 = .ok (.iconst 1, 1) := by decide +kernel
theorem dX10_root_64 : decode cX10_root 64 = .ok (.if_icmp .eq 11, 3) := by decide +kernel
theorem dX10_root_67 : decode cX10_root 67 = .ok (.lload 6, 2) := by decide +kernel
theorem dX10_root_69 : decode cX10_root 69 = .ok (.lload 4, 2) := by decide +kernel
theorem dX10_root_71 : decode cX10_root 71 = .ok (.lcmp, 1) := by decide +kernel
theorem dX10_root_72 : decode cX10_root 72 = .ok (.ifCond .le 10, 3) := by decide +kernel
theorem dX10_root_75 : decode cX10_root 75 = .ok (.lload 4, 2) := by decide +kernel
theorem dX10_root_77 : decode cX10_root 77 = .ok (.lconst 1, 1) := by decide +kernel
theorem dX10_root_78 : decode cX10_root 78 = .ok (.ladd, 1) := by decide +kernel
theorem dX10_root_79 : decode cX10_root 79 = .ok (.goto 5, 3) := by decide +kernel
theorem dX10_root_82 : decode cX10_root 82 = .ok (.lload 4, 2) := by decide +kernel
theorem dX10_root_84 : decode cX10_root 84 = .ok (.lreturn, 1) := by decide +kernel
theorem dX10_corner_0 : decode cX10_corner 0 = .ok (.lload_n 1, 1) := by decide +kernel
theorem dX10_corner_1 : decode cX10_corner 1 = .ok (.lload_n 3, 1) := by decide +kernel
theorem dX10_corner_2 : decode cX10_corner 2 = .ok (.invokestatic 61, 3) := by decide +kernel
theorem dX10_corner_5 : decode cX10_corner 5 = .ok (.ifCond .ne 13, 3) := by decide +kernel
theorem dX10_corner_8 : decode cX10_corner 8 = .ok (.new 65, 3) := by decide +kernel
theorem dX10_corner_11 : decode cX10_corner 11 = .ok (.dup, 1) := by decide +kernel
theorem dX10_corner_12 : decode cX10_corner 12 = .ok (.ldc 67, 2) := by decide +kernel
theorem dX10_corner_14 : decode cX10_corner 14 = .ok (.invokespecial 69, 3) := by decide +kernel
theorem dX10_corner_17 : decode cX10_corner 17 = .ok (.athrow, 1) := by decide +kernel
theorem dX10_corner_18 : decode cX10_corner 18 = .ok (.aload_n 0, 1) := by decide +kernel
theorem dX10_corner_19 : decode cX10_corner 19 = .ok (.getfield 18, 3) := by decide +kernel
theorem dX10_corner_22 : decode cX10_corner 22 = .ok (.getfield 214, 3) := by decide +kernel
theorem dX10_corner_25 : decode cX10_corner 25 = .ok (.sipush 200, 3) := by decide +kernel
theorem dX10_corner_28 : decode cX10_corner 28 = .ok (.if_icmp .lt 5, 3) := by decide +kernel
theorem dX10_corner_31 : decode cX10_corner 31 = .ok (.iconst 0, 1) := by decide +kernel
theorem dX10_corner_32 : decode cX10_corner 32 = .ok (.ireturn, 1) := by decide +kernel
theorem dX10_corner_33 : decode cX10_corner 33 = .ok (.aload_n 0, 1) := by decide +kernel
theorem dX10_corner_34 : decode cX10_corner 34 = .ok (.getfield 18, 3) := by decide +kernel
theorem dX10_corner_37 : decode cX10_corner 37 = .ok (.lload_n 1, 1) := by decide +kernel
theorem dX10_corner_38 : decode cX10_corner 38 = .ok (.lload_n 3, 1) := by decide +kernel
theorem dX10_corner_39 : decode cX10_corner 39 = .ok (.invokevirtual 215, 3) := by decide +kernel
theorem dX10_corner_42 : decode cX10_corner 42 = .ok (.iconst 1, 1) := by decide +kernel
theorem dX10_corner_43 : decode cX10_corner 43 = .ok (.ireturn, 1) := by decide +kernel
theorem dX10_area_0 : decode cX10_area 0 = .ok (.iload_n 1, 1) := by decide +kernel
theorem dX10_area_1 : decode cX10_area 1 = .ok (.ifCond .lt 8, 3) := by decide +kernel
theorem dX10_area_4 : decode cX10_area 4 = .ok (.iload_n 1, 1) := by decide +kernel
theorem dX10_area_5 : decode cX10_area 5 = .ok (.iconst 4, 1) := by decide +kernel
theorem dX10_area_6 : decode cX10_area 6 = .ok (.if_icmp .lt 13, 3) := by decide +kernel
theorem dX10_area_9 : decode cX10_area 9 = .ok (.new 109, 3) := by decide +kernel
theorem dX10_area_12 : decode cX10_area 12 = .ok (.dup, 1) := by decide +kernel
theorem dX10_area_13 : decode cX10_area 13 = .ok (.ldc 218, 2) := by decide +kernel
theorem dX10_area_15 : decode cX10_area 15 = .ok (.invokespecial 113, 3) := by decide +kernel
theorem dX10_area_18 : decode cX10_area 18 = .ok (.athrow, 1) := by decide +kernel
theorem dX10_area_19 : decode cX10_area 19 = .ok (.aload_n 0, 1) := by decide +kernel
theorem dX10_area_20 : decode cX10_area 20 = .ok (.getfield 18, 3) := by decide +kernel
theorem dX10_area_23 : decode cX10_area 23 = .ok (.aload_n 0, 1) := by decide +kernel
theorem dX10_area_24 : decode cX10_area 24 = .ok (.getfield 53, 3) := by decide +kernel
theorem dX10_area_27 : decode cX10_area 27 = .ok (.invokevirtual 220, 3) := by decide +kernel
theorem dX10_area_30 : decode cX10_area 30 = .ok (.aload_n 0, 1) := by decide +kernel
theorem dX10_area_31 : decode cX10_area 31 = .ok (.getfield 53, 3) := by decide +kernel
theorem dX10_area_34 : decode cX10_area 34 = .ok (.iload_n 1, 1) := by decide +kernel
theorem dX10_area_35 : decode cX10_area 35 = .ok (.invokevirtual 123, 3) := by decide +kernel
theorem dX10_area_38 : decode cX10_area 38 = .ok (.lreturn, 1) := by decide +kernel
theorem dX10_clear_0 : decode cX10_clear 0 = .ok (.aload_n 0, 1) := by decide +kernel
theorem dX10_clear_1 : decode cX10_clear 1 = .ok (.iconst 0, 1) := by decide +kernel
theorem dX10_clear_2 : decode cX10_clear 2 = .ok (.putfield 57, 3) := by decide +kernel
theorem dX10_clear_5 : decode cX10_clear 5 = .ok (.aload_n 0, 1) := by decide +kernel
theorem dX10_clear_6 : decode cX10_clear 6 = .ok (.getfield 18, 3) := by decide +kernel
theorem dX10_clear_9 : decode cX10_clear 9 = .ok (.invokevirtual 224, 3) := by decide +kernel
theorem dX10_clear_12 : decode cX10_clear 12 = .ok (.aload_n 0, 1) := by decide +kernel
theorem dX10_clear_13 : decode cX10_clear 13 = .ok (.getfield 32, 3) := by decide +kernel
theorem dX10_clear_16 : decode cX10_clear 16 = .ok (.invokevirtual 154, 3) := by decide +kernel
theorem dX10_clear_19 : decode cX10_clear 19 = .ok (.return_, 1) := by decide +kernel
theorem dX10_isPlace_0 : decode cX10_isPlace 0 = .ok (.lload_n 0, 1) := by decide +kernel
theorem dX10_isPlace_1 : decode cX10_isPlace 1 = .ok (.ldc2_w 225, 3) := by decide +kernel
theorem dX10_isPlace_4 : decode cX10_isPlace 4 = .ok (.lcmp, 1) := by decide +kernel
theorem dX10_isPlace_5 : decode cX10_isPlace 5 = .ok (.ifCond .lt 31, 3) := by decide +kernel
theorem dX10_isPlace_8 : decode cX10_isPlace 8 = .ok (.lload_n 0, 1) := by decide +kernel
theorem dX10_isPlace_9 : decode cX10_isPlace 9 = .ok (.ldc2_w 227, 3) := by decide +kernel
theorem dX10_isPlace_12 : decode cX10_isPlace 12 = .ok (.lcmp, 1) := by decide +kernel
theorem dX10_isPlace_13 : decode cX10_isPlace 13 = .ok (.ifCond .gt 23, 3) := by decide +kernel
theorem dX10_isPlace_16 : decode cX10_isPlace 16 = .ok (.lload_n 2, 1) := by decide +kernel
theorem dX10_isPlace_17 : decode cX10_isPlace 17 = .ok (.ldc2_w 225, 3) := by decide +kernel
theorem dX10_isPlace_20 : decode cX10_isPlace 20 = .ok (.lcmp, 1) := by decide +kernel
theorem dX10_isPlace_21 : decode cX10_isPlace 21 = .ok (.ifCond .lt 15, 3) := by decide +kernel
theorem dX10_isPlace_24 : decode cX10_isPlace 24 = .ok (.lload_n 2, 1) := by decide +kernel
theorem dX10_isPlace_25 : decode cX10_isPlace 25 = .ok (.ldc2_w 227, 3) := by decide +kernel
theorem dX10_isPlace_28 : decode cX10_isPlace 28 = .ok (.lcmp, 1) := by decide +kernel
theorem dX10_isPlace_29 : decode cX10_isPlace 29 = .ok (.ifCond .gt 7, 3) := by decide +kernel
theorem dX10_isPlace_32 : decode cX10_isPlace 32 = .ok (.iconst 1, 1) := by decide +kernel
theorem dX10_isPlace_33 : decode cX10_isPlace 33 = .ok (.goto 4, 3) := by decide +kernel
theorem dX10_isPlace_36 : decode cX10_isPlace 36 = .ok (.iconst 0, 1) := by decide +kernel
theorem dX10_isPlace_37 : decode cX10_isPlace 37 = .ok (.ireturn, 1) := by decide +kernel
theorem dX10_isDirection_0 : decode cX10_isDirection 0 = .ok (.iload_n 0, 1) := by decide +kernel
theorem dX10_isDirection_1 : decode cX10_isDirection 1 = .ok (.ifCond .lt 13, 3) := by decide +kernel
theorem dX10_isDirection_4 : decode cX10_isDirection 4 = .ok (.iload_n 0, 1) := by decide +kernel
theorem dX10_isDirection_5 : decode cX10_isDirection 5 = .ok (.bipush 8, 2) := by decide +kernel
theorem dX10_isDirection_7 : decode cX10_isDirection 7 = .ok (.if_icmp .ge 7, 3) := by decide +kernel
theorem dX10_isDirection_10 : decode cX10_isDirection 10 = .ok (.iconst 1, 1) := by decide +kernel
theorem dX10_isDirection_11 : decode cX10_isDirection 11 = .ok (.goto 4, 3) := by decide +kernel
theorem dX10_isDirection_14 : decode cX10_isDirection 14 = .ok (.iconst 0, 1) := by decide +kernel
theorem dX10_isDirection_15 : decode cX10_isDirection 15 = .ok (.ireturn, 1) := by decide +kernel
theorem dX10_isRounding_0 : decode cX10_isRounding 0 = .ok (.iload_n 0, 1) := by decide +kernel
theorem dX10_isRounding_1 : decode cX10_isRounding 1 = .ok (.ifCond .eq 13, 3) := by decide +kernel
theorem dX10_isRounding_4 : decode cX10_isRounding 4 = .ok (.iload_n 0, 1) := by decide +kernel
theorem dX10_isRounding_5 : decode cX10_isRounding 5 = .ok (.iconst 1, 1) := by decide +kernel
theorem dX10_isRounding_6 : decode cX10_isRounding 6 = .ok (.if_icmp .eq 8, 3) := by decide +kernel
theorem dX10_isRounding_9 : decode cX10_isRounding 9 = .ok (.iload_n 0, 1) := by decide +kernel
theorem dX10_isRounding_10 : decode cX10_isRounding 10 = .ok (.iconst 2, 1) := by decide +kernel
theorem dX10_isRounding_11 : decode cX10_isRounding 11 = .ok (.if_icmp .ne 7, 3) := by decide +kernel
theorem dX10_isRounding_14 : decode cX10_isRounding 14 = .ok (.iconst 1, 1) := by decide +kernel
theorem dX10_isRounding_15 : decode cX10_isRounding 15 = .ok (.goto 4, 3) := by decide +kernel
theorem dX10_isRounding_18 : decode cX10_isRounding 18 = .ok (.iconst 0, 1) := by decide +kernel
theorem dX10_isRounding_19 : decode cX10_isRounding 19 = .ok (.ireturn, 1) := by decide +kernel
theorem dX10_shapeOf_0 : decode cX10_shapeOf 0 = .ok (.iload_n 1, 1) := by decide +kernel
theorem dX10_shapeOf_1 : decode cX10_shapeOf 1 = .ok (.ifCond .lt 29, 3) := by decide +kernel
theorem dX10_shapeOf_4 : decode cX10_shapeOf 4 = .ok (.iload_n 1, 1) := by decide +kernel
theorem dX10_shapeOf_5 : decode cX10_shapeOf 5 = .ok (.aload_n 0, 1) := by decide +kernel
theorem dX10_shapeOf_6 : decode cX10_shapeOf 6 = .ok (.getfield 57, 3) := by decide +kernel
theorem dX10_shapeOf_9 : decode cX10_shapeOf 9 = .ok (.if_icmp .ge 21, 3) := by decide +kernel
theorem dX10_shapeOf_12 : decode cX10_shapeOf 12 = .ok (.iload_n 1, 1) := by decide +kernel
theorem dX10_shapeOf_13 : decode cX10_shapeOf 13 = .ok (.aload_n 0, 1) := by decide +kernel
theorem dX10_shapeOf_14 : decode cX10_shapeOf 14 = .ok (.getfield 11, 3) := by decide +kernel
theorem dX10_shapeOf_17 : decode cX10_shapeOf 17 = .ok (.arraylength, 1) := by decide +kernel
theorem dX10_shapeOf_18 : decode cX10_shapeOf 18 = .ok (.if_icmp .ge 12, 3) := by decide +kernel
theorem dX10_shapeOf_21 : decode cX10_shapeOf 21 = .ok (.aload_n 0, 1) := by decide +kernel
theorem dX10_shapeOf_22 : decode cX10_shapeOf 22 = .ok (.getfield 11, 3) := by decide +kernel
theorem dX10_shapeOf_25 : decode cX10_shapeOf 25 = .ok (.iload_n 1, 1) := by decide +kernel
theorem dX10_shapeOf_26 : decode cX10_shapeOf 26 = .ok (.aaload, 1) := by decide +kernel
theorem dX10_shapeOf_27 : decode cX10_shapeOf 27 = .ok (.goto 4, 3) := by decide +kernel
theorem dX10_shapeOf_30 : decode cX10_shapeOf 30 = .ok (.aconst_null, 1) := by decide +kernel
theorem dX10_shapeOf_31 : decode cX10_shapeOf 31 = .ok (.areturn, 1) := by decide +kernel
theorem dX10_keep_0 : decode cX10_keep 0 = .ok (.aload_n 0, 1) := by decide +kernel
theorem dX10_keep_1 : decode cX10_keep 1 = .ok (.getfield 57, 3) := by decide +kernel
theorem dX10_keep_4 : decode cX10_keep 4 = .ok (.ifCond .lt 15, 3) := by decide +kernel
theorem dX10_keep_7 : decode cX10_keep 7 = .ok (.aload_n 0, 1) := by decide +kernel
theorem dX10_keep_8 : decode cX10_keep 8 = .ok (.getfield 57, 3) := by decide +kernel
theorem dX10_keep_11 : decode cX10_keep 11 = .ok (.aload_n 0, 1) := by decide +kernel
theorem dX10_keep_12 : decode cX10_keep 12 = .ok (.getfield 11, 3) := by decide +kernel
theorem dX10_keep_15 : decode cX10_keep 15 = .ok (.arraylength, 1) := by decide +kernel
theorem dX10_keep_16 : decode cX10_keep 16 = .ok (.if_icmp .lt 5, 3) := by decide +kernel
theorem dX10_keep_19 : decode cX10_keep 19 = .ok (.iconst (-1), 1) := by decide +kernel
theorem dX10_keep_20 : decode cX10_keep 20 = .ok (.ireturn, 1) := by decide +kernel
theorem dX10_keep_21 : decode cX10_keep 21 = .ok (.aload_n 0, 1) := by decide +kernel
theorem dX10_keep_22 : decode cX10_keep 22 = .ok (.getfield 11, 3) := by decide +kernel
theorem dX10_keep_25 : decode cX10_keep 25 = .ok (.aload_n 0, 1) := by decide +kernel
theorem dX10_keep_26 : decode cX10_keep 26 = .ok (.getfield 57, 3) := by decide +kernel
theorem dX10_keep_29 : decode cX10_keep 29 = .ok (.aload_n 1, 1) := by decide +kernel
theorem dX10_keep_30 : decode cX10_keep 30 = .ok (.aastore, 1) := by decide +kernel
theorem dX10_keep_31 : decode cX10_keep 31 = .ok (.aload_n 0, 1) := by decide +kernel
theorem dX10_keep_32 : decode cX10_keep 32 = .ok (.dup, 1) := by decide +kernel
theorem dX10_keep_33 : decode cX10_keep 33 = .ok (.getfield 57, 3) := by decide +kernel
theorem dX10_keep_36 : decode cX10_keep 36 = .ok (.iconst 1, 1) := by decide +kernel
theorem dX10_keep_37 : decode cX10_keep 37 = .ok (.iadd, 1) := by decide +kernel
theorem dX10_keep_38 : decode cX10_keep 38 = .ok (.putfield 57, 3) := by decide +kernel
theorem dX10_keep_41 : decode cX10_keep 41 = .ok (.aload_n 0, 1) := by decide +kernel
theorem dX10_keep_42 : decode cX10_keep 42 = .ok (.getfield 57, 3) := by decide +kernel
theorem dX10_keep_45 : decode cX10_keep 45 = .ok (.iconst 1, 1) := by decide +kernel
theorem dX10_keep_46 : decode cX10_keep 46 = .ok (.isub, 1) := by decide +kernel
theorem dX10_keep_47 : decode cX10_keep 47 = .ok (.ireturn, 1) := by decide +kernel
theorem dX10_wholeRoot_0 : decode cX10_wholeRoot 0 = .ok (.lconst 0, 1) := by decide +kernel
theorem dX10_wholeRoot_1 : decode cX10_wholeRoot 1 = .ok (.lstore_n 2, 1) := by decide +kernel
theorem dX10_wholeRoot_2 : decode cX10_wholeRoot 2 = .ok (.bipush 31, 2) := by decide +kernel
theorem dX10_wholeRoot_4 : decode cX10_wholeRoot 4 = .ok (.istore 4, 2) := by decide +kernel
theorem dX10_wholeRoot_6 : decode cX10_wholeRoot 6 = .ok (.iload 4, 2) := by decide +kernel
theorem dX10_wholeRoot_8 : decode cX10_wholeRoot 8 = .ok (.ifCond .lt 39, 3) := by decide +kernel
theorem dX10_wholeRoot_11 : decode cX10_wholeRoot 11 = .ok (.lload_n 2, 1) := by decide +kernel
theorem dX10_wholeRoot_12 : decode cX10_wholeRoot 12 = .ok (.lconst 1, 1) := by decide +kernel
theorem dX10_wholeRoot_13 : decode cX10_wholeRoot 13 = .ok (.iload 4, 2) := by decide +kernel
theorem dX10_wholeRoot_15 : decode cX10_wholeRoot 15 = .ok (.lshl, 1) := by decide +kernel
theorem dX10_wholeRoot_16 : decode cX10_wholeRoot 16 = .ok (.ladd, 1) := by decide +kernel
theorem dX10_wholeRoot_17 : decode cX10_wholeRoot 17 = .ok (.lstore 5, 2) := by decide +kernel
theorem dX10_wholeRoot_19 : decode cX10_wholeRoot 19 = .ok (.lload 5, 2) := by decide +kernel
theorem dX10_wholeRoot_21 : decode cX10_wholeRoot 21 = .ok (.ldc2_w 229, 3) := by decide +kernel
theorem dX10_wholeRoot_24 : decode cX10_wholeRoot 24 = .ok (.lcmp, 1) := by decide +kernel
theorem dX10_wholeRoot_25 : decode cX10_wholeRoot 25 = .ok (.ifCond .gt 16, 3) := by decide +kernel
theorem dX10_wholeRoot_28 : decode cX10_wholeRoot 28 = .ok (.lload 5, 2) := by decide +kernel
theorem dX10_wholeRoot_30 : decode cX10_wholeRoot 30 = .ok (.lload 5, 2) := by decide +kernel
theorem dX10_wholeRoot_32 : decode cX10_wholeRoot 32 = .ok (.lmul, 1) := by decide +kernel
theorem dX10_wholeRoot_33 : decode cX10_wholeRoot 33 = .ok (.lload_n 0, 1) := by decide +kernel
theorem dX10_wholeRoot_34 : decode cX10_wholeRoot 34 = .ok (.lcmp, 1) := by decide +kernel
theorem dX10_wholeRoot_35 : decode cX10_wholeRoot 35 = .ok (.ifCond .gt 6, 3) := by decide +kernel
theorem dX10_wholeRoot_38 : decode cX10_wholeRoot 38 = .ok (.lload 5, 2) := by decide +kernel
theorem dX10_wholeRoot_40 : decode cX10_wholeRoot 40 = .ok (.lstore_n 2, 1) := by decide +kernel
theorem dX10_wholeRoot_41 : decode cX10_wholeRoot 41 = .ok (.iinc 4 (-1), 3) := by decide +kernel
theorem dX10_wholeRoot_44 : decode cX10_wholeRoot 44 = .ok (.goto (-38), 3) := by decide +kernel
theorem dX10_wholeRoot_47 : decode cX10_wholeRoot 47 = .ok (.lload_n 2, 1) := by decide +kernel
theorem dX10_wholeRoot_48 : decode cX10_wholeRoot 48 = .ok (.lreturn, 1) := by decide +kernel
