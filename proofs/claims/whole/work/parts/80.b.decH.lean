theorem dL_turn_0 : decode cL_turn 0 = .ok (.aload 13, 2) := by decide +kernel
theorem dL_turn_2 : decode cL_turn 2 = .ok (.iconst 0, 1) := by decide +kernel
theorem dL_turn_3 : decode cL_turn 3 = .ok (.aload_n 0, 1) := by decide +kernel
theorem dL_turn_4 : decode cL_turn 4 = .ok (.lload_n 1, 1) := by decide +kernel
theorem dL_turn_5 : decode cL_turn 5 = .ok (.lload_n 3, 1) := by decide +kernel
theorem dL_turn_6 : decode cL_turn 6 = .ok (.lload 5, 2) := by decide +kernel
theorem dL_turn_8 : decode cL_turn 8 = .ok (.lload 7, 2) := by decide +kernel
theorem dL_turn_10 : decode cL_turn 10 = .ok (.lload 9, 2) := by decide +kernel
theorem dL_turn_12 : decode cL_turn 12 = .ok (.lload 11, 2) := by decide +kernel
theorem dL_turn_14 : decode cL_turn 14 = .ok (.invokevirtual 7, 3) := by decide +kernel
theorem dL_turn_17 : decode cL_turn 17 = .ok (.i2l, 1) := by decide +kernel
theorem dL_turn_18 : decode cL_turn 18 = .ok (.lastore, 1) := by decide +kernel
theorem dL_turn_19 : decode cL_turn 19 = .ok (.goto 7, 3) := by decide +kernel
theorem dL_turn_22 : decode cL_turn 22 = .ok (.astore 14, 2) := by decide +kernel
theorem dL_turn_24 : decode cL_turn 24 = .ok (.iconst 1, 1) := by decide +kernel
theorem dL_turn_25 : decode cL_turn 25 = .ok (.ireturn, 1) := by decide +kernel
theorem dL_turn_26 : decode cL_turn 26 = .ok (.iconst 0, 1) := by decide +kernel
theorem dL_turn_27 : decode cL_turn 27 = .ok (.ireturn, 1) := by decide +kernel
theorem dL_segment_0 : decode cL_segment 0 = .ok (.aload 9, 2) := by decide +kernel
theorem dL_segment_2 : decode cL_segment 2 = .ok (.iconst 0, 1) := by decide +kernel
theorem dL_segment_3 : decode cL_segment 3 = .ok (.aload_n 0, 1) := by decide +kernel
theorem dL_segment_4 : decode cL_segment 4 = .ok (.lload_n 1, 1) := by decide +kernel
theorem dL_segment_5 : decode cL_segment 5 = .ok (.lload_n 3, 1) := by decide +kernel
theorem dL_segment_6 : decode cL_segment 6 = .ok (.lload 5, 2) := by decide +kernel
theorem dL_segment_8 : decode cL_segment 8 = .ok (.lload 7, 2) := by decide +kernel
theorem dL_segment_10 : decode cL_segment 10 = .ok (.invokevirtual 15, 3) := by decide +kernel
theorem dL_segment_13 : decode cL_segment 13 = .ok (.i2l, 1) := by decide +kernel
theorem dL_segment_14 : decode cL_segment 14 = .ok (.lastore, 1) := by decide +kernel
theorem dL_segment_15 : decode cL_segment 15 = .ok (.goto 7, 3) := by decide +kernel
theorem dL_segment_18 : decode cL_segment 18 = .ok (.astore 10, 2) := by decide +kernel
theorem dL_segment_20 : decode cL_segment 20 = .ok (.iconst 1, 1) := by decide +kernel
theorem dL_segment_21 : decode cL_segment 21 = .ok (.ireturn, 1) := by decide +kernel
theorem dL_segment_22 : decode cL_segment 22 = .ok (.iconst 0, 1) := by decide +kernel
theorem dL_segment_23 : decode cL_segment 23 = .ok (.ireturn, 1) := by decide +kernel
theorem dL_arc_0 : decode cL_arc 0 = .ok (.aload 9, 2) := by decide +kernel
theorem dL_arc_2 : decode cL_arc 2 = .ok (.iconst 0, 1) := by decide +kernel
theorem dL_arc_3 : decode cL_arc 3 = .ok (.aload_n 0, 1) := by decide +kernel
theorem dL_arc_4 : decode cL_arc 4 = .ok (.lload_n 1, 1) := by decide +kernel
theorem dL_arc_5 : decode cL_arc 5 = .ok (.lload_n 3, 1) := by decide +kernel
theorem dL_arc_6 : decode cL_arc 6 = .ok (.lload 5, 2) := by decide +kernel
theorem dL_arc_8 : decode cL_arc 8 = .ok (.iload 7, 2) := by decide +kernel
theorem dL_arc_10 : decode cL_arc 10 = .ok (.iload 8, 2) := by decide +kernel
theorem dL_arc_12 : decode cL_arc 12 = .ok (.invokevirtual 19, 3) := by decide +kernel
theorem dL_arc_15 : decode cL_arc 15 = .ok (.i2l, 1) := by decide +kernel
theorem dL_arc_16 : decode cL_arc 16 = .ok (.lastore, 1) := by decide +kernel
theorem dL_arc_17 : decode cL_arc 17 = .ok (.goto 7, 3) := by decide +kernel
theorem dL_arc_20 : decode cL_arc 20 = .ok (.astore 10, 2) := by decide +kernel
theorem dL_arc_22 : decode cL_arc 22 = .ok (.iconst 1, 1) := by decide +kernel
theorem dL_arc_23 : decode cL_arc 23 = .ok (.ireturn, 1) := by decide +kernel
theorem dL_arc_24 : decode cL_arc 24 = .ok (.iconst 0, 1) := by decide +kernel
theorem dL_arc_25 : decode cL_arc 25 = .ok (.ireturn, 1) := by decide +kernel
theorem dL_distance_0 : decode cL_distance 0 = .ok (.aload 5, 2) := by decide +kernel
theorem dL_distance_2 : decode cL_distance 2 = .ok (.iconst 0, 1) := by decide +kernel
theorem dL_distance_3 : decode cL_distance 3 = .ok (.aload_n 0, 1) := by decide +kernel
theorem dL_distance_4 : decode cL_distance 4 = .ok (.iload_n 1, 1) := by decide +kernel
theorem dL_distance_5 : decode cL_distance 5 = .ok (.iload_n 2, 1) := by decide +kernel
theorem dL_distance_6 : decode cL_distance 6 = .ok (.iload_n 3, 1) := by decide +kernel
theorem dL_distance_7 : decode cL_distance 7 = .ok (.iload 4, 2) := by decide +kernel
theorem dL_distance_9 : decode cL_distance 9 = .ok (.invokevirtual 23, 3) := by decide +kernel
theorem dL_distance_12 : decode cL_distance 12 = .ok (.lastore, 1) := by decide +kernel
theorem dL_distance_13 : decode cL_distance 13 = .ok (.goto 11, 3) := by decide +kernel
theorem dL_distance_16 : decode cL_distance 16 = .ok (.astore 6, 2) := by decide +kernel
theorem dL_distance_18 : decode cL_distance 18 = .ok (.iconst 1, 1) := by decide +kernel
theorem dL_distance_19 : decode cL_distance 19 = .ok (.ireturn, 1) := by decide +kernel
theorem dL_distance_20 : decode cL_distance 20 = .ok (.astore 6, 2) := by decide +kernel
theorem dL_distance_22 : decode cL_distance 22 = .ok (.iconst 2, 1) := by decide +kernel
theorem dL_distance_23 : decode cL_distance 23 = .ok (.ireturn, 1) := by decide +kernel
theorem dL_distance_24 : decode cL_distance 24 = .ok (.iconst 0, 1) := by decide +kernel
theorem dL_distance_25 : decode cL_distance 25 = .ok (.ireturn, 1) := by decide +kernel
theorem dL_compare_0 : decode cL_compare 0 = .ok (.aload 9, 2) := by decide +kernel
theorem dL_compare_2 : decode cL_compare 2 = .ok (.iconst 0, 1) := by decide +kernel
theorem dL_compare_3 : decode cL_compare 3 = .ok (.aload_n 0, 1) := by decide +kernel
theorem dL_compare_4 : decode cL_compare 4 = .ok (.lload_n 1, 1) := by decide +kernel
theorem dL_compare_5 : decode cL_compare 5 = .ok (.lload_n 3, 1) := by decide +kernel
theorem dL_compare_6 : decode cL_compare 6 = .ok (.lload 5, 2) := by decide +kernel
theorem dL_compare_8 : decode cL_compare 8 = .ok (.lload 7, 2) := by decide +kernel
theorem dL_compare_10 : decode cL_compare 10 = .ok (.invokevirtual 29, 3) := by decide +kernel
theorem dL_compare_13 : decode cL_compare 13 = .ok (.i2l, 1) := by decide +kernel
theorem dL_compare_14 : decode cL_compare 14 = .ok (.lastore, 1) := by decide +kernel
theorem dL_compare_15 : decode cL_compare 15 = .ok (.goto 7, 3) := by decide +kernel
theorem dL_compare_18 : decode cL_compare 18 = .ok (.astore 10, 2) := by decide +kernel
theorem dL_compare_20 : decode cL_compare 20 = .ok (.iconst 1, 1) := by decide +kernel
theorem dL_compare_21 : decode cL_compare 21 = .ok (.ireturn, 1) := by decide +kernel
theorem dL_compare_22 : decode cL_compare 22 = .ok (.iconst 0, 1) := by decide +kernel
theorem dL_compare_23 : decode cL_compare 23 = .ok (.ireturn, 1) := by decide +kernel
theorem dL_cross_0 : decode cL_cross 0 = .ok (.aload_n 3, 1) := by decide +kernel
theorem dL_cross_1 : decode cL_cross 1 = .ok (.iconst 0, 1) := by decide +kernel
theorem dL_cross_2 : decode cL_cross 2 = .ok (.aload_n 0, 1) := by decide +kernel
theorem dL_cross_3 : decode cL_cross 3 = .ok (.iload_n 1, 1) := by decide +kernel
theorem dL_cross_4 : decode cL_cross 4 = .ok (.iload_n 2, 1) := by decide +kernel
theorem dL_cross_5 : decode cL_cross 5 = .ok (.invokevirtual 32, 3) := by decide +kernel
theorem dL_cross_8 : decode cL_cross 8 = .ok (.i2l, 1) := by decide +kernel
theorem dL_cross_9 : decode cL_cross 9 = .ok (.lastore, 1) := by decide +kernel
theorem dL_cross_10 : decode cL_cross 10 = .ok (.goto 11, 3) := by decide +kernel
theorem dL_cross_13 : decode cL_cross 13 = .ok (.astore 4, 2) := by decide +kernel
theorem dL_cross_15 : decode cL_cross 15 = .ok (.iconst 1, 1) := by decide +kernel
theorem dL_cross_16 : decode cL_cross 16 = .ok (.ireturn, 1) := by decide +kernel
theorem dL_cross_17 : decode cL_cross 17 = .ok (.astore 4, 2) := by decide +kernel
theorem dL_cross_19 : decode cL_cross 19 = .ok (.iconst 2, 1) := by decide +kernel
theorem dL_cross_20 : decode cL_cross 20 = .ok (.ireturn, 1) := by decide +kernel
theorem dL_cross_21 : decode cL_cross 21 = .ok (.iconst 0, 1) := by decide +kernel
theorem dL_cross_22 : decode cL_cross 22 = .ok (.ireturn, 1) := by decide +kernel
theorem dL_at_0 : decode cL_at 0 = .ok (.aload 4, 2) := by decide +kernel
theorem dL_at_2 : decode cL_at 2 = .ok (.iconst 0, 1) := by decide +kernel
theorem dL_at_3 : decode cL_at 3 = .ok (.aload_n 0, 1) := by decide +kernel
theorem dL_at_4 : decode cL_at 4 = .ok (.iload_n 1, 1) := by decide +kernel
theorem dL_at_5 : decode cL_at 5 = .ok (.iload_n 2, 1) := by decide +kernel
theorem dL_at_6 : decode cL_at 6 = .ok (.iload_n 3, 1) := by decide +kernel
theorem dL_at_7 : decode cL_at 7 = .ok (.invokevirtual 36, 3) := by decide +kernel
theorem dL_at_10 : decode cL_at 10 = .ok (.lastore, 1) := by decide +kernel
theorem dL_at_11 : decode cL_at 11 = .ok (.goto 11, 3) := by decide +kernel
theorem dL_at_14 : decode cL_at 14 = .ok (.astore 5, 2) := by decide +kernel
theorem dL_at_16 : decode cL_at 16 = .ok (.iconst 1, 1) := by decide +kernel
theorem dL_at_17 : decode cL_at 17 = .ok (.ireturn, 1) := by decide +kernel
theorem dL_at_18 : decode cL_at 18 = .ok (.astore 5, 2) := by decide +kernel
theorem dL_at_20 : decode cL_at 20 = .ok (.iconst 2, 1) := by decide +kernel
theorem dL_at_21 : decode cL_at 21 = .ok (.ireturn, 1) := by decide +kernel
theorem dL_at_22 : decode cL_at 22 = .ok (.iconst 0, 1) := by decide +kernel
theorem dL_at_23 : decode cL_at 23 = .ok (.ireturn, 1) := by decide +kernel
theorem dL_on_0 : decode cL_on 0 = .ok (.aload 6, 2) := by decide +kernel
theorem dL_on_2 : decode cL_on 2 = .ok (.iconst 0, 1) := by decide +kernel
theorem dL_on_3 : decode cL_on 3 = .ok (.aload_n 0, 1) := by decide +kernel
theorem dL_on_4 : decode cL_on 4 = .ok (.iload_n 1, 1) := by decide +kernel
theorem dL_on_5 : decode cL_on 5 = .ok (.lload_n 2, 1) := by decide +kernel
theorem dL_on_6 : decode cL_on 6 = .ok (.lload 4, 2) := by decide +kernel
theorem dL_on_8 : decode cL_on 8 = .ok (.invokevirtual 42, 3) := by decide +kernel
theorem dL_on_11 : decode cL_on 11 = .ok (.ifCond .eq 7, 3) := by decide +kernel
theorem dL_on_14 : decode cL_on 14 = .ok (.lconst 1, 1) := by decide +kernel
theorem dL_on_15 : decode cL_on 15 = .ok (.goto 4, 3) := by decide +kernel
theorem dL_on_18 : decode cL_on 18 = .ok (.lconst 0, 1) := by decide +kernel
theorem dL_on_19 : decode cL_on 19 = .ok (.lastore, 1) := by decide +kernel
theorem dL_on_20 : decode cL_on 20 = .ok (.goto 11, 3) := by decide +kernel
theorem dL_on_23 : decode cL_on 23 = .ok (.astore 7, 2) := by decide +kernel
theorem dL_on_25 : decode cL_on 25 = .ok (.iconst 1, 1) := by decide +kernel
theorem dL_on_26 : decode cL_on 26 = .ok (.ireturn, 1) := by decide +kernel
theorem dL_on_27 : decode cL_on 27 = .ok (.astore 7, 2) := by decide +kernel
theorem dL_on_29 : decode cL_on 29 = .ok (.iconst 2, 1) := by decide +kernel
theorem dL_on_30 : decode cL_on 30 = .ok (.ireturn, 1) := by decide +kernel
theorem dL_on_31 : decode cL_on 31 = .ok (.iconst 0, 1) := by decide +kernel
theorem dL_on_32 : decode cL_on 32 = .ok (.ireturn, 1) := by decide +kernel
theorem dL_over_0 : decode cL_over 0 = .ok (.aload 6, 2) := by decide +kernel
theorem dL_over_2 : decode cL_over 2 = .ok (.iconst 0, 1) := by decide +kernel
theorem dL_over_3 : decode cL_over 3 = .ok (.aload_n 0, 1) := by decide +kernel
theorem dL_over_4 : decode cL_over 4 = .ok (.lload_n 1, 1) := by decide +kernel
theorem dL_over_5 : decode cL_over 5 = .ok (.lload_n 3, 1) := by decide +kernel
theorem dL_over_6 : decode cL_over 6 = .ok (.iload 5, 2) := by decide +kernel
theorem dL_over_8 : decode cL_over 8 = .ok (.invokevirtual 46, 3) := by decide +kernel
theorem dL_over_11 : decode cL_over 11 = .ok (.lastore, 1) := by decide +kernel
theorem dL_over_12 : decode cL_over 12 = .ok (.goto 11, 3) := by decide +kernel
theorem dL_over_15 : decode cL_over 15 = .ok (.astore 7, 2) := by decide +kernel
theorem dL_over_17 : decode cL_over 17 = .ok (.iconst 1, 1) := by decide +kernel
theorem dL_over_18 : decode cL_over 18 = .ok (.ireturn, 1) := by decide +kernel
theorem dL_over_19 : decode cL_over 19 = .ok (.astore 7, 2) := by decide +kernel
theorem dL_over_21 : decode cL_over 21 = .ok (.iconst 2, 1) := by decide +kernel
theorem dL_over_22 : decode cL_over 22 = .ok (.ireturn, 1) := by decide +kernel
theorem dL_over_23 : decode cL_over 23 = .ok (.iconst 0, 1) := by decide +kernel
theorem dL_over_24 : decode cL_over 24 = .ok (.ireturn, 1) := by decide +kernel
theorem dL_root_0 : decode cL_root 0 = .ok (.aload 4, 2) := by decide +kernel
theorem dL_root_2 : decode cL_root 2 = .ok (.iconst 0, 1) := by decide +kernel
theorem dL_root_3 : decode cL_root 3 = .ok (.aload_n 0, 1) := by decide +kernel
theorem dL_root_4 : decode cL_root 4 = .ok (.lload_n 1, 1) := by decide +kernel
theorem dL_root_5 : decode cL_root 5 = .ok (.iload_n 3, 1) := by decide +kernel
theorem dL_root_6 : decode cL_root 6 = .ok (.invokevirtual 52, 3) := by decide +kernel
theorem dL_root_9 : decode cL_root 9 = .ok (.lastore, 1) := by decide +kernel
theorem dL_root_10 : decode cL_root 10 = .ok (.goto 11, 3) := by decide +kernel
theorem dL_root_13 : decode cL_root 13 = .ok (.astore 5, 2) := by decide +kernel
theorem dL_root_15 : decode cL_root 15 = .ok (.iconst 1, 1) := by decide +kernel
theorem dL_root_16 : decode cL_root 16 = .ok (.ireturn, 1) := by decide +kernel
theorem dL_root_17 : decode cL_root 17 = .ok (.astore 5, 2) := by decide +kernel
theorem dL_root_19 : decode cL_root 19 = .ok (.iconst 2, 1) := by decide +kernel
theorem dL_root_20 : decode cL_root 20 = .ok (.ireturn, 1) := by decide +kernel
theorem dL_root_21 : decode cL_root 21 = .ok (.iconst 0, 1) := by decide +kernel
theorem dL_root_22 : decode cL_root 22 = .ok (.ireturn, 1) := by decide +kernel
theorem dL_corner_0 : decode cL_corner 0 = .ok (.aload 5, 2) := by decide +kernel
theorem dL_corner_2 : decode cL_corner 2 = .ok (.iconst 0, 1) := by decide +kernel
theorem dL_corner_3 : decode cL_corner 3 = .ok (.aload_n 0, 1) := by decide +kernel
theorem dL_corner_4 : decode cL_corner 4 = .ok (.lload_n 1, 1) := by decide +kernel
theorem dL_corner_5 : decode cL_corner 5 = .ok (.lload_n 3, 1) := by decide +kernel
theorem dL_corner_6 : decode cL_corner 6 = .ok (.invokevirtual 56, 3) := by decide +kernel
theorem dL_corner_9 : decode cL_corner 9 = .ok (.ifCond .eq 7, 3) := by decide +kernel
theorem dL_corner_12 : decode cL_corner 12 = .ok (.lconst 1, 1) := by decide +kernel
theorem dL_corner_13 : decode cL_corner 13 = .ok (.goto 4, 3) := by decide +kernel
theorem dL_corner_16 : decode cL_corner 16 = .ok (.lconst 0, 1) := by decide +kernel
theorem dL_corner_17 : decode cL_corner 17 = .ok (.lastore, 1) := by decide +kernel
theorem dL_corner_18 : decode cL_corner 18 = .ok (.goto 7, 3) := by decide +kernel
theorem dL_corner_21 : decode cL_corner 21 = .ok (.astore 6, 2) := by decide +kernel
theorem dL_corner_23 : decode cL_corner 23 = .ok (.iconst 1, 1) := by decide +kernel
theorem dL_corner_24 : decode cL_corner 24 = .ok (.ireturn, 1) := by decide +kernel
theorem dL_corner_25 : decode cL_corner 25 = .ok (.iconst 0, 1) := by decide +kernel
theorem dL_corner_26 : decode cL_corner 26 = .ok (.ireturn, 1) := by decide +kernel
theorem dL_area_0 : decode cL_area 0 = .ok (.aload_n 2, 1) := by decide +kernel
theorem dL_area_1 : decode cL_area 1 = .ok (.iconst 0, 1) := by decide +kernel
theorem dL_area_2 : decode cL_area 2 = .ok (.aload_n 0, 1) := by decide +kernel
theorem dL_area_3 : decode cL_area 3 = .ok (.iload_n 1, 1) := by decide +kernel
theorem dL_area_4 : decode cL_area 4 = .ok (.invokevirtual 60, 3) := by decide +kernel
theorem dL_area_7 : decode cL_area 7 = .ok (.lastore, 1) := by decide +kernel
theorem dL_area_8 : decode cL_area 8 = .ok (.goto 6, 3) := by decide +kernel
theorem dL_area_11 : decode cL_area 11 = .ok (.astore_n 3, 1) := by decide +kernel
theorem dL_area_12 : decode cL_area 12 = .ok (.iconst 1, 1) := by decide +kernel
theorem dL_area_13 : decode cL_area 13 = .ok (.ireturn, 1) := by decide +kernel
theorem dL_area_14 : decode cL_area 14 = .ok (.iconst 0, 1) := by decide +kernel
theorem dL_area_15 : decode cL_area 15 = .ok (.ireturn, 1) := by decide +kernel
