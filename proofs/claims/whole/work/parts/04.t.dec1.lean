theorem dX1_init_0 : decode cX1_init 0 = .ok (.aload_n 0, 1) := by decide +kernel
theorem dX1_init_1 : decode cX1_init 1 = .ok (.invokespecial 1, 3) := by decide +kernel
theorem dX1_init_4 : decode cX1_init 4 = .ok (.aload_n 0, 1) := by decide +kernel
theorem dX1_init_5 : decode cX1_init 5 = .ok (.new 7, 3) := by decide +kernel
theorem dX1_init_8 : decode cX1_init 8 = .ok (.dup, 1) := by decide +kernel
theorem dX1_init_9 : decode cX1_init 9 = .ok (.invokespecial 9, 3) := by decide +kernel
theorem dX1_init_12 : decode cX1_init 12 = .ok (.putfield 10, 3) := by decide +kernel
theorem dX1_init_15 : decode cX1_init 15 = .ok (.aload_n 0, 1) := by decide +kernel
theorem dX1_init_16 : decode cX1_init 16 = .ok (.new 16, 3) := by decide +kernel
theorem dX1_init_19 : decode cX1_init 19 = .ok (.dup, 1) := by decide +kernel
theorem dX1_init_20 : decode cX1_init 20 = .ok (.invokespecial 18, 3) := by decide +kernel
theorem dX1_init_23 : decode cX1_init 23 = .ok (.putfield 19, 3) := by decide +kernel
theorem dX1_init_26 : decode cX1_init 26 = .ok (.aload_n 0, 1) := by decide +kernel
theorem dX1_init_27 : decode cX1_init 27 = .ok (.new 23, 3) := by decide +kernel
theorem dX1_init_30 : decode cX1_init 30 = .ok (.dup, 1) := by decide +kernel
theorem dX1_init_31 : decode cX1_init 31 = .ok (.invokespecial 25, 3) := by decide +kernel
theorem dX1_init_34 : decode cX1_init 34 = .ok (.putfield 26, 3) := by decide +kernel
theorem dX1_init_37 : decode cX1_init 37 = .ok (.aload_n 0, 1) := by decide +kernel
theorem dX1_init_38 : decode cX1_init 38 = .ok (.new 23, 3) := by decide +kernel
theorem dX1_init_41 : decode cX1_init 41 = .ok (.dup, 1) := by decide +kernel
theorem dX1_init_42 : decode cX1_init 42 = .ok (.invokespecial 25, 3) := by decide +kernel
theorem dX1_init_45 : decode cX1_init 45 = .ok (.putfield 30, 3) := by decide +kernel
theorem dX1_init_48 : decode cX1_init 48 = .ok (.aload_n 0, 1) := by decide +kernel
theorem dX1_init_49 : decode cX1_init 49 = .ok (.new 23, 3) := by decide +kernel
theorem dX1_init_52 : decode cX1_init 52 = .ok (.dup, 1) := by decide +kernel
theorem dX1_init_53 : decode cX1_init 53 = .ok (.invokespecial 25, 3) := by decide +kernel
theorem dX1_init_56 : decode cX1_init 56 = .ok (.putfield 33, 3) := by decide +kernel
theorem dX1_init_59 : decode cX1_init 59 = .ok (.aload_n 0, 1) := by decide +kernel
theorem dX1_init_60 : decode cX1_init 60 = .ok (.new 36, 3) := by decide +kernel
theorem dX1_init_63 : decode cX1_init 63 = .ok (.dup, 1) := by decide +kernel
theorem dX1_init_64 : decode cX1_init 64 = .ok (.invokespecial 38, 3) := by decide +kernel
theorem dX1_init_67 : decode cX1_init 67 = .ok (.putfield 39, 3) := by decide +kernel
theorem dX1_init_70 : decode cX1_init 70 = .ok (.aload_n 0, 1) := by decide +kernel
theorem dX1_init_71 : decode cX1_init 71 = .ok (.new 16, 3) := by decide +kernel
theorem dX1_init_74 : decode cX1_init 74 = .ok (.dup, 1) := by decide +kernel
theorem dX1_init_75 : decode cX1_init 75 = .ok (.invokespecial 18, 3) := by decide +kernel
theorem dX1_init_78 : decode cX1_init 78 = .ok (.putfield 43, 3) := by decide +kernel
theorem dX1_init_81 : decode cX1_init 81 = .ok (.aload_n 0, 1) := by decide +kernel
theorem dX1_init_82 : decode cX1_init 82 = .ok (.new 16, 3) := by decide +kernel
theorem dX1_init_85 : decode cX1_init 85 = .ok (.dup, 1) := by decide +kernel
theorem dX1_init_86 : decode cX1_init 86 = .ok (.invokespecial 18, 3) := by decide +kernel
theorem dX1_init_89 : decode cX1_init 89 = .ok (.putfield 46, 3) := by decide +kernel
theorem dX1_init_92 : decode cX1_init 92 = .ok (.aload_n 0, 1) := by decide +kernel
theorem dX1_init_93 : decode cX1_init 93 = .ok (.new 16, 3) := by decide +kernel
theorem dX1_init_96 : decode cX1_init 96 = .ok (.dup, 1) := by decide +kernel
theorem dX1_init_97 : decode cX1_init 97 = .ok (.invokespecial 18, 3) := by decide +kernel
theorem dX1_init_100 : decode cX1_init 100 = .ok (.putfield 49, 3) := by decide +kernel
theorem dX1_init_103 : decode cX1_init 103 = .ok (.aload_n 0, 1) := by decide +kernel
theorem dX1_init_104 : decode cX1_init 104 = .ok (.new 16, 3) := by decide +kernel
theorem dX1_init_107 : decode cX1_init 107 = .ok (.dup, 1) := by decide +kernel
theorem dX1_init_108 : decode cX1_init 108 = .ok (.invokespecial 18, 3) := by decide +kernel
theorem dX1_init_111 : decode cX1_init 111 = .ok (.putfield 52, 3) := by decide +kernel
theorem dX1_init_114 : decode cX1_init 114 = .ok (.return_, 1) := by decide +kernel
theorem dX1_forget_0 : decode cX1_forget 0 = .ok (.aload_n 0, 1) := by decide +kernel
theorem dX1_forget_1 : decode cX1_forget 1 = .ok (.iconst 0, 1) := by decide +kernel
theorem dX1_forget_2 : decode cX1_forget 2 = .ok (.putfield 55, 3) := by decide +kernel
theorem dX1_forget_5 : decode cX1_forget 5 = .ok (.aload_n 0, 1) := by decide +kernel
theorem dX1_forget_6 : decode cX1_forget 6 = .ok (.iconst 0, 1) := by decide +kernel
theorem dX1_forget_7 : decode cX1_forget 7 = .ok (.putfield 59, 3) := by decide +kernel
theorem dX1_forget_10 : decode cX1_forget 10 = .ok (.return_, 1) := by decide +kernel
theorem dX1_coordinate_0 : decode cX1_coordinate 0 = .ok (.iload_n 1, 1) := by decide +kernel
theorem dX1_coordinate_1 : decode cX1_coordinate 1 = .ok (.ifCond .ne 10, 3) := by decide +kernel
theorem dX1_coordinate_4 : decode cX1_coordinate 4 = .ok (.aload_n 0, 1) := by decide +kernel
theorem dX1_coordinate_5 : decode cX1_coordinate 5 = .ok (.getfield 26, 3) := by decide +kernel
theorem dX1_coordinate_8 : decode cX1_coordinate 8 = .ok (.goto 7, 3) := by decide +kernel
theorem dX1_coordinate_11 : decode cX1_coordinate 11 = .ok (.aload_n 0, 1) := by decide +kernel
theorem dX1_coordinate_12 : decode cX1_coordinate 12 = .ok (.getfield 30, 3) := by decide +kernel
theorem dX1_coordinate_15 : decode cX1_coordinate 15 = .ok (.astore 4, 2) := by decide +kernel
theorem dX1_coordinate_17 : decode cX1_coordinate 17 = .ok (.iload_n 2, 1) := by decide +kernel
theorem dX1_coordinate_18 : decode cX1_coordinate 18 = .ok (.ifCond .ne 28, 3) := by decide +kernel
theorem dX1_coordinate_21 : decode cX1_coordinate 21 = .ok (.aload_n 0, 1) := by decide +kernel
theorem dX1_coordinate_22 : decode cX1_coordinate 22 = .ok (.getfield 63, 3) := by decide +kernel
theorem dX1_coordinate_25 : decode cX1_coordinate 25 = .ok (.aload_n 0, 1) := by decide +kernel
theorem dX1_coordinate_26 : decode cX1_coordinate 26 = .ok (.getfield 10, 3) := by decide +kernel
theorem dX1_coordinate_29 : decode cX1_coordinate 29 = .ok (.aload 4, 2) := by decide +kernel
theorem dX1_coordinate_31 : decode cX1_coordinate 31 = .ok (.getfield 67, 3) := by decide +kernel
theorem dX1_coordinate_34 : decode cX1_coordinate 34 = .ok (.aload_n 0, 1) := by decide +kernel
theorem dX1_coordinate_35 : decode cX1_coordinate 35 = .ok (.getfield 19, 3) := by decide +kernel
theorem dX1_coordinate_38 : decode cX1_coordinate 38 = .ok (.iload_n 3, 1) := by decide +kernel
theorem dX1_coordinate_39 : decode cX1_coordinate 39 = .ok (.invokevirtual 70, 3) := by decide +kernel
theorem dX1_coordinate_42 : decode cX1_coordinate 42 = .ok (.ladd, 1) := by decide +kernel
theorem dX1_coordinate_43 : decode cX1_coordinate 43 = .ok (.goto 25, 3) := by decide +kernel
theorem dX1_coordinate_46 : decode cX1_coordinate 46 = .ok (.aload_n 0, 1) := by decide +kernel
theorem dX1_coordinate_47 : decode cX1_coordinate 47 = .ok (.getfield 74, 3) := by decide +kernel
theorem dX1_coordinate_50 : decode cX1_coordinate 50 = .ok (.aload_n 0, 1) := by decide +kernel
theorem dX1_coordinate_51 : decode cX1_coordinate 51 = .ok (.getfield 10, 3) := by decide +kernel
theorem dX1_coordinate_54 : decode cX1_coordinate 54 = .ok (.aload 4, 2) := by decide +kernel
theorem dX1_coordinate_56 : decode cX1_coordinate 56 = .ok (.getfield 77, 3) := by decide +kernel
theorem dX1_coordinate_59 : decode cX1_coordinate 59 = .ok (.aload_n 0, 1) := by decide +kernel
theorem dX1_coordinate_60 : decode cX1_coordinate 60 = .ok (.getfield 19, 3) := by decide +kernel
theorem dX1_coordinate_63 : decode cX1_coordinate 63 = .ok (.iload_n 3, 1) := by decide +kernel
theorem dX1_coordinate_64 : decode cX1_coordinate 64 = .ok (.invokevirtual 70, 3) := by decide +kernel
theorem dX1_coordinate_67 : decode cX1_coordinate 67 = .ok (.ladd, 1) := by decide +kernel
theorem dX1_coordinate_68 : decode cX1_coordinate 68 = .ok (.lreturn, 1) := by decide +kernel
theorem dX1_ofSegments_0 : decode cX1_ofSegments 0 = .ok (.aload_n 2, 1) := by decide +kernel
theorem dX1_ofSegments_1 : decode cX1_ofSegments 1 = .ok (.getfield 80, 3) := by decide +kernel
theorem dX1_ofSegments_4 : decode cX1_ofSegments 4 = .ok (.aload_n 1, 1) := by decide +kernel
theorem dX1_ofSegments_5 : decode cX1_ofSegments 5 = .ok (.getfield 80, 3) := by decide +kernel
theorem dX1_ofSegments_8 : decode cX1_ofSegments 8 = .ok (.lsub, 1) := by decide +kernel
theorem dX1_ofSegments_9 : decode cX1_ofSegments 9 = .ok (.lstore_n 3, 1) := by decide +kernel
theorem dX1_ofSegments_10 : decode cX1_ofSegments 10 = .ok (.aload_n 2, 1) := by decide +kernel
theorem dX1_ofSegments_11 : decode cX1_ofSegments 11 = .ok (.getfield 85, 3) := by decide +kernel
theorem dX1_ofSegments_14 : decode cX1_ofSegments 14 = .ok (.aload_n 1, 1) := by decide +kernel
theorem dX1_ofSegments_15 : decode cX1_ofSegments 15 = .ok (.getfield 85, 3) := by decide +kernel
theorem dX1_ofSegments_18 : decode cX1_ofSegments 18 = .ok (.lsub, 1) := by decide +kernel
theorem dX1_ofSegments_19 : decode cX1_ofSegments 19 = .ok (.lstore 5, 2) := by decide +kernel
theorem dX1_ofSegments_21 : decode cX1_ofSegments 21 = .ok (.aload_n 0, 1) := by decide +kernel
theorem dX1_ofSegments_22 : decode cX1_ofSegments 22 = .ok (.getfield 19, 3) := by decide +kernel
theorem dX1_ofSegments_25 : decode cX1_ofSegments 25 = .ok (.aload_n 1, 1) := by decide +kernel
theorem dX1_ofSegments_26 : decode cX1_ofSegments 26 = .ok (.getfield 88, 3) := by decide +kernel
theorem dX1_ofSegments_29 : decode cX1_ofSegments 29 = .ok (.aload_n 1, 1) := by decide +kernel
theorem dX1_ofSegments_30 : decode cX1_ofSegments 30 = .ok (.getfield 91, 3) := by decide +kernel
theorem dX1_ofSegments_33 : decode cX1_ofSegments 33 = .ok (.aload_n 2, 1) := by decide +kernel
theorem dX1_ofSegments_34 : decode cX1_ofSegments 34 = .ok (.getfield 88, 3) := by decide +kernel
theorem dX1_ofSegments_37 : decode cX1_ofSegments 37 = .ok (.aload_n 2, 1) := by decide +kernel
theorem dX1_ofSegments_38 : decode cX1_ofSegments 38 = .ok (.getfield 91, 3) := by decide +kernel
theorem dX1_ofSegments_41 : decode cX1_ofSegments 41 = .ok (.invokevirtual 94, 3) := by decide +kernel
theorem dX1_ofSegments_44 : decode cX1_ofSegments 44 = .ok (.aload_n 0, 1) := by decide +kernel
theorem dX1_ofSegments_45 : decode cX1_ofSegments 45 = .ok (.getfield 46, 3) := by decide +kernel
theorem dX1_ofSegments_48 : decode cX1_ofSegments 48 = .ok (.lload_n 3, 1) := by decide +kernel
theorem dX1_ofSegments_49 : decode cX1_ofSegments 49 = .ok (.lload 5, 2) := by decide +kernel
theorem dX1_ofSegments_51 : decode cX1_ofSegments 51 = .ok (.aload_n 2, 1) := by decide +kernel
theorem dX1_ofSegments_52 : decode cX1_ofSegments 52 = .ok (.getfield 88, 3) := by decide +kernel
theorem dX1_ofSegments_55 : decode cX1_ofSegments 55 = .ok (.aload_n 2, 1) := by decide +kernel
theorem dX1_ofSegments_56 : decode cX1_ofSegments 56 = .ok (.getfield 91, 3) := by decide +kernel
theorem dX1_ofSegments_59 : decode cX1_ofSegments 59 = .ok (.invokevirtual 94, 3) := by decide +kernel
theorem dX1_ofSegments_62 : decode cX1_ofSegments 62 = .ok (.aload_n 0, 1) := by decide +kernel
theorem dX1_ofSegments_63 : decode cX1_ofSegments 63 = .ok (.getfield 49, 3) := by decide +kernel
theorem dX1_ofSegments_66 : decode cX1_ofSegments 66 = .ok (.lload_n 3, 1) := by decide +kernel
theorem dX1_ofSegments_67 : decode cX1_ofSegments 67 = .ok (.lload 5, 2) := by decide +kernel
theorem dX1_ofSegments_69 : decode cX1_ofSegments 69 = .ok (.aload_n 1, 1) := by decide +kernel
theorem dX1_ofSegments_70 : decode cX1_ofSegments 70 = .ok (.getfield 88, 3) := by decide +kernel
theorem dX1_ofSegments_73 : decode cX1_ofSegments 73 = .ok (.aload_n 1, 1) := by decide +kernel
theorem dX1_ofSegments_74 : decode cX1_ofSegments 74 = .ok (.getfield 91, 3) := by decide +kernel
theorem dX1_ofSegments_77 : decode cX1_ofSegments 77 = .ok (.invokevirtual 94, 3) := by decide +kernel
theorem dX1_ofSegments_80 : decode cX1_ofSegments 80 = .ok (.aload_n 0, 1) := by decide +kernel
theorem dX1_ofSegments_81 : decode cX1_ofSegments 81 = .ok (.iconst 1, 1) := by decide +kernel
theorem dX1_ofSegments_82 : decode cX1_ofSegments 82 = .ok (.putfield 55, 3) := by decide +kernel
theorem dX1_ofSegments_85 : decode cX1_ofSegments 85 = .ok (.aload_n 0, 1) := by decide +kernel
theorem dX1_ofSegments_86 : decode cX1_ofSegments 86 = .ok (.getfield 19, 3) := by decide +kernel
theorem dX1_ofSegments_89 : decode cX1_ofSegments 89 = .ok (.invokevirtual 98, 3) := by decide +kernel
theorem dX1_ofSegments_92 : decode cX1_ofSegments 92 = .ok (.ifCond .ne 20, 3) := by decide +kernel
theorem dX1_ofSegments_95 : decode cX1_ofSegments 95 = .ok (.aload_n 0, 1) := by decide +kernel
theorem dX1_ofSegments_96 : decode cX1_ofSegments 96 = .ok (.getfield 49, 3) := by decide +kernel
theorem dX1_ofSegments_99 : decode cX1_ofSegments 99 = .ok (.invokevirtual 98, 3) := by decide +kernel
theorem dX1_ofSegments_102 : decode cX1_ofSegments 102 = .ok (.ifCond .ne 9, 3) := by decide +kernel
theorem dX1_ofSegments_105 : decode cX1_ofSegments 105 = .ok (.aload_n 0, 1) := by decide +kernel
theorem dX1_ofSegments_106 : decode cX1_ofSegments 106 = .ok (.aload_n 1, 1) := by decide +kernel
theorem dX1_ofSegments_107 : decode cX1_ofSegments 107 = .ok (.aload_n 2, 1) := by decide +kernel
theorem dX1_ofSegments_108 : decode cX1_ofSegments 108 = .ok (.invokevirtual 102, 3) := by decide +kernel
theorem dX1_ofSegments_111 : decode cX1_ofSegments 111 = .ok (.return_, 1) := by decide +kernel
theorem dX1_ofSegments_112 : decode cX1_ofSegments 112 = .ok (.aload_n 0, 1) := by decide +kernel
theorem dX1_ofSegments_113 : decode cX1_ofSegments 113 = .ok (.getfield 19, 3) := by decide +kernel
theorem dX1_ofSegments_116 : decode cX1_ofSegments 116 = .ok (.invokevirtual 98, 3) := by decide +kernel
theorem dX1_ofSegments_119 : decode cX1_ofSegments 119 = .ok (.ifCond .ge 24, 3) := by decide +kernel
theorem dX1_ofSegments_122 : decode cX1_ofSegments 122 = .ok (.aload_n 0, 1) := by decide +kernel
theorem dX1_ofSegments_123 : decode cX1_ofSegments 123 = .ok (.getfield 19, 3) := by decide +kernel
theorem dX1_ofSegments_126 : decode cX1_ofSegments 126 = .ok (.invokevirtual 106, 3) := by decide +kernel
theorem dX1_ofSegments_129 : decode cX1_ofSegments 129 = .ok (.aload_n 0, 1) := by decide +kernel
theorem dX1_ofSegments_130 : decode cX1_ofSegments 130 = .ok (.getfield 46, 3) := by decide +kernel
theorem dX1_ofSegments_133 : decode cX1_ofSegments 133 = .ok (.invokevirtual 106, 3) := by decide +kernel
theorem dX1_ofSegments_136 : decode cX1_ofSegments 136 = .ok (.aload_n 0, 1) := by decide +kernel
theorem dX1_ofSegments_137 : decode cX1_ofSegments 137 = .ok (.getfield 49, 3) := by decide +kernel
theorem dX1_ofSegments_140 : decode cX1_ofSegments 140 = .ok (.invokevirtual 106, 3) := by decide +kernel
theorem dX1_ofSegments_143 : decode cX1_ofSegments 143 = .ok (.aload_n 0, 1) := by decide +kernel
theorem dX1_ofSegments_144 : decode cX1_ofSegments 144 = .ok (.aload_n 0, 1) := by decide +kernel
theorem dX1_ofSegments_145 : decode cX1_ofSegments 145 = .ok (.getfield 46, 3) := by decide +kernel
theorem dX1_ofSegments_148 : decode cX1_ofSegments 148 = .ok (.invokevirtual 109, 3) := by decide +kernel
theorem dX1_ofSegments_151 : decode cX1_ofSegments 151 = .ok (.ifCond .eq 53, 3) := by decide +kernel
theorem dX1_ofSegments_154 : decode cX1_ofSegments 154 = .ok (.aload_n 0, 1) := by decide +kernel
theorem dX1_ofSegments_155 : decode cX1_ofSegments 155 = .ok (.aload_n 0, 1) := by decide +kernel
theorem dX1_ofSegments_156 : decode cX1_ofSegments 156 = .ok (.getfield 49, 3) := by decide +kernel
theorem dX1_ofSegments_159 : decode cX1_ofSegments 159 = .ok (.invokevirtual 109, 3) := by decide +kernel
theorem dX1_ofSegments_162 : decode cX1_ofSegments 162 = .ok (.ifCond .eq 42, 3) := by decide +kernel
theorem dX1_ofSegments_165 : decode cX1_ofSegments 165 = .ok (.aload_n 0, 1) := by decide +kernel
theorem dX1_ofSegments_166 : decode cX1_ofSegments 166 = .ok (.aload_n 1, 1) := by decide +kernel
theorem dX1_ofSegments_167 : decode cX1_ofSegments 167 = .ok (.getfield 80, 3) := by decide +kernel
theorem dX1_ofSegments_170 : decode cX1_ofSegments 170 = .ok (.aload_n 1, 1) := by decide +kernel
theorem dX1_ofSegments_171 : decode cX1_ofSegments 171 = .ok (.getfield 85, 3) := by decide +kernel
theorem dX1_ofSegments_174 : decode cX1_ofSegments 174 = .ok (.invokevirtual 113, 3) := by decide +kernel
theorem dX1_ofSegments_177 : decode cX1_ofSegments 177 = .ok (.aload_n 0, 1) := by decide +kernel
theorem dX1_ofSegments_178 : decode cX1_ofSegments 178 = .ok (.aload_n 0, 1) := by decide +kernel
theorem dX1_ofSegments_179 : decode cX1_ofSegments 179 = .ok (.getfield 26, 3) := by decide +kernel
theorem dX1_ofSegments_182 : decode cX1_ofSegments 182 = .ok (.aload_n 0, 1) := by decide +kernel
theorem dX1_ofSegments_183 : decode cX1_ofSegments 183 = .ok (.getfield 46, 3) := by decide +kernel
theorem dX1_ofSegments_186 : decode cX1_ofSegments 186 = .ok (.aload_n 1, 1) := by decide +kernel
theorem dX1_ofSegments_187 : decode cX1_ofSegments 187 = .ok (.getfield 88, 3) := by decide +kernel
theorem dX1_ofSegments_190 : decode cX1_ofSegments 190 = .ok (.aload_n 1, 1) := by decide +kernel
theorem dX1_ofSegments_191 : decode cX1_ofSegments 191 = .ok (.getfield 91, 3) := by decide +kernel
theorem dX1_ofSegments_194 : decode cX1_ofSegments 194 = .ok (.lconst 0, 1) := by decide +kernel
theorem dX1_ofSegments_195 : decode cX1_ofSegments 195 = .ok (.lconst 0, 1) := by decide +kernel
theorem dX1_ofSegments_196 : decode cX1_ofSegments 196 = .ok (.invokevirtual 117, 3) := by decide +kernel
theorem dX1_ofSegments_199 : decode cX1_ofSegments 199 = .ok (.aload_n 0, 1) := by decide +kernel
theorem dX1_ofSegments_200 : decode cX1_ofSegments 200 = .ok (.iconst 1, 1) := by decide +kernel
theorem dX1_ofSegments_201 : decode cX1_ofSegments 201 = .ok (.putfield 59, 3) := by decide +kernel
theorem dX1_ofSegments_204 : decode cX1_ofSegments 204 = .ok (.return_, 1) := by decide +kernel
theorem dX1_isPartOfBelow_0 : decode cX1_isPartOfBelow 0 = .ok (.aload_n 1, 1) := by decide +kernel
theorem dX1_isPartOfBelow_1 : decode cX1_isPartOfBelow 1 = .ok (.invokevirtual 98, 3) := by decide +kernel
theorem dX1_isPartOfBelow_4 : decode cX1_isPartOfBelow 4 = .ok (.ifCond .lt 18, 3) := by decide +kernel
theorem dX1_isPartOfBelow_7 : decode cX1_isPartOfBelow 7 = .ok (.aload_n 1, 1) := by decide +kernel
theorem dX1_isPartOfBelow_8 : decode cX1_isPartOfBelow 8 = .ok (.aload_n 0, 1) := by decide +kernel
theorem dX1_isPartOfBelow_9 : decode cX1_isPartOfBelow 9 = .ok (.getfield 19, 3) := by decide +kernel
theorem dX1_isPartOfBelow_12 : decode cX1_isPartOfBelow 12 = .ok (.invokevirtual 121, 3) := by decide +kernel
theorem dX1_isPartOfBelow_15 : decode cX1_isPartOfBelow 15 = .ok (.ifCond .gt 7, 3) := by decide +kernel
theorem dX1_isPartOfBelow_18 : decode cX1_isPartOfBelow 18 = .ok (.iconst 1, 1) := by decide +kernel
theorem dX1_isPartOfBelow_19 : decode cX1_isPartOfBelow 19 = .ok (.goto 4, 3) := by decide +kernel
theorem dX1_isPartOfBelow_22 : decode cX1_isPartOfBelow 22 = .ok (.iconst 0, 1) := by decide +kernel
theorem dX1_isPartOfBelow_23 : decode cX1_isPartOfBelow 23 = .ok (.ireturn, 1) := by decide +kernel
theorem dX1_ofSegmentsOnOneLine_0 : decode cX1_ofSegmentsOnOneLine 0 = .ok (.aload_n 1, 1) := by decide +kernel
theorem dX1_ofSegmentsOnOneLine_1 : decode cX1_ofSegmentsOnOneLine 1 = .ok (.aload_n 1, 1) := by decide +kernel
theorem dX1_ofSegmentsOnOneLine_2 : decode cX1_ofSegmentsOnOneLine 2 = .ok (.getfield 80, 3) := by decide +kernel
theorem dX1_ofSegmentsOnOneLine_5 : decode cX1_ofSegmentsOnOneLine 5 = .ok (.aload_n 1, 1) := by decide +kernel
theorem dX1_ofSegmentsOnOneLine_6 : decode cX1_ofSegmentsOnOneLine 6 = .ok (.getfield 85, 3) := by decide +kernel
theorem dX1_ofSegmentsOnOneLine_9 : decode cX1_ofSegmentsOnOneLine 9 = .ok (.invokevirtual 125, 3) := by decide +kernel
theorem dX1_ofSegmentsOnOneLine_12 : decode cX1_ofSegmentsOnOneLine 12 = .ok (.lstore_n 3, 1) := by decide +kernel
theorem dX1_ofSegmentsOnOneLine_13 : decode cX1_ofSegmentsOnOneLine 13 = .ok (.aload_n 1, 1) := by decide +kernel
theorem dX1_ofSegmentsOnOneLine_14 : decode cX1_ofSegmentsOnOneLine 14 = .ok (.aload_n 1, 1) := by decide +kernel
theorem dX1_ofSegmentsOnOneLine_15 : decode cX1_ofSegmentsOnOneLine 15 = .ok (.getfield 128, 3) := by decide +kernel
theorem dX1_ofSegmentsOnOneLine_18 : decode cX1_ofSegmentsOnOneLine 18 = .ok (.aload_n 1, 1) := by decide +kernel
theorem dX1_ofSegmentsOnOneLine_19 : decode cX1_ofSegmentsOnOneLine 19 = .ok (.getfield 131, 3) := by decide +kernel
theorem dX1_ofSegmentsOnOneLine_22 : decode cX1_ofSegmentsOnOneLine 22 = .ok (.invokevirtual 125, 3) := by decide +kernel
theorem dX1_ofSegmentsOnOneLine_25 : decode cX1_ofSegmentsOnOneLine 25 = .ok (.lstore 5, 2) := by decide +kernel
theorem dX1_ofSegmentsOnOneLine_27 : decode cX1_ofSegmentsOnOneLine 27 = .ok (.aload_n 1, 1) := by decide +kernel
theorem dX1_ofSegmentsOnOneLine_28 : decode cX1_ofSegmentsOnOneLine 28 = .ok (.aload_n 2, 1) := by decide +kernel
theorem dX1_ofSegmentsOnOneLine_29 : decode cX1_ofSegmentsOnOneLine 29 = .ok (.getfield 80, 3) := by decide +kernel
theorem dX1_ofSegmentsOnOneLine_32 : decode cX1_ofSegmentsOnOneLine 32 = .ok (.aload_n 2, 1) := by decide +kernel
theorem dX1_ofSegmentsOnOneLine_33 : decode cX1_ofSegmentsOnOneLine 33 = .ok (.getfield 85, 3) := by decide +kernel
theorem dX1_ofSegmentsOnOneLine_36 : decode cX1_ofSegmentsOnOneLine 36 = .ok (.invokevirtual 125, 3) := by decide +kernel
theorem dX1_ofSegmentsOnOneLine_39 : decode cX1_ofSegmentsOnOneLine 39 = .ok (.lstore 7, 2) := by decide +kernel
theorem dX1_ofSegmentsOnOneLine_41 : decode cX1_ofSegmentsOnOneLine 41 = .ok (.aload_n 1, 1) := by decide +kernel
theorem dX1_ofSegmentsOnOneLine_42 : decode cX1_ofSegmentsOnOneLine 42 = .ok (.aload_n 2, 1) := by decide +kernel
theorem dX1_ofSegmentsOnOneLine_43 : decode cX1_ofSegmentsOnOneLine 43 = .ok (.getfield 128, 3) := by decide +kernel
theorem dX1_ofSegmentsOnOneLine_46 : decode cX1_ofSegmentsOnOneLine 46 = .ok (.aload_n 2, 1) := by decide +kernel
theorem dX1_ofSegmentsOnOneLine_47 : decode cX1_ofSegmentsOnOneLine 47 = .ok (.getfield 131, 3) := by decide +kernel
theorem dX1_ofSegmentsOnOneLine_50 : decode cX1_ofSegmentsOnOneLine 50 = .ok (.invokevirtual 125, 3) := by decide +kernel
theorem dX1_ofSegmentsOnOneLine_53 : decode cX1_ofSegmentsOnOneLine 53 = .ok (.lstore 9, 2) := by decide +kernel
theorem dX1_ofSegmentsOnOneLine_55 : decode cX1_ofSegmentsOnOneLine 55 = .ok (.lload_n 3, 1) := by decide +kernel
theorem dX1_ofSegmentsOnOneLine_56 : decode cX1_ofSegmentsOnOneLine 56 = .ok (.lload 5, 2) := by decide +kernel
theorem dX1_ofSegmentsOnOneLine_58 : decode cX1_ofSegmentsOnOneLine 58 = .ok (.invokestatic 134, 3) := by decide +kernel
theorem dX1_ofSegmentsOnOneLine_61 : decode cX1_ofSegmentsOnOneLine 61 = .ok (.lload 7, 2) := by decide +kernel
theorem dX1_ofSegmentsOnOneLine_63 : decode cX1_ofSegmentsOnOneLine 63 = .ok (.lload 9, 2) := by decide +kernel
theorem dX1_ofSegmentsOnOneLine_65 : decode cX1_ofSegmentsOnOneLine 65 = .ok (.invokestatic 134, 3) := by decide +kernel
theorem dX1_ofSegmentsOnOneLine_68 : decode cX1_ofSegmentsOnOneLine 68 = .ok (.invokestatic 139, 3) := by decide +kernel
theorem dX1_ofSegmentsOnOneLine_71 : decode cX1_ofSegmentsOnOneLine 71 = .ok (.lstore 11, 2) := by decide +kernel
theorem dX1_ofSegmentsOnOneLine_73 : decode cX1_ofSegmentsOnOneLine 73 = .ok (.lload_n 3, 1) := by decide +kernel
theorem dX1_ofSegmentsOnOneLine_74 : decode cX1_ofSegmentsOnOneLine 74 = .ok (.lload 5, 2) := by decide +kernel
theorem dX1_ofSegmentsOnOneLine_76 : decode cX1_ofSegmentsOnOneLine 76 = .ok (.invokestatic 139, 3) := by decide +kernel
theorem dX1_ofSegmentsOnOneLine_79 : decode cX1_ofSegmentsOnOneLine 79 = .ok (.lload 7, 2) := by decide +kernel
theorem dX1_ofSegmentsOnOneLine_81 : decode cX1_ofSegmentsOnOneLine 81 = .ok (.lload 9, 2) := by decide +kernel
theorem dX1_ofSegmentsOnOneLine_83 : decode cX1_ofSegmentsOnOneLine 83 = .ok (.invokestatic 139, 3) := by decide +kernel
theorem dX1_ofSegmentsOnOneLine_86 : decode cX1_ofSegmentsOnOneLine 86 = .ok (.invokestatic 134, 3) := by decide +kernel
theorem dX1_ofSegmentsOnOneLine_89 : decode cX1_ofSegmentsOnOneLine 89 = .ok (.lstore 13, 2) := by decide +kernel
theorem dX1_ofSegmentsOnOneLine_91 : decode cX1_ofSegmentsOnOneLine 91 = .ok (.aload_n 0, 1) := by decide +kernel
theorem dX1_ofSegmentsOnOneLine_92 : decode cX1_ofSegmentsOnOneLine 92 = .ok (.lload 11, 2) := by decide +kernel
theorem dX1_ofSegmentsOnOneLine_94 : decode cX1_ofSegmentsOnOneLine 94 = .ok (.lload 13, 2) := by decide +kernel
theorem dX1_ofSegmentsOnOneLine_96 : decode cX1_ofSegmentsOnOneLine 96 = .ok (.lcmp, 1) := by decide +kernel
theorem dX1_ofSegmentsOnOneLine_97 : decode cX1_ofSegmentsOnOneLine 97 = .ok (.ifCond .lt 7, 3) := by decide +kernel
theorem dX1_ofSegmentsOnOneLine_100 : decode cX1_ofSegmentsOnOneLine 100 = .ok (.iconst 1, 1) := by decide +kernel
theorem dX1_ofSegmentsOnOneLine_101 : decode cX1_ofSegmentsOnOneLine 101 = .ok (.goto 4, 3) := by decide +kernel
theorem dX1_ofSegmentsOnOneLine_104 : decode cX1_ofSegmentsOnOneLine 104 = .ok (.iconst 0, 1) := by decide +kernel
theorem dX1_ofSegmentsOnOneLine_105 : decode cX1_ofSegmentsOnOneLine 105 = .ok (.putfield 55, 3) := by decide +kernel
theorem dX1_ofSegmentsOnOneLine_108 : decode cX1_ofSegmentsOnOneLine 108 = .ok (.lload 11, 2) := by decide +kernel
theorem dX1_ofSegmentsOnOneLine_110 : decode cX1_ofSegmentsOnOneLine 110 = .ok (.lload 13, 2) := by decide +kernel
theorem dX1_ofSegmentsOnOneLine_112 : decode cX1_ofSegmentsOnOneLine 112 = .ok (.lcmp, 1) := by decide +kernel
theorem dX1_ofSegmentsOnOneLine_113 : decode cX1_ofSegmentsOnOneLine 113 = .ok (.ifCond .ne 72, 3) := by decide +kernel
theorem dX1_ofSegmentsOnOneLine_116 : decode cX1_ofSegmentsOnOneLine 116 = .ok (.aload_n 0, 1) := by decide +kernel
theorem dX1_ofSegmentsOnOneLine_117 : decode cX1_ofSegmentsOnOneLine 117 = .ok (.lload 11, 2) := by decide +kernel
theorem dX1_ofSegmentsOnOneLine_119 : decode cX1_ofSegmentsOnOneLine 119 = .ok (.lload_n 3, 1) := by decide +kernel
theorem dX1_ofSegmentsOnOneLine_120 : decode cX1_ofSegmentsOnOneLine 120 = .ok (.lcmp, 1) := by decide +kernel
theorem dX1_ofSegmentsOnOneLine_121 : decode cX1_ofSegmentsOnOneLine 121 = .ok (.ifCond .ne 10, 3) := by decide +kernel
theorem dX1_ofSegmentsOnOneLine_124 : decode cX1_ofSegmentsOnOneLine 124 = .ok (.aload_n 1, 1) := by decide +kernel
theorem dX1_ofSegmentsOnOneLine_125 : decode cX1_ofSegmentsOnOneLine 125 = .ok (.getfield 80, 3) := by decide +kernel
theorem dX1_ofSegmentsOnOneLine_128 : decode cX1_ofSegmentsOnOneLine 128 = .ok (.goto 7, 3) := by decide +kernel
theorem dX1_ofSegmentsOnOneLine_131 : decode cX1_ofSegmentsOnOneLine 131 = .ok (.aload_n 1, 1) := by decide +kernel
theorem dX1_ofSegmentsOnOneLine_132 : decode cX1_ofSegmentsOnOneLine 132 = .ok (.getfield 128, 3) := by decide +kernel
theorem dX1_ofSegmentsOnOneLine_135 : decode cX1_ofSegmentsOnOneLine 135 = .ok (.lload 11, 2) := by decide +kernel
theorem dX1_ofSegmentsOnOneLine_137 : decode cX1_ofSegmentsOnOneLine 137 = .ok (.lload_n 3, 1) := by decide +kernel
theorem dX1_ofSegmentsOnOneLine_138 : decode cX1_ofSegmentsOnOneLine 138 = .ok (.lcmp, 1) := by decide +kernel
theorem dX1_ofSegmentsOnOneLine_139 : decode cX1_ofSegmentsOnOneLine 139 = .ok (.ifCond .ne 10, 3) := by decide +kernel
theorem dX1_ofSegmentsOnOneLine_142 : decode cX1_ofSegmentsOnOneLine 142 = .ok (.aload_n 1, 1) := by decide +kernel
theorem dX1_ofSegmentsOnOneLine_143 : decode cX1_ofSegmentsOnOneLine 143 = .ok (.getfield 85, 3) := by decide +kernel
theorem dX1_ofSegmentsOnOneLine_146 : decode cX1_ofSegmentsOnOneLine 146 = .ok (.goto 7, 3) := by decide +kernel
theorem dX1_ofSegmentsOnOneLine_149 : decode cX1_ofSegmentsOnOneLine 149 = .ok (.aload_n 1, 1) := by decide +kernel
theorem dX1_ofSegmentsOnOneLine_150 : decode cX1_ofSegmentsOnOneLine 150 = .ok (.getfield 131, 3) := by decide +kernel
theorem dX1_ofSegmentsOnOneLine_153 : decode cX1_ofSegmentsOnOneLine 153 = .ok (.invokevirtual 113, 3) := by decide +kernel
theorem dX1_ofSegmentsOnOneLine_156 : decode cX1_ofSegmentsOnOneLine 156 = .ok (.aload_n 0, 1) := by decide +kernel
theorem dX1_ofSegmentsOnOneLine_157 : decode cX1_ofSegmentsOnOneLine 157 = .ok (.getfield 19, 3) := by decide +kernel
theorem dX1_ofSegmentsOnOneLine_160 : decode cX1_ofSegmentsOnOneLine 160 = .ok (.lconst 1, 1) := by decide +kernel
theorem dX1_ofSegmentsOnOneLine_161 : decode cX1_ofSegmentsOnOneLine 161 = .ok (.invokevirtual 142, 3) := by decide +kernel
theorem dX1_ofSegmentsOnOneLine_164 : decode cX1_ofSegmentsOnOneLine 164 = .ok (.aload_n 0, 1) := by decide +kernel
theorem dX1_ofSegmentsOnOneLine_165 : decode cX1_ofSegmentsOnOneLine 165 = .ok (.aload_n 0, 1) := by decide +kernel
theorem dX1_ofSegmentsOnOneLine_166 : decode cX1_ofSegmentsOnOneLine 166 = .ok (.getfield 26, 3) := by decide +kernel
theorem dX1_ofSegmentsOnOneLine_169 : decode cX1_ofSegmentsOnOneLine 169 = .ok (.aload_n 0, 1) := by decide +kernel
theorem dX1_ofSegmentsOnOneLine_170 : decode cX1_ofSegmentsOnOneLine 170 = .ok (.getfield 46, 3) := by decide +kernel
theorem dX1_ofSegmentsOnOneLine_173 : decode cX1_ofSegmentsOnOneLine 173 = .ok (.lconst 0, 1) := by decide +kernel
theorem dX1_ofSegmentsOnOneLine_174 : decode cX1_ofSegmentsOnOneLine 174 = .ok (.lconst 0, 1) := by decide +kernel
theorem dX1_ofSegmentsOnOneLine_175 : decode cX1_ofSegmentsOnOneLine 175 = .ok (.lconst 0, 1) := by decide +kernel
theorem dX1_ofSegmentsOnOneLine_176 : decode cX1_ofSegmentsOnOneLine 176 = .ok (.lconst 0, 1) := by decide +kernel
theorem dX1_ofSegmentsOnOneLine_177 : decode cX1_ofSegmentsOnOneLine 177 = .ok (.invokevirtual 117, 3) := by decide +kernel
theorem dX1_ofSegmentsOnOneLine_180 : decode cX1_ofSegmentsOnOneLine 180 = .ok (.aload_n 0, 1) := by decide +kernel
theorem dX1_ofSegmentsOnOneLine_181 : decode cX1_ofSegmentsOnOneLine 181 = .ok (.iconst 1, 1) := by decide +kernel
theorem dX1_ofSegmentsOnOneLine_182 : decode cX1_ofSegmentsOnOneLine 182 = .ok (.putfield 59, 3) := by decide +kernel
theorem dX1_ofSegmentsOnOneLine_185 : decode cX1_ofSegmentsOnOneLine 185 = .ok (.return_, 1) := by decide +kernel
theorem dX1_ofSegmentAndArc_0 : decode cX1_ofSegmentAndArc 0 = .ok (.aload_n 1, 1) := by decide +kernel
theorem dX1_ofSegmentAndArc_1 : decode cX1_ofSegmentAndArc 1 = .ok (.getfield 80, 3) := by decide +kernel
theorem dX1_ofSegmentAndArc_4 : decode cX1_ofSegmentAndArc 4 = .ok (.aload_n 2, 1) := by decide +kernel
theorem dX1_ofSegmentAndArc_5 : decode cX1_ofSegmentAndArc 5 = .ok (.getfield 146, 3) := by decide +kernel
theorem dX1_ofSegmentAndArc_8 : decode cX1_ofSegmentAndArc 8 = .ok (.lsub, 1) := by decide +kernel
theorem dX1_ofSegmentAndArc_9 : decode cX1_ofSegmentAndArc 9 = .ok (.lstore_n 3, 1) := by decide +kernel
theorem dX1_ofSegmentAndArc_10 : decode cX1_ofSegmentAndArc 10 = .ok (.aload_n 1, 1) := by decide +kernel
theorem dX1_ofSegmentAndArc_11 : decode cX1_ofSegmentAndArc 11 = .ok (.getfield 85, 3) := by decide +kernel
theorem dX1_ofSegmentAndArc_14 : decode cX1_ofSegmentAndArc 14 = .ok (.aload_n 2, 1) := by decide +kernel
theorem dX1_ofSegmentAndArc_15 : decode cX1_ofSegmentAndArc 15 = .ok (.getfield 151, 3) := by decide +kernel
theorem dX1_ofSegmentAndArc_18 : decode cX1_ofSegmentAndArc 18 = .ok (.lsub, 1) := by decide +kernel
theorem dX1_ofSegmentAndArc_19 : decode cX1_ofSegmentAndArc 19 = .ok (.lstore 5, 2) := by decide +kernel
theorem dX1_ofSegmentAndArc_21 : decode cX1_ofSegmentAndArc 21 = .ok (.aload_n 0, 1) := by decide +kernel
theorem dX1_ofSegmentAndArc_22 : decode cX1_ofSegmentAndArc 22 = .ok (.iconst 1, 1) := by decide +kernel
theorem dX1_ofSegmentAndArc_23 : decode cX1_ofSegmentAndArc 23 = .ok (.putfield 55, 3) := by decide +kernel
theorem dX1_ofSegmentAndArc_26 : decode cX1_ofSegmentAndArc 26 = .ok (.aload_n 0, 1) := by decide +kernel
theorem dX1_ofSegmentAndArc_27 : decode cX1_ofSegmentAndArc 27 = .ok (.aload_n 2, 1) := by decide +kernel
theorem dX1_ofSegmentAndArc_28 : decode cX1_ofSegmentAndArc 28 = .ok (.getfield 146, 3) := by decide +kernel
theorem dX1_ofSegmentAndArc_31 : decode cX1_ofSegmentAndArc 31 = .ok (.aload_n 2, 1) := by decide +kernel
theorem dX1_ofSegmentAndArc_32 : decode cX1_ofSegmentAndArc 32 = .ok (.getfield 151, 3) := by decide +kernel
theorem dX1_ofSegmentAndArc_35 : decode cX1_ofSegmentAndArc 35 = .ok (.invokevirtual 113, 3) := by decide +kernel
theorem dX1_ofSegmentAndArc_38 : decode cX1_ofSegmentAndArc 38 = .ok (.aload_n 0, 1) := by decide +kernel
theorem dX1_ofSegmentAndArc_39 : decode cX1_ofSegmentAndArc 39 = .ok (.getfield 19, 3) := by decide +kernel
theorem dX1_ofSegmentAndArc_42 : decode cX1_ofSegmentAndArc 42 = .ok (.aload_n 1, 1) := by decide +kernel
theorem dX1_ofSegmentAndArc_43 : decode cX1_ofSegmentAndArc 43 = .ok (.getfield 88, 3) := by decide +kernel
theorem dX1_ofSegmentAndArc_46 : decode cX1_ofSegmentAndArc 46 = .ok (.aload_n 1, 1) := by decide +kernel
theorem dX1_ofSegmentAndArc_47 : decode cX1_ofSegmentAndArc 47 = .ok (.getfield 91, 3) := by decide +kernel
theorem dX1_ofSegmentAndArc_50 : decode cX1_ofSegmentAndArc 50 = .ok (.aload_n 1, 1) := by decide +kernel
theorem dX1_ofSegmentAndArc_51 : decode cX1_ofSegmentAndArc 51 = .ok (.getfield 88, 3) := by decide +kernel
theorem dX1_ofSegmentAndArc_54 : decode cX1_ofSegmentAndArc 54 = .ok (.aload_n 1, 1) := by decide +kernel
theorem dX1_ofSegmentAndArc_55 : decode cX1_ofSegmentAndArc 55 = .ok (.getfield 91, 3) := by decide +kernel
theorem dX1_ofSegmentAndArc_58 : decode cX1_ofSegmentAndArc 58 = .ok (.invokevirtual 154, 3) := by decide +kernel
theorem dX1_ofSegmentAndArc_61 : decode cX1_ofSegmentAndArc 61 = .ok (.aload_n 0, 1) := by decide +kernel
theorem dX1_ofSegmentAndArc_62 : decode cX1_ofSegmentAndArc 62 = .ok (.getfield 46, 3) := by decide +kernel
theorem dX1_ofSegmentAndArc_65 : decode cX1_ofSegmentAndArc 65 = .ok (.lload_n 3, 1) := by decide +kernel
theorem dX1_ofSegmentAndArc_66 : decode cX1_ofSegmentAndArc 66 = .ok (.lload 5, 2) := by decide +kernel
theorem dX1_ofSegmentAndArc_68 : decode cX1_ofSegmentAndArc 68 = .ok (.aload_n 1, 1) := by decide +kernel
theorem dX1_ofSegmentAndArc_69 : decode cX1_ofSegmentAndArc 69 = .ok (.getfield 88, 3) := by decide +kernel
theorem dX1_ofSegmentAndArc_72 : decode cX1_ofSegmentAndArc 72 = .ok (.aload_n 1, 1) := by decide +kernel
theorem dX1_ofSegmentAndArc_73 : decode cX1_ofSegmentAndArc 73 = .ok (.getfield 91, 3) := by decide +kernel
theorem dX1_ofSegmentAndArc_76 : decode cX1_ofSegmentAndArc 76 = .ok (.invokevirtual 154, 3) := by decide +kernel
theorem dX1_ofSegmentAndArc_79 : decode cX1_ofSegmentAndArc 79 = .ok (.aload_n 0, 1) := by decide +kernel
theorem dX1_ofSegmentAndArc_80 : decode cX1_ofSegmentAndArc 80 = .ok (.getfield 49, 3) := by decide +kernel
theorem dX1_ofSegmentAndArc_83 : decode cX1_ofSegmentAndArc 83 = .ok (.aload_n 1, 1) := by decide +kernel
theorem dX1_ofSegmentAndArc_84 : decode cX1_ofSegmentAndArc 84 = .ok (.getfield 88, 3) := by decide +kernel
theorem dX1_ofSegmentAndArc_87 : decode cX1_ofSegmentAndArc 87 = .ok (.aload_n 1, 1) := by decide +kernel
theorem dX1_ofSegmentAndArc_88 : decode cX1_ofSegmentAndArc 88 = .ok (.getfield 91, 3) := by decide +kernel
theorem dX1_ofSegmentAndArc_91 : decode cX1_ofSegmentAndArc 91 = .ok (.lload_n 3, 1) := by decide +kernel
theorem dX1_ofSegmentAndArc_92 : decode cX1_ofSegmentAndArc 92 = .ok (.lload 5, 2) := by decide +kernel
theorem dX1_ofSegmentAndArc_94 : decode cX1_ofSegmentAndArc 94 = .ok (.invokevirtual 94, 3) := by decide +kernel
theorem dX1_ofSegmentAndArc_97 : decode cX1_ofSegmentAndArc 97 = .ok (.aload_n 0, 1) := by decide +kernel
theorem dX1_ofSegmentAndArc_98 : decode cX1_ofSegmentAndArc 98 = .ok (.aload_n 2, 1) := by decide +kernel
theorem dX1_ofSegmentAndArc_99 : decode cX1_ofSegmentAndArc 99 = .ok (.getfield 157, 3) := by decide +kernel
theorem dX1_ofSegmentAndArc_102 : decode cX1_ofSegmentAndArc 102 = .ok (.iconst 0, 1) := by decide +kernel
theorem dX1_ofSegmentAndArc_103 : decode cX1_ofSegmentAndArc 103 = .ok (.aload_n 0, 1) := by decide +kernel
theorem dX1_ofSegmentAndArc_104 : decode cX1_ofSegmentAndArc 104 = .ok (.getfield 49, 3) := by decide +kernel
theorem dX1_ofSegmentAndArc_107 : decode cX1_ofSegmentAndArc 107 = .ok (.invokevirtual 160, 3) := by decide +kernel
theorem dX1_ofSegmentAndArc_110 : decode cX1_ofSegmentAndArc 110 = .ok (.aload_n 0, 1) := by decide +kernel
theorem dX1_ofSegmentAndArc_111 : decode cX1_ofSegmentAndArc 111 = .ok (.getfield 43, 3) := by decide +kernel
theorem dX1_ofSegmentAndArc_114 : decode cX1_ofSegmentAndArc 114 = .ok (.invokevirtual 98, 3) := by decide +kernel
theorem dX1_ofSegmentAndArc_117 : decode cX1_ofSegmentAndArc 117 = .ok (.ifCond .lt 10, 3) := by decide +kernel
theorem dX1_ofSegmentAndArc_120 : decode cX1_ofSegmentAndArc 120 = .ok (.aload_n 0, 1) := by decide +kernel
theorem dX1_ofSegmentAndArc_121 : decode cX1_ofSegmentAndArc 121 = .ok (.aload_n 1, 1) := by decide +kernel
theorem dX1_ofSegmentAndArc_122 : decode cX1_ofSegmentAndArc 122 = .ok (.aload_n 2, 1) := by decide +kernel
theorem dX1_ofSegmentAndArc_123 : decode cX1_ofSegmentAndArc 123 = .ok (.iconst (-1), 1) := by decide +kernel
theorem dX1_ofSegmentAndArc_124 : decode cX1_ofSegmentAndArc 124 = .ok (.invokevirtual 164, 3) := by decide +kernel
theorem dX1_ofSegmentAndArc_127 : decode cX1_ofSegmentAndArc 127 = .ok (.aload_n 0, 1) := by decide +kernel
theorem dX1_ofSegmentAndArc_128 : decode cX1_ofSegmentAndArc 128 = .ok (.getfield 43, 3) := by decide +kernel
theorem dX1_ofSegmentAndArc_131 : decode cX1_ofSegmentAndArc 131 = .ok (.invokevirtual 98, 3) := by decide +kernel
theorem dX1_ofSegmentAndArc_134 : decode cX1_ofSegmentAndArc 134 = .ok (.ifCond .le 10, 3) := by decide +kernel
theorem dX1_ofSegmentAndArc_137 : decode cX1_ofSegmentAndArc 137 = .ok (.aload_n 0, 1) := by decide +kernel
theorem dX1_ofSegmentAndArc_138 : decode cX1_ofSegmentAndArc 138 = .ok (.aload_n 1, 1) := by decide +kernel
theorem dX1_ofSegmentAndArc_139 : decode cX1_ofSegmentAndArc 139 = .ok (.aload_n 2, 1) := by decide +kernel
theorem dX1_ofSegmentAndArc_140 : decode cX1_ofSegmentAndArc 140 = .ok (.iconst 1, 1) := by decide +kernel
theorem dX1_ofSegmentAndArc_141 : decode cX1_ofSegmentAndArc 141 = .ok (.invokevirtual 164, 3) := by decide +kernel
theorem dX1_ofSegmentAndArc_144 : decode cX1_ofSegmentAndArc 144 = .ok (.return_, 1) := by decide +kernel
theorem dX1_meetSegmentAndArc_0 : decode cX1_meetSegmentAndArc 0 = .ok (.aload_n 0, 1) := by decide +kernel
theorem dX1_meetSegmentAndArc_1 : decode cX1_meetSegmentAndArc 1 = .ok (.getfield 59, 3) := by decide +kernel
theorem dX1_meetSegmentAndArc_4 : decode cX1_meetSegmentAndArc 4 = .ok (.ifCond .ne 10, 3) := by decide +kernel
theorem dX1_meetSegmentAndArc_7 : decode cX1_meetSegmentAndArc 7 = .ok (.aload_n 0, 1) := by decide +kernel
theorem dX1_meetSegmentAndArc_8 : decode cX1_meetSegmentAndArc 8 = .ok (.getfield 26, 3) := by decide +kernel
theorem dX1_meetSegmentAndArc_11 : decode cX1_meetSegmentAndArc 11 = .ok (.goto 7, 3) := by decide +kernel
theorem dX1_meetSegmentAndArc_14 : decode cX1_meetSegmentAndArc 14 = .ok (.aload_n 0, 1) := by decide +kernel
theorem dX1_meetSegmentAndArc_15 : decode cX1_meetSegmentAndArc 15 = .ok (.getfield 30, 3) := by decide +kernel
theorem dX1_meetSegmentAndArc_18 : decode cX1_meetSegmentAndArc 18 = .ok (.astore 4, 2) := by decide +kernel
theorem dX1_meetSegmentAndArc_20 : decode cX1_meetSegmentAndArc 20 = .ok (.aload_n 0, 1) := by decide +kernel
theorem dX1_meetSegmentAndArc_21 : decode cX1_meetSegmentAndArc 21 = .ok (.aload 4, 2) := by decide +kernel
theorem dX1_meetSegmentAndArc_23 : decode cX1_meetSegmentAndArc 23 = .ok (.aload_n 0, 1) := by decide +kernel
theorem dX1_meetSegmentAndArc_24 : decode cX1_meetSegmentAndArc 24 = .ok (.getfield 49, 3) := by decide +kernel
theorem dX1_meetSegmentAndArc_27 : decode cX1_meetSegmentAndArc 27 = .ok (.aload_n 1, 1) := by decide +kernel
theorem dX1_meetSegmentAndArc_28 : decode cX1_meetSegmentAndArc 28 = .ok (.getfield 91, 3) := by decide +kernel
theorem dX1_meetSegmentAndArc_31 : decode cX1_meetSegmentAndArc 31 = .ok (.lneg, 1) := by decide +kernel
theorem dX1_meetSegmentAndArc_32 : decode cX1_meetSegmentAndArc 32 = .ok (.aload_n 1, 1) := by decide +kernel
theorem dX1_meetSegmentAndArc_33 : decode cX1_meetSegmentAndArc 33 = .ok (.getfield 88, 3) := by decide +kernel
theorem dX1_meetSegmentAndArc_36 : decode cX1_meetSegmentAndArc 36 = .ok (.iload_n 3, 1) := by decide +kernel
theorem dX1_meetSegmentAndArc_37 : decode cX1_meetSegmentAndArc 37 = .ok (.i2l, 1) := by decide +kernel
theorem dX1_meetSegmentAndArc_38 : decode cX1_meetSegmentAndArc 38 = .ok (.aload_n 1, 1) := by decide +kernel
theorem dX1_meetSegmentAndArc_39 : decode cX1_meetSegmentAndArc 39 = .ok (.getfield 88, 3) := by decide +kernel
theorem dX1_meetSegmentAndArc_42 : decode cX1_meetSegmentAndArc 42 = .ok (.lmul, 1) := by decide +kernel
theorem dX1_meetSegmentAndArc_43 : decode cX1_meetSegmentAndArc 43 = .ok (.iload_n 3, 1) := by decide +kernel
theorem dX1_meetSegmentAndArc_44 : decode cX1_meetSegmentAndArc 44 = .ok (.i2l, 1) := by decide +kernel
theorem dX1_meetSegmentAndArc_45 : decode cX1_meetSegmentAndArc 45 = .ok (.aload_n 1, 1) := by decide +kernel
theorem dX1_meetSegmentAndArc_46 : decode cX1_meetSegmentAndArc 46 = .ok (.getfield 91, 3) := by decide +kernel
theorem dX1_meetSegmentAndArc_49 : decode cX1_meetSegmentAndArc 49 = .ok (.lmul, 1) := by decide +kernel
theorem dX1_meetSegmentAndArc_50 : decode cX1_meetSegmentAndArc 50 = .ok (.invokevirtual 117, 3) := by decide +kernel
theorem dX1_meetSegmentAndArc_53 : decode cX1_meetSegmentAndArc 53 = .ok (.aload_n 0, 1) := by decide +kernel
theorem dX1_meetSegmentAndArc_54 : decode cX1_meetSegmentAndArc 54 = .ok (.iload_n 3, 1) := by decide +kernel
theorem dX1_meetSegmentAndArc_55 : decode cX1_meetSegmentAndArc 55 = .ok (.invokevirtual 168, 3) := by decide +kernel
theorem dX1_meetSegmentAndArc_58 : decode cX1_meetSegmentAndArc 58 = .ok (.ifCond .eq 23, 3) := by decide +kernel
theorem dX1_meetSegmentAndArc_61 : decode cX1_meetSegmentAndArc 61 = .ok (.aload_n 0, 1) := by decide +kernel
theorem dX1_meetSegmentAndArc_62 : decode cX1_meetSegmentAndArc 62 = .ok (.aload_n 2, 1) := by decide +kernel
theorem dX1_meetSegmentAndArc_63 : decode cX1_meetSegmentAndArc 63 = .ok (.aload 4, 2) := by decide +kernel
theorem dX1_meetSegmentAndArc_65 : decode cX1_meetSegmentAndArc 65 = .ok (.invokevirtual 172, 3) := by decide +kernel
theorem dX1_meetSegmentAndArc_68 : decode cX1_meetSegmentAndArc 68 = .ok (.ifCond .eq 13, 3) := by decide +kernel
theorem dX1_meetSegmentAndArc_71 : decode cX1_meetSegmentAndArc 71 = .ok (.aload_n 0, 1) := by decide +kernel
theorem dX1_meetSegmentAndArc_72 : decode cX1_meetSegmentAndArc 72 = .ok (.dup, 1) := by decide +kernel
theorem dX1_meetSegmentAndArc_73 : decode cX1_meetSegmentAndArc 73 = .ok (.getfield 59, 3) := by decide +kernel
theorem dX1_meetSegmentAndArc_76 : decode cX1_meetSegmentAndArc 76 = .ok (.iconst 1, 1) := by decide +kernel
theorem dX1_meetSegmentAndArc_77 : decode cX1_meetSegmentAndArc 77 = .ok (.iadd, 1) := by decide +kernel
theorem dX1_meetSegmentAndArc_78 : decode cX1_meetSegmentAndArc 78 = .ok (.putfield 59, 3) := by decide +kernel
theorem dX1_meetSegmentAndArc_81 : decode cX1_meetSegmentAndArc 81 = .ok (.return_, 1) := by decide +kernel
theorem dX1_isBetweenEnds_0 : decode cX1_isBetweenEnds 0 = .ok (.aload_n 0, 1) := by decide +kernel
theorem dX1_isBetweenEnds_1 : decode cX1_isBetweenEnds 1 = .ok (.getfield 39, 3) := by decide +kernel
theorem dX1_isBetweenEnds_4 : decode cX1_isBetweenEnds 4 = .ok (.iload_n 1, 1) := by decide +kernel
theorem dX1_isBetweenEnds_5 : decode cX1_isBetweenEnds 5 = .ok (.i2l, 1) := by decide +kernel
theorem dX1_isBetweenEnds_6 : decode cX1_isBetweenEnds 6 = .ok (.aload_n 0, 1) := by decide +kernel
theorem dX1_isBetweenEnds_7 : decode cX1_isBetweenEnds 7 = .ok (.getfield 43, 3) := by decide +kernel
theorem dX1_isBetweenEnds_10 : decode cX1_isBetweenEnds 10 = .ok (.invokevirtual 176, 3) := by decide +kernel
theorem dX1_isBetweenEnds_13 : decode cX1_isBetweenEnds 13 = .ok (.aload_n 0, 1) := by decide +kernel
theorem dX1_isBetweenEnds_14 : decode cX1_isBetweenEnds 14 = .ok (.getfield 39, 3) := by decide +kernel
theorem dX1_isBetweenEnds_17 : decode cX1_isBetweenEnds 17 = .ok (.getfield 180, 3) := by decide +kernel
theorem dX1_isBetweenEnds_20 : decode cX1_isBetweenEnds 20 = .ok (.aload_n 0, 1) := by decide +kernel
theorem dX1_isBetweenEnds_21 : decode cX1_isBetweenEnds 21 = .ok (.getfield 46, 3) := by decide +kernel
theorem dX1_isBetweenEnds_24 : decode cX1_isBetweenEnds 24 = .ok (.invokevirtual 183, 3) := by decide +kernel
theorem dX1_isBetweenEnds_27 : decode cX1_isBetweenEnds 27 = .ok (.aload_n 0, 1) := by decide +kernel
theorem dX1_isBetweenEnds_28 : decode cX1_isBetweenEnds 28 = .ok (.getfield 39, 3) := by decide +kernel
theorem dX1_isBetweenEnds_31 : decode cX1_isBetweenEnds 31 = .ok (.getfield 180, 3) := by decide +kernel
theorem dX1_isBetweenEnds_34 : decode cX1_isBetweenEnds 34 = .ok (.invokevirtual 106, 3) := by decide +kernel
theorem dX1_isBetweenEnds_37 : decode cX1_isBetweenEnds 37 = .ok (.aload_n 0, 1) := by decide +kernel
theorem dX1_isBetweenEnds_38 : decode cX1_isBetweenEnds 38 = .ok (.getfield 10, 3) := by decide +kernel
theorem dX1_isBetweenEnds_41 : decode cX1_isBetweenEnds 41 = .ok (.aload_n 0, 1) := by decide +kernel
theorem dX1_isBetweenEnds_42 : decode cX1_isBetweenEnds 42 = .ok (.getfield 39, 3) := by decide +kernel
theorem dX1_isBetweenEnds_45 : decode cX1_isBetweenEnds 45 = .ok (.invokevirtual 186, 3) := by decide +kernel
theorem dX1_isBetweenEnds_48 : decode cX1_isBetweenEnds 48 = .ok (.ifCond .ge 5, 3) := by decide +kernel
theorem dX1_isBetweenEnds_51 : decode cX1_isBetweenEnds 51 = .ok (.iconst 0, 1) := by decide +kernel
theorem dX1_isBetweenEnds_52 : decode cX1_isBetweenEnds 52 = .ok (.ireturn, 1) := by decide +kernel
theorem dX1_isBetweenEnds_53 : decode cX1_isBetweenEnds 53 = .ok (.aload_n 0, 1) := by decide +kernel
theorem dX1_isBetweenEnds_54 : decode cX1_isBetweenEnds 54 = .ok (.getfield 39, 3) := by decide +kernel
theorem dX1_isBetweenEnds_57 : decode cX1_isBetweenEnds 57 = .ok (.getfield 180, 3) := by decide +kernel
theorem dX1_isBetweenEnds_60 : decode cX1_isBetweenEnds 60 = .ok (.aload_n 0, 1) := by decide +kernel
theorem dX1_isBetweenEnds_61 : decode cX1_isBetweenEnds 61 = .ok (.getfield 19, 3) := by decide +kernel
theorem dX1_isBetweenEnds_64 : decode cX1_isBetweenEnds 64 = .ok (.invokevirtual 189, 3) := by decide +kernel
theorem dX1_isBetweenEnds_67 : decode cX1_isBetweenEnds 67 = .ok (.aload_n 0, 1) := by decide +kernel
theorem dX1_isBetweenEnds_68 : decode cX1_isBetweenEnds 68 = .ok (.getfield 10, 3) := by decide +kernel
theorem dX1_isBetweenEnds_71 : decode cX1_isBetweenEnds 71 = .ok (.aload_n 0, 1) := by decide +kernel
theorem dX1_isBetweenEnds_72 : decode cX1_isBetweenEnds 72 = .ok (.getfield 39, 3) := by decide +kernel
theorem dX1_isBetweenEnds_75 : decode cX1_isBetweenEnds 75 = .ok (.invokevirtual 186, 3) := by decide +kernel
theorem dX1_isBetweenEnds_78 : decode cX1_isBetweenEnds 78 = .ok (.ifCond .gt 7, 3) := by decide +kernel
theorem dX1_isBetweenEnds_81 : decode cX1_isBetweenEnds 81 = .ok (.iconst 1, 1) := by decide +kernel
theorem dX1_isBetweenEnds_82 : decode cX1_isBetweenEnds 82 = .ok (.goto 4, 3) := by decide +kernel
theorem dX1_isBetweenEnds_85 : decode cX1_isBetweenEnds 85 = .ok (.iconst 0, 1) := by decide +kernel
theorem dX1_isBetweenEnds_86 : decode cX1_isBetweenEnds 86 = .ok (.ireturn, 1) := by decide +kernel
theorem dX1_ofArcs_0 : decode cX1_ofArcs 0 = .ok (.aload_n 2, 1) := by decide +kernel
theorem dX1_ofArcs_1 : decode cX1_ofArcs 1 = .ok (.getfield 146, 3) := by decide +kernel
theorem dX1_ofArcs_4 : decode cX1_ofArcs 4 = .ok (.aload_n 1, 1) := by decide +kernel
theorem dX1_ofArcs_5 : decode cX1_ofArcs 5 = .ok (.getfield 146, 3) := by decide +kernel
theorem dX1_ofArcs_8 : decode cX1_ofArcs 8 = .ok (.lsub, 1) := by decide +kernel
theorem dX1_ofArcs_9 : decode cX1_ofArcs 9 = .ok (.lstore_n 3, 1) := by decide +kernel
theorem dX1_ofArcs_10 : decode cX1_ofArcs 10 = .ok (.aload_n 2, 1) := by decide +kernel
theorem dX1_ofArcs_11 : decode cX1_ofArcs 11 = .ok (.getfield 151, 3) := by decide +kernel
theorem dX1_ofArcs_14 : decode cX1_ofArcs 14 = .ok (.aload_n 1, 1) := by decide +kernel
theorem dX1_ofArcs_15 : decode cX1_ofArcs 15 = .ok (.getfield 151, 3) := by decide +kernel
theorem dX1_ofArcs_18 : decode cX1_ofArcs 18 = .ok (.lsub, 1) := by decide +kernel
theorem dX1_ofArcs_19 : decode cX1_ofArcs 19 = .ok (.lstore 5, 2) := by decide +kernel
theorem dX1_ofArcs_21 : decode cX1_ofArcs 21 = .ok (.lload_n 3, 1) := by decide +kernel
theorem dX1_ofArcs_22 : decode cX1_ofArcs 22 = .ok (.lconst 0, 1) := by decide +kernel
theorem dX1_ofArcs_23 : decode cX1_ofArcs 23 = .ok (.lcmp, 1) := by decide +kernel
theorem dX1_ofArcs_24 : decode cX1_ofArcs 24 = .ok (.ifCond .ne 32, 3) := by decide +kernel
theorem dX1_ofArcs_27 : decode cX1_ofArcs 27 = .ok (.lload 5, 2) := by decide +kernel
theorem dX1_ofArcs_29 : decode cX1_ofArcs 29 = .ok (.lconst 0, 1) := by decide +kernel
theorem dX1_ofArcs_30 : decode cX1_ofArcs 30 = .ok (.lcmp, 1) := by decide +kernel
theorem dX1_ofArcs_31 : decode cX1_ofArcs 31 = .ok (.ifCond .ne 25, 3) := by decide +kernel
theorem dX1_ofArcs_34 : decode cX1_ofArcs 34 = .ok (.aload_n 0, 1) := by decide +kernel
theorem dX1_ofArcs_35 : decode cX1_ofArcs 35 = .ok (.aload_n 1, 1) := by decide +kernel
theorem dX1_ofArcs_36 : decode cX1_ofArcs 36 = .ok (.getfield 157, 3) := by decide +kernel
theorem dX1_ofArcs_39 : decode cX1_ofArcs 39 = .ok (.aload_n 2, 1) := by decide +kernel
theorem dX1_ofArcs_40 : decode cX1_ofArcs 40 = .ok (.getfield 157, 3) := by decide +kernel
theorem dX1_ofArcs_43 : decode cX1_ofArcs 43 = .ok (.lcmp, 1) := by decide +kernel
theorem dX1_ofArcs_44 : decode cX1_ofArcs 44 = .ok (.ifCond .eq 7, 3) := by decide +kernel
theorem dX1_ofArcs_47 : decode cX1_ofArcs 47 = .ok (.iconst 1, 1) := by decide +kernel
theorem dX1_ofArcs_48 : decode cX1_ofArcs 48 = .ok (.goto 4, 3) := by decide +kernel
theorem dX1_ofArcs_51 : decode cX1_ofArcs 51 = .ok (.iconst 0, 1) := by decide +kernel
theorem dX1_ofArcs_52 : decode cX1_ofArcs 52 = .ok (.putfield 55, 3) := by decide +kernel
theorem dX1_ofArcs_55 : decode cX1_ofArcs 55 = .ok (.return_, 1) := by decide +kernel
theorem dX1_ofArcs_56 : decode cX1_ofArcs 56 = .ok (.aload_n 0, 1) := by decide +kernel
theorem dX1_ofArcs_57 : decode cX1_ofArcs 57 = .ok (.iconst 1, 1) := by decide +kernel
theorem dX1_ofArcs_58 : decode cX1_ofArcs 58 = .ok (.putfield 55, 3) := by decide +kernel
theorem dX1_ofArcs_61 : decode cX1_ofArcs 61 = .ok (.aload_n 0, 1) := by decide +kernel
theorem dX1_ofArcs_62 : decode cX1_ofArcs 62 = .ok (.aload_n 1, 1) := by decide +kernel
theorem dX1_ofArcs_63 : decode cX1_ofArcs 63 = .ok (.getfield 146, 3) := by decide +kernel
theorem dX1_ofArcs_66 : decode cX1_ofArcs 66 = .ok (.aload_n 1, 1) := by decide +kernel
theorem dX1_ofArcs_67 : decode cX1_ofArcs 67 = .ok (.getfield 151, 3) := by decide +kernel
theorem dX1_ofArcs_70 : decode cX1_ofArcs 70 = .ok (.invokevirtual 113, 3) := by decide +kernel
theorem dX1_ofArcs_73 : decode cX1_ofArcs 73 = .ok (.aload_n 0, 1) := by decide +kernel
theorem dX1_ofArcs_74 : decode cX1_ofArcs 74 = .ok (.getfield 19, 3) := by decide +kernel
theorem dX1_ofArcs_77 : decode cX1_ofArcs 77 = .ok (.lload_n 3, 1) := by decide +kernel
theorem dX1_ofArcs_78 : decode cX1_ofArcs 78 = .ok (.lload 5, 2) := by decide +kernel
theorem dX1_ofArcs_80 : decode cX1_ofArcs 80 = .ok (.lload_n 3, 1) := by decide +kernel
theorem dX1_ofArcs_81 : decode cX1_ofArcs 81 = .ok (.lload 5, 2) := by decide +kernel
theorem dX1_ofArcs_83 : decode cX1_ofArcs 83 = .ok (.invokevirtual 154, 3) := by decide +kernel
theorem dX1_ofArcs_86 : decode cX1_ofArcs 86 = .ok (.aload_n 0, 1) := by decide +kernel
theorem dX1_ofArcs_87 : decode cX1_ofArcs 87 = .ok (.getfield 46, 3) := by decide +kernel
theorem dX1_ofArcs_90 : decode cX1_ofArcs 90 = .ok (.aload_n 0, 1) := by decide +kernel
theorem dX1_ofArcs_91 : decode cX1_ofArcs 91 = .ok (.getfield 19, 3) := by decide +kernel
theorem dX1_ofArcs_94 : decode cX1_ofArcs 94 = .ok (.invokevirtual 183, 3) := by decide +kernel
theorem dX1_ofArcs_97 : decode cX1_ofArcs 97 = .ok (.aload_n 0, 1) := by decide +kernel
theorem dX1_ofArcs_98 : decode cX1_ofArcs 98 = .ok (.getfield 46, 3) := by decide +kernel
theorem dX1_ofArcs_101 : decode cX1_ofArcs 101 = .ok (.aload_n 1, 1) := by decide +kernel
theorem dX1_ofArcs_102 : decode cX1_ofArcs 102 = .ok (.getfield 157, 3) := by decide +kernel
theorem dX1_ofArcs_105 : decode cX1_ofArcs 105 = .ok (.lconst 1, 1) := by decide +kernel
theorem dX1_ofArcs_106 : decode cX1_ofArcs 106 = .ok (.invokevirtual 192, 3) := by decide +kernel
theorem dX1_ofArcs_109 : decode cX1_ofArcs 109 = .ok (.aload_n 0, 1) := by decide +kernel
theorem dX1_ofArcs_110 : decode cX1_ofArcs 110 = .ok (.getfield 46, 3) := by decide +kernel
theorem dX1_ofArcs_113 : decode cX1_ofArcs 113 = .ok (.aload_n 2, 1) := by decide +kernel
theorem dX1_ofArcs_114 : decode cX1_ofArcs 114 = .ok (.getfield 157, 3) := by decide +kernel
theorem dX1_ofArcs_117 : decode cX1_ofArcs 117 = .ok (.ldc2_w 195, 3) := by decide +kernel
theorem dX1_ofArcs_120 : decode cX1_ofArcs 120 = .ok (.invokevirtual 192, 3) := by decide +kernel
theorem dX1_ofArcs_123 : decode cX1_ofArcs 123 = .ok (.aload_n 0, 1) := by decide +kernel
theorem dX1_ofArcs_124 : decode cX1_ofArcs 124 = .ok (.getfield 19, 3) := by decide +kernel
theorem dX1_ofArcs_127 : decode cX1_ofArcs 127 = .ok (.iconst 1, 1) := by decide +kernel
theorem dX1_ofArcs_128 : decode cX1_ofArcs 128 = .ok (.invokevirtual 197, 3) := by decide +kernel
theorem dX1_ofArcs_131 : decode cX1_ofArcs 131 = .ok (.aload_n 0, 1) := by decide +kernel
theorem dX1_ofArcs_132 : decode cX1_ofArcs 132 = .ok (.getfield 49, 3) := by decide +kernel
theorem dX1_ofArcs_135 : decode cX1_ofArcs 135 = .ok (.aload_n 0, 1) := by decide +kernel
theorem dX1_ofArcs_136 : decode cX1_ofArcs 136 = .ok (.getfield 46, 3) := by decide +kernel
theorem dX1_ofArcs_139 : decode cX1_ofArcs 139 = .ok (.invokevirtual 183, 3) := by decide +kernel
theorem dX1_ofArcs_142 : decode cX1_ofArcs 142 = .ok (.aload_n 0, 1) := by decide +kernel
theorem dX1_ofArcs_143 : decode cX1_ofArcs 143 = .ok (.getfield 49, 3) := by decide +kernel
theorem dX1_ofArcs_146 : decode cX1_ofArcs 146 = .ok (.aload_n 0, 1) := by decide +kernel
theorem dX1_ofArcs_147 : decode cX1_ofArcs 147 = .ok (.getfield 19, 3) := by decide +kernel
theorem dX1_ofArcs_150 : decode cX1_ofArcs 150 = .ok (.invokevirtual 189, 3) := by decide +kernel
theorem dX1_ofArcs_153 : decode cX1_ofArcs 153 = .ok (.aload_n 0, 1) := by decide +kernel
theorem dX1_ofArcs_154 : decode cX1_ofArcs 154 = .ok (.aload_n 1, 1) := by decide +kernel
theorem dX1_ofArcs_155 : decode cX1_ofArcs 155 = .ok (.getfield 157, 3) := by decide +kernel
theorem dX1_ofArcs_158 : decode cX1_ofArcs 158 = .ok (.iconst 1, 1) := by decide +kernel
theorem dX1_ofArcs_159 : decode cX1_ofArcs 159 = .ok (.aload_n 0, 1) := by decide +kernel
theorem dX1_ofArcs_160 : decode cX1_ofArcs 160 = .ok (.getfield 46, 3) := by decide +kernel
theorem dX1_ofArcs_163 : decode cX1_ofArcs 163 = .ok (.invokevirtual 160, 3) := by decide +kernel
theorem dX1_ofArcs_166 : decode cX1_ofArcs 166 = .ok (.aload_n 0, 1) := by decide +kernel
theorem dX1_ofArcs_167 : decode cX1_ofArcs 167 = .ok (.getfield 43, 3) := by decide +kernel
theorem dX1_ofArcs_170 : decode cX1_ofArcs 170 = .ok (.invokevirtual 98, 3) := by decide +kernel
theorem dX1_ofArcs_173 : decode cX1_ofArcs 173 = .ok (.ifCond .lt 10, 3) := by decide +kernel
theorem dX1_ofArcs_176 : decode cX1_ofArcs 176 = .ok (.aload_n 0, 1) := by decide +kernel
theorem dX1_ofArcs_177 : decode cX1_ofArcs 177 = .ok (.aload_n 1, 1) := by decide +kernel
theorem dX1_ofArcs_178 : decode cX1_ofArcs 178 = .ok (.aload_n 2, 1) := by decide +kernel
theorem dX1_ofArcs_179 : decode cX1_ofArcs 179 = .ok (.iconst 1, 1) := by decide +kernel
theorem dX1_ofArcs_180 : decode cX1_ofArcs 180 = .ok (.invokevirtual 201, 3) := by decide +kernel
theorem dX1_ofArcs_183 : decode cX1_ofArcs 183 = .ok (.aload_n 0, 1) := by decide +kernel
theorem dX1_ofArcs_184 : decode cX1_ofArcs 184 = .ok (.getfield 43, 3) := by decide +kernel
theorem dX1_ofArcs_187 : decode cX1_ofArcs 187 = .ok (.invokevirtual 98, 3) := by decide +kernel
theorem dX1_ofArcs_190 : decode cX1_ofArcs 190 = .ok (.ifCond .le 10, 3) := by decide +kernel
theorem dX1_ofArcs_193 : decode cX1_ofArcs 193 = .ok (.aload_n 0, 1) := by decide +kernel
theorem dX1_ofArcs_194 : decode cX1_ofArcs 194 = .ok (.aload_n 1, 1) := by decide +kernel
theorem dX1_ofArcs_195 : decode cX1_ofArcs 195 = .ok (.aload_n 2, 1) := by decide +kernel
theorem dX1_ofArcs_196 : decode cX1_ofArcs 196 = .ok (.iconst (-1), 1) := by decide +kernel
theorem dX1_ofArcs_197 : decode cX1_ofArcs 197 = .ok (.invokevirtual 201, 3) := by decide +kernel
theorem dX1_ofArcs_200 : decode cX1_ofArcs 200 = .ok (.return_, 1) := by decide +kernel
theorem dX1_meetArcs_0 : decode cX1_meetArcs 0 = .ok (.aload_n 2, 1) := by decide +kernel
theorem dX1_meetArcs_1 : decode cX1_meetArcs 1 = .ok (.getfield 146, 3) := by decide +kernel
theorem dX1_meetArcs_4 : decode cX1_meetArcs 4 = .ok (.aload_n 1, 1) := by decide +kernel
theorem dX1_meetArcs_5 : decode cX1_meetArcs 5 = .ok (.getfield 146, 3) := by decide +kernel
theorem dX1_meetArcs_8 : decode cX1_meetArcs 8 = .ok (.lsub, 1) := by decide +kernel
theorem dX1_meetArcs_9 : decode cX1_meetArcs 9 = .ok (.lstore 4, 2) := by decide +kernel
theorem dX1_meetArcs_11 : decode cX1_meetArcs 11 = .ok (.aload_n 2, 1) := by decide +kernel
theorem dX1_meetArcs_12 : decode cX1_meetArcs 12 = .ok (.getfield 151, 3) := by decide +kernel
theorem dX1_meetArcs_15 : decode cX1_meetArcs 15 = .ok (.aload_n 1, 1) := by decide +kernel
theorem dX1_meetArcs_16 : decode cX1_meetArcs 16 = .ok (.getfield 151, 3) := by decide +kernel
theorem dX1_meetArcs_19 : decode cX1_meetArcs 19 = .ok (.lsub, 1) := by decide +kernel
theorem dX1_meetArcs_20 : decode cX1_meetArcs 20 = .ok (.lstore 6, 2) := by decide +kernel
theorem dX1_meetArcs_22 : decode cX1_meetArcs 22 = .ok (.aload_n 0, 1) := by decide +kernel
theorem dX1_meetArcs_23 : decode cX1_meetArcs 23 = .ok (.getfield 59, 3) := by decide +kernel
theorem dX1_meetArcs_26 : decode cX1_meetArcs 26 = .ok (.ifCond .ne 10, 3) := by decide +kernel
theorem dX1_meetArcs_29 : decode cX1_meetArcs 29 = .ok (.aload_n 0, 1) := by decide +kernel
theorem dX1_meetArcs_30 : decode cX1_meetArcs 30 = .ok (.getfield 26, 3) := by decide +kernel
theorem dX1_meetArcs_33 : decode cX1_meetArcs 33 = .ok (.goto 7, 3) := by decide +kernel
theorem dX1_meetArcs_36 : decode cX1_meetArcs 36 = .ok (.aload_n 0, 1) := by decide +kernel
theorem dX1_meetArcs_37 : decode cX1_meetArcs 37 = .ok (.getfield 30, 3) := by decide +kernel
theorem dX1_meetArcs_40 : decode cX1_meetArcs 40 = .ok (.astore 8, 2) := by decide +kernel
theorem dX1_meetArcs_42 : decode cX1_meetArcs 42 = .ok (.aload_n 0, 1) := by decide +kernel
theorem dX1_meetArcs_43 : decode cX1_meetArcs 43 = .ok (.aload 8, 2) := by decide +kernel
theorem dX1_meetArcs_45 : decode cX1_meetArcs 45 = .ok (.aload_n 0, 1) := by decide +kernel
theorem dX1_meetArcs_46 : decode cX1_meetArcs 46 = .ok (.getfield 46, 3) := by decide +kernel
theorem dX1_meetArcs_49 : decode cX1_meetArcs 49 = .ok (.lload 4, 2) := by decide +kernel
theorem dX1_meetArcs_51 : decode cX1_meetArcs 51 = .ok (.lload 6, 2) := by decide +kernel
theorem dX1_meetArcs_53 : decode cX1_meetArcs 53 = .ok (.iload_n 3, 1) := by decide +kernel
theorem dX1_meetArcs_54 : decode cX1_meetArcs 54 = .ok (.ineg, 1) := by decide +kernel
theorem dX1_meetArcs_55 : decode cX1_meetArcs 55 = .ok (.i2l, 1) := by decide +kernel
theorem dX1_meetArcs_56 : decode cX1_meetArcs 56 = .ok (.lload 6, 2) := by decide +kernel
theorem dX1_meetArcs_58 : decode cX1_meetArcs 58 = .ok (.lmul, 1) := by decide +kernel
theorem dX1_meetArcs_59 : decode cX1_meetArcs 59 = .ok (.iload_n 3, 1) := by decide +kernel
theorem dX1_meetArcs_60 : decode cX1_meetArcs 60 = .ok (.i2l, 1) := by decide +kernel
theorem dX1_meetArcs_61 : decode cX1_meetArcs 61 = .ok (.lload 4, 2) := by decide +kernel
theorem dX1_meetArcs_63 : decode cX1_meetArcs 63 = .ok (.lmul, 1) := by decide +kernel
theorem dX1_meetArcs_64 : decode cX1_meetArcs 64 = .ok (.invokevirtual 117, 3) := by decide +kernel
theorem dX1_meetArcs_67 : decode cX1_meetArcs 67 = .ok (.aload_n 0, 1) := by decide +kernel
theorem dX1_meetArcs_68 : decode cX1_meetArcs 68 = .ok (.aload_n 0, 1) := by decide +kernel
theorem dX1_meetArcs_69 : decode cX1_meetArcs 69 = .ok (.getfield 33, 3) := by decide +kernel
theorem dX1_meetArcs_72 : decode cX1_meetArcs 72 = .ok (.aload_n 0, 1) := by decide +kernel
theorem dX1_meetArcs_73 : decode cX1_meetArcs 73 = .ok (.getfield 49, 3) := by decide +kernel
theorem dX1_meetArcs_76 : decode cX1_meetArcs 76 = .ok (.lload 4, 2) := by decide +kernel
theorem dX1_meetArcs_78 : decode cX1_meetArcs 78 = .ok (.lload 6, 2) := by decide +kernel
theorem dX1_meetArcs_80 : decode cX1_meetArcs 80 = .ok (.iload_n 3, 1) := by decide +kernel
theorem dX1_meetArcs_81 : decode cX1_meetArcs 81 = .ok (.ineg, 1) := by decide +kernel
theorem dX1_meetArcs_82 : decode cX1_meetArcs 82 = .ok (.i2l, 1) := by decide +kernel
theorem dX1_meetArcs_83 : decode cX1_meetArcs 83 = .ok (.lload 6, 2) := by decide +kernel
theorem dX1_meetArcs_85 : decode cX1_meetArcs 85 = .ok (.lmul, 1) := by decide +kernel
theorem dX1_meetArcs_86 : decode cX1_meetArcs 86 = .ok (.iload_n 3, 1) := by decide +kernel
theorem dX1_meetArcs_87 : decode cX1_meetArcs 87 = .ok (.i2l, 1) := by decide +kernel
theorem dX1_meetArcs_88 : decode cX1_meetArcs 88 = .ok (.lload 4, 2) := by decide +kernel
theorem dX1_meetArcs_90 : decode cX1_meetArcs 90 = .ok (.lmul, 1) := by decide +kernel
theorem dX1_meetArcs_91 : decode cX1_meetArcs 91 = .ok (.invokevirtual 117, 3) := by decide +kernel
theorem dX1_meetArcs_94 : decode cX1_meetArcs 94 = .ok (.aload_n 0, 1) := by decide +kernel
theorem dX1_meetArcs_95 : decode cX1_meetArcs 95 = .ok (.aload_n 1, 1) := by decide +kernel
theorem dX1_meetArcs_96 : decode cX1_meetArcs 96 = .ok (.aload 8, 2) := by decide +kernel
theorem dX1_meetArcs_98 : decode cX1_meetArcs 98 = .ok (.invokevirtual 172, 3) := by decide +kernel
theorem dX1_meetArcs_101 : decode cX1_meetArcs 101 = .ok (.ifCond .eq 25, 3) := by decide +kernel
theorem dX1_meetArcs_104 : decode cX1_meetArcs 104 = .ok (.aload_n 0, 1) := by decide +kernel
theorem dX1_meetArcs_105 : decode cX1_meetArcs 105 = .ok (.aload_n 2, 1) := by decide +kernel
theorem dX1_meetArcs_106 : decode cX1_meetArcs 106 = .ok (.aload_n 0, 1) := by decide +kernel
theorem dX1_meetArcs_107 : decode cX1_meetArcs 107 = .ok (.getfield 33, 3) := by decide +kernel
theorem dX1_meetArcs_110 : decode cX1_meetArcs 110 = .ok (.invokevirtual 172, 3) := by decide +kernel
theorem dX1_meetArcs_113 : decode cX1_meetArcs 113 = .ok (.ifCond .eq 13, 3) := by decide +kernel
theorem dX1_meetArcs_116 : decode cX1_meetArcs 116 = .ok (.aload_n 0, 1) := by decide +kernel
theorem dX1_meetArcs_117 : decode cX1_meetArcs 117 = .ok (.dup, 1) := by decide +kernel
theorem dX1_meetArcs_118 : decode cX1_meetArcs 118 = .ok (.getfield 59, 3) := by decide +kernel
theorem dX1_meetArcs_121 : decode cX1_meetArcs 121 = .ok (.iconst 1, 1) := by decide +kernel
theorem dX1_meetArcs_122 : decode cX1_meetArcs 122 = .ok (.iadd, 1) := by decide +kernel
theorem dX1_meetArcs_123 : decode cX1_meetArcs 123 = .ok (.putfield 59, 3) := by decide +kernel
theorem dX1_meetArcs_126 : decode cX1_meetArcs 126 = .ok (.return_, 1) := by decide +kernel
theorem dX1_startFrom_0 : decode cX1_startFrom 0 = .ok (.aload_n 0, 1) := by decide +kernel
theorem dX1_startFrom_1 : decode cX1_startFrom 1 = .ok (.lload_n 1, 1) := by decide +kernel
theorem dX1_startFrom_2 : decode cX1_startFrom 2 = .ok (.putfield 63, 3) := by decide +kernel
theorem dX1_startFrom_5 : decode cX1_startFrom 5 = .ok (.aload_n 0, 1) := by decide +kernel
theorem dX1_startFrom_6 : decode cX1_startFrom 6 = .ok (.lload_n 3, 1) := by decide +kernel
theorem dX1_startFrom_7 : decode cX1_startFrom 7 = .ok (.putfield 74, 3) := by decide +kernel
theorem dX1_startFrom_10 : decode cX1_startFrom 10 = .ok (.return_, 1) := by decide +kernel
theorem dX1_setRadicand_0 : decode cX1_setRadicand 0 = .ok (.aload_n 0, 1) := by decide +kernel
theorem dX1_setRadicand_1 : decode cX1_setRadicand 1 = .ok (.getfield 52, 3) := by decide +kernel
theorem dX1_setRadicand_4 : decode cX1_setRadicand 4 = .ok (.lload_n 1, 1) := by decide +kernel
theorem dX1_setRadicand_5 : decode cX1_setRadicand 5 = .ok (.invokevirtual 142, 3) := by decide +kernel
theorem dX1_setRadicand_8 : decode cX1_setRadicand 8 = .ok (.aload_n 0, 1) := by decide +kernel
theorem dX1_setRadicand_9 : decode cX1_setRadicand 9 = .ok (.getfield 52, 3) := by decide +kernel
theorem dX1_setRadicand_12 : decode cX1_setRadicand 12 = .ok (.iload_n 3, 1) := by decide +kernel
theorem dX1_setRadicand_13 : decode cX1_setRadicand 13 = .ok (.invokevirtual 197, 3) := by decide +kernel
theorem dX1_setRadicand_16 : decode cX1_setRadicand 16 = .ok (.aload_n 0, 1) := by decide +kernel
theorem dX1_setRadicand_17 : decode cX1_setRadicand 17 = .ok (.getfield 43, 3) := by decide +kernel
theorem dX1_setRadicand_20 : decode cX1_setRadicand 20 = .ok (.aload_n 0, 1) := by decide +kernel
theorem dX1_setRadicand_21 : decode cX1_setRadicand 21 = .ok (.getfield 52, 3) := by decide +kernel
theorem dX1_setRadicand_24 : decode cX1_setRadicand 24 = .ok (.aload_n 0, 1) := by decide +kernel
theorem dX1_setRadicand_25 : decode cX1_setRadicand 25 = .ok (.getfield 19, 3) := by decide +kernel
theorem dX1_setRadicand_28 : decode cX1_setRadicand 28 = .ok (.invokevirtual 205, 3) := by decide +kernel
theorem dX1_setRadicand_31 : decode cX1_setRadicand 31 = .ok (.aload_n 0, 1) := by decide +kernel
theorem dX1_setRadicand_32 : decode cX1_setRadicand 32 = .ok (.getfield 52, 3) := by decide +kernel
theorem dX1_setRadicand_35 : decode cX1_setRadicand 35 = .ok (.aload 4, 2) := by decide +kernel
theorem dX1_setRadicand_37 : decode cX1_setRadicand 37 = .ok (.aload 4, 2) := by decide +kernel
theorem dX1_setRadicand_39 : decode cX1_setRadicand 39 = .ok (.invokevirtual 205, 3) := by decide +kernel
theorem dX1_setRadicand_42 : decode cX1_setRadicand 42 = .ok (.aload_n 0, 1) := by decide +kernel
theorem dX1_setRadicand_43 : decode cX1_setRadicand 43 = .ok (.getfield 43, 3) := by decide +kernel
theorem dX1_setRadicand_46 : decode cX1_setRadicand 46 = .ok (.aload_n 0, 1) := by decide +kernel
theorem dX1_setRadicand_47 : decode cX1_setRadicand 47 = .ok (.getfield 52, 3) := by decide +kernel
theorem dX1_setRadicand_50 : decode cX1_setRadicand 50 = .ok (.invokevirtual 189, 3) := by decide +kernel
theorem dX1_setRadicand_53 : decode cX1_setRadicand 53 = .ok (.return_, 1) := by decide +kernel
theorem dX1_lay_0 : decode cX1_lay 0 = .ok (.aload_n 0, 1) := by decide +kernel
theorem dX1_lay_1 : decode cX1_lay 1 = .ok (.getfield 52, 3) := by decide +kernel
theorem dX1_lay_4 : decode cX1_lay 4 = .ok (.lload_n 3, 1) := by decide +kernel
theorem dX1_lay_5 : decode cX1_lay 5 = .ok (.invokevirtual 142, 3) := by decide +kernel
theorem dX1_lay_8 : decode cX1_lay 8 = .ok (.aload_n 1, 1) := by decide +kernel
theorem dX1_lay_9 : decode cX1_lay 9 = .ok (.getfield 67, 3) := by decide +kernel
theorem dX1_lay_12 : decode cX1_lay 12 = .ok (.getfield 180, 3) := by decide +kernel
theorem dX1_lay_15 : decode cX1_lay 15 = .ok (.aload_n 2, 1) := by decide +kernel
theorem dX1_lay_16 : decode cX1_lay 16 = .ok (.aload_n 0, 1) := by decide +kernel
theorem dX1_lay_17 : decode cX1_lay 17 = .ok (.getfield 52, 3) := by decide +kernel
theorem dX1_lay_20 : decode cX1_lay 20 = .ok (.invokevirtual 205, 3) := by decide +kernel
theorem dX1_lay_23 : decode cX1_lay 23 = .ok (.aload_n 1, 1) := by decide +kernel
theorem dX1_lay_24 : decode cX1_lay 24 = .ok (.getfield 67, 3) := by decide +kernel
theorem dX1_lay_27 : decode cX1_lay 27 = .ok (.lload 7, 2) := by decide +kernel
theorem dX1_lay_29 : decode cX1_lay 29 = .ok (.aload_n 0, 1) := by decide +kernel
theorem dX1_lay_30 : decode cX1_lay 30 = .ok (.getfield 43, 3) := by decide +kernel
theorem dX1_lay_33 : decode cX1_lay 33 = .ok (.invokevirtual 176, 3) := by decide +kernel
theorem dX1_lay_36 : decode cX1_lay 36 = .ok (.aload_n 0, 1) := by decide +kernel
theorem dX1_lay_37 : decode cX1_lay 37 = .ok (.getfield 52, 3) := by decide +kernel
theorem dX1_lay_40 : decode cX1_lay 40 = .ok (.lload 5, 2) := by decide +kernel
theorem dX1_lay_42 : decode cX1_lay 42 = .ok (.invokevirtual 142, 3) := by decide +kernel
theorem dX1_lay_45 : decode cX1_lay 45 = .ok (.aload_n 1, 1) := by decide +kernel
theorem dX1_lay_46 : decode cX1_lay 46 = .ok (.getfield 77, 3) := by decide +kernel
theorem dX1_lay_49 : decode cX1_lay 49 = .ok (.getfield 180, 3) := by decide +kernel
theorem dX1_lay_52 : decode cX1_lay 52 = .ok (.aload_n 2, 1) := by decide +kernel
theorem dX1_lay_53 : decode cX1_lay 53 = .ok (.aload_n 0, 1) := by decide +kernel
theorem dX1_lay_54 : decode cX1_lay 54 = .ok (.getfield 52, 3) := by decide +kernel
theorem dX1_lay_57 : decode cX1_lay 57 = .ok (.invokevirtual 205, 3) := by decide +kernel
theorem dX1_lay_60 : decode cX1_lay 60 = .ok (.aload_n 1, 1) := by decide +kernel
theorem dX1_lay_61 : decode cX1_lay 61 = .ok (.getfield 77, 3) := by decide +kernel
theorem dX1_lay_64 : decode cX1_lay 64 = .ok (.lload 9, 2) := by decide +kernel
theorem dX1_lay_66 : decode cX1_lay 66 = .ok (.aload_n 0, 1) := by decide +kernel
theorem dX1_lay_67 : decode cX1_lay 67 = .ok (.getfield 43, 3) := by decide +kernel
theorem dX1_lay_70 : decode cX1_lay 70 = .ok (.invokevirtual 176, 3) := by decide +kernel
theorem dX1_lay_73 : decode cX1_lay 73 = .ok (.return_, 1) := by decide +kernel
theorem dX1_isTowards_0 : decode cX1_isTowards 0 = .ok (.aload_n 0, 1) := by decide +kernel
theorem dX1_isTowards_1 : decode cX1_isTowards 1 = .ok (.getfield 10, 3) := by decide +kernel
theorem dX1_isTowards_4 : decode cX1_isTowards 4 = .ok (.aload_n 2, 1) := by decide +kernel
theorem dX1_isTowards_5 : decode cX1_isTowards 5 = .ok (.getfield 67, 3) := by decide +kernel
theorem dX1_isTowards_8 : decode cX1_isTowards 8 = .ok (.invokevirtual 186, 3) := by decide +kernel
theorem dX1_isTowards_11 : decode cX1_isTowards 11 = .ok (.istore_n 3, 1) := by decide +kernel
theorem dX1_isTowards_12 : decode cX1_isTowards 12 = .ok (.aload_n 0, 1) := by decide +kernel
theorem dX1_isTowards_13 : decode cX1_isTowards 13 = .ok (.getfield 10, 3) := by decide +kernel
theorem dX1_isTowards_16 : decode cX1_isTowards 16 = .ok (.aload_n 2, 1) := by decide +kernel
theorem dX1_isTowards_17 : decode cX1_isTowards 17 = .ok (.getfield 77, 3) := by decide +kernel
theorem dX1_isTowards_20 : decode cX1_isTowards 20 = .ok (.invokevirtual 186, 3) := by decide +kernel
theorem dX1_isTowards_23 : decode cX1_isTowards 23 = .ok (.istore 4, 2) := by decide +kernel
theorem dX1_isTowards_25 : decode cX1_isTowards 25 = .ok (.aload_n 0, 1) := by decide +kernel
theorem dX1_isTowards_26 : decode cX1_isTowards 26 = .ok (.getfield 39, 3) := by decide +kernel
theorem dX1_isTowards_29 : decode cX1_isTowards 29 = .ok (.getfield 180, 3) := by decide +kernel
theorem dX1_isTowards_32 : decode cX1_isTowards 32 = .ok (.aload_n 2, 1) := by decide +kernel
theorem dX1_isTowards_33 : decode cX1_isTowards 33 = .ok (.getfield 67, 3) := by decide +kernel
theorem dX1_isTowards_36 : decode cX1_isTowards 36 = .ok (.getfield 180, 3) := by decide +kernel
theorem dX1_isTowards_39 : decode cX1_isTowards 39 = .ok (.invokevirtual 183, 3) := by decide +kernel
theorem dX1_isTowards_42 : decode cX1_isTowards 42 = .ok (.aload_n 0, 1) := by decide +kernel
theorem dX1_isTowards_43 : decode cX1_isTowards 43 = .ok (.getfield 39, 3) := by decide +kernel
theorem dX1_isTowards_46 : decode cX1_isTowards 46 = .ok (.getfield 180, 3) := by decide +kernel
theorem dX1_isTowards_49 : decode cX1_isTowards 49 = .ok (.aload_n 2, 1) := by decide +kernel
theorem dX1_isTowards_50 : decode cX1_isTowards 50 = .ok (.getfield 77, 3) := by decide +kernel
theorem dX1_isTowards_53 : decode cX1_isTowards 53 = .ok (.getfield 180, 3) := by decide +kernel
theorem dX1_isTowards_56 : decode cX1_isTowards 56 = .ok (.invokevirtual 209, 3) := by decide +kernel
theorem dX1_isTowards_59 : decode cX1_isTowards 59 = .ok (.aload_n 0, 1) := by decide +kernel
theorem dX1_isTowards_60 : decode cX1_isTowards 60 = .ok (.getfield 39, 3) := by decide +kernel
theorem dX1_isTowards_63 : decode cX1_isTowards 63 = .ok (.aload_n 2, 1) := by decide +kernel
theorem dX1_isTowards_64 : decode cX1_isTowards 64 = .ok (.getfield 67, 3) := by decide +kernel
theorem dX1_isTowards_67 : decode cX1_isTowards 67 = .ok (.getfield 212, 3) := by decide +kernel
theorem dX1_isTowards_70 : decode cX1_isTowards 70 = .ok (.aload_n 2, 1) := by decide +kernel
theorem dX1_isTowards_71 : decode cX1_isTowards 71 = .ok (.getfield 77, 3) := by decide +kernel
theorem dX1_isTowards_74 : decode cX1_isTowards 74 = .ok (.getfield 212, 3) := by decide +kernel
theorem dX1_isTowards_77 : decode cX1_isTowards 77 = .ok (.ladd, 1) := by decide +kernel
theorem dX1_isTowards_78 : decode cX1_isTowards 78 = .ok (.aload_n 0, 1) := by decide +kernel
theorem dX1_isTowards_79 : decode cX1_isTowards 79 = .ok (.getfield 43, 3) := by decide +kernel
theorem dX1_isTowards_82 : decode cX1_isTowards 82 = .ok (.invokevirtual 176, 3) := by decide +kernel
theorem dX1_isTowards_85 : decode cX1_isTowards 85 = .ok (.aload_n 0, 1) := by decide +kernel
theorem dX1_isTowards_86 : decode cX1_isTowards 86 = .ok (.getfield 10, 3) := by decide +kernel
theorem dX1_isTowards_89 : decode cX1_isTowards 89 = .ok (.aload_n 0, 1) := by decide +kernel
theorem dX1_isTowards_90 : decode cX1_isTowards 90 = .ok (.getfield 39, 3) := by decide +kernel
theorem dX1_isTowards_93 : decode cX1_isTowards 93 = .ok (.invokevirtual 186, 3) := by decide +kernel
theorem dX1_isTowards_96 : decode cX1_isTowards 96 = .ok (.istore 5, 2) := by decide +kernel
theorem dX1_isTowards_98 : decode cX1_isTowards 98 = .ok (.aload_n 0, 1) := by decide +kernel
theorem dX1_isTowards_99 : decode cX1_isTowards 99 = .ok (.getfield 39, 3) := by decide +kernel
theorem dX1_isTowards_102 : decode cX1_isTowards 102 = .ok (.getfield 180, 3) := by decide +kernel
theorem dX1_isTowards_105 : decode cX1_isTowards 105 = .ok (.aload_n 2, 1) := by decide +kernel
theorem dX1_isTowards_106 : decode cX1_isTowards 106 = .ok (.getfield 67, 3) := by decide +kernel
theorem dX1_isTowards_109 : decode cX1_isTowards 109 = .ok (.getfield 180, 3) := by decide +kernel
theorem dX1_isTowards_112 : decode cX1_isTowards 112 = .ok (.invokevirtual 183, 3) := by decide +kernel
theorem dX1_isTowards_115 : decode cX1_isTowards 115 = .ok (.aload_n 0, 1) := by decide +kernel
theorem dX1_isTowards_116 : decode cX1_isTowards 116 = .ok (.getfield 39, 3) := by decide +kernel
theorem dX1_isTowards_119 : decode cX1_isTowards 119 = .ok (.getfield 180, 3) := by decide +kernel
theorem dX1_isTowards_122 : decode cX1_isTowards 122 = .ok (.aload_n 2, 1) := by decide +kernel
theorem dX1_isTowards_123 : decode cX1_isTowards 123 = .ok (.getfield 77, 3) := by decide +kernel
theorem dX1_isTowards_126 : decode cX1_isTowards 126 = .ok (.getfield 180, 3) := by decide +kernel
theorem dX1_isTowards_129 : decode cX1_isTowards 129 = .ok (.invokevirtual 189, 3) := by decide +kernel
theorem dX1_isTowards_132 : decode cX1_isTowards 132 = .ok (.aload_n 0, 1) := by decide +kernel
theorem dX1_isTowards_133 : decode cX1_isTowards 133 = .ok (.getfield 39, 3) := by decide +kernel
theorem dX1_isTowards_136 : decode cX1_isTowards 136 = .ok (.aload_n 2, 1) := by decide +kernel
theorem dX1_isTowards_137 : decode cX1_isTowards 137 = .ok (.getfield 67, 3) := by decide +kernel
theorem dX1_isTowards_140 : decode cX1_isTowards 140 = .ok (.getfield 212, 3) := by decide +kernel
theorem dX1_isTowards_143 : decode cX1_isTowards 143 = .ok (.aload_n 2, 1) := by decide +kernel
theorem dX1_isTowards_144 : decode cX1_isTowards 144 = .ok (.getfield 77, 3) := by decide +kernel
theorem dX1_isTowards_147 : decode cX1_isTowards 147 = .ok (.getfield 212, 3) := by decide +kernel
theorem dX1_isTowards_150 : decode cX1_isTowards 150 = .ok (.lsub, 1) := by decide +kernel
theorem dX1_isTowards_151 : decode cX1_isTowards 151 = .ok (.aload_n 0, 1) := by decide +kernel
theorem dX1_isTowards_152 : decode cX1_isTowards 152 = .ok (.getfield 43, 3) := by decide +kernel
theorem dX1_isTowards_155 : decode cX1_isTowards 155 = .ok (.invokevirtual 176, 3) := by decide +kernel
theorem dX1_isTowards_158 : decode cX1_isTowards 158 = .ok (.aload_n 1, 1) := by decide +kernel
theorem dX1_isTowards_159 : decode cX1_isTowards 159 = .ok (.iload_n 3, 1) := by decide +kernel
theorem dX1_isTowards_160 : decode cX1_isTowards 160 = .ok (.iload 4, 2) := by decide +kernel
theorem dX1_isTowards_162 : decode cX1_isTowards 162 = .ok (.aload_n 0, 1) := by decide +kernel
theorem dX1_isTowards_163 : decode cX1_isTowards 163 = .ok (.getfield 10, 3) := by decide +kernel
theorem dX1_isTowards_166 : decode cX1_isTowards 166 = .ok (.aload_n 0, 1) := by decide +kernel
theorem dX1_isTowards_167 : decode cX1_isTowards 167 = .ok (.getfield 39, 3) := by decide +kernel
theorem dX1_isTowards_170 : decode cX1_isTowards 170 = .ok (.invokevirtual 186, 3) := by decide +kernel
theorem dX1_isTowards_173 : decode cX1_isTowards 173 = .ok (.iload 5, 2) := by decide +kernel
theorem dX1_isTowards_175 : decode cX1_isTowards 175 = .ok (.invokevirtual 215, 3) := by decide +kernel
theorem dX1_isTowards_178 : decode cX1_isTowards 178 = .ok (.ireturn, 1) := by decide +kernel
