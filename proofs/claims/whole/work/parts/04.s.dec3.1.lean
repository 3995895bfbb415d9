theorem dX11_isTurned_52 : decode cX11_isTurned 52 = .ok (.iadd, 1) := by decide +kernel
theorem dX11_isTurned_53 : decode cX11_isTurned 53 = .ok (.bipush 16, 2) := by decide +kernel
theorem dX11_isTurned_55 : decode cX11_isTurned 55 = .ok (.irem, 1) := by decide +kernel
theorem dX11_isTurned_56 : decode cX11_isTurned 56 = .ok (.if_icmp .gt 7, 3) := by decide +kernel
theorem dX11_isTurned_59 : decode cX11_isTurned 59 = .ok (.iconst 1, 1) := by decide +kernel
theorem dX11_isTurned_60 : decode cX11_isTurned 60 = .ok (.goto 4, 3) := by decide +kernel
theorem dX11_isTurned_63 : decode cX11_isTurned 63 = .ok (.iconst 0, 1) := by decide +kernel
theorem dX11_isTurned_64 : decode cX11_isTurned 64 = .ok (.ireturn, 1) := by decide +kernel
theorem dX11_isOfArc_0 : decode cX11_isOfArc 0 = .ok (.aload_n 0, 1) := by decide +kernel
theorem dX11_isOfArc_1 : decode cX11_isOfArc 1 = .ok (.bipush 13, 2) := by decide +kernel
theorem dX11_isOfArc_3 : decode cX11_isOfArc 3 = .ok (.aload_n 0, 1) := by decide +kernel
theorem dX11_isOfArc_4 : decode cX11_isOfArc 4 = .ok (.getfield 13, 3) := by decide +kernel
theorem dX11_isOfArc_7 : decode cX11_isOfArc 7 = .ok (.iload_n 1, 1) := by decide +kernel
theorem dX11_isOfArc_8 : decode cX11_isOfArc 8 = .ok (.laload, 1) := by decide +kernel
theorem dX11_isOfArc_9 : decode cX11_isOfArc 9 = .ok (.invokevirtual 67, 3) := by decide +kernel
theorem dX11_isOfArc_12 : decode cX11_isOfArc 12 = .ok (.aload_n 0, 1) := by decide +kernel
theorem dX11_isOfArc_13 : decode cX11_isOfArc 13 = .ok (.iconst 4, 1) := by decide +kernel
theorem dX11_isOfArc_14 : decode cX11_isOfArc 14 = .ok (.bipush 13, 2) := by decide +kernel
theorem dX11_isOfArc_16 : decode cX11_isOfArc 16 = .ok (.iconst 3, 1) := by decide +kernel
theorem dX11_isOfArc_17 : decode cX11_isOfArc 17 = .ok (.invokevirtual 93, 3) := by decide +kernel
theorem dX11_isOfArc_20 : decode cX11_isOfArc 20 = .ok (.aload_n 0, 1) := by decide +kernel
theorem dX11_isOfArc_21 : decode cX11_isOfArc 21 = .ok (.iconst 5, 1) := by decide +kernel
theorem dX11_isOfArc_22 : decode cX11_isOfArc 22 = .ok (.iconst 0, 1) := by decide +kernel
theorem dX11_isOfArc_23 : decode cX11_isOfArc 23 = .ok (.iconst 4, 1) := by decide +kernel
theorem dX11_isOfArc_24 : decode cX11_isOfArc 24 = .ok (.iconst 1, 1) := by decide +kernel
theorem dX11_isOfArc_25 : decode cX11_isOfArc 25 = .ok (.invokevirtual 82, 3) := by decide +kernel
theorem dX11_isOfArc_28 : decode cX11_isOfArc 28 = .ok (.aload_n 0, 1) := by decide +kernel
theorem dX11_isOfArc_29 : decode cX11_isOfArc 29 = .ok (.bipush 13, 2) := by decide +kernel
theorem dX11_isOfArc_31 : decode cX11_isOfArc 31 = .ok (.aload_n 0, 1) := by decide +kernel
theorem dX11_isOfArc_32 : decode cX11_isOfArc 32 = .ok (.getfield 17, 3) := by decide +kernel
theorem dX11_isOfArc_35 : decode cX11_isOfArc 35 = .ok (.iload_n 1, 1) := by decide +kernel
theorem dX11_isOfArc_36 : decode cX11_isOfArc 36 = .ok (.laload, 1) := by decide +kernel
theorem dX11_isOfArc_37 : decode cX11_isOfArc 37 = .ok (.invokevirtual 67, 3) := by decide +kernel
theorem dX11_isOfArc_40 : decode cX11_isOfArc 40 = .ok (.aload_n 0, 1) := by decide +kernel
theorem dX11_isOfArc_41 : decode cX11_isOfArc 41 = .ok (.iconst 4, 1) := by decide +kernel
theorem dX11_isOfArc_42 : decode cX11_isOfArc 42 = .ok (.bipush 13, 2) := by decide +kernel
theorem dX11_isOfArc_44 : decode cX11_isOfArc 44 = .ok (.iconst 3, 1) := by decide +kernel
theorem dX11_isOfArc_45 : decode cX11_isOfArc 45 = .ok (.invokevirtual 93, 3) := by decide +kernel
theorem dX11_isOfArc_48 : decode cX11_isOfArc 48 = .ok (.aload_n 0, 1) := by decide +kernel
theorem dX11_isOfArc_49 : decode cX11_isOfArc 49 = .ok (.bipush 6, 2) := by decide +kernel
theorem dX11_isOfArc_51 : decode cX11_isOfArc 51 = .ok (.iconst 1, 1) := by decide +kernel
theorem dX11_isOfArc_52 : decode cX11_isOfArc 52 = .ok (.iconst 4, 1) := by decide +kernel
theorem dX11_isOfArc_53 : decode cX11_isOfArc 53 = .ok (.iconst 1, 1) := by decide +kernel
theorem dX11_isOfArc_54 : decode cX11_isOfArc 54 = .ok (.invokevirtual 82, 3) := by decide +kernel
theorem dX11_isOfArc_57 : decode cX11_isOfArc 57 = .ok (.aload_n 0, 1) := by decide +kernel
theorem dX11_isOfArc_58 : decode cX11_isOfArc 58 = .ok (.bipush 7, 2) := by decide +kernel
theorem dX11_isOfArc_60 : decode cX11_isOfArc 60 = .ok (.iconst 5, 1) := by decide +kernel
theorem dX11_isOfArc_61 : decode cX11_isOfArc 61 = .ok (.bipush 6, 2) := by decide +kernel
theorem dX11_isOfArc_63 : decode cX11_isOfArc 63 = .ok (.iconst 1, 1) := by decide +kernel
theorem dX11_isOfArc_64 : decode cX11_isOfArc 64 = .ok (.invokevirtual 82, 3) := by decide +kernel
theorem dX11_isOfArc_67 : decode cX11_isOfArc 67 = .ok (.aload_n 0, 1) := by decide +kernel
theorem dX11_isOfArc_68 : decode cX11_isOfArc 68 = .ok (.bipush 8, 2) := by decide +kernel
theorem dX11_isOfArc_70 : decode cX11_isOfArc 70 = .ok (.iconst 5, 1) := by decide +kernel
theorem dX11_isOfArc_71 : decode cX11_isOfArc 71 = .ok (.bipush 6, 2) := by decide +kernel
theorem dX11_isOfArc_73 : decode cX11_isOfArc 73 = .ok (.iconst 0, 1) := by decide +kernel
theorem dX11_isOfArc_74 : decode cX11_isOfArc 74 = .ok (.invokevirtual 82, 3) := by decide +kernel
theorem dX11_isOfArc_77 : decode cX11_isOfArc 77 = .ok (.aload_n 0, 1) := by decide +kernel
theorem dX11_isOfArc_78 : decode cX11_isOfArc 78 = .ok (.iconst 5, 1) := by decide +kernel
theorem dX11_isOfArc_79 : decode cX11_isOfArc 79 = .ok (.iload_n 2, 1) := by decide +kernel
theorem dX11_isOfArc_80 : decode cX11_isOfArc 80 = .ok (.i2l, 1) := by decide +kernel
theorem dX11_isOfArc_81 : decode cX11_isOfArc 81 = .ok (.aload_n 0, 1) := by decide +kernel
theorem dX11_isOfArc_82 : decode cX11_isOfArc 82 = .ok (.getfield 159, 3) := by decide +kernel
theorem dX11_isOfArc_85 : decode cX11_isOfArc 85 = .ok (.lmul, 1) := by decide +kernel
theorem dX11_isOfArc_86 : decode cX11_isOfArc 86 = .ok (.iconst 2, 1) := by decide +kernel
theorem dX11_isOfArc_87 : decode cX11_isOfArc 87 = .ok (.invokevirtual 155, 3) := by decide +kernel
theorem dX11_isOfArc_90 : decode cX11_isOfArc 90 = .ok (.istore_n 3, 1) := by decide +kernel
theorem dX11_isOfArc_91 : decode cX11_isOfArc 91 = .ok (.aload_n 0, 1) := by decide +kernel
theorem dX11_isOfArc_92 : decode cX11_isOfArc 92 = .ok (.bipush 6, 2) := by decide +kernel
theorem dX11_isOfArc_94 : decode cX11_isOfArc 94 = .ok (.iload_n 2, 1) := by decide +kernel
theorem dX11_isOfArc_95 : decode cX11_isOfArc 95 = .ok (.i2l, 1) := by decide +kernel
theorem dX11_isOfArc_96 : decode cX11_isOfArc 96 = .ok (.aload_n 0, 1) := by decide +kernel
theorem dX11_isOfArc_97 : decode cX11_isOfArc 97 = .ok (.getfield 163, 3) := by decide +kernel
theorem dX11_isOfArc_100 : decode cX11_isOfArc 100 = .ok (.lmul, 1) := by decide +kernel
theorem dX11_isOfArc_101 : decode cX11_isOfArc 101 = .ok (.iconst 2, 1) := by decide +kernel
theorem dX11_isOfArc_102 : decode cX11_isOfArc 102 = .ok (.invokevirtual 155, 3) := by decide +kernel
theorem dX11_isOfArc_105 : decode cX11_isOfArc 105 = .ok (.istore 4, 2) := by decide +kernel
theorem dX11_isOfArc_107 : decode cX11_isOfArc 107 = .ok (.aload_n 0, 1) := by decide +kernel
theorem dX11_isOfArc_108 : decode cX11_isOfArc 108 = .ok (.bipush 7, 2) := by decide +kernel
theorem dX11_isOfArc_110 : decode cX11_isOfArc 110 = .ok (.iload_n 2, 1) := by decide +kernel
theorem dX11_isOfArc_111 : decode cX11_isOfArc 111 = .ok (.i2l, 1) := by decide +kernel
theorem dX11_isOfArc_112 : decode cX11_isOfArc 112 = .ok (.aload_n 0, 1) := by decide +kernel
theorem dX11_isOfArc_113 : decode cX11_isOfArc 113 = .ok (.getfield 159, 3) := by decide +kernel
theorem dX11_isOfArc_116 : decode cX11_isOfArc 116 = .ok (.aload_n 0, 1) := by decide +kernel
theorem dX11_isOfArc_117 : decode cX11_isOfArc 117 = .ok (.getfield 163, 3) := by decide +kernel
theorem dX11_isOfArc_120 : decode cX11_isOfArc 120 = .ok (.lsub, 1) := by decide +kernel
theorem dX11_isOfArc_121 : decode cX11_isOfArc 121 = .ok (.lmul, 1) := by decide +kernel
theorem dX11_isOfArc_122 : decode cX11_isOfArc 122 = .ok (.iconst 2, 1) := by decide +kernel
theorem dX11_isOfArc_123 : decode cX11_isOfArc 123 = .ok (.invokevirtual 155, 3) := by decide +kernel
theorem dX11_isOfArc_126 : decode cX11_isOfArc 126 = .ok (.istore 5, 2) := by decide +kernel
theorem dX11_isOfArc_128 : decode cX11_isOfArc 128 = .ok (.aload_n 0, 1) := by decide +kernel
theorem dX11_isOfArc_129 : decode cX11_isOfArc 129 = .ok (.bipush 8, 2) := by decide +kernel
theorem dX11_isOfArc_131 : decode cX11_isOfArc 131 = .ok (.iload_n 2, 1) := by decide +kernel
theorem dX11_isOfArc_132 : decode cX11_isOfArc 132 = .ok (.i2l, 1) := by decide +kernel
theorem dX11_isOfArc_133 : decode cX11_isOfArc 133 = .ok (.aload_n 0, 1) := by decide +kernel
theorem dX11_isOfArc_134 : decode cX11_isOfArc 134 = .ok (.getfield 159, 3) := by decide +kernel
theorem dX11_isOfArc_137 : decode cX11_isOfArc 137 = .ok (.aload_n 0, 1) := by decide +kernel
theorem dX11_isOfArc_138 : decode cX11_isOfArc 138 = .ok (.getfield 163, 3) := by decide +kernel
theorem dX11_isOfArc_141 : decode cX11_isOfArc 141 = .ok (.ladd, 1) := by decide +kernel
theorem dX11_isOfArc_142 : decode cX11_isOfArc 142 = .ok (.lmul, 1) := by decide +kernel
theorem dX11_isOfArc_143 : decode cX11_isOfArc 143 = .ok (.iconst 2, 1) := by decide +kernel
theorem dX11_isOfArc_144 : decode cX11_isOfArc 144 = .ok (.invokevirtual 155, 3) := by decide +kernel
theorem dX11_isOfArc_147 : decode cX11_isOfArc 147 = .ok (.istore 6, 2) := by decide +kernel
theorem dX11_isOfArc_149 : decode cX11_isOfArc 149 = .ok (.aload_n 0, 1) := by decide +kernel
theorem dX11_isOfArc_150 : decode cX11_isOfArc 150 = .ok (.iload_n 1, 1) := by decide +kernel
theorem dX11_isOfArc_151 : decode cX11_isOfArc 151 = .ok (.iload_n 3, 1) := by decide +kernel
theorem dX11_isOfArc_152 : decode cX11_isOfArc 152 = .ok (.iload 4, 2) := by decide +kernel
theorem dX11_isOfArc_154 : decode cX11_isOfArc 154 = .ok (.iload 5, 2) := by decide +kernel
theorem dX11_isOfArc_156 : decode cX11_isOfArc 156 = .ok (.iload 6, 2) := by decide +kernel
theorem dX11_isOfArc_158 : decode cX11_isOfArc 158 = .ok (.invokestatic 166, 3) := by decide +kernel
theorem dX11_isOfArc_161 : decode cX11_isOfArc 161 = .ok (.invokevirtual 170, 3) := by decide +kernel
theorem dX11_isOfArc_164 : decode cX11_isOfArc 164 = .ok (.ireturn, 1) := by decide +kernel
theorem dX11_pointWith_0 : decode cX11_pointWith 0 = .ok (.aload_n 0, 1) := by decide +kernel
theorem dX11_pointWith_1 : decode cX11_pointWith 1 = .ok (.getfield 45, 3) := by decide +kernel
theorem dX11_pointWith_4 : decode cX11_pointWith 4 = .ok (.aload_n 0, 1) := by decide +kernel
theorem dX11_pointWith_5 : decode cX11_pointWith 5 = .ok (.getfield 173, 3) := by decide +kernel
theorem dX11_pointWith_8 : decode cX11_pointWith 8 = .ok (.iload_n 1, 1) := by decide +kernel
theorem dX11_pointWith_9 : decode cX11_pointWith 9 = .ok (.iastore, 1) := by decide +kernel
theorem dX11_pointWith_10 : decode cX11_pointWith 10 = .ok (.aload_n 0, 1) := by decide +kernel
theorem dX11_pointWith_11 : decode cX11_pointWith 11 = .ok (.dup, 1) := by decide +kernel
theorem dX11_pointWith_12 : decode cX11_pointWith 12 = .ok (.getfield 173, 3) := by decide +kernel
theorem dX11_pointWith_15 : decode cX11_pointWith 15 = .ok (.iconst 1, 1) := by decide +kernel
theorem dX11_pointWith_16 : decode cX11_pointWith 16 = .ok (.iadd, 1) := by decide +kernel
theorem dX11_pointWith_17 : decode cX11_pointWith 17 = .ok (.putfield 173, 3) := by decide +kernel
theorem dX11_pointWith_20 : decode cX11_pointWith 20 = .ok (.return_, 1) := by decide +kernel
theorem dX11_onPlace_0 : decode cX11_onPlace 0 = .ok (.aload_n 0, 1) := by decide +kernel
theorem dX11_onPlace_1 : decode cX11_onPlace 1 = .ok (.iconst 0, 1) := by decide +kernel
theorem dX11_onPlace_2 : decode cX11_onPlace 2 = .ok (.lload_n 1, 1) := by decide +kernel
theorem dX11_onPlace_3 : decode cX11_onPlace 3 = .ok (.invokevirtual 67, 3) := by decide +kernel
theorem dX11_onPlace_6 : decode cX11_onPlace 6 = .ok (.aload_n 0, 1) := by decide +kernel
theorem dX11_onPlace_7 : decode cX11_onPlace 7 = .ok (.iconst 1, 1) := by decide +kernel
theorem dX11_onPlace_8 : decode cX11_onPlace 8 = .ok (.lload_n 3, 1) := by decide +kernel
theorem dX11_onPlace_9 : decode cX11_onPlace 9 = .ok (.invokevirtual 67, 3) := by decide +kernel
theorem dX11_onPlace_12 : decode cX11_onPlace 12 = .ok (.aload_n 0, 1) := by decide +kernel
theorem dX11_onPlace_13 : decode cX11_onPlace 13 = .ok (.iconst 2, 1) := by decide +kernel
theorem dX11_onPlace_14 : decode cX11_onPlace 14 = .ok (.lconst 0, 1) := by decide +kernel
theorem dX11_onPlace_15 : decode cX11_onPlace 15 = .ok (.invokevirtual 67, 3) := by decide +kernel
theorem dX11_onPlace_18 : decode cX11_onPlace 18 = .ok (.aload_n 0, 1) := by decide +kernel
theorem dX11_onPlace_19 : decode cX11_onPlace 19 = .ok (.iconst 3, 1) := by decide +kernel
theorem dX11_onPlace_20 : decode cX11_onPlace 20 = .ok (.lconst 1, 1) := by decide +kernel
theorem dX11_onPlace_21 : decode cX11_onPlace 21 = .ok (.invokevirtual 67, 3) := by decide +kernel
theorem dX11_onPlace_24 : decode cX11_onPlace 24 = .ok (.aload_n 0, 1) := by decide +kernel
theorem dX11_onPlace_25 : decode cX11_onPlace 25 = .ok (.lconst 0, 1) := by decide +kernel
theorem dX11_onPlace_26 : decode cX11_onPlace 26 = .ok (.putfield 159, 3) := by decide +kernel
theorem dX11_onPlace_29 : decode cX11_onPlace 29 = .ok (.aload_n 0, 1) := by decide +kernel
theorem dX11_onPlace_30 : decode cX11_onPlace 30 = .ok (.lconst 0, 1) := by decide +kernel
theorem dX11_onPlace_31 : decode cX11_onPlace 31 = .ok (.putfield 163, 3) := by decide +kernel
theorem dX11_onPlace_34 : decode cX11_onPlace 34 = .ok (.aload_n 0, 1) := by decide +kernel
theorem dX11_onPlace_35 : decode cX11_onPlace 35 = .ok (.iconst 0, 1) := by decide +kernel
theorem dX11_onPlace_36 : decode cX11_onPlace 36 = .ok (.invokevirtual 176, 3) := by decide +kernel
theorem dX11_onPlace_39 : decode cX11_onPlace 39 = .ok (.return_, 1) := by decide +kernel
theorem dX11_crossAlong_0 : decode cX11_crossAlong 0 = .ok (.iconst 0, 1) := by decide +kernel
theorem dX11_crossAlong_1 : decode cX11_crossAlong 1 = .ok (.istore_n 3, 1) := by decide +kernel
theorem dX11_crossAlong_2 : decode cX11_crossAlong 2 = .ok (.lconst 0, 1) := by decide +kernel
theorem dX11_crossAlong_3 : decode cX11_crossAlong 3 = .ok (.lstore 4, 2) := by decide +kernel
theorem dX11_crossAlong_5 : decode cX11_crossAlong 5 = .ok (.lconst 0, 1) := by decide +kernel
theorem dX11_crossAlong_6 : decode cX11_crossAlong 6 = .ok (.lstore 6, 2) := by decide +kernel
theorem dX11_crossAlong_8 : decode cX11_crossAlong 8 = .ok (.iconst 0, 1) := by decide +kernel
theorem dX11_crossAlong_9 : decode cX11_crossAlong 9 = .ok (.istore 8, 2) := by decide +kernel
theorem dX11_crossAlong_11 : decode cX11_crossAlong 11 = .ok (.iconst 0, 1) := by decide +kernel
theorem dX11_crossAlong_12 : decode cX11_crossAlong 12 = .ok (.istore 9, 2) := by decide +kernel
theorem dX11_crossAlong_14 : decode cX11_crossAlong 14 = .ok (.iload 9, 2) := by decide +kernel
theorem dX11_crossAlong_16 : decode cX11_crossAlong 16 = .ok (.iconst 4, 1) := by decide +kernel
theorem dX11_crossAlong_17 : decode cX11_crossAlong 17 = .ok (.if_icmp .ge 148, 3) := by decide +kernel
theorem dX11_crossAlong_20 : decode cX11_crossAlong 20 = .ok (.iload 9, 2) := by decide +kernel
theorem dX11_crossAlong_22 : decode cX11_crossAlong 22 = .ok (.iconst 2, 1) := by decide +kernel
theorem dX11_crossAlong_23 : decode cX11_crossAlong 23 = .ok (.if_icmp .ge 7, 3) := by decide +kernel
theorem dX11_crossAlong_26 : decode cX11_crossAlong 26 = .ok (.iload_n 1, 1) := by decide +kernel
theorem dX11_crossAlong_27 : decode cX11_crossAlong 27 = .ok (.goto 4, 3) := by decide +kernel
theorem dX11_crossAlong_30 : decode cX11_crossAlong 30 = .ok (.iload_n 2, 1) := by decide +kernel
theorem dX11_crossAlong_31 : decode cX11_crossAlong 31 = .ok (.istore 10, 2) := by decide +kernel
theorem dX11_crossAlong_33 : decode cX11_crossAlong 33 = .ok (.iload 9, 2) := by decide +kernel
theorem dX11_crossAlong_35 : decode cX11_crossAlong 35 = .ok (.iconst 2, 1) := by decide +kernel
theorem dX11_crossAlong_36 : decode cX11_crossAlong 36 = .ok (.if_icmp .ge 7, 3) := by decide +kernel
theorem dX11_crossAlong_39 : decode cX11_crossAlong 39 = .ok (.iload_n 2, 1) := by decide +kernel
theorem dX11_crossAlong_40 : decode cX11_crossAlong 40 = .ok (.goto 4, 3) := by decide +kernel
theorem dX11_crossAlong_43 : decode cX11_crossAlong 43 = .ok (.iload_n 1, 1) := by decide +kernel
theorem dX11_crossAlong_44 : decode cX11_crossAlong 44 = .ok (.istore 11, 2) := by decide +kernel
theorem dX11_crossAlong_46 : decode cX11_crossAlong 46 = .ok (.aload_n 0, 1) := by decide +kernel
theorem dX11_crossAlong_47 : decode cX11_crossAlong 47 = .ok (.iload 10, 2) := by decide +kernel
theorem dX11_crossAlong_49 : decode cX11_crossAlong 49 = .ok (.iload 11, 2) := by decide +kernel
theorem dX11_crossAlong_51 : decode cX11_crossAlong 51 = .ok (.iload 9, 2) := by decide +kernel
theorem dX11_crossAlong_53 : decode cX11_crossAlong 53 = .ok (.iconst 2, 1) := by decide +kernel
theorem dX11_crossAlong_54 : decode cX11_crossAlong 54 = .ok (.irem, 1) := by decide +kernel
theorem dX11_crossAlong_55 : decode cX11_crossAlong 55 = .ok (.invokevirtual 126, 3) := by decide +kernel
theorem dX11_crossAlong_58 : decode cX11_crossAlong 58 = .ok (.ifCond .ne 6, 3) := by decide +kernel
theorem dX11_crossAlong_61 : decode cX11_crossAlong 61 = .ok (.goto 98, 3) := by decide +kernel
theorem dX11_crossAlong_64 : decode cX11_crossAlong 64 = .ok (.iload 9, 2) := by decide +kernel
theorem dX11_crossAlong_66 : decode cX11_crossAlong 66 = .ok (.iconst 2, 1) := by decide +kernel
theorem dX11_crossAlong_67 : decode cX11_crossAlong 67 = .ok (.irem, 1) := by decide +kernel
theorem dX11_crossAlong_68 : decode cX11_crossAlong 68 = .ok (.ifCond .ne 13, 3) := by decide +kernel
theorem dX11_crossAlong_71 : decode cX11_crossAlong 71 = .ok (.aload_n 0, 1) := by decide +kernel
theorem dX11_crossAlong_72 : decode cX11_crossAlong 72 = .ok (.getfield 13, 3) := by decide +kernel
theorem dX11_crossAlong_75 : decode cX11_crossAlong 75 = .ok (.iload 11, 2) := by decide +kernel
theorem dX11_crossAlong_77 : decode cX11_crossAlong 77 = .ok (.laload, 1) := by decide +kernel
theorem dX11_crossAlong_78 : decode cX11_crossAlong 78 = .ok (.goto 10, 3) := by decide +kernel
theorem dX11_crossAlong_81 : decode cX11_crossAlong 81 = .ok (.aload_n 0, 1) := by decide +kernel
theorem dX11_crossAlong_82 : decode cX11_crossAlong 82 = .ok (.getfield 20, 3) := by decide +kernel
theorem dX11_crossAlong_85 : decode cX11_crossAlong 85 = .ok (.iload 11, 2) := by decide +kernel
theorem dX11_crossAlong_87 : decode cX11_crossAlong 87 = .ok (.laload, 1) := by decide +kernel
theorem dX11_crossAlong_88 : decode cX11_crossAlong 88 = .ok (.lstore 12, 2) := by decide +kernel
theorem dX11_crossAlong_90 : decode cX11_crossAlong 90 = .ok (.iload 9, 2) := by decide +kernel
theorem dX11_crossAlong_92 : decode cX11_crossAlong 92 = .ok (.iconst 2, 1) := by decide +kernel
theorem dX11_crossAlong_93 : decode cX11_crossAlong 93 = .ok (.irem, 1) := by decide +kernel
theorem dX11_crossAlong_94 : decode cX11_crossAlong 94 = .ok (.ifCond .ne 13, 3) := by decide +kernel
theorem dX11_crossAlong_97 : decode cX11_crossAlong 97 = .ok (.aload_n 0, 1) := by decide +kernel
theorem dX11_crossAlong_98 : decode cX11_crossAlong 98 = .ok (.getfield 17, 3) := by decide +kernel
theorem dX11_crossAlong_101 : decode cX11_crossAlong 101 = .ok (.iload 11, 2) := by decide +kernel
theorem dX11_crossAlong_103 : decode cX11_crossAlong 103 = .ok (.laload, 1) := by decide +kernel
theorem dX11_crossAlong_104 : decode cX11_crossAlong 104 = .ok (.goto 10, 3) := by decide +kernel
theorem dX11_crossAlong_107 : decode cX11_crossAlong 107 = .ok (.aload_n 0, 1) := by decide +kernel
theorem dX11_crossAlong_108 : decode cX11_crossAlong 108 = .ok (.getfield 23, 3) := by decide +kernel
theorem dX11_crossAlong_111 : decode cX11_crossAlong 111 = .ok (.iload 11, 2) := by decide +kernel
theorem dX11_crossAlong_113 : decode cX11_crossAlong 113 = .ok (.laload, 1) := by decide +kernel
theorem dX11_crossAlong_114 : decode cX11_crossAlong 114 = .ok (.lstore 14, 2) := by decide +kernel
theorem dX11_crossAlong_116 : decode cX11_crossAlong 116 = .ok (.iload 8, 2) := by decide +kernel
theorem dX11_crossAlong_118 : decode cX11_crossAlong 118 = .ok (.ifCond .ne 23, 3) := by decide +kernel
theorem dX11_crossAlong_121 : decode cX11_crossAlong 121 = .ok (.iload_n 3, 1) := by decide +kernel
theorem dX11_crossAlong_122 : decode cX11_crossAlong 122 = .ok (.ifCond .le 23, 3) := by decide +kernel
theorem dX11_crossAlong_125 : decode cX11_crossAlong 125 = .ok (.lload 12, 2) := by decide +kernel
theorem dX11_crossAlong_127 : decode cX11_crossAlong 127 = .ok (.lload 4, 2) := by decide +kernel
theorem dX11_crossAlong_129 : decode cX11_crossAlong 129 = .ok (.lcmp, 1) := by decide +kernel
theorem dX11_crossAlong_130 : decode cX11_crossAlong 130 = .ok (.ifCond .ne 11, 3) := by decide +kernel
theorem dX11_crossAlong_133 : decode cX11_crossAlong 133 = .ok (.lload 14, 2) := by decide +kernel
theorem dX11_crossAlong_135 : decode cX11_crossAlong 135 = .ok (.lload 6, 2) := by decide +kernel
theorem dX11_crossAlong_137 : decode cX11_crossAlong 137 = .ok (.lcmp, 1) := by decide +kernel
theorem dX11_crossAlong_138 : decode cX11_crossAlong 138 = .ok (.ifCond .eq 7, 3) := by decide +kernel
theorem dX11_crossAlong_141 : decode cX11_crossAlong 141 = .ok (.iconst 1, 1) := by decide +kernel
theorem dX11_crossAlong_142 : decode cX11_crossAlong 142 = .ok (.goto 4, 3) := by decide +kernel
theorem dX11_crossAlong_145 : decode cX11_crossAlong 145 = .ok (.iconst 0, 1) := by decide +kernel
theorem dX11_crossAlong_146 : decode cX11_crossAlong 146 = .ok (.istore 8, 2) := by decide +kernel
theorem dX11_crossAlong_148 : decode cX11_crossAlong 148 = .ok (.lload 12, 2) := by decide +kernel
theorem dX11_crossAlong_150 : decode cX11_crossAlong 150 = .ok (.lstore 4, 2) := by decide +kernel
theorem dX11_crossAlong_152 : decode cX11_crossAlong 152 = .ok (.lload 14, 2) := by decide +kernel
theorem dX11_crossAlong_154 : decode cX11_crossAlong 154 = .ok (.lstore 6, 2) := by decide +kernel
theorem dX11_crossAlong_156 : decode cX11_crossAlong 156 = .ok (.iinc 3 1, 3) := by decide +kernel
theorem dX11_crossAlong_159 : decode cX11_crossAlong 159 = .ok (.iinc 9 1, 3) := by decide +kernel
theorem dX11_crossAlong_162 : decode cX11_crossAlong 162 = .ok (.goto (-148), 3) := by decide +kernel
theorem dX11_crossAlong_165 : decode cX11_crossAlong 165 = .ok (.iload_n 3, 1) := by decide +kernel
theorem dX11_crossAlong_166 : decode cX11_crossAlong 166 = .ok (.ifCond .le 16, 3) := by decide +kernel
theorem dX11_crossAlong_169 : decode cX11_crossAlong 169 = .ok (.iload 8, 2) := by decide +kernel
theorem dX11_crossAlong_171 : decode cX11_crossAlong 171 = .ok (.ifCond .ne 11, 3) := by decide +kernel
theorem dX11_crossAlong_174 : decode cX11_crossAlong 174 = .ok (.aload_n 0, 1) := by decide +kernel
theorem dX11_crossAlong_175 : decode cX11_crossAlong 175 = .ok (.lload 4, 2) := by decide +kernel
theorem dX11_crossAlong_177 : decode cX11_crossAlong 177 = .ok (.lload 6, 2) := by decide +kernel
theorem dX11_crossAlong_179 : decode cX11_crossAlong 179 = .ok (.invokevirtual 180, 3) := by decide +kernel
theorem dX11_crossAlong_182 : decode cX11_crossAlong 182 = .ok (.iload 8, 2) := by decide +kernel
theorem dX11_crossAlong_184 : decode cX11_crossAlong 184 = .ok (.ifCond .ne 7, 3) := by decide +kernel
theorem dX11_crossAlong_187 : decode cX11_crossAlong 187 = .ok (.iconst 1, 1) := by decide +kernel
theorem dX11_crossAlong_188 : decode cX11_crossAlong 188 = .ok (.goto 4, 3) := by decide +kernel
theorem dX11_crossAlong_191 : decode cX11_crossAlong 191 = .ok (.iconst 0, 1) := by decide +kernel
theorem dX11_crossAlong_192 : decode cX11_crossAlong 192 = .ok (.ireturn, 1) := by decide +kernel
theorem dX11_crossSegments_0 : decode cX11_crossSegments 0 = .ok (.aload_n 0, 1) := by decide +kernel
theorem dX11_crossSegments_1 : decode cX11_crossSegments 1 = .ok (.getfield 20, 3) := by decide +kernel
theorem dX11_crossSegments_4 : decode cX11_crossSegments 4 = .ok (.iload_n 1, 1) := by decide +kernel
theorem dX11_crossSegments_5 : decode cX11_crossSegments 5 = .ok (.laload, 1) := by decide +kernel
theorem dX11_crossSegments_6 : decode cX11_crossSegments 6 = .ok (.aload_n 0, 1) := by decide +kernel
theorem dX11_crossSegments_7 : decode cX11_crossSegments 7 = .ok (.getfield 13, 3) := by decide +kernel
theorem dX11_crossSegments_10 : decode cX11_crossSegments 10 = .ok (.iload_n 1, 1) := by decide +kernel
theorem dX11_crossSegments_11 : decode cX11_crossSegments 11 = .ok (.laload, 1) := by decide +kernel
theorem dX11_crossSegments_12 : decode cX11_crossSegments 12 = .ok (.lsub, 1) := by decide +kernel
theorem dX11_crossSegments_13 : decode cX11_crossSegments 13 = .ok (.lstore_n 3, 1) := by decide +kernel
theorem dX11_crossSegments_14 : decode cX11_crossSegments 14 = .ok (.aload_n 0, 1) := by decide +kernel
theorem dX11_crossSegments_15 : decode cX11_crossSegments 15 = .ok (.getfield 23, 3) := by decide +kernel
theorem dX11_crossSegments_18 : decode cX11_crossSegments 18 = .ok (.iload_n 1, 1) := by decide +kernel
theorem dX11_crossSegments_19 : decode cX11_crossSegments 19 = .ok (.laload, 1) := by decide +kernel
theorem dX11_crossSegments_20 : decode cX11_crossSegments 20 = .ok (.aload_n 0, 1) := by decide +kernel
theorem dX11_crossSegments_21 : decode cX11_crossSegments 21 = .ok (.getfield 17, 3) := by decide +kernel
theorem dX11_crossSegments_24 : decode cX11_crossSegments 24 = .ok (.iload_n 1, 1) := by decide +kernel
theorem dX11_crossSegments_25 : decode cX11_crossSegments 25 = .ok (.laload, 1) := by decide +kernel
theorem dX11_crossSegments_26 : decode cX11_crossSegments 26 = .ok (.lsub, 1) := by decide +kernel
theorem dX11_crossSegments_27 : decode cX11_crossSegments 27 = .ok (.lstore 5, 2) := by decide +kernel
theorem dX11_crossSegments_29 : decode cX11_crossSegments 29 = .ok (.aload_n 0, 1) := by decide +kernel
theorem dX11_crossSegments_30 : decode cX11_crossSegments 30 = .ok (.getfield 20, 3) := by decide +kernel
theorem dX11_crossSegments_33 : decode cX11_crossSegments 33 = .ok (.iload_n 2, 1) := by decide +kernel
theorem dX11_crossSegments_34 : decode cX11_crossSegments 34 = .ok (.laload, 1) := by decide +kernel
theorem dX11_crossSegments_35 : decode cX11_crossSegments 35 = .ok (.aload_n 0, 1) := by decide +kernel
theorem dX11_crossSegments_36 : decode cX11_crossSegments 36 = .ok (.getfield 13, 3) := by decide +kernel
theorem dX11_crossSegments_39 : decode cX11_crossSegments 39 = .ok (.iload_n 2, 1) := by decide +kernel
theorem dX11_crossSegments_40 : decode cX11_crossSegments 40 = .ok (.laload, 1) := by decide +kernel
theorem dX11_crossSegments_41 : decode cX11_crossSegments 41 = .ok (.lsub, 1) := by decide +kernel
theorem dX11_crossSegments_42 : decode cX11_crossSegments 42 = .ok (.lstore 7, 2) := by decide +kernel
theorem dX11_crossSegments_44 : decode cX11_crossSegments 44 = .ok (.aload_n 0, 1) := by decide +kernel
theorem dX11_crossSegments_45 : decode cX11_crossSegments 45 = .ok (.getfield 23, 3) := by decide +kernel
theorem dX11_crossSegments_48 : decode cX11_crossSegments 48 = .ok (.iload_n 2, 1) := by decide +kernel
theorem dX11_crossSegments_49 : decode cX11_crossSegments 49 = .ok (.laload, 1) := by decide +kernel
theorem dX11_crossSegments_50 : decode cX11_crossSegments 50 = .ok (.aload_n 0, 1) := by decide +kernel
theorem dX11_crossSegments_51 : decode cX11_crossSegments 51 = .ok (.getfield 17, 3) := by decide +kernel
theorem dX11_crossSegments_54 : decode cX11_crossSegments 54 = .ok (.iload_n 2, 1) := by decide +kernel
theorem dX11_crossSegments_55 : decode cX11_crossSegments 55 = .ok (.laload, 1) := by decide +kernel
theorem dX11_crossSegments_56 : decode cX11_crossSegments 56 = .ok (.lsub, 1) := by decide +kernel
theorem dX11_crossSegments_57 : decode cX11_crossSegments 57 = .ok (.lstore 9, 2) := by decide +kernel
theorem dX11_crossSegments_59 : decode cX11_crossSegments 59 = .ok (.aload_n 0, 1) := by decide +kernel
theorem dX11_crossSegments_60 : decode cX11_crossSegments 60 = .ok (.iconst 3, 1) := by decide +kernel
theorem dX11_crossSegments_61 : decode cX11_crossSegments 61 = .ok (.lload_n 3, 1) := by decide +kernel
theorem dX11_crossSegments_62 : decode cX11_crossSegments 62 = .ok (.lload 9, 2) := by decide +kernel
theorem dX11_crossSegments_64 : decode cX11_crossSegments 64 = .ok (.lload 5, 2) := by decide +kernel
theorem dX11_crossSegments_66 : decode cX11_crossSegments 66 = .ok (.lload 7, 2) := by decide +kernel
theorem dX11_crossSegments_68 : decode cX11_crossSegments 68 = .ok (.iconst 1, 1) := by decide +kernel
theorem dX11_crossSegments_69 : decode cX11_crossSegments 69 = .ok (.invokevirtual 97, 3) := by decide +kernel
theorem dX11_crossSegments_72 : decode cX11_crossSegments 72 = .ok (.aload_n 0, 1) := by decide +kernel
theorem dX11_crossSegments_73 : decode cX11_crossSegments 73 = .ok (.iconst 3, 1) := by decide +kernel
theorem dX11_crossSegments_74 : decode cX11_crossSegments 74 = .ok (.invokevirtual 78, 3) := by decide +kernel
theorem dX11_crossSegments_77 : decode cX11_crossSegments 77 = .ok (.ifCond .ne 28, 3) := by decide +kernel
theorem dX11_crossSegments_80 : decode cX11_crossSegments 80 = .ok (.aload_n 0, 1) := by decide +kernel
theorem dX11_crossSegments_81 : decode cX11_crossSegments 81 = .ok (.iload_n 1, 1) := by decide +kernel
theorem dX11_crossSegments_82 : decode cX11_crossSegments 82 = .ok (.iload_n 2, 1) := by decide +kernel
theorem dX11_crossSegments_83 : decode cX11_crossSegments 83 = .ok (.iconst 0, 1) := by decide +kernel
theorem dX11_crossSegments_84 : decode cX11_crossSegments 84 = .ok (.invokevirtual 130, 3) := by decide +kernel
theorem dX11_crossSegments_87 : decode cX11_crossSegments 87 = .ok (.ifCond .ne 12, 3) := by decide +kernel
theorem dX11_crossSegments_90 : decode cX11_crossSegments 90 = .ok (.aload_n 0, 1) := by decide +kernel
theorem dX11_crossSegments_91 : decode cX11_crossSegments 91 = .ok (.iload_n 1, 1) := by decide +kernel
theorem dX11_crossSegments_92 : decode cX11_crossSegments 92 = .ok (.iload_n 2, 1) := by decide +kernel
theorem dX11_crossSegments_93 : decode cX11_crossSegments 93 = .ok (.invokevirtual 184, 3) := by decide +kernel
theorem dX11_crossSegments_96 : decode cX11_crossSegments 96 = .ok (.ifCond .eq 7, 3) := by decide +kernel
theorem dX11_crossSegments_99 : decode cX11_crossSegments 99 = .ok (.iconst 1, 1) := by decide +kernel
theorem dX11_crossSegments_100 : decode cX11_crossSegments 100 = .ok (.goto 4, 3) := by decide +kernel
theorem dX11_crossSegments_103 : decode cX11_crossSegments 103 = .ok (.iconst 0, 1) := by decide +kernel
theorem dX11_crossSegments_104 : decode cX11_crossSegments 104 = .ok (.ireturn, 1) := by decide +kernel
theorem dX11_crossSegments_105 : decode cX11_crossSegments 105 = .ok (.aload_n 0, 1) := by decide +kernel
theorem dX11_crossSegments_106 : decode cX11_crossSegments 106 = .ok (.iload_n 1, 1) := by decide +kernel
theorem dX11_crossSegments_107 : decode cX11_crossSegments 107 = .ok (.iload_n 2, 1) := by decide +kernel
theorem dX11_crossSegments_108 : decode cX11_crossSegments 108 = .ok (.invokevirtual 145, 3) := by decide +kernel
theorem dX11_crossSegments_111 : decode cX11_crossSegments 111 = .ok (.ifCond .ne 5, 3) := by decide +kernel
theorem dX11_crossSegments_114 : decode cX11_crossSegments 114 = .ok (.iconst 1, 1) := by decide +kernel
theorem dX11_crossSegments_115 : decode cX11_crossSegments 115 = .ok (.ireturn, 1) := by decide +kernel
theorem dX11_crossSegments_116 : decode cX11_crossSegments 116 = .ok (.aload_n 0, 1) := by decide +kernel
theorem dX11_crossSegments_117 : decode cX11_crossSegments 117 = .ok (.iconst 5, 1) := by decide +kernel
theorem dX11_crossSegments_118 : decode cX11_crossSegments 118 = .ok (.aload_n 0, 1) := by decide +kernel
theorem dX11_crossSegments_119 : decode cX11_crossSegments 119 = .ok (.getfield 13, 3) := by decide +kernel
theorem dX11_crossSegments_122 : decode cX11_crossSegments 122 = .ok (.iload_n 2, 1) := by decide +kernel
theorem dX11_crossSegments_123 : decode cX11_crossSegments 123 = .ok (.laload, 1) := by decide +kernel
theorem dX11_crossSegments_124 : decode cX11_crossSegments 124 = .ok (.aload_n 0, 1) := by decide +kernel
theorem dX11_crossSegments_125 : decode cX11_crossSegments 125 = .ok (.getfield 13, 3) := by decide +kernel
theorem dX11_crossSegments_128 : decode cX11_crossSegments 128 = .ok (.iload_n 1, 1) := by decide +kernel
theorem dX11_crossSegments_129 : decode cX11_crossSegments 129 = .ok (.laload, 1) := by decide +kernel
theorem dX11_crossSegments_130 : decode cX11_crossSegments 130 = .ok (.lsub, 1) := by decide +kernel
theorem dX11_crossSegments_131 : decode cX11_crossSegments 131 = .ok (.lload 9, 2) := by decide +kernel
theorem dX11_crossSegments_133 : decode cX11_crossSegments 133 = .ok (.aload_n 0, 1) := by decide +kernel
theorem dX11_crossSegments_134 : decode cX11_crossSegments 134 = .ok (.getfield 17, 3) := by decide +kernel
theorem dX11_crossSegments_137 : decode cX11_crossSegments 137 = .ok (.iload_n 2, 1) := by decide +kernel
theorem dX11_crossSegments_138 : decode cX11_crossSegments 138 = .ok (.laload, 1) := by decide +kernel
theorem dX11_crossSegments_139 : decode cX11_crossSegments 139 = .ok (.aload_n 0, 1) := by decide +kernel
theorem dX11_crossSegments_140 : decode cX11_crossSegments 140 = .ok (.getfield 17, 3) := by decide +kernel
theorem dX11_crossSegments_143 : decode cX11_crossSegments 143 = .ok (.iload_n 1, 1) := by decide +kernel
theorem dX11_crossSegments_144 : decode cX11_crossSegments 144 = .ok (.laload, 1) := by decide +kernel
theorem dX11_crossSegments_145 : decode cX11_crossSegments 145 = .ok (.lsub, 1) := by decide +kernel
theorem dX11_crossSegments_146 : decode cX11_crossSegments 146 = .ok (.lload 7, 2) := by decide +kernel
theorem dX11_crossSegments_148 : decode cX11_crossSegments 148 = .ok (.iconst 1, 1) := by decide +kernel
theorem dX11_crossSegments_149 : decode cX11_crossSegments 149 = .ok (.invokevirtual 97, 3) := by decide +kernel
theorem dX11_crossSegments_152 : decode cX11_crossSegments 152 = .ok (.aload_n 0, 1) := by decide +kernel
theorem dX11_crossSegments_153 : decode cX11_crossSegments 153 = .ok (.getfield 42, 3) := by decide +kernel
theorem dX11_crossSegments_156 : decode cX11_crossSegments 156 = .ok (.iconst 3, 1) := by decide +kernel
theorem dX11_crossSegments_157 : decode cX11_crossSegments 157 = .ok (.baload, 1) := by decide +kernel
theorem dX11_crossSegments_158 : decode cX11_crossSegments 158 = .ok (.ifCond .eq 30, 3) := by decide +kernel
theorem dX11_crossSegments_161 : decode cX11_crossSegments 161 = .ok (.aload_n 0, 1) := by decide +kernel
theorem dX11_crossSegments_162 : decode cX11_crossSegments 162 = .ok (.getfield 42, 3) := by decide +kernel
theorem dX11_crossSegments_165 : decode cX11_crossSegments 165 = .ok (.iconst 3, 1) := by decide +kernel
theorem dX11_crossSegments_166 : decode cX11_crossSegments 166 = .ok (.iconst 0, 1) := by decide +kernel
theorem dX11_crossSegments_167 : decode cX11_crossSegments 167 = .ok (.bastore, 1) := by decide +kernel
theorem dX11_crossSegments_168 : decode cX11_crossSegments 168 = .ok (.aload_n 0, 1) := by decide +kernel
theorem dX11_crossSegments_169 : decode cX11_crossSegments 169 = .ok (.getfield 42, 3) := by decide +kernel
theorem dX11_crossSegments_172 : decode cX11_crossSegments 172 = .ok (.iconst 5, 1) := by decide +kernel
theorem dX11_crossSegments_173 : decode cX11_crossSegments 173 = .ok (.aload_n 0, 1) := by decide +kernel
theorem dX11_crossSegments_174 : decode cX11_crossSegments 174 = .ok (.getfield 42, 3) := by decide +kernel
theorem dX11_crossSegments_177 : decode cX11_crossSegments 177 = .ok (.iconst 5, 1) := by decide +kernel
theorem dX11_crossSegments_178 : decode cX11_crossSegments 178 = .ok (.baload, 1) := by decide +kernel
theorem dX11_crossSegments_179 : decode cX11_crossSegments 179 = .ok (.ifCond .ne 7, 3) := by decide +kernel
theorem dX11_crossSegments_182 : decode cX11_crossSegments 182 = .ok (.iconst 1, 1) := by decide +kernel
theorem dX11_crossSegments_183 : decode cX11_crossSegments 183 = .ok (.goto 4, 3) := by decide +kernel
theorem dX11_crossSegments_186 : decode cX11_crossSegments 186 = .ok (.iconst 0, 1) := by decide +kernel
theorem dX11_crossSegments_187 : decode cX11_crossSegments 187 = .ok (.bastore, 1) := by decide +kernel
theorem dX11_crossSegments_188 : decode cX11_crossSegments 188 = .ok (.aload_n 0, 1) := by decide +kernel
theorem dX11_crossSegments_189 : decode cX11_crossSegments 189 = .ok (.aload_n 0, 1) := by decide +kernel
theorem dX11_crossSegments_190 : decode cX11_crossSegments 190 = .ok (.getfield 13, 3) := by decide +kernel
theorem dX11_crossSegments_193 : decode cX11_crossSegments 193 = .ok (.iload_n 1, 1) := by decide +kernel
theorem dX11_crossSegments_194 : decode cX11_crossSegments 194 = .ok (.laload, 1) := by decide +kernel
theorem dX11_crossSegments_195 : decode cX11_crossSegments 195 = .ok (.lload_n 3, 1) := by decide +kernel
theorem dX11_crossSegments_196 : decode cX11_crossSegments 196 = .ok (.iconst 0, 1) := by decide +kernel
theorem dX11_crossSegments_197 : decode cX11_crossSegments 197 = .ok (.invokevirtual 187, 3) := by decide +kernel
theorem dX11_crossSegments_200 : decode cX11_crossSegments 200 = .ok (.aload_n 0, 1) := by decide +kernel
theorem dX11_crossSegments_201 : decode cX11_crossSegments 201 = .ok (.aload_n 0, 1) := by decide +kernel
theorem dX11_crossSegments_202 : decode cX11_crossSegments 202 = .ok (.getfield 17, 3) := by decide +kernel
theorem dX11_crossSegments_205 : decode cX11_crossSegments 205 = .ok (.iload_n 1, 1) := by decide +kernel
theorem dX11_crossSegments_206 : decode cX11_crossSegments 206 = .ok (.laload, 1) := by decide +kernel
theorem dX11_crossSegments_207 : decode cX11_crossSegments 207 = .ok (.lload 5, 2) := by decide +kernel
theorem dX11_crossSegments_209 : decode cX11_crossSegments 209 = .ok (.iconst 1, 1) := by decide +kernel
theorem dX11_crossSegments_210 : decode cX11_crossSegments 210 = .ok (.invokevirtual 187, 3) := by decide +kernel
theorem dX11_crossSegments_213 : decode cX11_crossSegments 213 = .ok (.aload_n 0, 1) := by decide +kernel
theorem dX11_crossSegments_214 : decode cX11_crossSegments 214 = .ok (.iconst 2, 1) := by decide +kernel
theorem dX11_crossSegments_215 : decode cX11_crossSegments 215 = .ok (.lconst 0, 1) := by decide +kernel
theorem dX11_crossSegments_216 : decode cX11_crossSegments 216 = .ok (.invokevirtual 67, 3) := by decide +kernel
theorem dX11_crossSegments_219 : decode cX11_crossSegments 219 = .ok (.aload_n 0, 1) := by decide +kernel
theorem dX11_crossSegments_220 : decode cX11_crossSegments 220 = .ok (.lconst 0, 1) := by decide +kernel
theorem dX11_crossSegments_221 : decode cX11_crossSegments 221 = .ok (.putfield 159, 3) := by decide +kernel
theorem dX11_crossSegments_224 : decode cX11_crossSegments 224 = .ok (.aload_n 0, 1) := by decide +kernel
theorem dX11_crossSegments_225 : decode cX11_crossSegments 225 = .ok (.lconst 0, 1) := by decide +kernel
theorem dX11_crossSegments_226 : decode cX11_crossSegments 226 = .ok (.putfield 163, 3) := by decide +kernel
theorem dX11_crossSegments_229 : decode cX11_crossSegments 229 = .ok (.aload_n 0, 1) := by decide +kernel
theorem dX11_crossSegments_230 : decode cX11_crossSegments 230 = .ok (.iconst 0, 1) := by decide +kernel
theorem dX11_crossSegments_231 : decode cX11_crossSegments 231 = .ok (.invokevirtual 176, 3) := by decide +kernel
theorem dX11_crossSegments_234 : decode cX11_crossSegments 234 = .ok (.iconst 1, 1) := by decide +kernel
theorem dX11_crossSegments_235 : decode cX11_crossSegments 235 = .ok (.ireturn, 1) := by decide +kernel
theorem dX11_onLine_0 : decode cX11_onLine 0 = .ok (.aload_n 0, 1) := by decide +kernel
theorem dX11_onLine_1 : decode cX11_onLine 1 = .ok (.bipush 13, 2) := by decide +kernel
theorem dX11_onLine_3 : decode cX11_onLine 3 = .ok (.lload_n 1, 1) := by decide +kernel
theorem dX11_onLine_4 : decode cX11_onLine 4 = .ok (.invokevirtual 67, 3) := by decide +kernel
theorem dX11_onLine_7 : decode cX11_onLine 7 = .ok (.aload_n 0, 1) := by decide +kernel
theorem dX11_onLine_8 : decode cX11_onLine 8 = .ok (.iconst 4, 1) := by decide +kernel
theorem dX11_onLine_9 : decode cX11_onLine 9 = .ok (.bipush 13, 2) := by decide +kernel
theorem dX11_onLine_11 : decode cX11_onLine 11 = .ok (.iconst 3, 1) := by decide +kernel
theorem dX11_onLine_12 : decode cX11_onLine 12 = .ok (.invokevirtual 93, 3) := by decide +kernel
theorem dX11_onLine_15 : decode cX11_onLine 15 = .ok (.aload_n 0, 1) := by decide +kernel
theorem dX11_onLine_16 : decode cX11_onLine 16 = .ok (.bipush 13, 2) := by decide +kernel
theorem dX11_onLine_18 : decode cX11_onLine 18 = .ok (.lload_n 3, 1) := by decide +kernel
theorem dX11_onLine_19 : decode cX11_onLine 19 = .ok (.invokevirtual 67, 3) := by decide +kernel
theorem dX11_onLine_22 : decode cX11_onLine 22 = .ok (.aload_n 0, 1) := by decide +kernel
theorem dX11_onLine_23 : decode cX11_onLine 23 = .ok (.bipush 6, 2) := by decide +kernel
theorem dX11_onLine_25 : decode cX11_onLine 25 = .ok (.bipush 13, 2) := by decide +kernel
theorem dX11_onLine_27 : decode cX11_onLine 27 = .ok (.iconst 5, 1) := by decide +kernel
theorem dX11_onLine_28 : decode cX11_onLine 28 = .ok (.invokevirtual 93, 3) := by decide +kernel
theorem dX11_onLine_31 : decode cX11_onLine 31 = .ok (.aload_n 0, 1) := by decide +kernel
theorem dX11_onLine_32 : decode cX11_onLine 32 = .ok (.iload 5, 2) := by decide +kernel
theorem dX11_onLine_34 : decode cX11_onLine 34 = .ok (.iconst 4, 1) := by decide +kernel
theorem dX11_onLine_35 : decode cX11_onLine 35 = .ok (.bipush 6, 2) := by decide +kernel
theorem dX11_onLine_37 : decode cX11_onLine 37 = .ok (.iconst 0, 1) := by decide +kernel
theorem dX11_onLine_38 : decode cX11_onLine 38 = .ok (.invokevirtual 82, 3) := by decide +kernel
theorem dX11_onLine_41 : decode cX11_onLine 41 = .ok (.return_, 1) := by decide +kernel
theorem dX11_crossArc_0 : decode cX11_crossArc 0 = .ok (.aload_n 0, 1) := by decide +kernel
theorem dX11_crossArc_1 : decode cX11_crossArc 1 = .ok (.getfield 20, 3) := by decide +kernel
theorem dX11_crossArc_4 : decode cX11_crossArc 4 = .ok (.iload_n 1, 1) := by decide +kernel
theorem dX11_crossArc_5 : decode cX11_crossArc 5 = .ok (.laload, 1) := by decide +kernel
theorem dX11_crossArc_6 : decode cX11_crossArc 6 = .ok (.aload_n 0, 1) := by decide +kernel
theorem dX11_crossArc_7 : decode cX11_crossArc 7 = .ok (.getfield 13, 3) := by decide +kernel
theorem dX11_crossArc_10 : decode cX11_crossArc 10 = .ok (.iload_n 1, 1) := by decide +kernel
theorem dX11_crossArc_11 : decode cX11_crossArc 11 = .ok (.laload, 1) := by decide +kernel
theorem dX11_crossArc_12 : decode cX11_crossArc 12 = .ok (.lsub, 1) := by decide +kernel
theorem dX11_crossArc_13 : decode cX11_crossArc 13 = .ok (.lstore_n 3, 1) := by decide +kernel
theorem dX11_crossArc_14 : decode cX11_crossArc 14 = .ok (.aload_n 0, 1) := by decide +kernel
theorem dX11_crossArc_15 : decode cX11_crossArc 15 = .ok (.getfield 23, 3) := by decide +kernel
theorem dX11_crossArc_18 : decode cX11_crossArc 18 = .ok (.iload_n 1, 1) := by decide +kernel
theorem dX11_crossArc_19 : decode cX11_crossArc 19 = .ok (.laload, 1) := by decide +kernel
theorem dX11_crossArc_20 : decode cX11_crossArc 20 = .ok (.aload_n 0, 1) := by decide +kernel
theorem dX11_crossArc_21 : decode cX11_crossArc 21 = .ok (.getfield 17, 3) := by decide +kernel
theorem dX11_crossArc_24 : decode cX11_crossArc 24 = .ok (.iload_n 1, 1) := by decide +kernel
theorem dX11_crossArc_25 : decode cX11_crossArc 25 = .ok (.laload, 1) := by decide +kernel
theorem dX11_crossArc_26 : decode cX11_crossArc 26 = .ok (.lsub, 1) := by decide +kernel
theorem dX11_crossArc_27 : decode cX11_crossArc 27 = .ok (.lstore 5, 2) := by decide +kernel
theorem dX11_crossArc_29 : decode cX11_crossArc 29 = .ok (.aload_n 0, 1) := by decide +kernel
theorem dX11_crossArc_30 : decode cX11_crossArc 30 = .ok (.getfield 13, 3) := by decide +kernel
theorem dX11_crossArc_33 : decode cX11_crossArc 33 = .ok (.iload_n 1, 1) := by decide +kernel
theorem dX11_crossArc_34 : decode cX11_crossArc 34 = .ok (.laload, 1) := by decide +kernel
theorem dX11_crossArc_35 : decode cX11_crossArc 35 = .ok (.aload_n 0, 1) := by decide +kernel
theorem dX11_crossArc_36 : decode cX11_crossArc 36 = .ok (.getfield 13, 3) := by decide +kernel
theorem dX11_crossArc_39 : decode cX11_crossArc 39 = .ok (.iload_n 2, 1) := by decide +kernel
theorem dX11_crossArc_40 : decode cX11_crossArc 40 = .ok (.laload, 1) := by decide +kernel
theorem dX11_crossArc_41 : decode cX11_crossArc 41 = .ok (.lsub, 1) := by decide +kernel
theorem dX11_crossArc_42 : decode cX11_crossArc 42 = .ok (.lstore 7, 2) := by decide +kernel
theorem dX11_crossArc_44 : decode cX11_crossArc 44 = .ok (.aload_n 0, 1) := by decide +kernel
theorem dX11_crossArc_45 : decode cX11_crossArc 45 = .ok (.getfield 17, 3) := by decide +kernel
theorem dX11_crossArc_48 : decode cX11_crossArc 48 = .ok (.iload_n 1, 1) := by decide +kernel
theorem dX11_crossArc_49 : decode cX11_crossArc 49 = .ok (.laload, 1) := by decide +kernel
theorem dX11_crossArc_50 : decode cX11_crossArc 50 = .ok (.aload_n 0, 1) := by decide +kernel
theorem dX11_crossArc_51 : decode cX11_crossArc 51 = .ok (.getfield 17, 3) := by decide +kernel
theorem dX11_crossArc_54 : decode cX11_crossArc 54 = .ok (.iload_n 2, 1) := by decide +kernel
theorem dX11_crossArc_55 : decode cX11_crossArc 55 = .ok (.laload, 1) := by decide +kernel
theorem dX11_crossArc_56 : decode cX11_crossArc 56 = .ok (.lsub, 1) := by decide +kernel
theorem dX11_crossArc_57 : decode cX11_crossArc 57 = .ok (.lstore 9, 2) := by decide +kernel
theorem dX11_crossArc_59 : decode cX11_crossArc 59 = .ok (.aload_n 0, 1) := by decide +kernel
theorem dX11_crossArc_60 : decode cX11_crossArc 60 = .ok (.iconst 3, 1) := by decide +kernel
theorem dX11_crossArc_61 : decode cX11_crossArc 61 = .ok (.lload_n 3, 1) := by decide +kernel
theorem dX11_crossArc_62 : decode cX11_crossArc 62 = .ok (.lload_n 3, 1) := by decide +kernel
theorem dX11_crossArc_63 : decode cX11_crossArc 63 = .ok (.lload 5, 2) := by decide +kernel
theorem dX11_crossArc_65 : decode cX11_crossArc 65 = .ok (.lload 5, 2) := by decide +kernel
theorem dX11_crossArc_67 : decode cX11_crossArc 67 = .ok (.iconst 0, 1) := by decide +kernel
theorem dX11_crossArc_68 : decode cX11_crossArc 68 = .ok (.invokevirtual 97, 3) := by decide +kernel
theorem dX11_crossArc_71 : decode cX11_crossArc 71 = .ok (.aload_n 0, 1) := by decide +kernel
theorem dX11_crossArc_72 : decode cX11_crossArc 72 = .ok (.bipush 7, 2) := by decide +kernel
theorem dX11_crossArc_74 : decode cX11_crossArc 74 = .ok (.lload_n 3, 1) := by decide +kernel
theorem dX11_crossArc_75 : decode cX11_crossArc 75 = .ok (.lload 7, 2) := by decide +kernel
theorem dX11_crossArc_77 : decode cX11_crossArc 77 = .ok (.lload 5, 2) := by decide +kernel
theorem dX11_crossArc_79 : decode cX11_crossArc 79 = .ok (.lload 9, 2) := by decide +kernel
theorem dX11_crossArc_81 : decode cX11_crossArc 81 = .ok (.iconst 0, 1) := by decide +kernel
theorem dX11_crossArc_82 : decode cX11_crossArc 82 = .ok (.invokevirtual 97, 3) := by decide +kernel
theorem dX11_crossArc_85 : decode cX11_crossArc 85 = .ok (.aload_n 0, 1) := by decide +kernel
theorem dX11_crossArc_86 : decode cX11_crossArc 86 = .ok (.getfield 42, 3) := by decide +kernel
theorem dX11_crossArc_89 : decode cX11_crossArc 89 = .ok (.bipush 7, 2) := by decide +kernel
theorem dX11_crossArc_91 : decode cX11_crossArc 91 = .ok (.aload_n 0, 1) := by decide +kernel
theorem dX11_crossArc_92 : decode cX11_crossArc 92 = .ok (.getfield 42, 3) := by decide +kernel
theorem dX11_crossArc_95 : decode cX11_crossArc 95 = .ok (.bipush 7, 2) := by decide +kernel
theorem dX11_crossArc_97 : decode cX11_crossArc 97 = .ok (.baload, 1) := by decide +kernel
theorem dX11_crossArc_98 : decode cX11_crossArc 98 = .ok (.ifCond .ne 7, 3) := by decide +kernel
theorem dX11_crossArc_101 : decode cX11_crossArc 101 = .ok (.iconst 1, 1) := by decide +kernel
theorem dX11_crossArc_102 : decode cX11_crossArc 102 = .ok (.goto 4, 3) := by decide +kernel
theorem dX11_crossArc_105 : decode cX11_crossArc 105 = .ok (.iconst 0, 1) := by decide +kernel
theorem dX11_crossArc_106 : decode cX11_crossArc 106 = .ok (.bastore, 1) := by decide +kernel
theorem dX11_crossArc_107 : decode cX11_crossArc 107 = .ok (.aload_n 0, 1) := by decide +kernel
theorem dX11_crossArc_108 : decode cX11_crossArc 108 = .ok (.iconst 4, 1) := by decide +kernel
theorem dX11_crossArc_109 : decode cX11_crossArc 109 = .ok (.lload 7, 2) := by decide +kernel
theorem dX11_crossArc_111 : decode cX11_crossArc 111 = .ok (.lload 7, 2) := by decide +kernel
theorem dX11_crossArc_113 : decode cX11_crossArc 113 = .ok (.lload 9, 2) := by decide +kernel
theorem dX11_crossArc_115 : decode cX11_crossArc 115 = .ok (.lload 9, 2) := by decide +kernel
theorem dX11_crossArc_117 : decode cX11_crossArc 117 = .ok (.iconst 0, 1) := by decide +kernel
theorem dX11_crossArc_118 : decode cX11_crossArc 118 = .ok (.invokevirtual 97, 3) := by decide +kernel
theorem dX11_crossArc_121 : decode cX11_crossArc 121 = .ok (.aload_n 0, 1) := by decide +kernel
theorem dX11_crossArc_122 : decode cX11_crossArc 122 = .ok (.bipush 13, 2) := by decide +kernel
theorem dX11_crossArc_124 : decode cX11_crossArc 124 = .ok (.aload_n 0, 1) := by decide +kernel
theorem dX11_crossArc_125 : decode cX11_crossArc 125 = .ok (.getfield 20, 3) := by decide +kernel
theorem dX11_crossArc_128 : decode cX11_crossArc 128 = .ok (.iload_n 2, 1) := by decide +kernel
theorem dX11_crossArc_129 : decode cX11_crossArc 129 = .ok (.laload, 1) := by decide +kernel
theorem dX11_crossArc_130 : decode cX11_crossArc 130 = .ok (.invokevirtual 67, 3) := by decide +kernel
theorem dX11_crossArc_133 : decode cX11_crossArc 133 = .ok (.aload_n 0, 1) := by decide +kernel
theorem dX11_crossArc_134 : decode cX11_crossArc 134 = .ok (.iconst 5, 1) := by decide +kernel
theorem dX11_crossArc_135 : decode cX11_crossArc 135 = .ok (.iconst 4, 1) := by decide +kernel
theorem dX11_crossArc_136 : decode cX11_crossArc 136 = .ok (.bipush 13, 2) := by decide +kernel
theorem dX11_crossArc_138 : decode cX11_crossArc 138 = .ok (.iconst 1, 1) := by decide +kernel
theorem dX11_crossArc_139 : decode cX11_crossArc 139 = .ok (.invokevirtual 82, 3) := by decide +kernel
theorem dX11_crossArc_142 : decode cX11_crossArc 142 = .ok (.aload_n 0, 1) := by decide +kernel
theorem dX11_crossArc_143 : decode cX11_crossArc 143 = .ok (.bipush 6, 2) := by decide +kernel
theorem dX11_crossArc_145 : decode cX11_crossArc 145 = .ok (.iconst 3, 1) := by decide +kernel
theorem dX11_crossArc_146 : decode cX11_crossArc 146 = .ok (.iconst 5, 1) := by decide +kernel
theorem dX11_crossArc_147 : decode cX11_crossArc 147 = .ok (.invokevirtual 93, 3) := by decide +kernel
theorem dX11_crossArc_150 : decode cX11_crossArc 150 = .ok (.aload_n 0, 1) := by decide +kernel
theorem dX11_crossArc_151 : decode cX11_crossArc 151 = .ok (.iconst 4, 1) := by decide +kernel
theorem dX11_crossArc_152 : decode cX11_crossArc 152 = .ok (.bipush 7, 2) := by decide +kernel
theorem dX11_crossArc_154 : decode cX11_crossArc 154 = .ok (.bipush 7, 2) := by decide +kernel
theorem dX11_crossArc_156 : decode cX11_crossArc 156 = .ok (.invokevirtual 93, 3) := by decide +kernel
theorem dX11_crossArc_159 : decode cX11_crossArc 159 = .ok (.aload_n 0, 1) := by decide +kernel
theorem dX11_crossArc_160 : decode cX11_crossArc 160 = .ok (.iconst 2, 1) := by decide +kernel
theorem dX11_crossArc_161 : decode cX11_crossArc 161 = .ok (.iconst 4, 1) := by decide +kernel
theorem dX11_crossArc_162 : decode cX11_crossArc 162 = .ok (.bipush 6, 2) := by decide +kernel
theorem dX11_crossArc_164 : decode cX11_crossArc 164 = .ok (.iconst 1, 1) := by decide +kernel
theorem dX11_crossArc_165 : decode cX11_crossArc 165 = .ok (.invokevirtual 82, 3) := by decide +kernel
theorem dX11_crossArc_168 : decode cX11_crossArc 168 = .ok (.aload_n 0, 1) := by decide +kernel
theorem dX11_crossArc_169 : decode cX11_crossArc 169 = .ok (.iconst 2, 1) := by decide +kernel
theorem dX11_crossArc_170 : decode cX11_crossArc 170 = .ok (.invokevirtual 78, 3) := by decide +kernel
theorem dX11_crossArc_173 : decode cX11_crossArc 173 = .ok (.ifCond .ge 4, 3) := by decide +kernel
theorem dX11_crossArc_176 : decode cX11_crossArc 176 = .ok (.return_, 1) := by decide +kernel
theorem dX11_crossArc_177 : decode cX11_crossArc 177 = .ok (.aload_n 0, 1) := by decide +kernel
theorem dX11_crossArc_178 : decode cX11_crossArc 178 = .ok (.iconst 5, 1) := by decide +kernel
theorem dX11_crossArc_179 : decode cX11_crossArc 179 = .ok (.bipush 7, 2) := by decide +kernel
theorem dX11_crossArc_181 : decode cX11_crossArc 181 = .ok (.invokevirtual 86, 3) := by decide +kernel
theorem dX11_crossArc_184 : decode cX11_crossArc 184 = .ok (.aload_n 0, 1) := by decide +kernel
theorem dX11_crossArc_185 : decode cX11_crossArc 185 = .ok (.bipush 9, 2) := by decide +kernel
theorem dX11_crossArc_187 : decode cX11_crossArc 187 = .ok (.bipush 7, 2) := by decide +kernel
theorem dX11_crossArc_189 : decode cX11_crossArc 189 = .ok (.invokevirtual 86, 3) := by decide +kernel
theorem dX11_crossArc_192 : decode cX11_crossArc 192 = .ok (.aload_n 0, 1) := by decide +kernel
theorem dX11_crossArc_193 : decode cX11_crossArc 193 = .ok (.aload_n 0, 1) := by decide +kernel
theorem dX11_crossArc_194 : decode cX11_crossArc 194 = .ok (.getfield 13, 3) := by decide +kernel
theorem dX11_crossArc_197 : decode cX11_crossArc 197 = .ok (.iload_n 1, 1) := by decide +kernel
theorem dX11_crossArc_198 : decode cX11_crossArc 198 = .ok (.laload, 1) := by decide +kernel
theorem dX11_crossArc_199 : decode cX11_crossArc 199 = .ok (.lload_n 3, 1) := by decide +kernel
theorem dX11_crossArc_200 : decode cX11_crossArc 200 = .ok (.iconst 0, 1) := by decide +kernel
theorem dX11_crossArc_201 : decode cX11_crossArc 201 = .ok (.invokevirtual 187, 3) := by decide +kernel
theorem dX11_crossArc_204 : decode cX11_crossArc 204 = .ok (.aload_n 0, 1) := by decide +kernel
theorem dX11_crossArc_205 : decode cX11_crossArc 205 = .ok (.iconst 5, 1) := by decide +kernel
theorem dX11_crossArc_206 : decode cX11_crossArc 206 = .ok (.bipush 9, 2) := by decide +kernel
theorem dX11_crossArc_208 : decode cX11_crossArc 208 = .ok (.invokevirtual 86, 3) := by decide +kernel
theorem dX11_crossArc_211 : decode cX11_crossArc 211 = .ok (.aload_n 0, 1) := by decide +kernel
theorem dX11_crossArc_212 : decode cX11_crossArc 212 = .ok (.aload_n 0, 1) := by decide +kernel
theorem dX11_crossArc_213 : decode cX11_crossArc 213 = .ok (.getfield 17, 3) := by decide +kernel
theorem dX11_crossArc_216 : decode cX11_crossArc 216 = .ok (.iload_n 1, 1) := by decide +kernel
theorem dX11_crossArc_217 : decode cX11_crossArc 217 = .ok (.laload, 1) := by decide +kernel
theorem dX11_crossArc_218 : decode cX11_crossArc 218 = .ok (.lload 5, 2) := by decide +kernel
theorem dX11_crossArc_220 : decode cX11_crossArc 220 = .ok (.iconst 1, 1) := by decide +kernel
theorem dX11_crossArc_221 : decode cX11_crossArc 221 = .ok (.invokevirtual 187, 3) := by decide +kernel
theorem dX11_crossArc_224 : decode cX11_crossArc 224 = .ok (.aload_n 0, 1) := by decide +kernel
theorem dX11_crossArc_225 : decode cX11_crossArc 225 = .ok (.lload_n 3, 1) := by decide +kernel
theorem dX11_crossArc_226 : decode cX11_crossArc 226 = .ok (.putfield 159, 3) := by decide +kernel
theorem dX11_crossArc_229 : decode cX11_crossArc 229 = .ok (.aload_n 0, 1) := by decide +kernel
theorem dX11_crossArc_230 : decode cX11_crossArc 230 = .ok (.lload 5, 2) := by decide +kernel
theorem dX11_crossArc_232 : decode cX11_crossArc 232 = .ok (.putfield 163, 3) := by decide +kernel
theorem dX11_crossArc_235 : decode cX11_crossArc 235 = .ok (.iconst (-1), 1) := by decide +kernel
theorem dX11_crossArc_236 : decode cX11_crossArc 236 = .ok (.istore 11, 2) := by decide +kernel
theorem dX11_crossArc_238 : decode cX11_crossArc 238 = .ok (.iload 11, 2) := by decide +kernel
theorem dX11_crossArc_240 : decode cX11_crossArc 240 = .ok (.iconst 2, 1) := by decide +kernel
theorem dX11_crossArc_241 : decode cX11_crossArc 241 = .ok (.if_icmp .ge 88, 3) := by decide +kernel
theorem dX11_crossArc_244 : decode cX11_crossArc 244 = .ok (.iload 11, 2) := by decide +kernel
theorem dX11_crossArc_246 : decode cX11_crossArc 246 = .ok (.iconst 1, 1) := by decide +kernel
theorem dX11_crossArc_247 : decode cX11_crossArc 247 = .ok (.if_icmp .ne 12, 3) := by decide +kernel
theorem dX11_crossArc_250 : decode cX11_crossArc 250 = .ok (.aload_n 0, 1) := by decide +kernel
theorem dX11_crossArc_251 : decode cX11_crossArc 251 = .ok (.iconst 2, 1) := by decide +kernel
theorem dX11_crossArc_252 : decode cX11_crossArc 252 = .ok (.invokevirtual 78, 3) := by decide +kernel
theorem dX11_crossArc_255 : decode cX11_crossArc 255 = .ok (.ifCond .ne 4, 3) := by decide +kernel
theorem dX11_crossArc_258 : decode cX11_crossArc 258 = .ok (.return_, 1) := by decide +kernel
theorem dX11_crossArc_259 : decode cX11_crossArc 259 = .ok (.aload_n 0, 1) := by decide +kernel
theorem dX11_crossArc_260 : decode cX11_crossArc 260 = .ok (.iconst 4, 1) := by decide +kernel
theorem dX11_crossArc_261 : decode cX11_crossArc 261 = .ok (.iconst 3, 1) := by decide +kernel
theorem dX11_crossArc_262 : decode cX11_crossArc 262 = .ok (.bipush 9, 2) := by decide +kernel
theorem dX11_crossArc_264 : decode cX11_crossArc 264 = .ok (.iconst 1, 1) := by decide +kernel
theorem dX11_crossArc_265 : decode cX11_crossArc 265 = .ok (.invokevirtual 82, 3) := by decide +kernel
theorem dX11_crossArc_268 : decode cX11_crossArc 268 = .ok (.aload_n 0, 1) := by decide +kernel
theorem dX11_crossArc_269 : decode cX11_crossArc 269 = .ok (.bipush 9, 2) := by decide +kernel
theorem dX11_crossArc_271 : decode cX11_crossArc 271 = .ok (.iload 11, 2) := by decide +kernel
theorem dX11_crossArc_273 : decode cX11_crossArc 273 = .ok (.i2l, 1) := by decide +kernel
theorem dX11_crossArc_274 : decode cX11_crossArc 274 = .ok (.iconst 2, 1) := by decide +kernel
theorem dX11_crossArc_275 : decode cX11_crossArc 275 = .ok (.invokevirtual 155, 3) := by decide +kernel
theorem dX11_crossArc_278 : decode cX11_crossArc 278 = .ok (.ifCond .lt 21, 3) := by decide +kernel
theorem dX11_crossArc_281 : decode cX11_crossArc 281 = .ok (.aload_n 0, 1) := by decide +kernel
theorem dX11_crossArc_282 : decode cX11_crossArc 282 = .ok (.iconst 4, 1) := by decide +kernel
theorem dX11_crossArc_283 : decode cX11_crossArc 283 = .ok (.lconst 0, 1) := by decide +kernel
theorem dX11_crossArc_284 : decode cX11_crossArc 284 = .ok (.iload 11, 2) := by decide +kernel
theorem dX11_crossArc_286 : decode cX11_crossArc 286 = .ok (.i2l, 1) := by decide +kernel
theorem dX11_crossArc_287 : decode cX11_crossArc 287 = .ok (.lsub, 1) := by decide +kernel
theorem dX11_crossArc_288 : decode cX11_crossArc 288 = .ok (.iconst 2, 1) := by decide +kernel
theorem dX11_crossArc_289 : decode cX11_crossArc 289 = .ok (.invokevirtual 155, 3) := by decide +kernel
theorem dX11_crossArc_292 : decode cX11_crossArc 292 = .ok (.ifCond .lt 7, 3) := by decide +kernel
theorem dX11_crossArc_295 : decode cX11_crossArc 295 = .ok (.iconst 1, 1) := by decide +kernel
theorem dX11_crossArc_296 : decode cX11_crossArc 296 = .ok (.goto 4, 3) := by decide +kernel
theorem dX11_crossArc_299 : decode cX11_crossArc 299 = .ok (.iconst 0, 1) := by decide +kernel
theorem dX11_crossArc_300 : decode cX11_crossArc 300 = .ok (.istore 12, 2) := by decide +kernel
theorem dX11_crossArc_302 : decode cX11_crossArc 302 = .ok (.iload 12, 2) := by decide +kernel
theorem dX11_crossArc_304 : decode cX11_crossArc 304 = .ok (.ifCond .eq 19, 3) := by decide +kernel
theorem dX11_crossArc_307 : decode cX11_crossArc 307 = .ok (.aload_n 0, 1) := by decide +kernel
theorem dX11_crossArc_308 : decode cX11_crossArc 308 = .ok (.iload_n 2, 1) := by decide +kernel
theorem dX11_crossArc_309 : decode cX11_crossArc 309 = .ok (.iload 11, 2) := by decide +kernel
theorem dX11_crossArc_311 : decode cX11_crossArc 311 = .ok (.invokevirtual 191, 3) := by decide +kernel
theorem dX11_crossArc_314 : decode cX11_crossArc 314 = .ok (.ifCond .eq 9, 3) := by decide +kernel
theorem dX11_crossArc_317 : decode cX11_crossArc 317 = .ok (.aload_n 0, 1) := by decide +kernel
theorem dX11_crossArc_318 : decode cX11_crossArc 318 = .ok (.iload 11, 2) := by decide +kernel
theorem dX11_crossArc_320 : decode cX11_crossArc 320 = .ok (.invokevirtual 176, 3) := by decide +kernel
theorem dX11_crossArc_323 : decode cX11_crossArc 323 = .ok (.iinc 11 2, 3) := by decide +kernel
theorem dX11_crossArc_326 : decode cX11_crossArc 326 = .ok (.goto (-88), 3) := by decide +kernel
theorem dX11_crossArc_329 : decode cX11_crossArc 329 = .ok (.return_, 1) := by decide +kernel
theorem dX11_crossArcs_0 : decode cX11_crossArcs 0 = .ok (.aload_n 0, 1) := by decide +kernel
theorem dX11_crossArcs_1 : decode cX11_crossArcs 1 = .ok (.getfield 13, 3) := by decide +kernel
theorem dX11_crossArcs_4 : decode cX11_crossArcs 4 = .ok (.iload_n 2, 1) := by decide +kernel
theorem dX11_crossArcs_5 : decode cX11_crossArcs 5 = .ok (.laload, 1) := by decide +kernel
theorem dX11_crossArcs_6 : decode cX11_crossArcs 6 = .ok (.aload_n 0, 1) := by decide +kernel
theorem dX11_crossArcs_7 : decode cX11_crossArcs 7 = .ok (.getfield 13, 3) := by decide +kernel
theorem dX11_crossArcs_10 : decode cX11_crossArcs 10 = .ok (.iload_n 1, 1) := by decide +kernel
theorem dX11_crossArcs_11 : decode cX11_crossArcs 11 = .ok (.laload, 1) := by decide +kernel
theorem dX11_crossArcs_12 : decode cX11_crossArcs 12 = .ok (.lsub, 1) := by decide +kernel
theorem dX11_crossArcs_13 : decode cX11_crossArcs 13 = .ok (.lstore_n 3, 1) := by decide +kernel
theorem dX11_crossArcs_14 : decode cX11_crossArcs 14 = .ok (.aload_n 0, 1) := by decide +kernel
theorem dX11_crossArcs_15 : decode cX11_crossArcs 15 = .ok (.getfield 17, 3) := by decide +kernel
theorem dX11_crossArcs_18 : decode cX11_crossArcs 18 = .ok (.iload_n 2, 1) := by decide +kernel
theorem dX11_crossArcs_19 : decode cX11_crossArcs 19 = .ok (.laload, 1) := by decide +kernel
theorem dX11_crossArcs_20 : decode cX11_crossArcs 20 = .ok (.aload_n 0, 1) := by decide +kernel
theorem dX11_crossArcs_21 : decode cX11_crossArcs 21 = .ok (.getfield 17, 3) := by decide +kernel
theorem dX11_crossArcs_24 : decode cX11_crossArcs 24 = .ok (.iload_n 1, 1) := by decide +kernel
theorem dX11_crossArcs_25 : decode cX11_crossArcs 25 = .ok (.laload, 1) := by decide +kernel
theorem dX11_crossArcs_26 : decode cX11_crossArcs 26 = .ok (.lsub, 1) := by decide +kernel
theorem dX11_crossArcs_27 : decode cX11_crossArcs 27 = .ok (.lstore 5, 2) := by decide +kernel
theorem dX11_crossArcs_29 : decode cX11_crossArcs 29 = .ok (.lload_n 3, 1) := by decide +kernel
theorem dX11_crossArcs_30 : decode cX11_crossArcs 30 = .ok (.lconst 0, 1) := by decide +kernel
theorem dX11_crossArcs_31 : decode cX11_crossArcs 31 = .ok (.lcmp, 1) := by decide +kernel
theorem dX11_crossArcs_32 : decode cX11_crossArcs 32 = .ok (.ifCond .ne 32, 3) := by decide +kernel
theorem dX11_crossArcs_35 : decode cX11_crossArcs 35 = .ok (.lload 5, 2) := by decide +kernel
theorem dX11_crossArcs_37 : decode cX11_crossArcs 37 = .ok (.lconst 0, 1) := by decide +kernel
theorem dX11_crossArcs_38 : decode cX11_crossArcs 38 = .ok (.lcmp, 1) := by decide +kernel
theorem dX11_crossArcs_39 : decode cX11_crossArcs 39 = .ok (.ifCond .ne 25, 3) := by decide +kernel
theorem dX11_crossArcs_42 : decode cX11_crossArcs 42 = .ok (.aload_n 0, 1) := by decide +kernel
theorem dX11_crossArcs_43 : decode cX11_crossArcs 43 = .ok (.getfield 20, 3) := by decide +kernel
theorem dX11_crossArcs_46 : decode cX11_crossArcs 46 = .ok (.iload_n 1, 1) := by decide +kernel
theorem dX11_crossArcs_47 : decode cX11_crossArcs 47 = .ok (.laload, 1) := by decide +kernel
theorem dX11_crossArcs_48 : decode cX11_crossArcs 48 = .ok (.aload_n 0, 1) := by decide +kernel
theorem dX11_crossArcs_49 : decode cX11_crossArcs 49 = .ok (.getfield 20, 3) := by decide +kernel
theorem dX11_crossArcs_52 : decode cX11_crossArcs 52 = .ok (.iload_n 2, 1) := by decide +kernel
theorem dX11_crossArcs_53 : decode cX11_crossArcs 53 = .ok (.laload, 1) := by decide +kernel
theorem dX11_crossArcs_54 : decode cX11_crossArcs 54 = .ok (.lcmp, 1) := by decide +kernel
theorem dX11_crossArcs_55 : decode cX11_crossArcs 55 = .ok (.ifCond .eq 7, 3) := by decide +kernel
theorem dX11_crossArcs_58 : decode cX11_crossArcs 58 = .ok (.iconst 1, 1) := by decide +kernel
theorem dX11_crossArcs_59 : decode cX11_crossArcs 59 = .ok (.goto 4, 3) := by decide +kernel
theorem dX11_crossArcs_62 : decode cX11_crossArcs 62 = .ok (.iconst 0, 1) := by decide +kernel
theorem dX11_crossArcs_63 : decode cX11_crossArcs 63 = .ok (.ireturn, 1) := by decide +kernel
theorem dX11_crossArcs_64 : decode cX11_crossArcs 64 = .ok (.aload_n 0, 1) := by decide +kernel
theorem dX11_crossArcs_65 : decode cX11_crossArcs 65 = .ok (.bipush 9, 2) := by decide +kernel
theorem dX11_crossArcs_67 : decode cX11_crossArcs 67 = .ok (.lload_n 3, 1) := by decide +kernel
theorem dX11_crossArcs_68 : decode cX11_crossArcs 68 = .ok (.lload_n 3, 1) := by decide +kernel
theorem dX11_crossArcs_69 : decode cX11_crossArcs 69 = .ok (.lload 5, 2) := by decide +kernel
theorem dX11_crossArcs_71 : decode cX11_crossArcs 71 = .ok (.lload 5, 2) := by decide +kernel
theorem dX11_crossArcs_73 : decode cX11_crossArcs 73 = .ok (.iconst 0, 1) := by decide +kernel
theorem dX11_crossArcs_74 : decode cX11_crossArcs 74 = .ok (.invokevirtual 97, 3) := by decide +kernel
theorem dX11_crossArcs_77 : decode cX11_crossArcs 77 = .ok (.aload_n 0, 1) := by decide +kernel
theorem dX11_crossArcs_78 : decode cX11_crossArcs 78 = .ok (.iconst 4, 1) := by decide +kernel
theorem dX11_crossArcs_79 : decode cX11_crossArcs 79 = .ok (.aload_n 0, 1) := by decide +kernel
theorem dX11_crossArcs_80 : decode cX11_crossArcs 80 = .ok (.getfield 20, 3) := by decide +kernel
theorem dX11_crossArcs_83 : decode cX11_crossArcs 83 = .ok (.iload_n 1, 1) := by decide +kernel
theorem dX11_crossArcs_84 : decode cX11_crossArcs 84 = .ok (.laload, 1) := by decide +kernel
theorem dX11_crossArcs_85 : decode cX11_crossArcs 85 = .ok (.invokevirtual 67, 3) := by decide +kernel
theorem dX11_crossArcs_88 : decode cX11_crossArcs 88 = .ok (.aload_n 0, 1) := by decide +kernel
theorem dX11_crossArcs_89 : decode cX11_crossArcs 89 = .ok (.iconst 5, 1) := by decide +kernel
theorem dX11_crossArcs_90 : decode cX11_crossArcs 90 = .ok (.bipush 9, 2) := by decide +kernel
theorem dX11_crossArcs_92 : decode cX11_crossArcs 92 = .ok (.iconst 4, 1) := by decide +kernel
theorem dX11_crossArcs_93 : decode cX11_crossArcs 93 = .ok (.iconst 0, 1) := by decide +kernel
theorem dX11_crossArcs_94 : decode cX11_crossArcs 94 = .ok (.invokevirtual 82, 3) := by decide +kernel
theorem dX11_crossArcs_97 : decode cX11_crossArcs 97 = .ok (.aload_n 0, 1) := by decide +kernel
theorem dX11_crossArcs_98 : decode cX11_crossArcs 98 = .ok (.iconst 4, 1) := by decide +kernel
theorem dX11_crossArcs_99 : decode cX11_crossArcs 99 = .ok (.aload_n 0, 1) := by decide +kernel
theorem dX11_crossArcs_100 : decode cX11_crossArcs 100 = .ok (.getfield 20, 3) := by decide +kernel
theorem dX11_crossArcs_103 : decode cX11_crossArcs 103 = .ok (.iload_n 2, 1) := by decide +kernel
theorem dX11_crossArcs_104 : decode cX11_crossArcs 104 = .ok (.laload, 1) := by decide +kernel
theorem dX11_crossArcs_105 : decode cX11_crossArcs 105 = .ok (.invokevirtual 67, 3) := by decide +kernel
theorem dX11_crossArcs_108 : decode cX11_crossArcs 108 = .ok (.aload_n 0, 1) := by decide +kernel
theorem dX11_crossArcs_109 : decode cX11_crossArcs 109 = .ok (.bipush 8, 2) := by decide +kernel
theorem dX11_crossArcs_111 : decode cX11_crossArcs 111 = .ok (.iconst 5, 1) := by decide +kernel
theorem dX11_crossArcs_112 : decode cX11_crossArcs 112 = .ok (.iconst 4, 1) := by decide +kernel
theorem dX11_crossArcs_113 : decode cX11_crossArcs 113 = .ok (.iconst 1, 1) := by decide +kernel
theorem dX11_crossArcs_114 : decode cX11_crossArcs 114 = .ok (.invokevirtual 82, 3) := by decide +kernel
theorem dX11_crossArcs_117 : decode cX11_crossArcs 117 = .ok (.aload_n 0, 1) := by decide +kernel
theorem dX11_crossArcs_118 : decode cX11_crossArcs 118 = .ok (.iconst 4, 1) := by decide +kernel
theorem dX11_crossArcs_119 : decode cX11_crossArcs 119 = .ok (.aload_n 0, 1) := by decide +kernel
theorem dX11_crossArcs_120 : decode cX11_crossArcs 120 = .ok (.getfield 20, 3) := by decide +kernel
theorem dX11_crossArcs_123 : decode cX11_crossArcs 123 = .ok (.iload_n 1, 1) := by decide +kernel
theorem dX11_crossArcs_124 : decode cX11_crossArcs 124 = .ok (.laload, 1) := by decide +kernel
theorem dX11_crossArcs_125 : decode cX11_crossArcs 125 = .ok (.invokevirtual 67, 3) := by decide +kernel
theorem dX11_crossArcs_128 : decode cX11_crossArcs 128 = .ok (.aload_n 0, 1) := by decide +kernel
theorem dX11_crossArcs_129 : decode cX11_crossArcs 129 = .ok (.iconst 5, 1) := by decide +kernel
theorem dX11_crossArcs_130 : decode cX11_crossArcs 130 = .ok (.ldc2_w 194, 3) := by decide +kernel
theorem dX11_crossArcs_133 : decode cX11_crossArcs 133 = .ok (.invokevirtual 67, 3) := by decide +kernel
theorem dX11_crossArcs_136 : decode cX11_crossArcs 136 = .ok (.aload_n 0, 1) := by decide +kernel
theorem dX11_crossArcs_137 : decode cX11_crossArcs 137 = .ok (.bipush 6, 2) := by decide +kernel
theorem dX11_crossArcs_139 : decode cX11_crossArcs 139 = .ok (.iconst 4, 1) := by decide +kernel
theorem dX11_crossArcs_140 : decode cX11_crossArcs 140 = .ok (.iconst 5, 1) := by decide +kernel
theorem dX11_crossArcs_141 : decode cX11_crossArcs 141 = .ok (.invokevirtual 93, 3) := by decide +kernel
theorem dX11_crossArcs_144 : decode cX11_crossArcs 144 = .ok (.aload_n 0, 1) := by decide +kernel
theorem dX11_crossArcs_145 : decode cX11_crossArcs 145 = .ok (.iconst 4, 1) := by decide +kernel
theorem dX11_crossArcs_146 : decode cX11_crossArcs 146 = .ok (.bipush 6, 2) := by decide +kernel
theorem dX11_crossArcs_148 : decode cX11_crossArcs 148 = .ok (.bipush 9, 2) := by decide +kernel
theorem dX11_crossArcs_150 : decode cX11_crossArcs 150 = .ok (.invokevirtual 93, 3) := by decide +kernel
theorem dX11_crossArcs_153 : decode cX11_crossArcs 153 = .ok (.aload_n 0, 1) := by decide +kernel
theorem dX11_crossArcs_154 : decode cX11_crossArcs 154 = .ok (.iconst 5, 1) := by decide +kernel
theorem dX11_crossArcs_155 : decode cX11_crossArcs 155 = .ok (.bipush 8, 2) := by decide +kernel
theorem dX11_crossArcs_157 : decode cX11_crossArcs 157 = .ok (.bipush 8, 2) := by decide +kernel
theorem dX11_crossArcs_159 : decode cX11_crossArcs 159 = .ok (.invokevirtual 93, 3) := by decide +kernel
theorem dX11_crossArcs_162 : decode cX11_crossArcs 162 = .ok (.aload_n 0, 1) := by decide +kernel
theorem dX11_crossArcs_163 : decode cX11_crossArcs 163 = .ok (.iconst 2, 1) := by decide +kernel
theorem dX11_crossArcs_164 : decode cX11_crossArcs 164 = .ok (.iconst 4, 1) := by decide +kernel
theorem dX11_crossArcs_165 : decode cX11_crossArcs 165 = .ok (.iconst 5, 1) := by decide +kernel
theorem dX11_crossArcs_166 : decode cX11_crossArcs 166 = .ok (.iconst 1, 1) := by decide +kernel
theorem dX11_crossArcs_167 : decode cX11_crossArcs 167 = .ok (.invokevirtual 82, 3) := by decide +kernel
theorem dX11_crossArcs_170 : decode cX11_crossArcs 170 = .ok (.aload_n 0, 1) := by decide +kernel
theorem dX11_crossArcs_171 : decode cX11_crossArcs 171 = .ok (.iconst 2, 1) := by decide +kernel
theorem dX11_crossArcs_172 : decode cX11_crossArcs 172 = .ok (.invokevirtual 78, 3) := by decide +kernel
theorem dX11_crossArcs_175 : decode cX11_crossArcs 175 = .ok (.ifCond .ge 5, 3) := by decide +kernel
theorem dX11_crossArcs_178 : decode cX11_crossArcs 178 = .ok (.iconst 1, 1) := by decide +kernel
theorem dX11_crossArcs_179 : decode cX11_crossArcs 179 = .ok (.ireturn, 1) := by decide +kernel
theorem dX11_crossArcs_180 : decode cX11_crossArcs 180 = .ok (.aload_n 0, 1) := by decide +kernel
theorem dX11_crossArcs_181 : decode cX11_crossArcs 181 = .ok (.iconst 3, 1) := by decide +kernel
theorem dX11_crossArcs_182 : decode cX11_crossArcs 182 = .ok (.bipush 9, 2) := by decide +kernel
theorem dX11_crossArcs_184 : decode cX11_crossArcs 184 = .ok (.bipush 9, 2) := by decide +kernel
theorem dX11_crossArcs_186 : decode cX11_crossArcs 186 = .ok (.iconst 0, 1) := by decide +kernel
theorem dX11_crossArcs_187 : decode cX11_crossArcs 187 = .ok (.invokevirtual 82, 3) := by decide +kernel
theorem dX11_crossArcs_190 : decode cX11_crossArcs 190 = .ok (.aload_n 0, 1) := by decide +kernel
theorem dX11_crossArcs_191 : decode cX11_crossArcs 191 = .ok (.iconst 5, 1) := by decide +kernel
theorem dX11_crossArcs_192 : decode cX11_crossArcs 192 = .ok (.bipush 8, 2) := by decide +kernel
theorem dX11_crossArcs_194 : decode cX11_crossArcs 194 = .ok (.invokevirtual 86, 3) := by decide +kernel
theorem dX11_crossArcs_197 : decode cX11_crossArcs 197 = .ok (.aload_n 0, 1) := by decide +kernel
theorem dX11_crossArcs_198 : decode cX11_crossArcs 198 = .ok (.bipush 9, 2) := by decide +kernel
theorem dX11_crossArcs_200 : decode cX11_crossArcs 200 = .ok (.bipush 8, 2) := by decide +kernel
theorem dX11_crossArcs_202 : decode cX11_crossArcs 202 = .ok (.invokevirtual 86, 3) := by decide +kernel
theorem dX11_crossArcs_205 : decode cX11_crossArcs 205 = .ok (.aload_n 0, 1) := by decide +kernel
theorem dX11_crossArcs_206 : decode cX11_crossArcs 206 = .ok (.aload_n 0, 1) := by decide +kernel
theorem dX11_crossArcs_207 : decode cX11_crossArcs 207 = .ok (.getfield 13, 3) := by decide +kernel
theorem dX11_crossArcs_210 : decode cX11_crossArcs 210 = .ok (.iload_n 1, 1) := by decide +kernel
theorem dX11_crossArcs_211 : decode cX11_crossArcs 211 = .ok (.laload, 1) := by decide +kernel
theorem dX11_crossArcs_212 : decode cX11_crossArcs 212 = .ok (.lload_n 3, 1) := by decide +kernel
theorem dX11_crossArcs_213 : decode cX11_crossArcs 213 = .ok (.iconst 0, 1) := by decide +kernel
theorem dX11_crossArcs_214 : decode cX11_crossArcs 214 = .ok (.invokevirtual 187, 3) := by decide +kernel
theorem dX11_crossArcs_217 : decode cX11_crossArcs 217 = .ok (.aload_n 0, 1) := by decide +kernel
theorem dX11_crossArcs_218 : decode cX11_crossArcs 218 = .ok (.iconst 5, 1) := by decide +kernel
theorem dX11_crossArcs_219 : decode cX11_crossArcs 219 = .ok (.bipush 9, 2) := by decide +kernel
theorem dX11_crossArcs_221 : decode cX11_crossArcs 221 = .ok (.invokevirtual 86, 3) := by decide +kernel
theorem dX11_crossArcs_224 : decode cX11_crossArcs 224 = .ok (.aload_n 0, 1) := by decide +kernel
theorem dX11_crossArcs_225 : decode cX11_crossArcs 225 = .ok (.aload_n 0, 1) := by decide +kernel
theorem dX11_crossArcs_226 : decode cX11_crossArcs 226 = .ok (.getfield 17, 3) := by decide +kernel
theorem dX11_crossArcs_229 : decode cX11_crossArcs 229 = .ok (.iload_n 1, 1) := by decide +kernel
theorem dX11_crossArcs_230 : decode cX11_crossArcs 230 = .ok (.laload, 1) := by decide +kernel
theorem dX11_crossArcs_231 : decode cX11_crossArcs 231 = .ok (.lload 5, 2) := by decide +kernel
theorem dX11_crossArcs_233 : decode cX11_crossArcs 233 = .ok (.iconst 1, 1) := by decide +kernel
theorem dX11_crossArcs_234 : decode cX11_crossArcs 234 = .ok (.invokevirtual 187, 3) := by decide +kernel
theorem dX11_crossArcs_237 : decode cX11_crossArcs 237 = .ok (.aload_n 0, 1) := by decide +kernel
theorem dX11_crossArcs_238 : decode cX11_crossArcs 238 = .ok (.lconst 0, 1) := by decide +kernel
theorem dX11_crossArcs_239 : decode cX11_crossArcs 239 = .ok (.lload 5, 2) := by decide +kernel
theorem dX11_crossArcs_241 : decode cX11_crossArcs 241 = .ok (.lsub, 1) := by decide +kernel
theorem dX11_crossArcs_242 : decode cX11_crossArcs 242 = .ok (.putfield 159, 3) := by decide +kernel
theorem dX11_crossArcs_245 : decode cX11_crossArcs 245 = .ok (.aload_n 0, 1) := by decide +kernel
theorem dX11_crossArcs_246 : decode cX11_crossArcs 246 = .ok (.lload_n 3, 1) := by decide +kernel
theorem dX11_crossArcs_247 : decode cX11_crossArcs 247 = .ok (.putfield 163, 3) := by decide +kernel
theorem dX11_crossArcs_250 : decode cX11_crossArcs 250 = .ok (.iconst 1, 1) := by decide +kernel
theorem dX11_crossArcs_251 : decode cX11_crossArcs 251 = .ok (.istore 7, 2) := by decide +kernel
theorem dX11_crossArcs_253 : decode cX11_crossArcs 253 = .ok (.iload 7, 2) := by decide +kernel
theorem dX11_crossArcs_255 : decode cX11_crossArcs 255 = .ok (.bipush (-2), 2) := by decide +kernel
theorem dX11_crossArcs_257 : decode cX11_crossArcs 257 = .ok (.if_icmp .le 51, 3) := by decide +kernel
theorem dX11_crossArcs_260 : decode cX11_crossArcs 260 = .ok (.iload 7, 2) := by decide +kernel
theorem dX11_crossArcs_262 : decode cX11_crossArcs 262 = .ok (.iconst (-1), 1) := by decide +kernel
theorem dX11_crossArcs_263 : decode cX11_crossArcs 263 = .ok (.if_icmp .ne 13, 3) := by decide +kernel
theorem dX11_crossArcs_266 : decode cX11_crossArcs 266 = .ok (.aload_n 0, 1) := by decide +kernel
theorem dX11_crossArcs_267 : decode cX11_crossArcs 267 = .ok (.iconst 2, 1) := by decide +kernel
theorem dX11_crossArcs_268 : decode cX11_crossArcs 268 = .ok (.invokevirtual 78, 3) := by decide +kernel
theorem dX11_crossArcs_271 : decode cX11_crossArcs 271 = .ok (.ifCond .ne 5, 3) := by decide +kernel
theorem dX11_crossArcs_274 : decode cX11_crossArcs 274 = .ok (.iconst 1, 1) := by decide +kernel
theorem dX11_crossArcs_275 : decode cX11_crossArcs 275 = .ok (.ireturn, 1) := by decide +kernel
theorem dX11_crossArcs_276 : decode cX11_crossArcs 276 = .ok (.aload_n 0, 1) := by decide +kernel
theorem dX11_crossArcs_277 : decode cX11_crossArcs 277 = .ok (.iload_n 1, 1) := by decide +kernel
theorem dX11_crossArcs_278 : decode cX11_crossArcs 278 = .ok (.iload 7, 2) := by decide +kernel
theorem dX11_crossArcs_280 : decode cX11_crossArcs 280 = .ok (.invokevirtual 191, 3) := by decide +kernel
theorem dX11_crossArcs_283 : decode cX11_crossArcs 283 = .ok (.ifCond .eq 19, 3) := by decide +kernel
theorem dX11_crossArcs_286 : decode cX11_crossArcs 286 = .ok (.aload_n 0, 1) := by decide +kernel
theorem dX11_crossArcs_287 : decode cX11_crossArcs 287 = .ok (.iload_n 2, 1) := by decide +kernel
theorem dX11_crossArcs_288 : decode cX11_crossArcs 288 = .ok (.iload 7, 2) := by decide +kernel
theorem dX11_crossArcs_290 : decode cX11_crossArcs 290 = .ok (.invokevirtual 191, 3) := by decide +kernel
theorem dX11_crossArcs_293 : decode cX11_crossArcs 293 = .ok (.ifCond .eq 9, 3) := by decide +kernel
theorem dX11_crossArcs_296 : decode cX11_crossArcs 296 = .ok (.aload_n 0, 1) := by decide +kernel
theorem dX11_crossArcs_297 : decode cX11_crossArcs 297 = .ok (.iload 7, 2) := by decide +kernel
theorem dX11_crossArcs_299 : decode cX11_crossArcs 299 = .ok (.invokevirtual 176, 3) := by decide +kernel
theorem dX11_crossArcs_302 : decode cX11_crossArcs 302 = .ok (.iinc 7 (-2), 3) := by decide +kernel
theorem dX11_crossArcs_305 : decode cX11_crossArcs 305 = .ok (.goto (-52), 3) := by decide +kernel
theorem dX11_crossArcs_308 : decode cX11_crossArcs 308 = .ok (.iconst 1, 1) := by decide +kernel
theorem dX11_crossArcs_309 : decode cX11_crossArcs 309 = .ok (.ireturn, 1) := by decide +kernel
theorem dX11_cross_0 : decode cX11_cross 0 = .ok (.aload_n 0, 1) := by decide +kernel
theorem dX11_cross_1 : decode cX11_cross 1 = .ok (.iconst 0, 1) := by decide +kernel
theorem dX11_cross_2 : decode cX11_cross 2 = .ok (.putfield 196, 3) := by decide +kernel
theorem dX11_cross_5 : decode cX11_cross 5 = .ok (.aload_n 0, 1) := by decide +kernel
theorem dX11_cross_6 : decode cX11_cross 6 = .ok (.iconst 0, 1) := by decide +kernel
theorem dX11_cross_7 : decode cX11_cross 7 = .ok (.putfield 173, 3) := by decide +kernel
theorem dX11_cross_10 : decode cX11_cross 10 = .ok (.aload_n 0, 1) := by decide +kernel
theorem dX11_cross_11 : decode cX11_cross 11 = .ok (.aload_n 0, 1) := by decide +kernel
theorem dX11_cross_12 : decode cX11_cross 12 = .ok (.iload_n 1, 1) := by decide +kernel
theorem dX11_cross_13 : decode cX11_cross 13 = .ok (.invokevirtual 141, 3) := by decide +kernel
theorem dX11_cross_16 : decode cX11_cross 16 = .ok (.ifCond .eq 15, 3) := by decide +kernel
theorem dX11_cross_19 : decode cX11_cross 19 = .ok (.aload_n 0, 1) := by decide +kernel
theorem dX11_cross_20 : decode cX11_cross 20 = .ok (.iload_n 2, 1) := by decide +kernel
theorem dX11_cross_21 : decode cX11_cross 21 = .ok (.invokevirtual 141, 3) := by decide +kernel
theorem dX11_cross_24 : decode cX11_cross 24 = .ok (.ifCond .eq 7, 3) := by decide +kernel
theorem dX11_cross_27 : decode cX11_cross 27 = .ok (.iconst 0, 1) := by decide +kernel
theorem dX11_cross_28 : decode cX11_cross 28 = .ok (.goto 4, 3) := by decide +kernel
theorem dX11_cross_31 : decode cX11_cross 31 = .ok (.iconst 1, 1) := by decide +kernel
theorem dX11_cross_32 : decode cX11_cross 32 = .ok (.putfield 48, 3) := by decide +kernel
theorem dX11_cross_35 : decode cX11_cross 35 = .ok (.aload_n 0, 1) := by decide +kernel
theorem dX11_cross_36 : decode cX11_cross 36 = .ok (.getfield 48, 3) := by decide +kernel
theorem dX11_cross_39 : decode cX11_cross 39 = .ok (.ifCond .eq 5, 3) := by decide +kernel
theorem dX11_cross_42 : decode cX11_cross 42 = .ok (.iconst 0, 1) := by decide +kernel
theorem dX11_cross_43 : decode cX11_cross 43 = .ok (.ireturn, 1) := by decide +kernel
theorem dX11_cross_44 : decode cX11_cross 44 = .ok (.iconst 1, 1) := by decide +kernel
theorem dX11_cross_45 : decode cX11_cross 45 = .ok (.istore_n 3, 1) := by decide +kernel
theorem dX11_cross_46 : decode cX11_cross 46 = .ok (.aload_n 0, 1) := by decide +kernel
theorem dX11_cross_47 : decode cX11_cross 47 = .ok (.getfield 7, 3) := by decide +kernel
theorem dX11_cross_50 : decode cX11_cross 50 = .ok (.iload_n 1, 1) := by decide +kernel
theorem dX11_cross_51 : decode cX11_cross 51 = .ok (.baload, 1) := by decide +kernel
theorem dX11_cross_52 : decode cX11_cross 52 = .ok (.ifCond .eq 22, 3) := by decide +kernel
theorem dX11_cross_55 : decode cX11_cross 55 = .ok (.aload_n 0, 1) := by decide +kernel
theorem dX11_cross_56 : decode cX11_cross 56 = .ok (.getfield 7, 3) := by decide +kernel
theorem dX11_cross_59 : decode cX11_cross 59 = .ok (.iload_n 2, 1) := by decide +kernel
theorem dX11_cross_60 : decode cX11_cross 60 = .ok (.baload, 1) := by decide +kernel
theorem dX11_cross_61 : decode cX11_cross 61 = .ok (.ifCond .eq 13, 3) := by decide +kernel
theorem dX11_cross_64 : decode cX11_cross 64 = .ok (.aload_n 0, 1) := by decide +kernel
theorem dX11_cross_65 : decode cX11_cross 65 = .ok (.iload_n 1, 1) := by decide +kernel
theorem dX11_cross_66 : decode cX11_cross 66 = .ok (.iload_n 2, 1) := by decide +kernel
theorem dX11_cross_67 : decode cX11_cross 67 = .ok (.invokevirtual 200, 3) := by decide +kernel
theorem dX11_cross_70 : decode cX11_cross 70 = .ok (.istore_n 3, 1) := by decide +kernel
theorem dX11_cross_71 : decode cX11_cross 71 = .ok (.goto 46, 3) := by decide +kernel
theorem dX11_cross_74 : decode cX11_cross 74 = .ok (.aload_n 0, 1) := by decide +kernel
theorem dX11_cross_75 : decode cX11_cross 75 = .ok (.getfield 7, 3) := by decide +kernel
theorem dX11_cross_78 : decode cX11_cross 78 = .ok (.iload_n 1, 1) := by decide +kernel
theorem dX11_cross_79 : decode cX11_cross 79 = .ok (.baload, 1) := by decide +kernel
theorem dX11_cross_80 : decode cX11_cross 80 = .ok (.ifCond .eq 12, 3) := by decide +kernel
theorem dX11_cross_83 : decode cX11_cross 83 = .ok (.aload_n 0, 1) := by decide +kernel
theorem dX11_cross_84 : decode cX11_cross 84 = .ok (.iload_n 2, 1) := by decide +kernel
theorem dX11_cross_85 : decode cX11_cross 85 = .ok (.iload_n 1, 1) := by decide +kernel
theorem dX11_cross_86 : decode cX11_cross 86 = .ok (.invokevirtual 203, 3) := by decide +kernel
theorem dX11_cross_89 : decode cX11_cross 89 = .ok (.goto 28, 3) := by decide +kernel
theorem dX11_cross_92 : decode cX11_cross 92 = .ok (.aload_n 0, 1) := by decide +kernel
theorem dX11_cross_93 : decode cX11_cross 93 = .ok (.getfield 7, 3) := by decide +kernel
theorem dX11_cross_96 : decode cX11_cross 96 = .ok (.iload_n 2, 1) := by decide +kernel
theorem dX11_cross_97 : decode cX11_cross 97 = .ok (.baload, 1) := by decide +kernel
theorem dX11_cross_98 : decode cX11_cross 98 = .ok (.ifCond .eq 12, 3) := by decide +kernel
theorem dX11_cross_101 : decode cX11_cross 101 = .ok (.aload_n 0, 1) := by decide +kernel
theorem dX11_cross_102 : decode cX11_cross 102 = .ok (.iload_n 1, 1) := by decide +kernel
theorem dX11_cross_103 : decode cX11_cross 103 = .ok (.iload_n 2, 1) := by decide +kernel
theorem dX11_cross_104 : decode cX11_cross 104 = .ok (.invokevirtual 203, 3) := by decide +kernel
theorem dX11_cross_107 : decode cX11_cross 107 = .ok (.goto 10, 3) := by decide +kernel
theorem dX11_cross_110 : decode cX11_cross 110 = .ok (.aload_n 0, 1) := by decide +kernel
theorem dX11_cross_111 : decode cX11_cross 111 = .ok (.iload_n 1, 1) := by decide +kernel
theorem dX11_cross_112 : decode cX11_cross 112 = .ok (.iload_n 2, 1) := by decide +kernel
theorem dX11_cross_113 : decode cX11_cross 113 = .ok (.invokevirtual 206, 3) := by decide +kernel
theorem dX11_cross_116 : decode cX11_cross 116 = .ok (.istore_n 3, 1) := by decide +kernel
theorem dX11_cross_117 : decode cX11_cross 117 = .ok (.aload_n 0, 1) := by decide +kernel
theorem dX11_cross_118 : decode cX11_cross 118 = .ok (.iload_n 3, 1) := by decide +kernel
theorem dX11_cross_119 : decode cX11_cross 119 = .ok (.ifCond .eq 7, 3) := by decide +kernel
theorem dX11_cross_122 : decode cX11_cross 122 = .ok (.iconst 0, 1) := by decide +kernel
theorem dX11_cross_123 : decode cX11_cross 123 = .ok (.goto 4, 3) := by decide +kernel
theorem dX11_cross_126 : decode cX11_cross 126 = .ok (.iconst 2, 1) := by decide +kernel
theorem dX11_cross_127 : decode cX11_cross 127 = .ok (.putfield 48, 3) := by decide +kernel
theorem dX11_cross_130 : decode cX11_cross 130 = .ok (.aload_n 0, 1) := by decide +kernel
theorem dX11_cross_131 : decode cX11_cross 131 = .ok (.iload_n 3, 1) := by decide +kernel
theorem dX11_cross_132 : decode cX11_cross 132 = .ok (.putfield 196, 3) := by decide +kernel
theorem dX11_cross_135 : decode cX11_cross 135 = .ok (.iload_n 3, 1) := by decide +kernel
theorem dX11_cross_136 : decode cX11_cross 136 = .ok (.ifCond .eq 10, 3) := by decide +kernel
theorem dX11_cross_139 : decode cX11_cross 139 = .ok (.aload_n 0, 1) := by decide +kernel
theorem dX11_cross_140 : decode cX11_cross 140 = .ok (.getfield 173, 3) := by decide +kernel
theorem dX11_cross_143 : decode cX11_cross 143 = .ok (.goto 4, 3) := by decide +kernel
theorem dX11_cross_146 : decode cX11_cross 146 = .ok (.iconst 0, 1) := by decide +kernel
theorem dX11_cross_147 : decode cX11_cross 147 = .ok (.ireturn, 1) := by decide +kernel
theorem dX11_cut_0 : decode cX11_cut 0 = .ok (.aload_n 0, 1) := by decide +kernel
theorem dX11_cut_1 : decode cX11_cut 1 = .ok (.bipush 13, 2) := by decide +kernel
theorem dX11_cut_3 : decode cX11_cut 3 = .ok (.iload 5, 2) := by decide +kernel
theorem dX11_cut_5 : decode cX11_cut 5 = .ok (.i2l, 1) := by decide +kernel
theorem dX11_cut_6 : decode cX11_cut 6 = .ok (.invokevirtual 67, 3) := by decide +kernel
theorem dX11_cut_9 : decode cX11_cut 9 = .ok (.aload_n 0, 1) := by decide +kernel
theorem dX11_cut_10 : decode cX11_cut 10 = .ok (.iconst 4, 1) := by decide +kernel
theorem dX11_cut_11 : decode cX11_cut 11 = .ok (.bipush 13, 2) := by decide +kernel
theorem dX11_cut_13 : decode cX11_cut 13 = .ok (.iload_n 1, 1) := by decide +kernel
theorem dX11_cut_14 : decode cX11_cut 14 = .ok (.invokevirtual 93, 3) := by decide +kernel
theorem dX11_cut_17 : decode cX11_cut 17 = .ok (.iload 6, 2) := by decide +kernel
theorem dX11_cut_19 : decode cX11_cut 19 = .ok (.ifCond .eq 17, 3) := by decide +kernel
theorem dX11_cut_22 : decode cX11_cut 22 = .ok (.aload_n 0, 1) := by decide +kernel
theorem dX11_cut_23 : decode cX11_cut 23 = .ok (.iconst 5, 1) := by decide +kernel
theorem dX11_cut_24 : decode cX11_cut 24 = .ok (.iconst 4, 1) := by decide +kernel
theorem dX11_cut_25 : decode cX11_cut 25 = .ok (.iconst 3, 1) := by decide +kernel
theorem dX11_cut_26 : decode cX11_cut 26 = .ok (.iconst 0, 1) := by decide +kernel
theorem dX11_cut_27 : decode cX11_cut 27 = .ok (.invokevirtual 82, 3) := by decide +kernel
theorem dX11_cut_30 : decode cX11_cut 30 = .ok (.aload_n 0, 1) := by decide +kernel
theorem dX11_cut_31 : decode cX11_cut 31 = .ok (.iconst 4, 1) := by decide +kernel
theorem dX11_cut_32 : decode cX11_cut 32 = .ok (.iconst 5, 1) := by decide +kernel
theorem dX11_cut_33 : decode cX11_cut 33 = .ok (.invokevirtual 86, 3) := by decide +kernel
theorem dX11_cut_36 : decode cX11_cut 36 = .ok (.aload_n 0, 1) := by decide +kernel
theorem dX11_cut_37 : decode cX11_cut 37 = .ok (.bipush 13, 2) := by decide +kernel
theorem dX11_cut_39 : decode cX11_cut 39 = .ok (.iload 5, 2) := by decide +kernel
theorem dX11_cut_41 : decode cX11_cut 41 = .ok (.i2l, 1) := by decide +kernel
theorem dX11_cut_42 : decode cX11_cut 42 = .ok (.lload_n 2, 1) := by decide +kernel
theorem dX11_cut_43 : decode cX11_cut 43 = .ok (.lmul, 1) := by decide +kernel
theorem dX11_cut_44 : decode cX11_cut 44 = .ok (.invokevirtual 67, 3) := by decide +kernel
theorem dX11_cut_47 : decode cX11_cut 47 = .ok (.aload_n 0, 1) := by decide +kernel
theorem dX11_cut_48 : decode cX11_cut 48 = .ok (.bipush 15, 2) := by decide +kernel
theorem dX11_cut_50 : decode cX11_cut 50 = .ok (.bipush 13, 2) := by decide +kernel
theorem dX11_cut_52 : decode cX11_cut 52 = .ok (.bipush 13, 2) := by decide +kernel
theorem dX11_cut_54 : decode cX11_cut 54 = .ok (.invokevirtual 93, 3) := by decide +kernel
theorem dX11_cut_57 : decode cX11_cut 57 = .ok (.aload_n 0, 1) := by decide +kernel
theorem dX11_cut_58 : decode cX11_cut 58 = .ok (.bipush 7, 2) := by decide +kernel
theorem dX11_cut_60 : decode cX11_cut 60 = .ok (.bipush 15, 2) := by decide +kernel
theorem dX11_cut_62 : decode cX11_cut 62 = .ok (.iconst 2, 1) := by decide +kernel
theorem dX11_cut_63 : decode cX11_cut 63 = .ok (.invokevirtual 93, 3) := by decide +kernel
theorem dX11_cut_66 : decode cX11_cut 66 = .ok (.aload_n 0, 1) := by decide +kernel
theorem dX11_cut_67 : decode cX11_cut 67 = .ok (.bipush 8, 2) := by decide +kernel
theorem dX11_cut_69 : decode cX11_cut 69 = .ok (.bipush 7, 2) := by decide +kernel
theorem dX11_cut_71 : decode cX11_cut 71 = .ok (.invokevirtual 209, 3) := by decide +kernel
theorem dX11_cut_74 : decode cX11_cut 74 = .ok (.istore 7, 2) := by decide +kernel
theorem dX11_cut_76 : decode cX11_cut 76 = .ok (.lload_n 2, 1) := by decide +kernel
theorem dX11_cut_77 : decode cX11_cut 77 = .ok (.lconst 0, 1) := by decide +kernel
theorem dX11_cut_78 : decode cX11_cut 78 = .ok (.lcmp, 1) := by decide +kernel
theorem dX11_cut_79 : decode cX11_cut 79 = .ok (.ifCond .ne 7, 3) := by decide +kernel
theorem dX11_cut_82 : decode cX11_cut 82 = .ok (.iconst 0, 1) := by decide +kernel
theorem dX11_cut_83 : decode cX11_cut 83 = .ok (.goto 18, 3) := by decide +kernel
theorem dX11_cut_86 : decode cX11_cut 86 = .ok (.lload_n 2, 1) := by decide +kernel
theorem dX11_cut_87 : decode cX11_cut 87 = .ok (.lconst 0, 1) := by decide +kernel
theorem dX11_cut_88 : decode cX11_cut 88 = .ok (.lcmp, 1) := by decide +kernel
theorem dX11_cut_89 : decode cX11_cut 89 = .ok (.ifCond .ge 10, 3) := by decide +kernel
theorem dX11_cut_92 : decode cX11_cut 92 = .ok (.iconst 0, 1) := by decide +kernel
theorem dX11_cut_93 : decode cX11_cut 93 = .ok (.iload 4, 2) := by decide +kernel
theorem dX11_cut_95 : decode cX11_cut 95 = .ok (.isub, 1) := by decide +kernel
theorem dX11_cut_96 : decode cX11_cut 96 = .ok (.goto 5, 3) := by decide +kernel
theorem dX11_cut_99 : decode cX11_cut 99 = .ok (.iload 4, 2) := by decide +kernel
theorem dX11_cut_101 : decode cX11_cut 101 = .ok (.istore 8, 2) := by decide +kernel
theorem dX11_cut_103 : decode cX11_cut 103 = .ok (.iload 8, 2) := by decide +kernel
theorem dX11_cut_105 : decode cX11_cut 105 = .ok (.ifCond .eq 27, 3) := by decide +kernel
theorem dX11_cut_108 : decode cX11_cut 108 = .ok (.aload_n 0, 1) := by decide +kernel
theorem dX11_cut_109 : decode cX11_cut 109 = .ok (.iconst 5, 1) := by decide +kernel
theorem dX11_cut_110 : decode cX11_cut 110 = .ok (.iconst 4, 1) := by decide +kernel
theorem dX11_cut_111 : decode cX11_cut 111 = .ok (.bipush 8, 2) := by decide +kernel
theorem dX11_cut_113 : decode cX11_cut 113 = .ok (.iload 8, 2) := by decide +kernel
theorem dX11_cut_115 : decode cX11_cut 115 = .ok (.ifCond .ge 7, 3) := by decide +kernel
theorem dX11_cut_118 : decode cX11_cut 118 = .ok (.iconst 1, 1) := by decide +kernel
theorem dX11_cut_119 : decode cX11_cut 119 = .ok (.goto 4, 3) := by decide +kernel
theorem dX11_cut_122 : decode cX11_cut 122 = .ok (.iconst 0, 1) := by decide +kernel
theorem dX11_cut_123 : decode cX11_cut 123 = .ok (.invokevirtual 82, 3) := by decide +kernel
theorem dX11_cut_126 : decode cX11_cut 126 = .ok (.aload_n 0, 1) := by decide +kernel
theorem dX11_cut_127 : decode cX11_cut 127 = .ok (.iconst 4, 1) := by decide +kernel
theorem dX11_cut_128 : decode cX11_cut 128 = .ok (.iconst 5, 1) := by decide +kernel
theorem dX11_cut_129 : decode cX11_cut 129 = .ok (.invokevirtual 86, 3) := by decide +kernel
theorem dX11_cut_132 : decode cX11_cut 132 = .ok (.iload 8, 2) := by decide +kernel
theorem dX11_cut_134 : decode cX11_cut 134 = .ok (.ifCond .ge 30, 3) := by decide +kernel
theorem dX11_cut_137 : decode cX11_cut 137 = .ok (.iload 7, 2) := by decide +kernel
theorem dX11_cut_139 : decode cX11_cut 139 = .ok (.ifCond .ne 25, 3) := by decide +kernel
theorem dX11_cut_142 : decode cX11_cut 142 = .ok (.aload_n 0, 1) := by decide +kernel
theorem dX11_cut_143 : decode cX11_cut 143 = .ok (.bipush 15, 2) := by decide +kernel
theorem dX11_cut_145 : decode cX11_cut 145 = .ok (.lconst 1, 1) := by decide +kernel
theorem dX11_cut_146 : decode cX11_cut 146 = .ok (.invokevirtual 67, 3) := by decide +kernel
theorem dX11_cut_149 : decode cX11_cut 149 = .ok (.aload_n 0, 1) := by decide +kernel
theorem dX11_cut_150 : decode cX11_cut 150 = .ok (.iconst 5, 1) := by decide +kernel
theorem dX11_cut_151 : decode cX11_cut 151 = .ok (.iconst 4, 1) := by decide +kernel
theorem dX11_cut_152 : decode cX11_cut 152 = .ok (.bipush 15, 2) := by decide +kernel
theorem dX11_cut_154 : decode cX11_cut 154 = .ok (.iconst 1, 1) := by decide +kernel
theorem dX11_cut_155 : decode cX11_cut 155 = .ok (.invokevirtual 82, 3) := by decide +kernel
theorem dX11_cut_158 : decode cX11_cut 158 = .ok (.aload_n 0, 1) := by decide +kernel
theorem dX11_cut_159 : decode cX11_cut 159 = .ok (.iconst 4, 1) := by decide +kernel
theorem dX11_cut_160 : decode cX11_cut 160 = .ok (.iconst 5, 1) := by decide +kernel
theorem dX11_cut_161 : decode cX11_cut 161 = .ok (.invokevirtual 86, 3) := by decide +kernel
theorem dX11_cut_164 : decode cX11_cut 164 = .ok (.aload_n 0, 1) := by decide +kernel
theorem dX11_cut_165 : decode cX11_cut 165 = .ok (.bipush 13, 2) := by decide +kernel
theorem dX11_cut_167 : decode cX11_cut 167 = .ok (.iload 5, 2) := by decide +kernel
theorem dX11_cut_169 : decode cX11_cut 169 = .ok (.i2l, 1) := by decide +kernel
theorem dX11_cut_170 : decode cX11_cut 170 = .ok (.invokevirtual 67, 3) := by decide +kernel
theorem dX11_cut_173 : decode cX11_cut 173 = .ok (.aload_n 0, 1) := by decide +kernel
theorem dX11_cut_174 : decode cX11_cut 174 = .ok (.bipush 9, 2) := by decide +kernel
theorem dX11_cut_176 : decode cX11_cut 176 = .ok (.bipush 13, 2) := by decide +kernel
theorem dX11_cut_178 : decode cX11_cut 178 = .ok (.iconst 3, 1) := by decide +kernel
theorem dX11_cut_179 : decode cX11_cut 179 = .ok (.invokevirtual 93, 3) := by decide +kernel
theorem dX11_cut_182 : decode cX11_cut 182 = .ok (.aload_n 0, 1) := by decide +kernel
theorem dX11_cut_183 : decode cX11_cut 183 = .ok (.bipush 6, 2) := by decide +kernel
theorem dX11_cut_185 : decode cX11_cut 185 = .ok (.iconst 4, 1) := by decide +kernel
theorem dX11_cut_186 : decode cX11_cut 186 = .ok (.bipush 9, 2) := by decide +kernel
theorem dX11_cut_188 : decode cX11_cut 188 = .ok (.invokevirtual 138, 3) := by decide +kernel
theorem dX11_cut_191 : decode cX11_cut 191 = .ok (.return_, 1) := by decide +kernel
theorem dX11_at_0 : decode cX11_at 0 = .ok (.iload_n 1, 1) := by decide +kernel
theorem dX11_at_1 : decode cX11_at 1 = .ok (.ifCond .lt 33, 3) := by decide +kernel
theorem dX11_at_4 : decode cX11_at 4 = .ok (.iload_n 1, 1) := by decide +kernel
theorem dX11_at_5 : decode cX11_at 5 = .ok (.aload_n 0, 1) := by decide +kernel
theorem dX11_at_6 : decode cX11_at 6 = .ok (.getfield 173, 3) := by decide +kernel
theorem dX11_at_9 : decode cX11_at 9 = .ok (.if_icmp .ge 25, 3) := by decide +kernel
theorem dX11_at_12 : decode cX11_at 12 = .ok (.iload_n 2, 1) := by decide +kernel
theorem dX11_at_13 : decode cX11_at 13 = .ok (.ifCond .lt 21, 3) := by decide +kernel
theorem dX11_at_16 : decode cX11_at 16 = .ok (.iload_n 2, 1) := by decide +kernel
theorem dX11_at_17 : decode cX11_at 17 = .ok (.iconst 2, 1) := by decide +kernel
theorem dX11_at_18 : decode cX11_at 18 = .ok (.if_icmp .ge 16, 3) := by decide +kernel
theorem dX11_at_21 : decode cX11_at 21 = .ok (.iload_n 3, 1) := by decide +kernel
theorem dX11_at_22 : decode cX11_at 22 = .ok (.ifCond .lt 12, 3) := by decide +kernel
theorem dX11_at_25 : decode cX11_at 25 = .ok (.iload_n 3, 1) := by decide +kernel
theorem dX11_at_26 : decode cX11_at 26 = .ok (.iconst 3, 1) := by decide +kernel
theorem dX11_at_27 : decode cX11_at 27 = .ok (.if_icmp .ge 7, 3) := by decide +kernel
theorem dX11_at_30 : decode cX11_at 30 = .ok (.iconst 1, 1) := by decide +kernel
theorem dX11_at_31 : decode cX11_at 31 = .ok (.goto 4, 3) := by decide +kernel
theorem dX11_at_34 : decode cX11_at 34 = .ok (.iconst 0, 1) := by decide +kernel
theorem dX11_at_35 : decode cX11_at 35 = .ok (.istore 4, 2) := by decide +kernel
theorem dX11_at_37 : decode cX11_at 37 = .ok (.aload_n 0, 1) := by decide +kernel
theorem dX11_at_38 : decode cX11_at 38 = .ok (.aload_n 0, 1) := by decide +kernel
theorem dX11_at_39 : decode cX11_at 39 = .ok (.getfield 196, 3) := by decide +kernel
theorem dX11_at_42 : decode cX11_at 42 = .ok (.ifCond .ne 7, 3) := by decide +kernel
theorem dX11_at_45 : decode cX11_at 45 = .ok (.iconst 1, 1) := by decide +kernel
theorem dX11_at_46 : decode cX11_at 46 = .ok (.goto 13, 3) := by decide +kernel
theorem dX11_at_49 : decode cX11_at 49 = .ok (.iload 4, 2) := by decide +kernel
theorem dX11_at_51 : decode cX11_at 51 = .ok (.ifCond .ne 7, 3) := by decide +kernel
theorem dX11_at_54 : decode cX11_at 54 = .ok (.iconst 2, 1) := by decide +kernel
theorem dX11_at_55 : decode cX11_at 55 = .ok (.goto 4, 3) := by decide +kernel
theorem dX11_at_58 : decode cX11_at 58 = .ok (.iconst 0, 1) := by decide +kernel
theorem dX11_at_59 : decode cX11_at 59 = .ok (.putfield 48, 3) := by decide +kernel
theorem dX11_at_62 : decode cX11_at 62 = .ok (.aload_n 0, 1) := by decide +kernel
theorem dX11_at_63 : decode cX11_at 63 = .ok (.getfield 48, 3) := by decide +kernel
theorem dX11_at_66 : decode cX11_at 66 = .ok (.ifCond .eq 5, 3) := by decide +kernel
theorem dX11_at_69 : decode cX11_at 69 = .ok (.lconst 0, 1) := by decide +kernel
theorem dX11_at_70 : decode cX11_at 70 = .ok (.lreturn, 1) := by decide +kernel
theorem dX11_at_71 : decode cX11_at 71 = .ok (.iload_n 2, 1) := by decide +kernel
theorem dX11_at_72 : decode cX11_at 72 = .ok (.ifCond .ne 7, 3) := by decide +kernel
theorem dX11_at_75 : decode cX11_at 75 = .ok (.iconst 0, 1) := by decide +kernel
theorem dX11_at_76 : decode cX11_at 76 = .ok (.goto 4, 3) := by decide +kernel
theorem dX11_at_79 : decode cX11_at 79 = .ok (.iconst 1, 1) := by decide +kernel
theorem dX11_at_80 : decode cX11_at 80 = .ok (.istore 5, 2) := by decide +kernel
theorem dX11_at_82 : decode cX11_at 82 = .ok (.iload_n 2, 1) := by decide +kernel
theorem dX11_at_83 : decode cX11_at 83 = .ok (.ifCond .ne 10, 3) := by decide +kernel
theorem dX11_at_86 : decode cX11_at 86 = .ok (.aload_n 0, 1) := by decide +kernel
theorem dX11_at_87 : decode cX11_at 87 = .ok (.getfield 159, 3) := by decide +kernel
theorem dX11_at_90 : decode cX11_at 90 = .ok (.goto 7, 3) := by decide +kernel
theorem dX11_at_93 : decode cX11_at 93 = .ok (.aload_n 0, 1) := by decide +kernel
theorem dX11_at_94 : decode cX11_at 94 = .ok (.getfield 163, 3) := by decide +kernel
theorem dX11_at_97 : decode cX11_at 97 = .ok (.lstore 6, 2) := by decide +kernel
theorem dX11_at_99 : decode cX11_at 99 = .ok (.iload_n 3, 1) := by decide +kernel
theorem dX11_at_100 : decode cX11_at 100 = .ok (.iconst 1, 1) := by decide +kernel
theorem dX11_at_101 : decode cX11_at 101 = .ok (.if_icmp .eq 43, 3) := by decide +kernel
theorem dX11_at_104 : decode cX11_at 104 = .ok (.aload_n 0, 1) := by decide +kernel
theorem dX11_at_105 : decode cX11_at 105 = .ok (.iload 5, 2) := by decide +kernel
theorem dX11_at_107 : decode cX11_at 107 = .ok (.lload 6, 2) := by decide +kernel
theorem dX11_at_109 : decode cX11_at 109 = .ok (.aload_n 0, 1) := by decide +kernel
theorem dX11_at_110 : decode cX11_at 110 = .ok (.getfield 45, 3) := by decide +kernel
theorem dX11_at_113 : decode cX11_at 113 = .ok (.iload_n 1, 1) := by decide +kernel
theorem dX11_at_114 : decode cX11_at 114 = .ok (.iaload, 1) := by decide +kernel
theorem dX11_at_115 : decode cX11_at 115 = .ok (.iload_n 3, 1) := by decide +kernel
theorem dX11_at_116 : decode cX11_at 116 = .ok (.ifCond .ne 7, 3) := by decide +kernel
theorem dX11_at_119 : decode cX11_at 119 = .ok (.iconst 1, 1) := by decide +kernel
theorem dX11_at_120 : decode cX11_at 120 = .ok (.goto 4, 3) := by decide +kernel
theorem dX11_at_123 : decode cX11_at 123 = .ok (.iconst 2, 1) := by decide +kernel
theorem dX11_at_124 : decode cX11_at 124 = .ok (.iload_n 3, 1) := by decide +kernel
theorem dX11_at_125 : decode cX11_at 125 = .ok (.iconst 2, 1) := by decide +kernel
theorem dX11_at_126 : decode cX11_at 126 = .ok (.if_icmp .ne 7, 3) := by decide +kernel
theorem dX11_at_129 : decode cX11_at 129 = .ok (.iconst 1, 1) := by decide +kernel
theorem dX11_at_130 : decode cX11_at 130 = .ok (.goto 4, 3) := by decide +kernel
theorem dX11_at_133 : decode cX11_at 133 = .ok (.iconst 0, 1) := by decide +kernel
theorem dX11_at_134 : decode cX11_at 134 = .ok (.invokevirtual 212, 3) := by decide +kernel
theorem dX11_at_137 : decode cX11_at 137 = .ok (.aload_n 0, 1) := by decide +kernel
theorem dX11_at_138 : decode cX11_at 138 = .ok (.bipush 6, 2) := by decide +kernel
theorem dX11_at_140 : decode cX11_at 140 = .ok (.invokevirtual 216, 3) := by decide +kernel
theorem dX11_at_143 : decode cX11_at 143 = .ok (.lreturn, 1) := by decide +kernel
theorem dX11_at_144 : decode cX11_at 144 = .ok (.aload_n 0, 1) := by decide +kernel
theorem dX11_at_145 : decode cX11_at 145 = .ok (.bipush 10, 2) := by decide +kernel
theorem dX11_at_147 : decode cX11_at 147 = .ok (.iload 5, 2) := by decide +kernel
theorem dX11_at_149 : decode cX11_at 149 = .ok (.invokevirtual 86, 3) := by decide +kernel
theorem dX11_at_152 : decode cX11_at 152 = .ok (.aload_n 0, 1) := by decide +kernel
theorem dX11_at_153 : decode cX11_at 153 = .ok (.getfield 42, 3) := by decide +kernel
theorem dX11_at_156 : decode cX11_at 156 = .ok (.bipush 10, 2) := by decide +kernel
theorem dX11_at_158 : decode cX11_at 158 = .ok (.aload_n 0, 1) := by decide +kernel
theorem dX11_at_159 : decode cX11_at 159 = .ok (.getfield 42, 3) := by decide +kernel
theorem dX11_at_162 : decode cX11_at 162 = .ok (.bipush 10, 2) := by decide +kernel
theorem dX11_at_164 : decode cX11_at 164 = .ok (.baload, 1) := by decide +kernel
theorem dX11_at_165 : decode cX11_at 165 = .ok (.ifCond .ne 7, 3) := by decide +kernel
theorem dX11_at_168 : decode cX11_at 168 = .ok (.iconst 1, 1) := by decide +kernel
theorem dX11_at_169 : decode cX11_at 169 = .ok (.goto 4, 3) := by decide +kernel
theorem dX11_at_172 : decode cX11_at 172 = .ok (.iconst 0, 1) := by decide +kernel
theorem dX11_at_173 : decode cX11_at 173 = .ok (.bastore, 1) := by decide +kernel
theorem dX11_at_174 : decode cX11_at 174 = .ok (.aload_n 0, 1) := by decide +kernel
theorem dX11_at_175 : decode cX11_at 175 = .ok (.bipush 10, 2) := by decide +kernel
theorem dX11_at_177 : decode cX11_at 177 = .ok (.lload 6, 2) := by decide +kernel
theorem dX11_at_179 : decode cX11_at 179 = .ok (.iconst 0, 1) := by decide +kernel
theorem dX11_at_180 : decode cX11_at 180 = .ok (.aload_n 0, 1) := by decide +kernel
theorem dX11_at_181 : decode cX11_at 181 = .ok (.getfield 45, 3) := by decide +kernel
theorem dX11_at_184 : decode cX11_at 184 = .ok (.iload_n 1, 1) := by decide +kernel
theorem dX11_at_185 : decode cX11_at 185 = .ok (.iaload, 1) := by decide +kernel
theorem dX11_at_186 : decode cX11_at 186 = .ok (.isub, 1) := by decide +kernel
theorem dX11_at_187 : decode cX11_at 187 = .ok (.iconst 1, 1) := by decide +kernel
theorem dX11_at_188 : decode cX11_at 188 = .ok (.iconst 0, 1) := by decide +kernel
theorem dX11_at_189 : decode cX11_at 189 = .ok (.invokevirtual 212, 3) := by decide +kernel
theorem dX11_at_192 : decode cX11_at 192 = .ok (.lconst 0, 1) := by decide +kernel
theorem dX11_at_193 : decode cX11_at 193 = .ok (.aload_n 0, 1) := by decide +kernel
theorem dX11_at_194 : decode cX11_at 194 = .ok (.bipush 6, 2) := by decide +kernel
theorem dX11_at_196 : decode cX11_at 196 = .ok (.invokevirtual 216, 3) := by decide +kernel
theorem dX11_at_199 : decode cX11_at 199 = .ok (.lsub, 1) := by decide +kernel
theorem dX11_at_200 : decode cX11_at 200 = .ok (.lreturn, 1) := by decide +kernel
theorem dX11_on_0 : decode cX11_on 0 = .ok (.aload_n 0, 1) := by decide +kernel
theorem dX11_on_1 : decode cX11_on 1 = .ok (.aload_n 0, 1) := by decide +kernel
theorem dX11_on_2 : decode cX11_on 2 = .ok (.iload_n 1, 1) := by decide +kernel
theorem dX11_on_3 : decode cX11_on 3 = .ok (.invokevirtual 141, 3) := by decide +kernel
theorem dX11_on_6 : decode cX11_on 6 = .ok (.ifCond .ne 7, 3) := by decide +kernel
theorem dX11_on_9 : decode cX11_on 9 = .ok (.iconst 1, 1) := by decide +kernel
theorem dX11_on_10 : decode cX11_on 10 = .ok (.goto 17, 3) := by decide +kernel
theorem dX11_on_13 : decode cX11_on 13 = .ok (.lload_n 2, 1) := by decide +kernel
theorem dX11_on_14 : decode cX11_on 14 = .ok (.lload 4, 2) := by decide +kernel
theorem dX11_on_16 : decode cX11_on 16 = .ok (.invokestatic 101, 3) := by decide +kernel
theorem dX11_on_19 : decode cX11_on 19 = .ok (.ifCond .ne 7, 3) := by decide +kernel
theorem dX11_on_22 : decode cX11_on 22 = .ok (.iconst 2, 1) := by decide +kernel
theorem dX11_on_23 : decode cX11_on 23 = .ok (.goto 4, 3) := by decide +kernel
theorem dX11_on_26 : decode cX11_on 26 = .ok (.iconst 0, 1) := by decide +kernel
theorem dX11_on_27 : decode cX11_on 27 = .ok (.putfield 48, 3) := by decide +kernel
theorem dX11_on_30 : decode cX11_on 30 = .ok (.aload_n 0, 1) := by decide +kernel
theorem dX11_on_31 : decode cX11_on 31 = .ok (.getfield 48, 3) := by decide +kernel
theorem dX11_on_34 : decode cX11_on 34 = .ok (.ifCond .eq 5, 3) := by decide +kernel
theorem dX11_on_37 : decode cX11_on 37 = .ok (.iconst 0, 1) := by decide +kernel
theorem dX11_on_38 : decode cX11_on 38 = .ok (.ireturn, 1) := by decide +kernel
theorem dX11_on_39 : decode cX11_on 39 = .ok (.aload_n 0, 1) := by decide +kernel
theorem dX11_on_40 : decode cX11_on 40 = .ok (.getfield 7, 3) := by decide +kernel
theorem dX11_on_43 : decode cX11_on 43 = .ok (.iload_n 1, 1) := by decide +kernel
theorem dX11_on_44 : decode cX11_on 44 = .ok (.baload, 1) := by decide +kernel
theorem dX11_on_45 : decode cX11_on 45 = .ok (.ifCond .ne 12, 3) := by decide +kernel
theorem dX11_on_48 : decode cX11_on 48 = .ok (.aload_n 0, 1) := by decide +kernel
theorem dX11_on_49 : decode cX11_on 49 = .ok (.iload_n 1, 1) := by decide +kernel
theorem dX11_on_50 : decode cX11_on 50 = .ok (.lload_n 2, 1) := by decide +kernel
theorem dX11_on_51 : decode cX11_on 51 = .ok (.lload 4, 2) := by decide +kernel
theorem dX11_on_53 : decode cX11_on 53 = .ok (.invokevirtual 122, 3) := by decide +kernel
theorem dX11_on_56 : decode cX11_on 56 = .ok (.ireturn, 1) := by decide +kernel
theorem dX11_on_57 : decode cX11_on 57 = .ok (.lload_n 2, 1) := by decide +kernel
theorem dX11_on_58 : decode cX11_on 58 = .ok (.aload_n 0, 1) := by decide +kernel
theorem dX11_on_59 : decode cX11_on 59 = .ok (.getfield 13, 3) := by decide +kernel
theorem dX11_on_62 : decode cX11_on 62 = .ok (.iload_n 1, 1) := by decide +kernel
theorem dX11_on_63 : decode cX11_on 63 = .ok (.laload, 1) := by decide +kernel
theorem dX11_on_64 : decode cX11_on 64 = .ok (.lsub, 1) := by decide +kernel
theorem dX11_on_65 : decode cX11_on 65 = .ok (.lstore 6, 2) := by decide +kernel
theorem dX11_on_67 : decode cX11_on 67 = .ok (.lload 4, 2) := by decide +kernel
theorem dX11_on_69 : decode cX11_on 69 = .ok (.aload_n 0, 1) := by decide +kernel
theorem dX11_on_70 : decode cX11_on 70 = .ok (.getfield 17, 3) := by decide +kernel
theorem dX11_on_73 : decode cX11_on 73 = .ok (.iload_n 1, 1) := by decide +kernel
theorem dX11_on_74 : decode cX11_on 74 = .ok (.laload, 1) := by decide +kernel
theorem dX11_on_75 : decode cX11_on 75 = .ok (.lsub, 1) := by decide +kernel
theorem dX11_on_76 : decode cX11_on 76 = .ok (.lstore 8, 2) := by decide +kernel
theorem dX11_on_78 : decode cX11_on 78 = .ok (.aload_n 0, 1) := by decide +kernel
theorem dX11_on_79 : decode cX11_on 79 = .ok (.iconst 4, 1) := by decide +kernel
theorem dX11_on_80 : decode cX11_on 80 = .ok (.lload 6, 2) := by decide +kernel
theorem dX11_on_82 : decode cX11_on 82 = .ok (.lload 6, 2) := by decide +kernel
theorem dX11_on_84 : decode cX11_on 84 = .ok (.lload 8, 2) := by decide +kernel
theorem dX11_on_86 : decode cX11_on 86 = .ok (.lload 8, 2) := by decide +kernel
theorem dX11_on_88 : decode cX11_on 88 = .ok (.iconst 0, 1) := by decide +kernel
theorem dX11_on_89 : decode cX11_on 89 = .ok (.invokevirtual 97, 3) := by decide +kernel
theorem dX11_on_92 : decode cX11_on 92 = .ok (.aload_n 0, 1) := by decide +kernel
theorem dX11_on_93 : decode cX11_on 93 = .ok (.iconst 5, 1) := by decide +kernel
theorem dX11_on_94 : decode cX11_on 94 = .ok (.aload_n 0, 1) := by decide +kernel
theorem dX11_on_95 : decode cX11_on 95 = .ok (.getfield 20, 3) := by decide +kernel
theorem dX11_on_98 : decode cX11_on 98 = .ok (.iload_n 1, 1) := by decide +kernel
theorem dX11_on_99 : decode cX11_on 99 = .ok (.laload, 1) := by decide +kernel
theorem dX11_on_100 : decode cX11_on 100 = .ok (.invokevirtual 67, 3) := by decide +kernel
theorem dX11_on_103 : decode cX11_on 103 = .ok (.aload_n 0, 1) := by decide +kernel
theorem dX11_on_104 : decode cX11_on 104 = .ok (.iconst 4, 1) := by decide +kernel
theorem dX11_on_105 : decode cX11_on 105 = .ok (.iconst 5, 1) := by decide +kernel
theorem dX11_on_106 : decode cX11_on 106 = .ok (.invokevirtual 62, 3) := by decide +kernel
theorem dX11_on_109 : decode cX11_on 109 = .ok (.ifCond .eq 5, 3) := by decide +kernel
theorem dX11_on_112 : decode cX11_on 112 = .ok (.iconst 0, 1) := by decide +kernel
theorem dX11_on_113 : decode cX11_on 113 = .ok (.ireturn, 1) := by decide +kernel
theorem dX11_on_114 : decode cX11_on 114 = .ok (.aload_n 0, 1) := by decide +kernel
theorem dX11_on_115 : decode cX11_on 115 = .ok (.iload_n 1, 1) := by decide +kernel
theorem dX11_on_116 : decode cX11_on 116 = .ok (.lload 6, 2) := by decide +kernel
theorem dX11_on_118 : decode cX11_on 118 = .ok (.invokestatic 220, 3) := by decide +kernel
theorem dX11_on_121 : decode cX11_on 121 = .ok (.lload 8, 2) := by decide +kernel
theorem dX11_on_123 : decode cX11_on 123 = .ok (.invokestatic 220, 3) := by decide +kernel
theorem dX11_on_126 : decode cX11_on 126 = .ok (.lload 6, 2) := by decide +kernel
theorem dX11_on_128 : decode cX11_on 128 = .ok (.lload 8, 2) := by decide +kernel
theorem dX11_on_130 : decode cX11_on 130 = .ok (.lsub, 1) := by decide +kernel
theorem dX11_on_131 : decode cX11_on 131 = .ok (.invokestatic 220, 3) := by decide +kernel
theorem dX11_on_134 : decode cX11_on 134 = .ok (.lload 6, 2) := by decide +kernel
theorem dX11_on_136 : decode cX11_on 136 = .ok (.lload 8, 2) := by decide +kernel
theorem dX11_on_138 : decode cX11_on 138 = .ok (.ladd, 1) := by decide +kernel
theorem dX11_on_139 : decode cX11_on 139 = .ok (.invokestatic 220, 3) := by decide +kernel
theorem dX11_on_142 : decode cX11_on 142 = .ok (.invokestatic 166, 3) := by decide +kernel
theorem dX11_on_145 : decode cX11_on 145 = .ok (.invokevirtual 170, 3) := by decide +kernel
theorem dX11_on_148 : decode cX11_on 148 = .ok (.ireturn, 1) := by decide +kernel
theorem dX11_side_0 : decode cX11_side 0 = .ok (.lload_n 0, 1) := by decide +kernel
theorem dX11_side_1 : decode cX11_side 1 = .ok (.lconst 0, 1) := by decide +kernel
theorem dX11_side_2 : decode cX11_side 2 = .ok (.lcmp, 1) := by decide +kernel
theorem dX11_side_3 : decode cX11_side 3 = .ok (.ifCond .ge 7, 3) := by decide +kernel
theorem dX11_side_6 : decode cX11_side 6 = .ok (.iconst (-1), 1) := by decide +kernel
theorem dX11_side_7 : decode cX11_side 7 = .ok (.goto 14, 3) := by decide +kernel
theorem dX11_side_10 : decode cX11_side 10 = .ok (.lload_n 0, 1) := by decide +kernel
theorem dX11_side_11 : decode cX11_side 11 = .ok (.lconst 0, 1) := by decide +kernel
theorem dX11_side_12 : decode cX11_side 12 = .ok (.lcmp, 1) := by decide +kernel
theorem dX11_side_13 : decode cX11_side 13 = .ok (.ifCond .le 7, 3) := by decide +kernel
theorem dX11_side_16 : decode cX11_side 16 = .ok (.iconst 1, 1) := by decide +kernel
theorem dX11_side_17 : decode cX11_side 17 = .ok (.goto 4, 3) := by decide +kernel
theorem dX11_side_20 : decode cX11_side 20 = .ok (.iconst 0, 1) := by decide +kernel
theorem dX11_side_21 : decode cX11_side 21 = .ok (.ireturn, 1) := by decide +kernel
theorem dX11_over_0 : decode cX11_over 0 = .ok (.aload_n 0, 1) := by decide +kernel
theorem dX11_over_1 : decode cX11_over 1 = .ok (.lload_n 3, 1) := by decide +kernel
theorem dX11_over_2 : decode cX11_over 2 = .ok (.lconst 0, 1) := by decide +kernel
theorem dX11_over_3 : decode cX11_over 3 = .ok (.lcmp, 1) := by decide +kernel
theorem dX11_over_4 : decode cX11_over 4 = .ok (.ifCond .ne 7, 3) := by decide +kernel
theorem dX11_over_7 : decode cX11_over 7 = .ok (.iconst 1, 1) := by decide +kernel
theorem dX11_over_8 : decode cX11_over 8 = .ok (.goto 19, 3) := by decide +kernel
theorem dX11_over_11 : decode cX11_over 11 = .ok (.iload 5, 2) := by decide +kernel
theorem dX11_over_13 : decode cX11_over 13 = .ok (.ifCond .lt 9, 3) := by decide +kernel
theorem dX11_over_16 : decode cX11_over 16 = .ok (.iload 5, 2) := by decide +kernel
theorem dX11_over_18 : decode cX11_over 18 = .ok (.iconst 2, 1) := by decide +kernel
theorem dX11_over_19 : decode cX11_over 19 = .ok (.if_icmp .le 7, 3) := by decide +kernel
theorem dX11_over_22 : decode cX11_over 22 = .ok (.iconst 2, 1) := by decide +kernel
theorem dX11_over_23 : decode cX11_over 23 = .ok (.goto 4, 3) := by decide +kernel
theorem dX11_over_26 : decode cX11_over 26 = .ok (.iconst 0, 1) := by decide +kernel
theorem dX11_over_27 : decode cX11_over 27 = .ok (.putfield 48, 3) := by decide +kernel
theorem dX11_over_30 : decode cX11_over 30 = .ok (.aload_n 0, 1) := by decide +kernel
theorem dX11_over_31 : decode cX11_over 31 = .ok (.getfield 48, 3) := by decide +kernel
theorem dX11_over_34 : decode cX11_over 34 = .ok (.ifCond .eq 5, 3) := by decide +kernel
theorem dX11_over_37 : decode cX11_over 37 = .ok (.lconst 0, 1) := by decide +kernel
theorem dX11_over_38 : decode cX11_over 38 = .ok (.lreturn, 1) := by decide +kernel
theorem dX11_over_39 : decode cX11_over 39 = .ok (.lload_n 1, 1) := by decide +kernel
theorem dX11_over_40 : decode cX11_over 40 = .ok (.lload_n 3, 1) := by decide +kernel
theorem dX11_over_41 : decode cX11_over 41 = .ok (.ldiv, 1) := by decide +kernel
theorem dX11_over_42 : decode cX11_over 42 = .ok (.lstore 6, 2) := by decide +kernel
theorem dX11_over_44 : decode cX11_over 44 = .ok (.lload_n 1, 1) := by decide +kernel
theorem dX11_over_45 : decode cX11_over 45 = .ok (.lload_n 3, 1) := by decide +kernel
theorem dX11_over_46 : decode cX11_over 46 = .ok (.lrem, 1) := by decide +kernel
theorem dX11_over_47 : decode cX11_over 47 = .ok (.lstore 8, 2) := by decide +kernel
theorem dX11_over_49 : decode cX11_over 49 = .ok (.lload 8, 2) := by decide +kernel
theorem dX11_over_51 : decode cX11_over 51 = .ok (.lconst 0, 1) := by decide +kernel
theorem dX11_over_52 : decode cX11_over 52 = .ok (.lcmp, 1) := by decide +kernel
theorem dX11_over_53 : decode cX11_over 53 = .ok (.ifCond .eq 41, 3) := by decide +kernel
theorem dX11_over_56 : decode cX11_over 56 = .ok (.lload 8, 2) := by decide +kernel
theorem dX11_over_58 : decode cX11_over 58 = .ok (.lconst 0, 1) := by decide +kernel
theorem dX11_over_59 : decode cX11_over 59 = .ok (.lcmp, 1) := by decide +kernel
theorem dX11_over_60 : decode cX11_over 60 = .ok (.ifCond .ge 7, 3) := by decide +kernel
theorem dX11_over_63 : decode cX11_over 63 = .ok (.iconst 1, 1) := by decide +kernel
theorem dX11_over_64 : decode cX11_over 64 = .ok (.goto 4, 3) := by decide +kernel
theorem dX11_over_67 : decode cX11_over 67 = .ok (.iconst 0, 1) := by decide +kernel
theorem dX11_over_68 : decode cX11_over 68 = .ok (.lload_n 3, 1) := by decide +kernel
theorem dX11_over_69 : decode cX11_over 69 = .ok (.lconst 0, 1) := by decide +kernel
theorem dX11_over_70 : decode cX11_over 70 = .ok (.lcmp, 1) := by decide +kernel
theorem dX11_over_71 : decode cX11_over 71 = .ok (.ifCond .ge 7, 3) := by decide +kernel
theorem dX11_over_74 : decode cX11_over 74 = .ok (.iconst 1, 1) := by decide +kernel
theorem dX11_over_75 : decode cX11_over 75 = .ok (.goto 4, 3) := by decide +kernel
theorem dX11_over_78 : decode cX11_over 78 = .ok (.iconst 0, 1) := by decide +kernel
theorem dX11_over_79 : decode cX11_over 79 = .ok (.if_icmp .eq 15, 3) := by decide +kernel
theorem dX11_over_82 : decode cX11_over 82 = .ok (.lload 6, 2) := by decide +kernel
theorem dX11_over_84 : decode cX11_over 84 = .ok (.lconst 1, 1) := by decide +kernel
theorem dX11_over_85 : decode cX11_over 85 = .ok (.lsub, 1) := by decide +kernel
theorem dX11_over_86 : decode cX11_over 86 = .ok (.lstore 6, 2) := by decide +kernel
theorem dX11_over_88 : decode cX11_over 88 = .ok (.lload 8, 2) := by decide +kernel
theorem dX11_over_90 : decode cX11_over 90 = .ok (.lload_n 3, 1) := by decide +kernel
theorem dX11_over_91 : decode cX11_over 91 = .ok (.ladd, 1) := by decide +kernel
theorem dX11_over_92 : decode cX11_over 92 = .ok (.lstore 8, 2) := by decide +kernel
theorem dX11_over_94 : decode cX11_over 94 = .ok (.iload 5, 2) := by decide +kernel
theorem dX11_over_96 : decode cX11_over 96 = .ok (.iconst 1, 1) := by decide +kernel
theorem dX11_over_97 : decode cX11_over 97 = .ok (.if_icmp .ne 20, 3) := by decide +kernel
theorem dX11_over_100 : decode cX11_over 100 = .ok (.lload 8, 2) := by decide +kernel
theorem dX11_over_102 : decode cX11_over 102 = .ok (.lconst 0, 1) := by decide +kernel
theorem dX11_over_103 : decode cX11_over 103 = .ok (.lcmp, 1) := by decide +kernel
theorem dX11_over_104 : decode cX11_over 104 = .ok (.ifCond .ne 8, 3) := by decide +kernel
theorem dX11_over_107 : decode cX11_over 107 = .ok (.lload 6, 2) := by decide +kernel
theorem dX11_over_109 : decode cX11_over 109 = .ok (.goto 7, 3) := by decide +kernel
theorem dX11_over_112 : decode cX11_over 112 = .ok (.lload 6, 2) := by decide +kernel
theorem dX11_over_114 : decode cX11_over 114 = .ok (.lconst 1, 1) := by decide +kernel
theorem dX11_over_115 : decode cX11_over 115 = .ok (.ladd, 1) := by decide +kernel
theorem dX11_over_116 : decode cX11_over 116 = .ok (.lreturn, 1) := by decide +kernel
theorem dX11_over_117 : decode cX11_over 117 = .ok (.iload 5, 2) := by decide +kernel
theorem dX11_over_119 : decode cX11_over 119 = .ok (.iconst 2, 1) := by decide +kernel
theorem dX11_over_120 : decode cX11_over 120 = .ok (.if_icmp .ne 43, 3) := by decide +kernel
theorem dX11_over_123 : decode cX11_over 123 = .ok (.lload 8, 2) := by decide +kernel
theorem dX11_over_125 : decode cX11_over 125 = .ok (.lconst 0, 1) := by decide +kernel
theorem dX11_over_126 : decode cX11_over 126 = .ok (.lcmp, 1) := by decide +kernel
theorem dX11_over_127 : decode cX11_over 127 = .ok (.ifCond .eq 36, 3) := by decide +kernel
theorem dX11_over_130 : decode cX11_over 130 = .ok (.lload_n 3, 1) := by decide +kernel
theorem dX11_over_131 : decode cX11_over 131 = .ok (.lconst 0, 1) := by decide +kernel
theorem dX11_over_132 : decode cX11_over 132 = .ok (.lcmp, 1) := by decide +kernel
theorem dX11_over_133 : decode cX11_over 133 = .ok (.ifCond .le 16, 3) := by decide +kernel
theorem dX11_over_136 : decode cX11_over 136 = .ok (.lload 8, 2) := by decide +kernel
theorem dX11_over_138 : decode cX11_over 138 = .ok (.lload_n 3, 1) := by decide +kernel
theorem dX11_over_139 : decode cX11_over 139 = .ok (.lload 8, 2) := by decide +kernel
theorem dX11_over_141 : decode cX11_over 141 = .ok (.lsub, 1) := by decide +kernel
theorem dX11_over_142 : decode cX11_over 142 = .ok (.lcmp, 1) := by decide +kernel
theorem dX11_over_143 : decode cX11_over 143 = .ok (.ifCond .lt 20, 3) := by decide +kernel
theorem dX11_over_146 : decode cX11_over 146 = .ok (.goto 13, 3) := by decide +kernel
theorem dX11_over_149 : decode cX11_over 149 = .ok (.lload 8, 2) := by decide +kernel
theorem dX11_over_151 : decode cX11_over 151 = .ok (.lload_n 3, 1) := by decide +kernel
theorem dX11_over_152 : decode cX11_over 152 = .ok (.lload 8, 2) := by decide +kernel
theorem dX11_over_154 : decode cX11_over 154 = .ok (.lsub, 1) := by decide +kernel
theorem dX11_over_155 : decode cX11_over 155 = .ok (.lcmp, 1) := by decide +kernel
theorem dX11_over_156 : decode cX11_over 156 = .ok (.ifCond .gt 7, 3) := by decide +kernel
theorem dX11_over_159 : decode cX11_over 159 = .ok (.iconst 1, 1) := by decide +kernel
theorem dX11_over_160 : decode cX11_over 160 = .ok (.goto 4, 3) := by decide +kernel
theorem dX11_over_163 : decode cX11_over 163 = .ok (.iconst 0, 1) := by decide +kernel
theorem dX11_over_164 : decode cX11_over 164 = .ok (.istore 10, 2) := by decide +kernel
theorem dX11_over_166 : decode cX11_over 166 = .ok (.iload 10, 2) := by decide +kernel
theorem dX11_over_168 : decode cX11_over 168 = .ok (.ifCond .eq 10, 3) := by decide +kernel
theorem dX11_over_171 : decode cX11_over 171 = .ok (.lload 6, 2) := by decide +kernel
theorem dX11_over_173 : decode cX11_over 173 = .ok (.lconst 1, 1) := by decide +kernel
theorem dX11_over_174 : decode cX11_over 174 = .ok (.ladd, 1) := by decide +kernel
theorem dX11_over_175 : decode cX11_over 175 = .ok (.goto 5, 3) := by decide +kernel
theorem dX11_over_178 : decode cX11_over 178 = .ok (.lload 6, 2) := by decide +kernel
theorem dX11_over_180 : decode cX11_over 180 = .ok (.lreturn, 1) := by decide +kernel
theorem dX11_root_0 : decode cX11_root 0 = .ok (.aload_n 0, 1) := by decide +kernel
theorem dX11_root_1 : decode cX11_root 1 = .ok (.iload_n 3, 1) := by decide +kernel
theorem dX11_root_2 : decode cX11_root 2 = .ok (.ifCond .lt 8, 3) := by decide +kernel
theorem dX11_root_5 : decode cX11_root 5 = .ok (.iload_n 3, 1) := by decide +kernel
theorem dX11_root_6 : decode cX11_root 6 = .ok (.iconst 2, 1) := by decide +kernel
theorem dX11_root_7 : decode cX11_root 7 = .ok (.if_icmp .le 7, 3) := by decide +kernel
theorem dX11_root_10 : decode cX11_root 10 = .ok (.iconst 1, 1) := by decide +kernel
theorem dX11_root_11 : decode cX11_root 11 = .ok (.goto 14, 3) := by decide +kernel
theorem dX11_root_14 : decode cX11_root 14 = .ok (.lload_n 1, 1) := by decide +kernel
theorem dX11_root_15 : decode cX11_root 15 = .ok (.lconst 0, 1) := by decide +kernel
theorem dX11_root_16 : decode cX11_root 16 = .ok (.lcmp, 1) := by decide +kernel
theorem dX11_root_17 : decode cX11_root 17 = .ok (.ifCond .ge 7, 3) := by decide +kernel
theorem dX11_root_20 : decode cX11_root 20 = .ok (.iconst 2, 1) := by decide +kernel
theorem dX11_root_21 : decode cX11_root 21 = .ok (.goto 4, 3) := by decide +kernel
theorem dX11_root_24 : decode cX11_root 24 = .ok (.iconst 0, 1) := by decide +kernel
theorem dX11_root_25 : decode cX11_root 25 = .ok (.putfield 48, 3) := by decide +kernel
theorem dX11_root_28 : decode cX11_root 28 = .ok (.aload_n 0, 1) := by decide +kernel
theorem dX11_root_29 : decode cX11_root 29 = .ok (.getfield 48, 3) := by decide +kernel
theorem dX11_root_32 : decode cX11_root 32 = .ok (.ifCond .eq 5, 3) := by decide +kernel
theorem dX11_root_35 : decode cX11_root 35 = .ok (.lconst 0, 1) := by decide +kernel
theorem dX11_root_36 : decode cX11_root 36 = .ok (.lreturn, 1) := by decide +kernel
theorem dX11_root_37 : decode cX11_root 37 = .ok (.aload_n 0, 1) := by decide +kernel
theorem dX11_root_38 : decode cX11_root 38 = .ok (.iconst 4, 1) := by decide +kernel
theorem dX11_root_39 : decode cX11_root 39 = .ok (.lload_n 1, 1) := by decide +kernel
theorem dX11_root_40 : decode cX11_root 40 = .ok (.invokevirtual 67, 3) := by decide +kernel
theorem dX11_root_43 : decode cX11_root 43 = .ok (.aload_n 0, 1) := by decide +kernel
theorem dX11_root_44 : decode cX11_root 44 = .ok (.iconst 5, 1) := by decide +kernel
theorem dX11_root_45 : decode cX11_root 45 = .ok (.iconst 4, 1) := by decide +kernel
theorem dX11_root_46 : decode cX11_root 46 = .ok (.invokevirtual 209, 3) := by decide +kernel
theorem dX11_root_49 : decode cX11_root 49 = .ok (.istore 4, 2) := by decide +kernel
theorem dX11_root_51 : decode cX11_root 51 = .ok (.aload_n 0, 1) := by decide +kernel
theorem dX11_root_52 : decode cX11_root 52 = .ok (.iconst 5, 1) := by decide +kernel
theorem dX11_root_53 : decode cX11_root 53 = .ok (.invokevirtual 216, 3) := by decide +kernel
theorem dX11_root_56 : decode cX11_root 56 = .ok (.lstore 5, 2) := by decide +kernel
theorem dX11_root_58 : decode cX11_root 58 = .ok (.iload_n 3, 1) := by decide +kernel
theorem dX11_root_59 : decode cX11_root 59 = .ok (.iconst 1, 1) := by decide +kernel
theorem dX11_root_60 : decode cX11_root 60 = .ok (.if_icmp .ne 16, 3) := by decide +kernel
theorem dX11_root_63 : decode cX11_root 63 = .ok (.iload 4, 2) := by decide +kernel
theorem dX11_root_65 : decode cX11_root 65 = .ok (.ifCond .ne 7, 3) := by decide +kernel
theorem dX11_root_68 : decode cX11_root 68 = .ok (.iconst 1, 1) := by decide +kernel
theorem dX11_root_69 : decode cX11_root 69 = .ok (.goto 30, 3) := by decide +kernel
theorem dX11_root_72 : decode cX11_root 72 = .ok (.iconst 0, 1) := by decide +kernel
theorem dX11_root_73 : decode cX11_root 73 = .ok (.goto 26, 3) := by decide +kernel
theorem dX11_root_76 : decode cX11_root 76 = .ok (.iload_n 3, 1) := by decide +kernel
theorem dX11_root_77 : decode cX11_root 77 = .ok (.iconst 2, 1) := by decide +kernel
theorem dX11_root_78 : decode cX11_root 78 = .ok (.if_icmp .ne 20, 3) := by decide +kernel
theorem dX11_root_81 : decode cX11_root 81 = .ok (.lload_n 1, 1) := by decide +kernel
theorem dX11_root_82 : decode cX11_root 82 = .ok (.lload 5, 2) := by decide +kernel
theorem dX11_root_84 : decode cX11_root 84 = .ok (.lload 5, 2) := by decide +kernel
theorem dX11_root_86 : decode cX11_root 86 = .ok (.lmul, 1) := by decide +kernel
theorem dX11_root_87 : decode cX11_root 87 = .ok (.lsub, 1) := by decide +kernel
theorem dX11_root_88 : decode cX11_root 88 = .ok (.lload 5, 2) := by decide +kernel
theorem dX11_root_90 : decode cX11_root 90 = .ok (.lcmp, 1) := by decide +kernel
theorem dX11_root_91 : decode cX11_root 91 = .ok (.ifCond .le 7, 3) := by decide +kernel
theorem dX11_root_94 : decode cX11_root 94 = .ok (.iconst 1, 1) := by decide +kernel
theorem dX11_root_95 : decode cX11_root 95 = .ok (.goto 4, 3) := by decide +kernel
theorem dX11_root_98 : decode cX11_root 98 = .ok (.iconst 0, 1) := by decide +kernel
theorem dX11_root_99 : decode cX11_root 99 = .ok (.istore 7, 2) := by decide +kernel
theorem dX11_root_101 : decode cX11_root 101 = .ok (.iload 7, 2) := by decide +kernel
theorem dX11_root_103 : decode cX11_root 103 = .ok (.ifCond .eq 10, 3) := by decide +kernel
theorem dX11_root_106 : decode cX11_root 106 = .ok (.lload 5, 2) := by decide +kernel
theorem dX11_root_108 : decode cX11_root 108 = .ok (.lconst 1, 1) := by decide +kernel
theorem dX11_root_109 : decode cX11_root 109 = .ok (.ladd, 1) := by decide +kernel
theorem dX11_root_110 : decode cX11_root 110 = .ok (.goto 5, 3) := by decide +kernel
theorem dX11_root_113 : decode cX11_root 113 = .ok (.lload 5, 2) := by decide +kernel
theorem dX11_root_115 : decode cX11_root 115 = .ok (.lreturn, 1) := by decide +kernel
theorem dX11_corner_0 : decode cX11_corner 0 = .ok (.aload_n 0, 1) := by decide +kernel
theorem dX11_corner_1 : decode cX11_corner 1 = .ok (.lload_n 1, 1) := by decide +kernel
theorem dX11_corner_2 : decode cX11_corner 2 = .ok (.lload_n 3, 1) := by decide +kernel
theorem dX11_corner_3 : decode cX11_corner 3 = .ok (.invokestatic 101, 3) := by decide +kernel
theorem dX11_corner_6 : decode cX11_corner 6 = .ok (.ifCond .eq 7, 3) := by decide +kernel
theorem dX11_corner_9 : decode cX11_corner 9 = .ok (.iconst 0, 1) := by decide +kernel
theorem dX11_corner_10 : decode cX11_corner 10 = .ok (.goto 4, 3) := by decide +kernel
theorem dX11_corner_13 : decode cX11_corner 13 = .ok (.iconst 1, 1) := by decide +kernel
theorem dX11_corner_14 : decode cX11_corner 14 = .ok (.putfield 48, 3) := by decide +kernel
theorem dX11_corner_17 : decode cX11_corner 17 = .ok (.aload_n 0, 1) := by decide +kernel
theorem dX11_corner_18 : decode cX11_corner 18 = .ok (.getfield 48, 3) := by decide +kernel
theorem dX11_corner_21 : decode cX11_corner 21 = .ok (.ifCond .ne 13, 3) := by decide +kernel
theorem dX11_corner_24 : decode cX11_corner 24 = .ok (.aload_n 0, 1) := by decide +kernel
theorem dX11_corner_25 : decode cX11_corner 25 = .ok (.getfield 224, 3) := by decide +kernel
theorem dX11_corner_28 : decode cX11_corner 28 = .ok (.sipush 200, 3) := by decide +kernel
theorem dX11_corner_31 : decode cX11_corner 31 = .ok (.if_icmp .ne 5, 3) := by decide +kernel
theorem dX11_corner_34 : decode cX11_corner 34 = .ok (.iconst 0, 1) := by decide +kernel
theorem dX11_corner_35 : decode cX11_corner 35 = .ok (.ireturn, 1) := by decide +kernel
theorem dX11_corner_36 : decode cX11_corner 36 = .ok (.aload_n 0, 1) := by decide +kernel
theorem dX11_corner_37 : decode cX11_corner 37 = .ok (.getfield 33, 3) := by decide +kernel
theorem dX11_corner_40 : decode cX11_corner 40 = .ok (.aload_n 0, 1) := by decide +kernel
theorem dX11_corner_41 : decode cX11_corner 41 = .ok (.getfield 224, 3) := by decide +kernel
theorem dX11_corner_44 : decode cX11_corner 44 = .ok (.lload_n 1, 1) := by decide +kernel
theorem dX11_corner_45 : decode cX11_corner 45 = .ok (.lastore, 1) := by decide +kernel
theorem dX11_corner_46 : decode cX11_corner 46 = .ok (.aload_n 0, 1) := by decide +kernel
theorem dX11_corner_47 : decode cX11_corner 47 = .ok (.getfield 36, 3) := by decide +kernel
theorem dX11_corner_50 : decode cX11_corner 50 = .ok (.aload_n 0, 1) := by decide +kernel
theorem dX11_corner_51 : decode cX11_corner 51 = .ok (.getfield 224, 3) := by decide +kernel
theorem dX11_corner_54 : decode cX11_corner 54 = .ok (.lload_n 3, 1) := by decide +kernel
theorem dX11_corner_55 : decode cX11_corner 55 = .ok (.lastore, 1) := by decide +kernel
theorem dX11_corner_56 : decode cX11_corner 56 = .ok (.aload_n 0, 1) := by decide +kernel
theorem dX11_corner_57 : decode cX11_corner 57 = .ok (.dup, 1) := by decide +kernel
theorem dX11_corner_58 : decode cX11_corner 58 = .ok (.getfield 224, 3) := by decide +kernel
theorem dX11_corner_61 : decode cX11_corner 61 = .ok (.iconst 1, 1) := by decide +kernel
theorem dX11_corner_62 : decode cX11_corner 62 = .ok (.iadd, 1) := by decide +kernel
theorem dX11_corner_63 : decode cX11_corner 63 = .ok (.putfield 224, 3) := by decide +kernel
theorem dX11_corner_66 : decode cX11_corner 66 = .ok (.iconst 1, 1) := by decide +kernel
theorem dX11_corner_67 : decode cX11_corner 67 = .ok (.ireturn, 1) := by decide +kernel
theorem dX11_area_0 : decode cX11_area 0 = .ok (.aload_n 0, 1) := by decide +kernel
theorem dX11_area_1 : decode cX11_area 1 = .ok (.iload_n 1, 1) := by decide +kernel
theorem dX11_area_2 : decode cX11_area 2 = .ok (.ifCond .lt 8, 3) := by decide +kernel
theorem dX11_area_5 : decode cX11_area 5 = .ok (.iload_n 1, 1) := by decide +kernel
theorem dX11_area_6 : decode cX11_area 6 = .ok (.iconst 3, 1) := by decide +kernel
theorem dX11_area_7 : decode cX11_area 7 = .ok (.if_icmp .le 7, 3) := by decide +kernel
theorem dX11_area_10 : decode cX11_area 10 = .ok (.iconst 1, 1) := by decide +kernel
theorem dX11_area_11 : decode cX11_area 11 = .ok (.goto 4, 3) := by decide +kernel
theorem dX11_area_14 : decode cX11_area 14 = .ok (.iconst 0, 1) := by decide +kernel
theorem dX11_area_15 : decode cX11_area 15 = .ok (.putfield 48, 3) := by decide +kernel
theorem dX11_area_18 : decode cX11_area 18 = .ok (.aload_n 0, 1) := by decide +kernel
theorem dX11_area_19 : decode cX11_area 19 = .ok (.getfield 48, 3) := by decide +kernel
theorem dX11_area_22 : decode cX11_area 22 = .ok (.ifCond .ne 11, 3) := by decide +kernel
theorem dX11_area_25 : decode cX11_area 25 = .ok (.aload_n 0, 1) := by decide +kernel
theorem dX11_area_26 : decode cX11_area 26 = .ok (.getfield 224, 3) := by decide +kernel
theorem dX11_area_29 : decode cX11_area 29 = .ok (.iconst 3, 1) := by decide +kernel
theorem dX11_area_30 : decode cX11_area 30 = .ok (.if_icmp .ge 5, 3) := by decide +kernel
theorem dX11_area_33 : decode cX11_area 33 = .ok (.lconst 0, 1) := by decide +kernel
theorem dX11_area_34 : decode cX11_area 34 = .ok (.lreturn, 1) := by decide +kernel
theorem dX11_area_35 : decode cX11_area 35 = .ok (.aload_n 0, 1) := by decide +kernel
theorem dX11_area_36 : decode cX11_area 36 = .ok (.iconst 4, 1) := by decide +kernel
theorem dX11_area_37 : decode cX11_area 37 = .ok (.lconst 0, 1) := by decide +kernel
theorem dX11_area_38 : decode cX11_area 38 = .ok (.invokevirtual 67, 3) := by decide +kernel
theorem dX11_area_41 : decode cX11_area 41 = .ok (.iconst 0, 1) := by decide +kernel
theorem dX11_area_42 : decode cX11_area 42 = .ok (.istore_n 2, 1) := by decide +kernel
theorem dX11_area_43 : decode cX11_area 43 = .ok (.iload_n 2, 1) := by decide +kernel
theorem dX11_area_44 : decode cX11_area 44 = .ok (.aload_n 0, 1) := by decide +kernel
theorem dX11_area_45 : decode cX11_area 45 = .ok (.getfield 224, 3) := by decide +kernel
theorem dX11_area_48 : decode cX11_area 48 = .ok (.if_icmp .ge 73, 3) := by decide +kernel
theorem dX11_area_51 : decode cX11_area 51 = .ok (.iload_n 2, 1) := by decide +kernel
theorem dX11_area_52 : decode cX11_area 52 = .ok (.iconst 1, 1) := by decide +kernel
theorem dX11_area_53 : decode cX11_area 53 = .ok (.iadd, 1) := by decide +kernel
theorem dX11_area_54 : decode cX11_area 54 = .ok (.aload_n 0, 1) := by decide +kernel
theorem dX11_area_55 : decode cX11_area 55 = .ok (.getfield 224, 3) := by decide +kernel
theorem dX11_area_58 : decode cX11_area 58 = .ok (.if_icmp .ge 9, 3) := by decide +kernel
theorem dX11_area_61 : decode cX11_area 61 = .ok (.iload_n 2, 1) := by decide +kernel
theorem dX11_area_62 : decode cX11_area 62 = .ok (.iconst 1, 1) := by decide +kernel
theorem dX11_area_63 : decode cX11_area 63 = .ok (.iadd, 1) := by decide +kernel
theorem dX11_area_64 : decode cX11_area 64 = .ok (.goto 4, 3) := by decide +kernel
theorem dX11_area_67 : decode cX11_area 67 = .ok (.iconst 0, 1) := by decide +kernel
theorem dX11_area_68 : decode cX11_area 68 = .ok (.istore_n 3, 1) := by decide +kernel
theorem dX11_area_69 : decode cX11_area 69 = .ok (.aload_n 0, 1) := by decide +kernel
theorem dX11_area_70 : decode cX11_area 70 = .ok (.iconst 5, 1) := by decide +kernel
theorem dX11_area_71 : decode cX11_area 71 = .ok (.aload_n 0, 1) := by decide +kernel
theorem dX11_area_72 : decode cX11_area 72 = .ok (.getfield 33, 3) := by decide +kernel
theorem dX11_area_75 : decode cX11_area 75 = .ok (.iload_n 2, 1) := by decide +kernel
theorem dX11_area_76 : decode cX11_area 76 = .ok (.laload, 1) := by decide +kernel
theorem dX11_area_77 : decode cX11_area 77 = .ok (.aload_n 0, 1) := by decide +kernel
theorem dX11_area_78 : decode cX11_area 78 = .ok (.getfield 36, 3) := by decide +kernel
theorem dX11_area_81 : decode cX11_area 81 = .ok (.iload_n 3, 1) := by decide +kernel
theorem dX11_area_82 : decode cX11_area 82 = .ok (.laload, 1) := by decide +kernel
theorem dX11_area_83 : decode cX11_area 83 = .ok (.aload_n 0, 1) := by decide +kernel
theorem dX11_area_84 : decode cX11_area 84 = .ok (.getfield 36, 3) := by decide +kernel
theorem dX11_area_87 : decode cX11_area 87 = .ok (.iload_n 2, 1) := by decide +kernel
theorem dX11_area_88 : decode cX11_area 88 = .ok (.laload, 1) := by decide +kernel
theorem dX11_area_89 : decode cX11_area 89 = .ok (.aload_n 0, 1) := by decide +kernel
theorem dX11_area_90 : decode cX11_area 90 = .ok (.getfield 33, 3) := by decide +kernel
theorem dX11_area_93 : decode cX11_area 93 = .ok (.iload_n 3, 1) := by decide +kernel
theorem dX11_area_94 : decode cX11_area 94 = .ok (.laload, 1) := by decide +kernel
theorem dX11_area_95 : decode cX11_area 95 = .ok (.iconst 1, 1) := by decide +kernel
theorem dX11_area_96 : decode cX11_area 96 = .ok (.invokevirtual 97, 3) := by decide +kernel
theorem dX11_area_99 : decode cX11_area 99 = .ok (.aload_n 0, 1) := by decide +kernel
theorem dX11_area_100 : decode cX11_area 100 = .ok (.bipush 6, 2) := by decide +kernel
theorem dX11_area_102 : decode cX11_area 102 = .ok (.iconst 4, 1) := by decide +kernel
theorem dX11_area_103 : decode cX11_area 103 = .ok (.iconst 5, 1) := by decide +kernel
theorem dX11_area_104 : decode cX11_area 104 = .ok (.iconst 0, 1) := by decide +kernel
theorem dX11_area_105 : decode cX11_area 105 = .ok (.invokevirtual 82, 3) := by decide +kernel
theorem dX11_area_108 : decode cX11_area 108 = .ok (.aload_n 0, 1) := by decide +kernel
theorem dX11_area_109 : decode cX11_area 109 = .ok (.iconst 4, 1) := by decide +kernel
theorem dX11_area_110 : decode cX11_area 110 = .ok (.bipush 6, 2) := by decide +kernel
theorem dX11_area_112 : decode cX11_area 112 = .ok (.invokevirtual 86, 3) := by decide +kernel
theorem dX11_area_115 : decode cX11_area 115 = .ok (.iinc 2 1, 3) := by decide +kernel
theorem dX11_area_118 : decode cX11_area 118 = .ok (.goto (-75), 3) := by decide +kernel
theorem dX11_area_121 : decode cX11_area 121 = .ok (.aload_n 0, 1) := by decide +kernel
theorem dX11_area_122 : decode cX11_area 122 = .ok (.getfield 42, 3) := by decide +kernel
theorem dX11_area_125 : decode cX11_area 125 = .ok (.iconst 4, 1) := by decide +kernel
theorem dX11_area_126 : decode cX11_area 126 = .ok (.baload, 1) := by decide +kernel
theorem dX11_area_127 : decode cX11_area 127 = .ok (.ifCond .eq 11, 3) := by decide +kernel
theorem dX11_area_130 : decode cX11_area 130 = .ok (.aload_n 0, 1) := by decide +kernel
theorem dX11_area_131 : decode cX11_area 131 = .ok (.iconst 4, 1) := by decide +kernel
theorem dX11_area_132 : decode cX11_area 132 = .ok (.invokevirtual 78, 3) := by decide +kernel
theorem dX11_area_135 : decode cX11_area 135 = .ok (.ifCond .ne 10, 3) := by decide +kernel
theorem dX11_area_138 : decode cX11_area 138 = .ok (.aload_n 0, 1) := by decide +kernel
theorem dX11_area_139 : decode cX11_area 139 = .ok (.iconst 4, 1) := by decide +kernel
theorem dX11_area_140 : decode cX11_area 140 = .ok (.iload_n 1, 1) := by decide +kernel
theorem dX11_area_141 : decode cX11_area 141 = .ok (.invokevirtual 89, 3) := by decide +kernel
theorem dX11_area_144 : decode cX11_area 144 = .ok (.lreturn, 1) := by decide +kernel
theorem dX11_area_145 : decode cX11_area 145 = .ok (.aload_n 0, 1) := by decide +kernel
theorem dX11_area_146 : decode cX11_area 146 = .ok (.iconst 5, 1) := by decide +kernel
theorem dX11_area_147 : decode cX11_area 147 = .ok (.ldc2_w 227, 3) := by decide +kernel
theorem dX11_area_150 : decode cX11_area 150 = .ok (.invokevirtual 67, 3) := by decide +kernel
theorem dX11_area_153 : decode cX11_area 153 = .ok (.aload_n 0, 1) := by decide +kernel
theorem dX11_area_154 : decode cX11_area 154 = .ok (.bipush 6, 2) := by decide +kernel
theorem dX11_area_156 : decode cX11_area 156 = .ok (.iconst 5, 1) := by decide +kernel
theorem dX11_area_157 : decode cX11_area 157 = .ok (.iconst 5, 1) := by decide +kernel
theorem dX11_area_158 : decode cX11_area 158 = .ok (.invokevirtual 93, 3) := by decide +kernel
theorem dX11_area_161 : decode cX11_area 161 = .ok (.aload_n 0, 1) := by decide +kernel
theorem dX11_area_162 : decode cX11_area 162 = .ok (.bipush 7, 2) := by decide +kernel
theorem dX11_area_164 : decode cX11_area 164 = .ok (.bipush 6, 2) := by decide +kernel
theorem dX11_area_166 : decode cX11_area 166 = .ok (.iconst 5, 1) := by decide +kernel
theorem dX11_area_167 : decode cX11_area 167 = .ok (.invokevirtual 93, 3) := by decide +kernel
theorem dX11_area_170 : decode cX11_area 170 = .ok (.aload_n 0, 1) := by decide +kernel
theorem dX11_area_171 : decode cX11_area 171 = .ok (.bipush 6, 2) := by decide +kernel
theorem dX11_area_173 : decode cX11_area 173 = .ok (.bipush 7, 2) := by decide +kernel
theorem dX11_area_175 : decode cX11_area 175 = .ok (.iconst 5, 1) := by decide +kernel
theorem dX11_area_176 : decode cX11_area 176 = .ok (.invokevirtual 93, 3) := by decide +kernel
theorem dX11_area_179 : decode cX11_area 179 = .ok (.aload_n 0, 1) := by decide +kernel
theorem dX11_area_180 : decode cX11_area 180 = .ok (.bipush 7, 2) := by decide +kernel
theorem dX11_area_182 : decode cX11_area 182 = .ok (.bipush 6, 2) := by decide +kernel
theorem dX11_area_184 : decode cX11_area 184 = .ok (.iconst 4, 1) := by decide +kernel
theorem dX11_area_185 : decode cX11_area 185 = .ok (.iconst 0, 1) := by decide +kernel
theorem dX11_area_186 : decode cX11_area 186 = .ok (.invokevirtual 82, 3) := by decide +kernel
theorem dX11_area_189 : decode cX11_area 189 = .ok (.aload_n 0, 1) := by decide +kernel
theorem dX11_area_190 : decode cX11_area 190 = .ok (.bipush 7, 2) := by decide +kernel
theorem dX11_area_192 : decode cX11_area 192 = .ok (.iload_n 1, 1) := by decide +kernel
theorem dX11_area_193 : decode cX11_area 193 = .ok (.invokevirtual 89, 3) := by decide +kernel
theorem dX11_area_196 : decode cX11_area 196 = .ok (.lreturn, 1) := by decide +kernel
theorem dX11_clear_0 : decode cX11_clear 0 = .ok (.aload_n 0, 1) := by decide +kernel
theorem dX11_clear_1 : decode cX11_clear 1 = .ok (.iconst 0, 1) := by decide +kernel
theorem dX11_clear_2 : decode cX11_clear 2 = .ok (.putfield 48, 3) := by decide +kernel
theorem dX11_clear_5 : decode cX11_clear 5 = .ok (.aload_n 0, 1) := by decide +kernel
theorem dX11_clear_6 : decode cX11_clear 6 = .ok (.iconst 0, 1) := by decide +kernel
theorem dX11_clear_7 : decode cX11_clear 7 = .ok (.putfield 109, 3) := by decide +kernel
theorem dX11_clear_10 : decode cX11_clear 10 = .ok (.aload_n 0, 1) := by decide +kernel
theorem dX11_clear_11 : decode cX11_clear 11 = .ok (.iconst 0, 1) := by decide +kernel
theorem dX11_clear_12 : decode cX11_clear 12 = .ok (.putfield 224, 3) := by decide +kernel
theorem dX11_clear_15 : decode cX11_clear 15 = .ok (.aload_n 0, 1) := by decide +kernel
theorem dX11_clear_16 : decode cX11_clear 16 = .ok (.iconst 0, 1) := by decide +kernel
theorem dX11_clear_17 : decode cX11_clear 17 = .ok (.putfield 196, 3) := by decide +kernel
theorem dX11_clear_20 : decode cX11_clear 20 = .ok (.aload_n 0, 1) := by decide +kernel
theorem dX11_clear_21 : decode cX11_clear 21 = .ok (.iconst 0, 1) := by decide +kernel
theorem dX11_clear_22 : decode cX11_clear 22 = .ok (.putfield 173, 3) := by decide +kernel
theorem dX11_clear_25 : decode cX11_clear 25 = .ok (.return_, 1) := by decide +kernel
