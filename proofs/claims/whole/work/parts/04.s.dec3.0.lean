theorem dX11_init_0 : decode cX11_init 0 = .ok (.aload_n 0, 1) := by decide +kernel
theorem dX11_init_1 : decode cX11_init 1 = .ok (.invokespecial 1, 3) := by decide +kernel
theorem dX11_init_4 : decode cX11_init 4 = .ok (.aload_n 0, 1) := by decide +kernel
theorem dX11_init_5 : decode cX11_init 5 = .ok (.sipush 200, 3) := by decide +kernel
theorem dX11_init_8 : decode cX11_init 8 = .ok (.newarray .boolean, 2) := by decide +kernel
theorem dX11_init_10 : decode cX11_init 10 = .ok (.putfield 7, 3) := by decide +kernel
theorem dX11_init_13 : decode cX11_init 13 = .ok (.aload_n 0, 1) := by decide +kernel
theorem dX11_init_14 : decode cX11_init 14 = .ok (.sipush 200, 3) := by decide +kernel
theorem dX11_init_17 : decode cX11_init 17 = .ok (.newarray .long, 2) := by decide +kernel
theorem dX11_init_19 : decode cX11_init 19 = .ok (.putfield 13, 3) := by decide +kernel
theorem dX11_init_22 : decode cX11_init 22 = .ok (.aload_n 0, 1) := by decide +kernel
theorem dX11_init_23 : decode cX11_init 23 = .ok (.sipush 200, 3) := by decide +kernel
theorem dX11_init_26 : decode cX11_init 26 = .ok (.newarray .long, 2) := by decide +kernel
theorem dX11_init_28 : decode cX11_init 28 = .ok (.putfield 17, 3) := by decide +kernel
theorem dX11_init_31 : decode cX11_init 31 = .ok (.aload_n 0, 1) := by decide +kernel
theorem dX11_init_32 : decode cX11_init 32 = .ok (.sipush 200, 3) := by decide +kernel
theorem dX11_init_35 : decode cX11_init 35 = .ok (.newarray .long, 2) := by decide +kernel
theorem dX11_init_37 : decode cX11_init 37 = .ok (.putfield 20, 3) := by decide +kernel
theorem dX11_init_40 : decode cX11_init 40 = .ok (.aload_n 0, 1) := by decide +kernel
theorem dX11_init_41 : decode cX11_init 41 = .ok (.sipush 200, 3) := by decide +kernel
theorem dX11_init_44 : decode cX11_init 44 = .ok (.newarray .long, 2) := by decide +kernel
theorem dX11_init_46 : decode cX11_init 46 = .ok (.putfield 23, 3) := by decide +kernel
theorem dX11_init_49 : decode cX11_init 49 = .ok (.aload_n 0, 1) := by decide +kernel
theorem dX11_init_50 : decode cX11_init 50 = .ok (.sipush 200, 3) := by decide +kernel
theorem dX11_init_53 : decode cX11_init 53 = .ok (.newarray .int, 2) := by decide +kernel
theorem dX11_init_55 : decode cX11_init 55 = .ok (.putfield 26, 3) := by decide +kernel
theorem dX11_init_58 : decode cX11_init 58 = .ok (.aload_n 0, 1) := by decide +kernel
theorem dX11_init_59 : decode cX11_init 59 = .ok (.sipush 200, 3) := by decide +kernel
theorem dX11_init_62 : decode cX11_init 62 = .ok (.newarray .int, 2) := by decide +kernel
theorem dX11_init_64 : decode cX11_init 64 = .ok (.putfield 30, 3) := by decide +kernel
theorem dX11_init_67 : decode cX11_init 67 = .ok (.aload_n 0, 1) := by decide +kernel
theorem dX11_init_68 : decode cX11_init 68 = .ok (.sipush 200, 3) := by decide +kernel
theorem dX11_init_71 : decode cX11_init 71 = .ok (.newarray .long, 2) := by decide +kernel
theorem dX11_init_73 : decode cX11_init 73 = .ok (.putfield 33, 3) := by decide +kernel
theorem dX11_init_76 : decode cX11_init 76 = .ok (.aload_n 0, 1) := by decide +kernel
theorem dX11_init_77 : decode cX11_init 77 = .ok (.sipush 200, 3) := by decide +kernel
theorem dX11_init_80 : decode cX11_init 80 = .ok (.newarray .long, 2) := by decide +kernel
theorem dX11_init_82 : decode cX11_init 82 = .ok (.putfield 36, 3) := by decide +kernel
theorem dX11_init_85 : decode cX11_init 85 = .ok (.aload_n 0, 1) := by decide +kernel
theorem dX11_init_86 : decode cX11_init 86 = .ok (.sipush 320, 3) := by decide +kernel
theorem dX11_init_89 : decode cX11_init 89 = .ok (.newarray .int, 2) := by decide +kernel
theorem dX11_init_91 : decode cX11_init 91 = .ok (.putfield 39, 3) := by decide +kernel
theorem dX11_init_94 : decode cX11_init 94 = .ok (.aload_n 0, 1) := by decide +kernel
theorem dX11_init_95 : decode cX11_init 95 = .ok (.bipush 16, 2) := by decide +kernel
theorem dX11_init_97 : decode cX11_init 97 = .ok (.newarray .boolean, 2) := by decide +kernel
theorem dX11_init_99 : decode cX11_init 99 = .ok (.putfield 42, 3) := by decide +kernel
theorem dX11_init_102 : decode cX11_init 102 = .ok (.aload_n 0, 1) := by decide +kernel
theorem dX11_init_103 : decode cX11_init 103 = .ok (.iconst 2, 1) := by decide +kernel
theorem dX11_init_104 : decode cX11_init 104 = .ok (.newarray .int, 2) := by decide +kernel
theorem dX11_init_106 : decode cX11_init 106 = .ok (.putfield 45, 3) := by decide +kernel
theorem dX11_init_109 : decode cX11_init 109 = .ok (.return_, 1) := by decide +kernel
theorem dX11_thrown_0 : decode cX11_thrown 0 = .ok (.aload_n 0, 1) := by decide +kernel
theorem dX11_thrown_1 : decode cX11_thrown 1 = .ok (.getfield 48, 3) := by decide +kernel
theorem dX11_thrown_4 : decode cX11_thrown 4 = .ok (.ireturn, 1) := by decide +kernel
theorem dX11_isCoordinate_0 : decode cX11_isCoordinate 0 = .ok (.lload_n 0, 1) := by decide +kernel
theorem dX11_isCoordinate_1 : decode cX11_isCoordinate 1 = .ok (.ldc2_w 52, 3) := by decide +kernel
theorem dX11_isCoordinate_4 : decode cX11_isCoordinate 4 = .ok (.lcmp, 1) := by decide +kernel
theorem dX11_isCoordinate_5 : decode cX11_isCoordinate 5 = .ok (.ifCond .lt 15, 3) := by decide +kernel
theorem dX11_isCoordinate_8 : decode cX11_isCoordinate 8 = .ok (.lload_n 0, 1) := by decide +kernel
theorem dX11_isCoordinate_9 : decode cX11_isCoordinate 9 = .ok (.ldc2_w 54, 3) := by decide +kernel
theorem dX11_isCoordinate_12 : decode cX11_isCoordinate 12 = .ok (.lcmp, 1) := by decide +kernel
theorem dX11_isCoordinate_13 : decode cX11_isCoordinate 13 = .ok (.ifCond .gt 7, 3) := by decide +kernel
theorem dX11_isCoordinate_16 : decode cX11_isCoordinate 16 = .ok (.iconst 1, 1) := by decide +kernel
theorem dX11_isCoordinate_17 : decode cX11_isCoordinate 17 = .ok (.goto 4, 3) := by decide +kernel
theorem dX11_isCoordinate_20 : decode cX11_isCoordinate 20 = .ok (.iconst 0, 1) := by decide +kernel
theorem dX11_isCoordinate_21 : decode cX11_isCoordinate 21 = .ok (.ireturn, 1) := by decide +kernel
theorem dX11_isPlace_0 : decode cX11_isPlace 0 = .ok (.lload_n 0, 1) := by decide +kernel
theorem dX11_isPlace_1 : decode cX11_isPlace 1 = .ok (.invokestatic 56, 3) := by decide +kernel
theorem dX11_isPlace_4 : decode cX11_isPlace 4 = .ok (.ifCond .eq 14, 3) := by decide +kernel
theorem dX11_isPlace_7 : decode cX11_isPlace 7 = .ok (.lload_n 2, 1) := by decide +kernel
theorem dX11_isPlace_8 : decode cX11_isPlace 8 = .ok (.invokestatic 56, 3) := by decide +kernel
theorem dX11_isPlace_11 : decode cX11_isPlace 11 = .ok (.ifCond .eq 7, 3) := by decide +kernel
theorem dX11_isPlace_14 : decode cX11_isPlace 14 = .ok (.iconst 1, 1) := by decide +kernel
theorem dX11_isPlace_15 : decode cX11_isPlace 15 = .ok (.goto 4, 3) := by decide +kernel
theorem dX11_isPlace_18 : decode cX11_isPlace 18 = .ok (.iconst 0, 1) := by decide +kernel
theorem dX11_isPlace_19 : decode cX11_isPlace 19 = .ok (.ireturn, 1) := by decide +kernel
theorem dX11_load_0 : decode cX11_load 0 = .ok (.aload_n 0, 1) := by decide +kernel
theorem dX11_load_1 : decode cX11_load 1 = .ok (.getfield 42, 3) := by decide +kernel
theorem dX11_load_4 : decode cX11_load 4 = .ok (.iload_n 1, 1) := by decide +kernel
theorem dX11_load_5 : decode cX11_load 5 = .ok (.lload_n 2, 1) := by decide +kernel
theorem dX11_load_6 : decode cX11_load 6 = .ok (.lconst 0, 1) := by decide +kernel
theorem dX11_load_7 : decode cX11_load 7 = .ok (.lcmp, 1) := by decide +kernel
theorem dX11_load_8 : decode cX11_load 8 = .ok (.ifCond .ge 7, 3) := by decide +kernel
theorem dX11_load_11 : decode cX11_load 11 = .ok (.iconst 1, 1) := by decide +kernel
theorem dX11_load_12 : decode cX11_load 12 = .ok (.goto 4, 3) := by decide +kernel
theorem dX11_load_15 : decode cX11_load 15 = .ok (.iconst 0, 1) := by decide +kernel
theorem dX11_load_16 : decode cX11_load 16 = .ok (.bastore, 1) := by decide +kernel
theorem dX11_load_17 : decode cX11_load 17 = .ok (.lload_n 2, 1) := by decide +kernel
theorem dX11_load_18 : decode cX11_load 18 = .ok (.lconst 0, 1) := by decide +kernel
theorem dX11_load_19 : decode cX11_load 19 = .ok (.lcmp, 1) := by decide +kernel
theorem dX11_load_20 : decode cX11_load 20 = .ok (.ifCond .ge 9, 3) := by decide +kernel
theorem dX11_load_23 : decode cX11_load 23 = .ok (.lconst 0, 1) := by decide +kernel
theorem dX11_load_24 : decode cX11_load 24 = .ok (.lload_n 2, 1) := by decide +kernel
theorem dX11_load_25 : decode cX11_load 25 = .ok (.lsub, 1) := by decide +kernel
theorem dX11_load_26 : decode cX11_load 26 = .ok (.goto 4, 3) := by decide +kernel
theorem dX11_load_29 : decode cX11_load 29 = .ok (.lload_n 2, 1) := by decide +kernel
theorem dX11_load_30 : decode cX11_load 30 = .ok (.lstore 4, 2) := by decide +kernel
theorem dX11_load_32 : decode cX11_load 32 = .ok (.iconst 0, 1) := by decide +kernel
theorem dX11_load_33 : decode cX11_load 33 = .ok (.istore 6, 2) := by decide +kernel
theorem dX11_load_35 : decode cX11_load 35 = .ok (.iload 6, 2) := by decide +kernel
theorem dX11_load_37 : decode cX11_load 37 = .ok (.bipush 20, 2) := by decide +kernel
theorem dX11_load_39 : decode cX11_load 39 = .ok (.if_icmp .ge 44, 3) := by decide +kernel
theorem dX11_load_42 : decode cX11_load 42 = .ok (.aload_n 0, 1) := by decide +kernel
theorem dX11_load_43 : decode cX11_load 43 = .ok (.getfield 39, 3) := by decide +kernel
theorem dX11_load_46 : decode cX11_load 46 = .ok (.bipush 20, 2) := by decide +kernel
theorem dX11_load_48 : decode cX11_load 48 = .ok (.iload_n 1, 1) := by decide +kernel
theorem dX11_load_49 : decode cX11_load 49 = .ok (.imul, 1) := by decide +kernel
theorem dX11_load_50 : decode cX11_load 50 = .ok (.iload 6, 2) := by decide +kernel
theorem dX11_load_52 : decode cX11_load 52 = .ok (.iadd, 1) := by decide +kernel
theorem dX11_load_53 : decode cX11_load 53 = .ok (.iload 6, 2) := by decide +kernel
theorem dX11_load_55 : decode cX11_load 55 = .ok (.iconst 4, 1) := by decide +kernel
theorem dX11_load_56 : decode cX11_load 56 = .ok (.if_icmp .ge 19, 3) := by decide +kernel
theorem dX11_load_59 : decode cX11_load 59 = .ok (.lload 4, 2) := by decide +kernel
theorem dX11_load_61 : decode cX11_load 61 = .ok (.bipush 16, 2) := by decide +kernel
theorem dX11_load_63 : decode cX11_load 63 = .ok (.iload 6, 2) := by decide +kernel
theorem dX11_load_65 : decode cX11_load 65 = .ok (.imul, 1) := by decide +kernel
theorem dX11_load_66 : decode cX11_load 66 = .ok (.lushr, 1) := by decide +kernel
theorem dX11_load_67 : decode cX11_load 67 = .ok (.ldc2_w 60, 3) := by decide +kernel
theorem dX11_load_70 : decode cX11_load 70 = .ok (.land, 1) := by decide +kernel
theorem dX11_load_71 : decode cX11_load 71 = .ok (.l2i, 1) := by decide +kernel
theorem dX11_load_72 : decode cX11_load 72 = .ok (.goto 4, 3) := by decide +kernel
theorem dX11_load_75 : decode cX11_load 75 = .ok (.iconst 0, 1) := by decide +kernel
theorem dX11_load_76 : decode cX11_load 76 = .ok (.iastore, 1) := by decide +kernel
theorem dX11_load_77 : decode cX11_load 77 = .ok (.iinc 6 1, 3) := by decide +kernel
theorem dX11_load_80 : decode cX11_load 80 = .ok (.goto (-45), 3) := by decide +kernel
theorem dX11_load_83 : decode cX11_load 83 = .ok (.return_, 1) := by decide +kernel
theorem dX11_copy_0 : decode cX11_copy 0 = .ok (.aload_n 0, 1) := by decide +kernel
theorem dX11_copy_1 : decode cX11_copy 1 = .ok (.getfield 42, 3) := by decide +kernel
theorem dX11_copy_4 : decode cX11_copy 4 = .ok (.iload_n 1, 1) := by decide +kernel
theorem dX11_copy_5 : decode cX11_copy 5 = .ok (.aload_n 0, 1) := by decide +kernel
theorem dX11_copy_6 : decode cX11_copy 6 = .ok (.getfield 42, 3) := by decide +kernel
theorem dX11_copy_9 : decode cX11_copy 9 = .ok (.iload_n 2, 1) := by decide +kernel
theorem dX11_copy_10 : decode cX11_copy 10 = .ok (.baload, 1) := by decide +kernel
theorem dX11_copy_11 : decode cX11_copy 11 = .ok (.bastore, 1) := by decide +kernel
theorem dX11_copy_12 : decode cX11_copy 12 = .ok (.iconst 0, 1) := by decide +kernel
theorem dX11_copy_13 : decode cX11_copy 13 = .ok (.istore_n 3, 1) := by decide +kernel
theorem dX11_copy_14 : decode cX11_copy 14 = .ok (.iload_n 3, 1) := by decide +kernel
theorem dX11_copy_15 : decode cX11_copy 15 = .ok (.bipush 20, 2) := by decide +kernel
theorem dX11_copy_17 : decode cX11_copy 17 = .ok (.if_icmp .ge 31, 3) := by decide +kernel
theorem dX11_copy_20 : decode cX11_copy 20 = .ok (.aload_n 0, 1) := by decide +kernel
theorem dX11_copy_21 : decode cX11_copy 21 = .ok (.getfield 39, 3) := by decide +kernel
theorem dX11_copy_24 : decode cX11_copy 24 = .ok (.bipush 20, 2) := by decide +kernel
theorem dX11_copy_26 : decode cX11_copy 26 = .ok (.iload_n 1, 1) := by decide +kernel
theorem dX11_copy_27 : decode cX11_copy 27 = .ok (.imul, 1) := by decide +kernel
theorem dX11_copy_28 : decode cX11_copy 28 = .ok (.iload_n 3, 1) := by decide +kernel
theorem dX11_copy_29 : decode cX11_copy 29 = .ok (.iadd, 1) := by decide +kernel
theorem dX11_copy_30 : decode cX11_copy 30 = .ok (.aload_n 0, 1) := by decide +kernel
theorem dX11_copy_31 : decode cX11_copy 31 = .ok (.getfield 39, 3) := by decide +kernel
theorem dX11_copy_34 : decode cX11_copy 34 = .ok (.bipush 20, 2) := by decide +kernel
theorem dX11_copy_36 : decode cX11_copy 36 = .ok (.iload_n 2, 1) := by decide +kernel
theorem dX11_copy_37 : decode cX11_copy 37 = .ok (.imul, 1) := by decide +kernel
theorem dX11_copy_38 : decode cX11_copy 38 = .ok (.iload_n 3, 1) := by decide +kernel
theorem dX11_copy_39 : decode cX11_copy 39 = .ok (.iadd, 1) := by decide +kernel
theorem dX11_copy_40 : decode cX11_copy 40 = .ok (.iaload, 1) := by decide +kernel
theorem dX11_copy_41 : decode cX11_copy 41 = .ok (.iastore, 1) := by decide +kernel
theorem dX11_copy_42 : decode cX11_copy 42 = .ok (.iinc 3 1, 3) := by decide +kernel
theorem dX11_copy_45 : decode cX11_copy 45 = .ok (.goto (-31), 3) := by decide +kernel
theorem dX11_copy_48 : decode cX11_copy 48 = .ok (.return_, 1) := by decide +kernel
theorem dX11_sign_0 : decode cX11_sign 0 = .ok (.iconst 0, 1) := by decide +kernel
theorem dX11_sign_1 : decode cX11_sign 1 = .ok (.istore_n 2, 1) := by decide +kernel
theorem dX11_sign_2 : decode cX11_sign 2 = .ok (.iload_n 2, 1) := by decide +kernel
theorem dX11_sign_3 : decode cX11_sign 3 = .ok (.bipush 20, 2) := by decide +kernel
theorem dX11_sign_5 : decode cX11_sign 5 = .ok (.if_icmp .ge 38, 3) := by decide +kernel
theorem dX11_sign_8 : decode cX11_sign 8 = .ok (.aload_n 0, 1) := by decide +kernel
theorem dX11_sign_9 : decode cX11_sign 9 = .ok (.getfield 39, 3) := by decide +kernel
theorem dX11_sign_12 : decode cX11_sign 12 = .ok (.bipush 20, 2) := by decide +kernel
theorem dX11_sign_14 : decode cX11_sign 14 = .ok (.iload_n 1, 1) := by decide +kernel
theorem dX11_sign_15 : decode cX11_sign 15 = .ok (.imul, 1) := by decide +kernel
theorem dX11_sign_16 : decode cX11_sign 16 = .ok (.iload_n 2, 1) := by decide +kernel
theorem dX11_sign_17 : decode cX11_sign 17 = .ok (.iadd, 1) := by decide +kernel
theorem dX11_sign_18 : decode cX11_sign 18 = .ok (.iaload, 1) := by decide +kernel
theorem dX11_sign_19 : decode cX11_sign 19 = .ok (.ifCond .eq 18, 3) := by decide +kernel
theorem dX11_sign_22 : decode cX11_sign 22 = .ok (.aload_n 0, 1) := by decide +kernel
theorem dX11_sign_23 : decode cX11_sign 23 = .ok (.getfield 42, 3) := by decide +kernel
theorem dX11_sign_26 : decode cX11_sign 26 = .ok (.iload_n 1, 1) := by decide +kernel
theorem dX11_sign_27 : decode cX11_sign 27 = .ok (.baload, 1) := by decide +kernel
theorem dX11_sign_28 : decode cX11_sign 28 = .ok (.ifCond .eq 7, 3) := by decide +kernel
theorem dX11_sign_31 : decode cX11_sign 31 = .ok (.iconst (-1), 1) := by decide +kernel
theorem dX11_sign_32 : decode cX11_sign 32 = .ok (.goto 4, 3) := by decide +kernel
theorem dX11_sign_35 : decode cX11_sign 35 = .ok (.iconst 1, 1) := by decide +kernel
theorem dX11_sign_36 : decode cX11_sign 36 = .ok (.ireturn, 1) := by decide +kernel
theorem dX11_sign_37 : decode cX11_sign 37 = .ok (.iinc 2 1, 3) := by decide +kernel
theorem dX11_sign_40 : decode cX11_sign 40 = .ok (.goto (-38), 3) := by decide +kernel
theorem dX11_sign_43 : decode cX11_sign 43 = .ok (.iconst 0, 1) := by decide +kernel
theorem dX11_sign_44 : decode cX11_sign 44 = .ok (.ireturn, 1) := by decide +kernel
theorem dX11_sizes_0 : decode cX11_sizes 0 = .ok (.bipush 19, 2) := by decide +kernel
theorem dX11_sizes_2 : decode cX11_sizes 2 = .ok (.istore_n 3, 1) := by decide +kernel
theorem dX11_sizes_3 : decode cX11_sizes 3 = .ok (.iload_n 3, 1) := by decide +kernel
theorem dX11_sizes_4 : decode cX11_sizes 4 = .ok (.ifCond .lt 50, 3) := by decide +kernel
theorem dX11_sizes_7 : decode cX11_sizes 7 = .ok (.aload_n 0, 1) := by decide +kernel
theorem dX11_sizes_8 : decode cX11_sizes 8 = .ok (.getfield 39, 3) := by decide +kernel
theorem dX11_sizes_11 : decode cX11_sizes 11 = .ok (.bipush 20, 2) := by decide +kernel
theorem dX11_sizes_13 : decode cX11_sizes 13 = .ok (.iload_n 1, 1) := by decide +kernel
theorem dX11_sizes_14 : decode cX11_sizes 14 = .ok (.imul, 1) := by decide +kernel
theorem dX11_sizes_15 : decode cX11_sizes 15 = .ok (.iload_n 3, 1) := by decide +kernel
theorem dX11_sizes_16 : decode cX11_sizes 16 = .ok (.iadd, 1) := by decide +kernel
theorem dX11_sizes_17 : decode cX11_sizes 17 = .ok (.iaload, 1) := by decide +kernel
theorem dX11_sizes_18 : decode cX11_sizes 18 = .ok (.aload_n 0, 1) := by decide +kernel
theorem dX11_sizes_19 : decode cX11_sizes 19 = .ok (.getfield 39, 3) := by decide +kernel
theorem dX11_sizes_22 : decode cX11_sizes 22 = .ok (.bipush 20, 2) := by decide +kernel
theorem dX11_sizes_24 : decode cX11_sizes 24 = .ok (.iload_n 2, 1) := by decide +kernel
theorem dX11_sizes_25 : decode cX11_sizes 25 = .ok (.imul, 1) := by decide +kernel
theorem dX11_sizes_26 : decode cX11_sizes 26 = .ok (.iload_n 3, 1) := by decide +kernel
theorem dX11_sizes_27 : decode cX11_sizes 27 = .ok (.iadd, 1) := by decide +kernel
theorem dX11_sizes_28 : decode cX11_sizes 28 = .ok (.iaload, 1) := by decide +kernel
theorem dX11_sizes_29 : decode cX11_sizes 29 = .ok (.isub, 1) := by decide +kernel
theorem dX11_sizes_30 : decode cX11_sizes 30 = .ok (.istore 4, 2) := by decide +kernel
theorem dX11_sizes_32 : decode cX11_sizes 32 = .ok (.iload 4, 2) := by decide +kernel
theorem dX11_sizes_34 : decode cX11_sizes 34 = .ok (.ifCond .eq 14, 3) := by decide +kernel
theorem dX11_sizes_37 : decode cX11_sizes 37 = .ok (.iload 4, 2) := by decide +kernel
theorem dX11_sizes_39 : decode cX11_sizes 39 = .ok (.ifCond .ge 7, 3) := by decide +kernel
theorem dX11_sizes_42 : decode cX11_sizes 42 = .ok (.iconst (-1), 1) := by decide +kernel
theorem dX11_sizes_43 : decode cX11_sizes 43 = .ok (.goto 4, 3) := by decide +kernel
theorem dX11_sizes_46 : decode cX11_sizes 46 = .ok (.iconst 1, 1) := by decide +kernel
theorem dX11_sizes_47 : decode cX11_sizes 47 = .ok (.ireturn, 1) := by decide +kernel
theorem dX11_sizes_48 : decode cX11_sizes 48 = .ok (.iinc 3 (-1), 3) := by decide +kernel
theorem dX11_sizes_51 : decode cX11_sizes 51 = .ok (.goto (-48), 3) := by decide +kernel
theorem dX11_sizes_54 : decode cX11_sizes 54 = .ok (.iconst 0, 1) := by decide +kernel
theorem dX11_sizes_55 : decode cX11_sizes 55 = .ok (.ireturn, 1) := by decide +kernel
theorem dX11_multiply_0 : decode cX11_multiply 0 = .ok (.aload_n 0, 1) := by decide +kernel
theorem dX11_multiply_1 : decode cX11_multiply 1 = .ok (.getfield 42, 3) := by decide +kernel
theorem dX11_multiply_4 : decode cX11_multiply 4 = .ok (.iload_n 1, 1) := by decide +kernel
theorem dX11_multiply_5 : decode cX11_multiply 5 = .ok (.aload_n 0, 1) := by decide +kernel
theorem dX11_multiply_6 : decode cX11_multiply 6 = .ok (.getfield 42, 3) := by decide +kernel
theorem dX11_multiply_9 : decode cX11_multiply 9 = .ok (.iload_n 2, 1) := by decide +kernel
theorem dX11_multiply_10 : decode cX11_multiply 10 = .ok (.baload, 1) := by decide +kernel
theorem dX11_multiply_11 : decode cX11_multiply 11 = .ok (.aload_n 0, 1) := by decide +kernel
theorem dX11_multiply_12 : decode cX11_multiply 12 = .ok (.getfield 42, 3) := by decide +kernel
theorem dX11_multiply_15 : decode cX11_multiply 15 = .ok (.iload_n 3, 1) := by decide +kernel
theorem dX11_multiply_16 : decode cX11_multiply 16 = .ok (.baload, 1) := by decide +kernel
theorem dX11_multiply_17 : decode cX11_multiply 17 = .ok (.if_icmp .eq 7, 3) := by decide +kernel
theorem dX11_multiply_20 : decode cX11_multiply 20 = .ok (.iconst 1, 1) := by decide +kernel
theorem dX11_multiply_21 : decode cX11_multiply 21 = .ok (.goto 4, 3) := by decide +kernel
theorem dX11_multiply_24 : decode cX11_multiply 24 = .ok (.iconst 0, 1) := by decide +kernel
theorem dX11_multiply_25 : decode cX11_multiply 25 = .ok (.bastore, 1) := by decide +kernel
theorem dX11_multiply_26 : decode cX11_multiply 26 = .ok (.iconst 0, 1) := by decide +kernel
theorem dX11_multiply_27 : decode cX11_multiply 27 = .ok (.istore 4, 2) := by decide +kernel
theorem dX11_multiply_29 : decode cX11_multiply 29 = .ok (.iload 4, 2) := by decide +kernel
theorem dX11_multiply_31 : decode cX11_multiply 31 = .ok (.bipush 20, 2) := by decide +kernel
theorem dX11_multiply_33 : decode cX11_multiply 33 = .ok (.if_icmp .ge 22, 3) := by decide +kernel
theorem dX11_multiply_36 : decode cX11_multiply 36 = .ok (.aload_n 0, 1) := by decide +kernel
theorem dX11_multiply_37 : decode cX11_multiply 37 = .ok (.getfield 39, 3) := by decide +kernel
theorem dX11_multiply_40 : decode cX11_multiply 40 = .ok (.bipush 20, 2) := by decide +kernel
theorem dX11_multiply_42 : decode cX11_multiply 42 = .ok (.iload_n 1, 1) := by decide +kernel
theorem dX11_multiply_43 : decode cX11_multiply 43 = .ok (.imul, 1) := by decide +kernel
theorem dX11_multiply_44 : decode cX11_multiply 44 = .ok (.iload 4, 2) := by decide +kernel
theorem dX11_multiply_46 : decode cX11_multiply 46 = .ok (.iadd, 1) := by decide +kernel
theorem dX11_multiply_47 : decode cX11_multiply 47 = .ok (.iconst 0, 1) := by decide +kernel
theorem dX11_multiply_48 : decode cX11_multiply 48 = .ok (.iastore, 1) := by decide +kernel
theorem dX11_multiply_49 : decode cX11_multiply 49 = .ok (.iinc 4 1, 3) := by decide +kernel
theorem dX11_multiply_52 : decode cX11_multiply 52 = .ok (.goto (-23), 3) := by decide +kernel
theorem dX11_multiply_55 : decode cX11_multiply 55 = .ok (.iconst 0, 1) := by decide +kernel
theorem dX11_multiply_56 : decode cX11_multiply 56 = .ok (.istore 4, 2) := by decide +kernel
theorem dX11_multiply_58 : decode cX11_multiply 58 = .ok (.iload 4, 2) := by decide +kernel
theorem dX11_multiply_60 : decode cX11_multiply 60 = .ok (.bipush 20, 2) := by decide +kernel
theorem dX11_multiply_62 : decode cX11_multiply 62 = .ok (.if_icmp .ge 127, 3) := by decide +kernel
theorem dX11_multiply_65 : decode cX11_multiply 65 = .ok (.aload_n 0, 1) := by decide +kernel
theorem dX11_multiply_66 : decode cX11_multiply 66 = .ok (.getfield 39, 3) := by decide +kernel
theorem dX11_multiply_69 : decode cX11_multiply 69 = .ok (.bipush 20, 2) := by decide +kernel
theorem dX11_multiply_71 : decode cX11_multiply 71 = .ok (.iload_n 2, 1) := by decide +kernel
theorem dX11_multiply_72 : decode cX11_multiply 72 = .ok (.imul, 1) := by decide +kernel
theorem dX11_multiply_73 : decode cX11_multiply 73 = .ok (.iload 4, 2) := by decide +kernel
theorem dX11_multiply_75 : decode cX11_multiply 75 = .ok (.iadd, 1) := by decide +kernel
theorem dX11_multiply_76 : decode cX11_multiply 76 = .ok (.iaload, 1) := by decide +kernel
theorem dX11_multiply_77 : decode cX11_multiply 77 = .ok (.ifCond .ne 6, 3) := by decide +kernel
theorem dX11_multiply_80 : decode cX11_multiply 80 = .ok (.goto 103, 3) := by decide +kernel
theorem dX11_multiply_83 : decode cX11_multiply 83 = .ok (.lconst 0, 1) := by decide +kernel
theorem dX11_multiply_84 : decode cX11_multiply 84 = .ok (.lstore 5, 2) := by decide +kernel
theorem dX11_multiply_86 : decode cX11_multiply 86 = .ok (.iconst 0, 1) := by decide +kernel
theorem dX11_multiply_87 : decode cX11_multiply 87 = .ok (.istore 7, 2) := by decide +kernel
theorem dX11_multiply_89 : decode cX11_multiply 89 = .ok (.iload 4, 2) := by decide +kernel
theorem dX11_multiply_91 : decode cX11_multiply 91 = .ok (.iload 7, 2) := by decide +kernel
theorem dX11_multiply_93 : decode cX11_multiply 93 = .ok (.iadd, 1) := by decide +kernel
theorem dX11_multiply_94 : decode cX11_multiply 94 = .ok (.bipush 20, 2) := by decide +kernel
theorem dX11_multiply_96 : decode cX11_multiply 96 = .ok (.if_icmp .ge 87, 3) := by decide +kernel
theorem dX11_multiply_99 : decode cX11_multiply 99 = .ok (.aload_n 0, 1) := by decide +kernel
theorem dX11_multiply_100 : decode cX11_multiply 100 = .ok (.getfield 39, 3) := by decide +kernel
theorem dX11_multiply_103 : decode cX11_multiply 103 = .ok (.bipush 20, 2) := by decide +kernel
theorem dX11_multiply_105 : decode cX11_multiply 105 = .ok (.iload_n 1, 1) := by decide +kernel
theorem dX11_multiply_106 : decode cX11_multiply 106 = .ok (.imul, 1) := by decide +kernel
theorem dX11_multiply_107 : decode cX11_multiply 107 = .ok (.iload 4, 2) := by decide +kernel
theorem dX11_multiply_109 : decode cX11_multiply 109 = .ok (.iadd, 1) := by decide +kernel
theorem dX11_multiply_110 : decode cX11_multiply 110 = .ok (.iload 7, 2) := by decide +kernel
theorem dX11_multiply_112 : decode cX11_multiply 112 = .ok (.iadd, 1) := by decide +kernel
theorem dX11_multiply_113 : decode cX11_multiply 113 = .ok (.iaload, 1) := by decide +kernel
theorem dX11_multiply_114 : decode cX11_multiply 114 = .ok (.i2l, 1) := by decide +kernel
theorem dX11_multiply_115 : decode cX11_multiply 115 = .ok (.aload_n 0, 1) := by decide +kernel
theorem dX11_multiply_116 : decode cX11_multiply 116 = .ok (.getfield 39, 3) := by decide +kernel
theorem dX11_multiply_119 : decode cX11_multiply 119 = .ok (.bipush 20, 2) := by decide +kernel
theorem dX11_multiply_121 : decode cX11_multiply 121 = .ok (.iload_n 2, 1) := by decide +kernel
theorem dX11_multiply_122 : decode cX11_multiply 122 = .ok (.imul, 1) := by decide +kernel
theorem dX11_multiply_123 : decode cX11_multiply 123 = .ok (.iload 4, 2) := by decide +kernel
theorem dX11_multiply_125 : decode cX11_multiply 125 = .ok (.iadd, 1) := by decide +kernel
theorem dX11_multiply_126 : decode cX11_multiply 126 = .ok (.iaload, 1) := by decide +kernel
theorem dX11_multiply_127 : decode cX11_multiply 127 = .ok (.i2l, 1) := by decide +kernel
theorem dX11_multiply_128 : decode cX11_multiply 128 = .ok (.aload_n 0, 1) := by decide +kernel
theorem dX11_multiply_129 : decode cX11_multiply 129 = .ok (.getfield 39, 3) := by decide +kernel
theorem dX11_multiply_132 : decode cX11_multiply 132 = .ok (.bipush 20, 2) := by decide +kernel
theorem dX11_multiply_134 : decode cX11_multiply 134 = .ok (.iload_n 3, 1) := by decide +kernel
theorem dX11_multiply_135 : decode cX11_multiply 135 = .ok (.imul, 1) := by decide +kernel
theorem dX11_multiply_136 : decode cX11_multiply 136 = .ok (.iload 7, 2) := by decide +kernel
theorem dX11_multiply_138 : decode cX11_multiply 138 = .ok (.iadd, 1) := by decide +kernel
theorem dX11_multiply_139 : decode cX11_multiply 139 = .ok (.iaload, 1) := by decide +kernel
theorem dX11_multiply_140 : decode cX11_multiply 140 = .ok (.i2l, 1) := by decide +kernel
theorem dX11_multiply_141 : decode cX11_multiply 141 = .ok (.lmul, 1) := by decide +kernel
theorem dX11_multiply_142 : decode cX11_multiply 142 = .ok (.ladd, 1) := by decide +kernel
theorem dX11_multiply_143 : decode cX11_multiply 143 = .ok (.lload 5, 2) := by decide +kernel
theorem dX11_multiply_145 : decode cX11_multiply 145 = .ok (.ladd, 1) := by decide +kernel
theorem dX11_multiply_146 : decode cX11_multiply 146 = .ok (.lstore 8, 2) := by decide +kernel
theorem dX11_multiply_148 : decode cX11_multiply 148 = .ok (.aload_n 0, 1) := by decide +kernel
theorem dX11_multiply_149 : decode cX11_multiply 149 = .ok (.getfield 39, 3) := by decide +kernel
theorem dX11_multiply_152 : decode cX11_multiply 152 = .ok (.bipush 20, 2) := by decide +kernel
theorem dX11_multiply_154 : decode cX11_multiply 154 = .ok (.iload_n 1, 1) := by decide +kernel
theorem dX11_multiply_155 : decode cX11_multiply 155 = .ok (.imul, 1) := by decide +kernel
theorem dX11_multiply_156 : decode cX11_multiply 156 = .ok (.iload 4, 2) := by decide +kernel
theorem dX11_multiply_158 : decode cX11_multiply 158 = .ok (.iadd, 1) := by decide +kernel
theorem dX11_multiply_159 : decode cX11_multiply 159 = .ok (.iload 7, 2) := by decide +kernel
theorem dX11_multiply_161 : decode cX11_multiply 161 = .ok (.iadd, 1) := by decide +kernel
theorem dX11_multiply_162 : decode cX11_multiply 162 = .ok (.lload 8, 2) := by decide +kernel
theorem dX11_multiply_164 : decode cX11_multiply 164 = .ok (.ldc2_w 60, 3) := by decide +kernel
theorem dX11_multiply_167 : decode cX11_multiply 167 = .ok (.land, 1) := by decide +kernel
theorem dX11_multiply_168 : decode cX11_multiply 168 = .ok (.l2i, 1) := by decide +kernel
theorem dX11_multiply_169 : decode cX11_multiply 169 = .ok (.iastore, 1) := by decide +kernel
theorem dX11_multiply_170 : decode cX11_multiply 170 = .ok (.lload 8, 2) := by decide +kernel
theorem dX11_multiply_172 : decode cX11_multiply 172 = .ok (.bipush 16, 2) := by decide +kernel
theorem dX11_multiply_174 : decode cX11_multiply 174 = .ok (.lshr, 1) := by decide +kernel
theorem dX11_multiply_175 : decode cX11_multiply 175 = .ok (.lstore 5, 2) := by decide +kernel
theorem dX11_multiply_177 : decode cX11_multiply 177 = .ok (.iinc 7 1, 3) := by decide +kernel
theorem dX11_multiply_180 : decode cX11_multiply 180 = .ok (.goto (-91), 3) := by decide +kernel
theorem dX11_multiply_183 : decode cX11_multiply 183 = .ok (.iinc 4 1, 3) := by decide +kernel
theorem dX11_multiply_186 : decode cX11_multiply 186 = .ok (.goto (-128), 3) := by decide +kernel
theorem dX11_multiply_189 : decode cX11_multiply 189 = .ok (.return_, 1) := by decide +kernel
theorem dX11_join_0 : decode cX11_join 0 = .ok (.aload_n 0, 1) := by decide +kernel
theorem dX11_join_1 : decode cX11_join 1 = .ok (.getfield 42, 3) := by decide +kernel
theorem dX11_join_4 : decode cX11_join 4 = .ok (.iload_n 3, 1) := by decide +kernel
theorem dX11_join_5 : decode cX11_join 5 = .ok (.baload, 1) := by decide +kernel
theorem dX11_join_6 : decode cX11_join 6 = .ok (.iload 4, 2) := by decide +kernel
theorem dX11_join_8 : decode cX11_join 8 = .ok (.if_icmp .eq 7, 3) := by decide +kernel
theorem dX11_join_11 : decode cX11_join 11 = .ok (.iconst 1, 1) := by decide +kernel
theorem dX11_join_12 : decode cX11_join 12 = .ok (.goto 4, 3) := by decide +kernel
theorem dX11_join_15 : decode cX11_join 15 = .ok (.iconst 0, 1) := by decide +kernel
theorem dX11_join_16 : decode cX11_join 16 = .ok (.istore 5, 2) := by decide +kernel
theorem dX11_join_18 : decode cX11_join 18 = .ok (.aload_n 0, 1) := by decide +kernel
theorem dX11_join_19 : decode cX11_join 19 = .ok (.getfield 42, 3) := by decide +kernel
theorem dX11_join_22 : decode cX11_join 22 = .ok (.iload_n 2, 1) := by decide +kernel
theorem dX11_join_23 : decode cX11_join 23 = .ok (.baload, 1) := by decide +kernel
theorem dX11_join_24 : decode cX11_join 24 = .ok (.iload 5, 2) := by decide +kernel
theorem dX11_join_26 : decode cX11_join 26 = .ok (.if_icmp .ne 7, 3) := by decide +kernel
theorem dX11_join_29 : decode cX11_join 29 = .ok (.iconst 1, 1) := by decide +kernel
theorem dX11_join_30 : decode cX11_join 30 = .ok (.goto 4, 3) := by decide +kernel
theorem dX11_join_33 : decode cX11_join 33 = .ok (.iconst 0, 1) := by decide +kernel
theorem dX11_join_34 : decode cX11_join 34 = .ok (.istore 6, 2) := by decide +kernel
theorem dX11_join_36 : decode cX11_join 36 = .ok (.iload 6, 2) := by decide +kernel
theorem dX11_join_38 : decode cX11_join 38 = .ok (.ifCond .ne 16, 3) := by decide +kernel
theorem dX11_join_41 : decode cX11_join 41 = .ok (.aload_n 0, 1) := by decide +kernel
theorem dX11_join_42 : decode cX11_join 42 = .ok (.iload_n 2, 1) := by decide +kernel
theorem dX11_join_43 : decode cX11_join 43 = .ok (.iload_n 3, 1) := by decide +kernel
theorem dX11_join_44 : decode cX11_join 44 = .ok (.invokevirtual 62, 3) := by decide +kernel
theorem dX11_join_47 : decode cX11_join 47 = .ok (.ifCond .ge 7, 3) := by decide +kernel
theorem dX11_join_50 : decode cX11_join 50 = .ok (.iconst 1, 1) := by decide +kernel
theorem dX11_join_51 : decode cX11_join 51 = .ok (.goto 4, 3) := by decide +kernel
theorem dX11_join_54 : decode cX11_join 54 = .ok (.iconst 0, 1) := by decide +kernel
theorem dX11_join_55 : decode cX11_join 55 = .ok (.istore 7, 2) := by decide +kernel
theorem dX11_join_57 : decode cX11_join 57 = .ok (.aload_n 0, 1) := by decide +kernel
theorem dX11_join_58 : decode cX11_join 58 = .ok (.getfield 42, 3) := by decide +kernel
theorem dX11_join_61 : decode cX11_join 61 = .ok (.iload_n 1, 1) := by decide +kernel
theorem dX11_join_62 : decode cX11_join 62 = .ok (.iload 7, 2) := by decide +kernel
theorem dX11_join_64 : decode cX11_join 64 = .ok (.ifCond .eq 8, 3) := by decide +kernel
theorem dX11_join_67 : decode cX11_join 67 = .ok (.iload 5, 2) := by decide +kernel
theorem dX11_join_69 : decode cX11_join 69 = .ok (.goto 9, 3) := by decide +kernel
theorem dX11_join_72 : decode cX11_join 72 = .ok (.aload_n 0, 1) := by decide +kernel
theorem dX11_join_73 : decode cX11_join 73 = .ok (.getfield 42, 3) := by decide +kernel
theorem dX11_join_76 : decode cX11_join 76 = .ok (.iload_n 2, 1) := by decide +kernel
theorem dX11_join_77 : decode cX11_join 77 = .ok (.baload, 1) := by decide +kernel
theorem dX11_join_78 : decode cX11_join 78 = .ok (.bastore, 1) := by decide +kernel
theorem dX11_join_79 : decode cX11_join 79 = .ok (.iconst 0, 1) := by decide +kernel
theorem dX11_join_80 : decode cX11_join 80 = .ok (.istore 8, 2) := by decide +kernel
theorem dX11_join_82 : decode cX11_join 82 = .ok (.iconst 0, 1) := by decide +kernel
theorem dX11_join_83 : decode cX11_join 83 = .ok (.istore 9, 2) := by decide +kernel
theorem dX11_join_85 : decode cX11_join 85 = .ok (.iload 9, 2) := by decide +kernel
theorem dX11_join_87 : decode cX11_join 87 = .ok (.bipush 20, 2) := by decide +kernel
theorem dX11_join_89 : decode cX11_join 89 = .ok (.if_icmp .ge 123, 3) := by decide +kernel
theorem dX11_join_92 : decode cX11_join 92 = .ok (.aload_n 0, 1) := by decide +kernel
theorem dX11_join_93 : decode cX11_join 93 = .ok (.getfield 39, 3) := by decide +kernel
theorem dX11_join_96 : decode cX11_join 96 = .ok (.bipush 20, 2) := by decide +kernel
theorem dX11_join_98 : decode cX11_join 98 = .ok (.iload 7, 2) := by decide +kernel
theorem dX11_join_100 : decode cX11_join 100 = .ok (.ifCond .eq 7, 3) := by decide +kernel
theorem dX11_join_103 : decode cX11_join 103 = .ok (.iload_n 3, 1) := by decide +kernel
theorem dX11_join_104 : decode cX11_join 104 = .ok (.goto 4, 3) := by decide +kernel
theorem dX11_join_107 : decode cX11_join 107 = .ok (.iload_n 2, 1) := by decide +kernel
theorem dX11_join_108 : decode cX11_join 108 = .ok (.imul, 1) := by decide +kernel
theorem dX11_join_109 : decode cX11_join 109 = .ok (.iload 9, 2) := by decide +kernel
theorem dX11_join_111 : decode cX11_join 111 = .ok (.iadd, 1) := by decide +kernel
theorem dX11_join_112 : decode cX11_join 112 = .ok (.iaload, 1) := by decide +kernel
theorem dX11_join_113 : decode cX11_join 113 = .ok (.istore 10, 2) := by decide +kernel
theorem dX11_join_115 : decode cX11_join 115 = .ok (.aload_n 0, 1) := by decide +kernel
theorem dX11_join_116 : decode cX11_join 116 = .ok (.getfield 39, 3) := by decide +kernel
theorem dX11_join_119 : decode cX11_join 119 = .ok (.bipush 20, 2) := by decide +kernel
theorem dX11_join_121 : decode cX11_join 121 = .ok (.iload 7, 2) := by decide +kernel
theorem dX11_join_123 : decode cX11_join 123 = .ok (.ifCond .eq 7, 3) := by decide +kernel
theorem dX11_join_126 : decode cX11_join 126 = .ok (.iload_n 2, 1) := by decide +kernel
theorem dX11_join_127 : decode cX11_join 127 = .ok (.goto 4, 3) := by decide +kernel
theorem dX11_join_130 : decode cX11_join 130 = .ok (.iload_n 3, 1) := by decide +kernel
theorem dX11_join_131 : decode cX11_join 131 = .ok (.imul, 1) := by decide +kernel
theorem dX11_join_132 : decode cX11_join 132 = .ok (.iload 9, 2) := by decide +kernel
theorem dX11_join_134 : decode cX11_join 134 = .ok (.iadd, 1) := by decide +kernel
theorem dX11_join_135 : decode cX11_join 135 = .ok (.iaload, 1) := by decide +kernel
theorem dX11_join_136 : decode cX11_join 136 = .ok (.istore 11, 2) := by decide +kernel
theorem dX11_join_138 : decode cX11_join 138 = .ok (.iload 6, 2) := by decide +kernel
theorem dX11_join_140 : decode cX11_join 140 = .ok (.ifCond .eq 14, 3) := by decide +kernel
theorem dX11_join_143 : decode cX11_join 143 = .ok (.iload 10, 2) := by decide +kernel
theorem dX11_join_145 : decode cX11_join 145 = .ok (.iload 11, 2) := by decide +kernel
theorem dX11_join_147 : decode cX11_join 147 = .ok (.iadd, 1) := by decide +kernel
theorem dX11_join_148 : decode cX11_join 148 = .ok (.iload 8, 2) := by decide +kernel
theorem dX11_join_150 : decode cX11_join 150 = .ok (.iadd, 1) := by decide +kernel
theorem dX11_join_151 : decode cX11_join 151 = .ok (.goto 11, 3) := by decide +kernel
theorem dX11_join_154 : decode cX11_join 154 = .ok (.iload 10, 2) := by decide +kernel
theorem dX11_join_156 : decode cX11_join 156 = .ok (.iload 11, 2) := by decide +kernel
theorem dX11_join_158 : decode cX11_join 158 = .ok (.isub, 1) := by decide +kernel
theorem dX11_join_159 : decode cX11_join 159 = .ok (.iload 8, 2) := by decide +kernel
theorem dX11_join_161 : decode cX11_join 161 = .ok (.isub, 1) := by decide +kernel
theorem dX11_join_162 : decode cX11_join 162 = .ok (.istore 12, 2) := by decide +kernel
theorem dX11_join_164 : decode cX11_join 164 = .ok (.aload_n 0, 1) := by decide +kernel
theorem dX11_join_165 : decode cX11_join 165 = .ok (.getfield 39, 3) := by decide +kernel
theorem dX11_join_168 : decode cX11_join 168 = .ok (.bipush 20, 2) := by decide +kernel
theorem dX11_join_170 : decode cX11_join 170 = .ok (.iload_n 1, 1) := by decide +kernel
theorem dX11_join_171 : decode cX11_join 171 = .ok (.imul, 1) := by decide +kernel
theorem dX11_join_172 : decode cX11_join 172 = .ok (.iload 9, 2) := by decide +kernel
theorem dX11_join_174 : decode cX11_join 174 = .ok (.iadd, 1) := by decide +kernel
theorem dX11_join_175 : decode cX11_join 175 = .ok (.iload 12, 2) := by decide +kernel
theorem dX11_join_177 : decode cX11_join 177 = .ok (.ldc 66, 2) := by decide +kernel
theorem dX11_join_179 : decode cX11_join 179 = .ok (.iand, 1) := by decide +kernel
theorem dX11_join_180 : decode cX11_join 180 = .ok (.iastore, 1) := by decide +kernel
theorem dX11_join_181 : decode cX11_join 181 = .ok (.iload 6, 2) := by decide +kernel
theorem dX11_join_183 : decode cX11_join 183 = .ok (.ifCond .eq 11, 3) := by decide +kernel
theorem dX11_join_186 : decode cX11_join 186 = .ok (.iload 12, 2) := by decide +kernel
theorem dX11_join_188 : decode cX11_join 188 = .ok (.bipush 16, 2) := by decide +kernel
theorem dX11_join_190 : decode cX11_join 190 = .ok (.ishr, 1) := by decide +kernel
theorem dX11_join_191 : decode cX11_join 191 = .ok (.goto 13, 3) := by decide +kernel
theorem dX11_join_194 : decode cX11_join 194 = .ok (.iload 12, 2) := by decide +kernel
theorem dX11_join_196 : decode cX11_join 196 = .ok (.ifCond .ge 7, 3) := by decide +kernel
theorem dX11_join_199 : decode cX11_join 199 = .ok (.iconst 1, 1) := by decide +kernel
theorem dX11_join_200 : decode cX11_join 200 = .ok (.goto 4, 3) := by decide +kernel
theorem dX11_join_203 : decode cX11_join 203 = .ok (.iconst 0, 1) := by decide +kernel
theorem dX11_join_204 : decode cX11_join 204 = .ok (.istore 8, 2) := by decide +kernel
theorem dX11_join_206 : decode cX11_join 206 = .ok (.iinc 9 1, 3) := by decide +kernel
theorem dX11_join_209 : decode cX11_join 209 = .ok (.goto (-124), 3) := by decide +kernel
theorem dX11_join_212 : decode cX11_join 212 = .ok (.return_, 1) := by decide +kernel
theorem dX11_doubled_0 : decode cX11_doubled 0 = .ok (.iload_n 2, 1) := by decide +kernel
theorem dX11_doubled_1 : decode cX11_doubled 1 = .ok (.istore_n 3, 1) := by decide +kernel
theorem dX11_doubled_2 : decode cX11_doubled 2 = .ok (.iconst 0, 1) := by decide +kernel
theorem dX11_doubled_3 : decode cX11_doubled 3 = .ok (.istore 4, 2) := by decide +kernel
theorem dX11_doubled_5 : decode cX11_doubled 5 = .ok (.iload 4, 2) := by decide +kernel
theorem dX11_doubled_7 : decode cX11_doubled 7 = .ok (.bipush 20, 2) := by decide +kernel
theorem dX11_doubled_9 : decode cX11_doubled 9 = .ok (.if_icmp .ge 50, 3) := by decide +kernel
theorem dX11_doubled_12 : decode cX11_doubled 12 = .ok (.iconst 2, 1) := by decide +kernel
theorem dX11_doubled_13 : decode cX11_doubled 13 = .ok (.aload_n 0, 1) := by decide +kernel
theorem dX11_doubled_14 : decode cX11_doubled 14 = .ok (.getfield 39, 3) := by decide +kernel
theorem dX11_doubled_17 : decode cX11_doubled 17 = .ok (.bipush 20, 2) := by decide +kernel
theorem dX11_doubled_19 : decode cX11_doubled 19 = .ok (.iload_n 1, 1) := by decide +kernel
theorem dX11_doubled_20 : decode cX11_doubled 20 = .ok (.imul, 1) := by decide +kernel
theorem dX11_doubled_21 : decode cX11_doubled 21 = .ok (.iload 4, 2) := by decide +kernel
theorem dX11_doubled_23 : decode cX11_doubled 23 = .ok (.iadd, 1) := by decide +kernel
theorem dX11_doubled_24 : decode cX11_doubled 24 = .ok (.iaload, 1) := by decide +kernel
theorem dX11_doubled_25 : decode cX11_doubled 25 = .ok (.imul, 1) := by decide +kernel
theorem dX11_doubled_26 : decode cX11_doubled 26 = .ok (.iload_n 3, 1) := by decide +kernel
theorem dX11_doubled_27 : decode cX11_doubled 27 = .ok (.iadd, 1) := by decide +kernel
theorem dX11_doubled_28 : decode cX11_doubled 28 = .ok (.istore 5, 2) := by decide +kernel
theorem dX11_doubled_30 : decode cX11_doubled 30 = .ok (.aload_n 0, 1) := by decide +kernel
theorem dX11_doubled_31 : decode cX11_doubled 31 = .ok (.getfield 39, 3) := by decide +kernel
theorem dX11_doubled_34 : decode cX11_doubled 34 = .ok (.bipush 20, 2) := by decide +kernel
theorem dX11_doubled_36 : decode cX11_doubled 36 = .ok (.iload_n 1, 1) := by decide +kernel
theorem dX11_doubled_37 : decode cX11_doubled 37 = .ok (.imul, 1) := by decide +kernel
theorem dX11_doubled_38 : decode cX11_doubled 38 = .ok (.iload 4, 2) := by decide +kernel
theorem dX11_doubled_40 : decode cX11_doubled 40 = .ok (.iadd, 1) := by decide +kernel
theorem dX11_doubled_41 : decode cX11_doubled 41 = .ok (.iload 5, 2) := by decide +kernel
theorem dX11_doubled_43 : decode cX11_doubled 43 = .ok (.ldc 66, 2) := by decide +kernel
theorem dX11_doubled_45 : decode cX11_doubled 45 = .ok (.iand, 1) := by decide +kernel
theorem dX11_doubled_46 : decode cX11_doubled 46 = .ok (.iastore, 1) := by decide +kernel
theorem dX11_doubled_47 : decode cX11_doubled 47 = .ok (.iload 5, 2) := by decide +kernel
theorem dX11_doubled_49 : decode cX11_doubled 49 = .ok (.bipush 16, 2) := by decide +kernel
theorem dX11_doubled_51 : decode cX11_doubled 51 = .ok (.ishr, 1) := by decide +kernel
theorem dX11_doubled_52 : decode cX11_doubled 52 = .ok (.istore_n 3, 1) := by decide +kernel
theorem dX11_doubled_53 : decode cX11_doubled 53 = .ok (.iinc 4 1, 3) := by decide +kernel
theorem dX11_doubled_56 : decode cX11_doubled 56 = .ok (.goto (-51), 3) := by decide +kernel
theorem dX11_doubled_59 : decode cX11_doubled 59 = .ok (.return_, 1) := by decide +kernel
theorem dX11_takeAway_0 : decode cX11_takeAway 0 = .ok (.iconst 0, 1) := by decide +kernel
theorem dX11_takeAway_1 : decode cX11_takeAway 1 = .ok (.istore_n 3, 1) := by decide +kernel
theorem dX11_takeAway_2 : decode cX11_takeAway 2 = .ok (.iconst 0, 1) := by decide +kernel
theorem dX11_takeAway_3 : decode cX11_takeAway 3 = .ok (.istore 4, 2) := by decide +kernel
theorem dX11_takeAway_5 : decode cX11_takeAway 5 = .ok (.iload 4, 2) := by decide +kernel
theorem dX11_takeAway_7 : decode cX11_takeAway 7 = .ok (.bipush 20, 2) := by decide +kernel
theorem dX11_takeAway_9 : decode cX11_takeAway 9 = .ok (.if_icmp .ge 66, 3) := by decide +kernel
theorem dX11_takeAway_12 : decode cX11_takeAway 12 = .ok (.aload_n 0, 1) := by decide +kernel
theorem dX11_takeAway_13 : decode cX11_takeAway 13 = .ok (.getfield 39, 3) := by decide +kernel
theorem dX11_takeAway_16 : decode cX11_takeAway 16 = .ok (.bipush 20, 2) := by decide +kernel
theorem dX11_takeAway_18 : decode cX11_takeAway 18 = .ok (.iload_n 1, 1) := by decide +kernel
theorem dX11_takeAway_19 : decode cX11_takeAway 19 = .ok (.imul, 1) := by decide +kernel
theorem dX11_takeAway_20 : decode cX11_takeAway 20 = .ok (.iload 4, 2) := by decide +kernel
theorem dX11_takeAway_22 : decode cX11_takeAway 22 = .ok (.iadd, 1) := by decide +kernel
theorem dX11_takeAway_23 : decode cX11_takeAway 23 = .ok (.iaload, 1) := by decide +kernel
theorem dX11_takeAway_24 : decode cX11_takeAway 24 = .ok (.aload_n 0, 1) := by decide +kernel
theorem dX11_takeAway_25 : decode cX11_takeAway 25 = .ok (.getfield 39, 3) := by decide +kernel
theorem dX11_takeAway_28 : decode cX11_takeAway 28 = .ok (.bipush 20, 2) := by decide +kernel
theorem dX11_takeAway_30 : decode cX11_takeAway 30 = .ok (.iload_n 2, 1) := by decide +kernel
theorem dX11_takeAway_31 : decode cX11_takeAway 31 = .ok (.imul, 1) := by decide +kernel
theorem dX11_takeAway_32 : decode cX11_takeAway 32 = .ok (.iload 4, 2) := by decide +kernel
theorem dX11_takeAway_34 : decode cX11_takeAway 34 = .ok (.iadd, 1) := by decide +kernel
theorem dX11_takeAway_35 : decode cX11_takeAway 35 = .ok (.iaload, 1) := by decide +kernel
theorem dX11_takeAway_36 : decode cX11_takeAway 36 = .ok (.isub, 1) := by decide +kernel
theorem dX11_takeAway_37 : decode cX11_takeAway 37 = .ok (.iload_n 3, 1) := by decide +kernel
theorem dX11_takeAway_38 : decode cX11_takeAway 38 = .ok (.isub, 1) := by decide +kernel
theorem dX11_takeAway_39 : decode cX11_takeAway 39 = .ok (.istore 5, 2) := by decide +kernel
theorem dX11_takeAway_41 : decode cX11_takeAway 41 = .ok (.aload_n 0, 1) := by decide +kernel
theorem dX11_takeAway_42 : decode cX11_takeAway 42 = .ok (.getfield 39, 3) := by decide +kernel
theorem dX11_takeAway_45 : decode cX11_takeAway 45 = .ok (.bipush 20, 2) := by decide +kernel
theorem dX11_takeAway_47 : decode cX11_takeAway 47 = .ok (.iload_n 1, 1) := by decide +kernel
theorem dX11_takeAway_48 : decode cX11_takeAway 48 = .ok (.imul, 1) := by decide +kernel
theorem dX11_takeAway_49 : decode cX11_takeAway 49 = .ok (.iload 4, 2) := by decide +kernel
theorem dX11_takeAway_51 : decode cX11_takeAway 51 = .ok (.iadd, 1) := by decide +kernel
theorem dX11_takeAway_52 : decode cX11_takeAway 52 = .ok (.iload 5, 2) := by decide +kernel
theorem dX11_takeAway_54 : decode cX11_takeAway 54 = .ok (.ldc 66, 2) := by decide +kernel
theorem dX11_takeAway_56 : decode cX11_takeAway 56 = .ok (.iand, 1) := by decide +kernel
theorem dX11_takeAway_57 : decode cX11_takeAway 57 = .ok (.iastore, 1) := by decide +kernel
theorem dX11_takeAway_58 : decode cX11_takeAway 58 = .ok (.iload 5, 2) := by decide +kernel
theorem dX11_takeAway_60 : decode cX11_takeAway 60 = .ok (.ifCond .ge 7, 3) := by decide +kernel
theorem dX11_takeAway_63 : decode cX11_takeAway 63 = .ok (.iconst 1, 1) := by decide +kernel
theorem dX11_takeAway_64 : decode cX11_takeAway 64 = .ok (.goto 4, 3) := by decide +kernel
theorem dX11_takeAway_67 : decode cX11_takeAway 67 = .ok (.iconst 0, 1) := by decide +kernel
theorem dX11_takeAway_68 : decode cX11_takeAway 68 = .ok (.istore_n 3, 1) := by decide +kernel
theorem dX11_takeAway_69 : decode cX11_takeAway 69 = .ok (.iinc 4 1, 3) := by decide +kernel
theorem dX11_takeAway_72 : decode cX11_takeAway 72 = .ok (.goto (-67), 3) := by decide +kernel
theorem dX11_takeAway_75 : decode cX11_takeAway 75 = .ok (.return_, 1) := by decide +kernel
theorem dX11_divide_0 : decode cX11_divide 0 = .ok (.aload_n 0, 1) := by decide +kernel
theorem dX11_divide_1 : decode cX11_divide 1 = .ok (.iload_n 1, 1) := by decide +kernel
theorem dX11_divide_2 : decode cX11_divide 2 = .ok (.lconst 0, 1) := by decide +kernel
theorem dX11_divide_3 : decode cX11_divide 3 = .ok (.invokevirtual 67, 3) := by decide +kernel
theorem dX11_divide_6 : decode cX11_divide 6 = .ok (.aload_n 0, 1) := by decide +kernel
theorem dX11_divide_7 : decode cX11_divide 7 = .ok (.bipush 12, 2) := by decide +kernel
theorem dX11_divide_9 : decode cX11_divide 9 = .ok (.lconst 0, 1) := by decide +kernel
theorem dX11_divide_10 : decode cX11_divide 10 = .ok (.invokevirtual 67, 3) := by decide +kernel
theorem dX11_divide_13 : decode cX11_divide 13 = .ok (.sipush 319, 3) := by decide +kernel
theorem dX11_divide_16 : decode cX11_divide 16 = .ok (.istore 4, 2) := by decide +kernel
theorem dX11_divide_18 : decode cX11_divide 18 = .ok (.iload 4, 2) := by decide +kernel
theorem dX11_divide_20 : decode cX11_divide 20 = .ok (.ifCond .lt 82, 3) := by decide +kernel
theorem dX11_divide_23 : decode cX11_divide 23 = .ok (.aload_n 0, 1) := by decide +kernel
theorem dX11_divide_24 : decode cX11_divide 24 = .ok (.bipush 12, 2) := by decide +kernel
theorem dX11_divide_26 : decode cX11_divide 26 = .ok (.aload_n 0, 1) := by decide +kernel
theorem dX11_divide_27 : decode cX11_divide 27 = .ok (.getfield 39, 3) := by decide +kernel
theorem dX11_divide_30 : decode cX11_divide 30 = .ok (.bipush 20, 2) := by decide +kernel
theorem dX11_divide_32 : decode cX11_divide 32 = .ok (.iload_n 2, 1) := by decide +kernel
theorem dX11_divide_33 : decode cX11_divide 33 = .ok (.imul, 1) := by decide +kernel
theorem dX11_divide_34 : decode cX11_divide 34 = .ok (.iload 4, 2) := by decide +kernel
theorem dX11_divide_36 : decode cX11_divide 36 = .ok (.bipush 16, 2) := by decide +kernel
theorem dX11_divide_38 : decode cX11_divide 38 = .ok (.idiv, 1) := by decide +kernel
theorem dX11_divide_39 : decode cX11_divide 39 = .ok (.iadd, 1) := by decide +kernel
theorem dX11_divide_40 : decode cX11_divide 40 = .ok (.iaload, 1) := by decide +kernel
theorem dX11_divide_41 : decode cX11_divide 41 = .ok (.iload 4, 2) := by decide +kernel
theorem dX11_divide_43 : decode cX11_divide 43 = .ok (.bipush 16, 2) := by decide +kernel
theorem dX11_divide_45 : decode cX11_divide 45 = .ok (.irem, 1) := by decide +kernel
theorem dX11_divide_46 : decode cX11_divide 46 = .ok (.ishr, 1) := by decide +kernel
theorem dX11_divide_47 : decode cX11_divide 47 = .ok (.iconst 1, 1) := by decide +kernel
theorem dX11_divide_48 : decode cX11_divide 48 = .ok (.iand, 1) := by decide +kernel
theorem dX11_divide_49 : decode cX11_divide 49 = .ok (.invokevirtual 71, 3) := by decide +kernel
theorem dX11_divide_52 : decode cX11_divide 52 = .ok (.aload_n 0, 1) := by decide +kernel
theorem dX11_divide_53 : decode cX11_divide 53 = .ok (.bipush 12, 2) := by decide +kernel
theorem dX11_divide_55 : decode cX11_divide 55 = .ok (.iload_n 3, 1) := by decide +kernel
theorem dX11_divide_56 : decode cX11_divide 56 = .ok (.invokevirtual 62, 3) := by decide +kernel
theorem dX11_divide_59 : decode cX11_divide 59 = .ok (.ifCond .lt 7, 3) := by decide +kernel
theorem dX11_divide_62 : decode cX11_divide 62 = .ok (.iconst 1, 1) := by decide +kernel
theorem dX11_divide_63 : decode cX11_divide 63 = .ok (.goto 4, 3) := by decide +kernel
theorem dX11_divide_66 : decode cX11_divide 66 = .ok (.iconst 0, 1) := by decide +kernel
theorem dX11_divide_67 : decode cX11_divide 67 = .ok (.istore 5, 2) := by decide +kernel
theorem dX11_divide_69 : decode cX11_divide 69 = .ok (.iload 5, 2) := by decide +kernel
theorem dX11_divide_71 : decode cX11_divide 71 = .ok (.ifCond .eq 10, 3) := by decide +kernel
theorem dX11_divide_74 : decode cX11_divide 74 = .ok (.aload_n 0, 1) := by decide +kernel
theorem dX11_divide_75 : decode cX11_divide 75 = .ok (.bipush 12, 2) := by decide +kernel
theorem dX11_divide_77 : decode cX11_divide 77 = .ok (.iload_n 3, 1) := by decide +kernel
theorem dX11_divide_78 : decode cX11_divide 78 = .ok (.invokevirtual 75, 3) := by decide +kernel
theorem dX11_divide_81 : decode cX11_divide 81 = .ok (.aload_n 0, 1) := by decide +kernel
theorem dX11_divide_82 : decode cX11_divide 82 = .ok (.iload_n 1, 1) := by decide +kernel
theorem dX11_divide_83 : decode cX11_divide 83 = .ok (.iload 5, 2) := by decide +kernel
theorem dX11_divide_85 : decode cX11_divide 85 = .ok (.ifCond .eq 7, 3) := by decide +kernel
theorem dX11_divide_88 : decode cX11_divide 88 = .ok (.iconst 1, 1) := by decide +kernel
theorem dX11_divide_89 : decode cX11_divide 89 = .ok (.goto 4, 3) := by decide +kernel
theorem dX11_divide_92 : decode cX11_divide 92 = .ok (.iconst 0, 1) := by decide +kernel
theorem dX11_divide_93 : decode cX11_divide 93 = .ok (.invokevirtual 71, 3) := by decide +kernel
theorem dX11_divide_96 : decode cX11_divide 96 = .ok (.iinc 4 (-1), 3) := by decide +kernel
theorem dX11_divide_99 : decode cX11_divide 99 = .ok (.goto (-81), 3) := by decide +kernel
theorem dX11_divide_102 : decode cX11_divide 102 = .ok (.aload_n 0, 1) := by decide +kernel
theorem dX11_divide_103 : decode cX11_divide 103 = .ok (.getfield 42, 3) := by decide +kernel
theorem dX11_divide_106 : decode cX11_divide 106 = .ok (.iload_n 1, 1) := by decide +kernel
theorem dX11_divide_107 : decode cX11_divide 107 = .ok (.aload_n 0, 1) := by decide +kernel
theorem dX11_divide_108 : decode cX11_divide 108 = .ok (.getfield 42, 3) := by decide +kernel
theorem dX11_divide_111 : decode cX11_divide 111 = .ok (.iload_n 2, 1) := by decide +kernel
theorem dX11_divide_112 : decode cX11_divide 112 = .ok (.baload, 1) := by decide +kernel
theorem dX11_divide_113 : decode cX11_divide 113 = .ok (.bastore, 1) := by decide +kernel
theorem dX11_divide_114 : decode cX11_divide 114 = .ok (.aload_n 0, 1) := by decide +kernel
theorem dX11_divide_115 : decode cX11_divide 115 = .ok (.getfield 42, 3) := by decide +kernel
theorem dX11_divide_118 : decode cX11_divide 118 = .ok (.iload_n 2, 1) := by decide +kernel
theorem dX11_divide_119 : decode cX11_divide 119 = .ok (.baload, 1) := by decide +kernel
theorem dX11_divide_120 : decode cX11_divide 120 = .ok (.ifCond .eq 12, 3) := by decide +kernel
theorem dX11_divide_123 : decode cX11_divide 123 = .ok (.aload_n 0, 1) := by decide +kernel
theorem dX11_divide_124 : decode cX11_divide 124 = .ok (.bipush 12, 2) := by decide +kernel
theorem dX11_divide_126 : decode cX11_divide 126 = .ok (.invokevirtual 78, 3) := by decide +kernel
theorem dX11_divide_129 : decode cX11_divide 129 = .ok (.ifCond .ne 4, 3) := by decide +kernel
theorem dX11_divide_132 : decode cX11_divide 132 = .ok (.return_, 1) := by decide +kernel
theorem dX11_divide_133 : decode cX11_divide 133 = .ok (.aload_n 0, 1) := by decide +kernel
theorem dX11_divide_134 : decode cX11_divide 134 = .ok (.bipush 15, 2) := by decide +kernel
theorem dX11_divide_136 : decode cX11_divide 136 = .ok (.lconst 1, 1) := by decide +kernel
theorem dX11_divide_137 : decode cX11_divide 137 = .ok (.invokevirtual 67, 3) := by decide +kernel
theorem dX11_divide_140 : decode cX11_divide 140 = .ok (.aload_n 0, 1) := by decide +kernel
theorem dX11_divide_141 : decode cX11_divide 141 = .ok (.bipush 14, 2) := by decide +kernel
theorem dX11_divide_143 : decode cX11_divide 143 = .ok (.iload_n 1, 1) := by decide +kernel
theorem dX11_divide_144 : decode cX11_divide 144 = .ok (.bipush 15, 2) := by decide +kernel
theorem dX11_divide_146 : decode cX11_divide 146 = .ok (.iconst 1, 1) := by decide +kernel
theorem dX11_divide_147 : decode cX11_divide 147 = .ok (.invokevirtual 82, 3) := by decide +kernel
theorem dX11_divide_150 : decode cX11_divide 150 = .ok (.aload_n 0, 1) := by decide +kernel
theorem dX11_divide_151 : decode cX11_divide 151 = .ok (.iload_n 1, 1) := by decide +kernel
theorem dX11_divide_152 : decode cX11_divide 152 = .ok (.bipush 14, 2) := by decide +kernel
theorem dX11_divide_154 : decode cX11_divide 154 = .ok (.invokevirtual 86, 3) := by decide +kernel
theorem dX11_divide_157 : decode cX11_divide 157 = .ok (.return_, 1) := by decide +kernel
theorem dX11_rootOf_0 : decode cX11_rootOf 0 = .ok (.aload_n 0, 1) := by decide +kernel
theorem dX11_rootOf_1 : decode cX11_rootOf 1 = .ok (.iload_n 1, 1) := by decide +kernel
theorem dX11_rootOf_2 : decode cX11_rootOf 2 = .ok (.lconst 0, 1) := by decide +kernel
theorem dX11_rootOf_3 : decode cX11_rootOf 3 = .ok (.invokevirtual 67, 3) := by decide +kernel
theorem dX11_rootOf_6 : decode cX11_rootOf 6 = .ok (.aload_n 0, 1) := by decide +kernel
theorem dX11_rootOf_7 : decode cX11_rootOf 7 = .ok (.bipush 12, 2) := by decide +kernel
theorem dX11_rootOf_9 : decode cX11_rootOf 9 = .ok (.lconst 0, 1) := by decide +kernel
theorem dX11_rootOf_10 : decode cX11_rootOf 10 = .ok (.invokevirtual 67, 3) := by decide +kernel
theorem dX11_rootOf_13 : decode cX11_rootOf 13 = .ok (.sipush 318, 3) := by decide +kernel
theorem dX11_rootOf_16 : decode cX11_rootOf 16 = .ok (.istore_n 3, 1) := by decide +kernel
theorem dX11_rootOf_17 : decode cX11_rootOf 17 = .ok (.iload_n 3, 1) := by decide +kernel
theorem dX11_rootOf_18 : decode cX11_rootOf 18 = .ok (.ifCond .lt 132, 3) := by decide +kernel
theorem dX11_rootOf_21 : decode cX11_rootOf 21 = .ok (.aload_n 0, 1) := by decide +kernel
theorem dX11_rootOf_22 : decode cX11_rootOf 22 = .ok (.bipush 12, 2) := by decide +kernel
theorem dX11_rootOf_24 : decode cX11_rootOf 24 = .ok (.aload_n 0, 1) := by decide +kernel
theorem dX11_rootOf_25 : decode cX11_rootOf 25 = .ok (.getfield 39, 3) := by decide +kernel
theorem dX11_rootOf_28 : decode cX11_rootOf 28 = .ok (.bipush 20, 2) := by decide +kernel
theorem dX11_rootOf_30 : decode cX11_rootOf 30 = .ok (.iload_n 2, 1) := by decide +kernel
theorem dX11_rootOf_31 : decode cX11_rootOf 31 = .ok (.imul, 1) := by decide +kernel
theorem dX11_rootOf_32 : decode cX11_rootOf 32 = .ok (.iload_n 3, 1) := by decide +kernel
theorem dX11_rootOf_33 : decode cX11_rootOf 33 = .ok (.bipush 16, 2) := by decide +kernel
theorem dX11_rootOf_35 : decode cX11_rootOf 35 = .ok (.idiv, 1) := by decide +kernel
theorem dX11_rootOf_36 : decode cX11_rootOf 36 = .ok (.iadd, 1) := by decide +kernel
theorem dX11_rootOf_37 : decode cX11_rootOf 37 = .ok (.iaload, 1) := by decide +kernel
theorem dX11_rootOf_38 : decode cX11_rootOf 38 = .ok (.iload_n 3, 1) := by decide +kernel
theorem dX11_rootOf_39 : decode cX11_rootOf 39 = .ok (.bipush 16, 2) := by decide +kernel
theorem dX11_rootOf_41 : decode cX11_rootOf 41 = .ok (.irem, 1) := by decide +kernel
theorem dX11_rootOf_42 : decode cX11_rootOf 42 = .ok (.iconst 1, 1) := by decide +kernel
theorem dX11_rootOf_43 : decode cX11_rootOf 43 = .ok (.iadd, 1) := by decide +kernel
theorem dX11_rootOf_44 : decode cX11_rootOf 44 = .ok (.ishr, 1) := by decide +kernel
theorem dX11_rootOf_45 : decode cX11_rootOf 45 = .ok (.iconst 1, 1) := by decide +kernel
theorem dX11_rootOf_46 : decode cX11_rootOf 46 = .ok (.iand, 1) := by decide +kernel
theorem dX11_rootOf_47 : decode cX11_rootOf 47 = .ok (.invokevirtual 71, 3) := by decide +kernel
theorem dX11_rootOf_50 : decode cX11_rootOf 50 = .ok (.aload_n 0, 1) := by decide +kernel
theorem dX11_rootOf_51 : decode cX11_rootOf 51 = .ok (.bipush 12, 2) := by decide +kernel
theorem dX11_rootOf_53 : decode cX11_rootOf 53 = .ok (.aload_n 0, 1) := by decide +kernel
theorem dX11_rootOf_54 : decode cX11_rootOf 54 = .ok (.getfield 39, 3) := by decide +kernel
theorem dX11_rootOf_57 : decode cX11_rootOf 57 = .ok (.bipush 20, 2) := by decide +kernel
theorem dX11_rootOf_59 : decode cX11_rootOf 59 = .ok (.iload_n 2, 1) := by decide +kernel
theorem dX11_rootOf_60 : decode cX11_rootOf 60 = .ok (.imul, 1) := by decide +kernel
theorem dX11_rootOf_61 : decode cX11_rootOf 61 = .ok (.iload_n 3, 1) := by decide +kernel
theorem dX11_rootOf_62 : decode cX11_rootOf 62 = .ok (.bipush 16, 2) := by decide +kernel
theorem dX11_rootOf_64 : decode cX11_rootOf 64 = .ok (.idiv, 1) := by decide +kernel
theorem dX11_rootOf_65 : decode cX11_rootOf 65 = .ok (.iadd, 1) := by decide +kernel
theorem dX11_rootOf_66 : decode cX11_rootOf 66 = .ok (.iaload, 1) := by decide +kernel
theorem dX11_rootOf_67 : decode cX11_rootOf 67 = .ok (.iload_n 3, 1) := by decide +kernel
theorem dX11_rootOf_68 : decode cX11_rootOf 68 = .ok (.bipush 16, 2) := by decide +kernel
theorem dX11_rootOf_70 : decode cX11_rootOf 70 = .ok (.irem, 1) := by decide +kernel
theorem dX11_rootOf_71 : decode cX11_rootOf 71 = .ok (.ishr, 1) := by decide +kernel
theorem dX11_rootOf_72 : decode cX11_rootOf 72 = .ok (.iconst 1, 1) := by decide +kernel
theorem dX11_rootOf_73 : decode cX11_rootOf 73 = .ok (.iand, 1) := by decide +kernel
theorem dX11_rootOf_74 : decode cX11_rootOf 74 = .ok (.invokevirtual 71, 3) := by decide +kernel
theorem dX11_rootOf_77 : decode cX11_rootOf 77 = .ok (.aload_n 0, 1) := by decide +kernel
theorem dX11_rootOf_78 : decode cX11_rootOf 78 = .ok (.bipush 14, 2) := by decide +kernel
theorem dX11_rootOf_80 : decode cX11_rootOf 80 = .ok (.iload_n 1, 1) := by decide +kernel
theorem dX11_rootOf_81 : decode cX11_rootOf 81 = .ok (.invokevirtual 86, 3) := by decide +kernel
theorem dX11_rootOf_84 : decode cX11_rootOf 84 = .ok (.aload_n 0, 1) := by decide +kernel
theorem dX11_rootOf_85 : decode cX11_rootOf 85 = .ok (.bipush 14, 2) := by decide +kernel
theorem dX11_rootOf_87 : decode cX11_rootOf 87 = .ok (.iconst 0, 1) := by decide +kernel
theorem dX11_rootOf_88 : decode cX11_rootOf 88 = .ok (.invokevirtual 71, 3) := by decide +kernel
theorem dX11_rootOf_91 : decode cX11_rootOf 91 = .ok (.aload_n 0, 1) := by decide +kernel
theorem dX11_rootOf_92 : decode cX11_rootOf 92 = .ok (.bipush 14, 2) := by decide +kernel
theorem dX11_rootOf_94 : decode cX11_rootOf 94 = .ok (.iconst 1, 1) := by decide +kernel
theorem dX11_rootOf_95 : decode cX11_rootOf 95 = .ok (.invokevirtual 71, 3) := by decide +kernel
theorem dX11_rootOf_98 : decode cX11_rootOf 98 = .ok (.aload_n 0, 1) := by decide +kernel
theorem dX11_rootOf_99 : decode cX11_rootOf 99 = .ok (.bipush 12, 2) := by decide +kernel
theorem dX11_rootOf_101 : decode cX11_rootOf 101 = .ok (.bipush 14, 2) := by decide +kernel
theorem dX11_rootOf_103 : decode cX11_rootOf 103 = .ok (.invokevirtual 62, 3) := by decide +kernel
theorem dX11_rootOf_106 : decode cX11_rootOf 106 = .ok (.ifCond .lt 7, 3) := by decide +kernel
theorem dX11_rootOf_109 : decode cX11_rootOf 109 = .ok (.iconst 1, 1) := by decide +kernel
theorem dX11_rootOf_110 : decode cX11_rootOf 110 = .ok (.goto 4, 3) := by decide +kernel
theorem dX11_rootOf_113 : decode cX11_rootOf 113 = .ok (.iconst 0, 1) := by decide +kernel
theorem dX11_rootOf_114 : decode cX11_rootOf 114 = .ok (.istore 4, 2) := by decide +kernel
theorem dX11_rootOf_116 : decode cX11_rootOf 116 = .ok (.iload 4, 2) := by decide +kernel
theorem dX11_rootOf_118 : decode cX11_rootOf 118 = .ok (.ifCond .eq 11, 3) := by decide +kernel
theorem dX11_rootOf_121 : decode cX11_rootOf 121 = .ok (.aload_n 0, 1) := by decide +kernel
theorem dX11_rootOf_122 : decode cX11_rootOf 122 = .ok (.bipush 12, 2) := by decide +kernel
theorem dX11_rootOf_124 : decode cX11_rootOf 124 = .ok (.bipush 14, 2) := by decide +kernel
theorem dX11_rootOf_126 : decode cX11_rootOf 126 = .ok (.invokevirtual 75, 3) := by decide +kernel
theorem dX11_rootOf_129 : decode cX11_rootOf 129 = .ok (.aload_n 0, 1) := by decide +kernel
theorem dX11_rootOf_130 : decode cX11_rootOf 130 = .ok (.iload_n 1, 1) := by decide +kernel
theorem dX11_rootOf_131 : decode cX11_rootOf 131 = .ok (.iload 4, 2) := by decide +kernel
theorem dX11_rootOf_133 : decode cX11_rootOf 133 = .ok (.ifCond .eq 7, 3) := by decide +kernel
theorem dX11_rootOf_136 : decode cX11_rootOf 136 = .ok (.iconst 1, 1) := by decide +kernel
theorem dX11_rootOf_137 : decode cX11_rootOf 137 = .ok (.goto 4, 3) := by decide +kernel
theorem dX11_rootOf_140 : decode cX11_rootOf 140 = .ok (.iconst 0, 1) := by decide +kernel
theorem dX11_rootOf_141 : decode cX11_rootOf 141 = .ok (.invokevirtual 71, 3) := by decide +kernel
theorem dX11_rootOf_144 : decode cX11_rootOf 144 = .ok (.iinc 3 (-2), 3) := by decide +kernel
theorem dX11_rootOf_147 : decode cX11_rootOf 147 = .ok (.goto (-130), 3) := by decide +kernel
theorem dX11_rootOf_150 : decode cX11_rootOf 150 = .ok (.aload_n 0, 1) := by decide +kernel
theorem dX11_rootOf_151 : decode cX11_rootOf 151 = .ok (.bipush 12, 2) := by decide +kernel
theorem dX11_rootOf_153 : decode cX11_rootOf 153 = .ok (.invokevirtual 78, 3) := by decide +kernel
theorem dX11_rootOf_156 : decode cX11_rootOf 156 = .ok (.ifCond .ne 7, 3) := by decide +kernel
theorem dX11_rootOf_159 : decode cX11_rootOf 159 = .ok (.iconst 1, 1) := by decide +kernel
theorem dX11_rootOf_160 : decode cX11_rootOf 160 = .ok (.goto 4, 3) := by decide +kernel
theorem dX11_rootOf_163 : decode cX11_rootOf 163 = .ok (.iconst 0, 1) := by decide +kernel
theorem dX11_rootOf_164 : decode cX11_rootOf 164 = .ok (.ireturn, 1) := by decide +kernel
theorem dX11_limbOf_0 : decode cX11_limbOf 0 = .ok (.aload_n 0, 1) := by decide +kernel
theorem dX11_limbOf_1 : decode cX11_limbOf 1 = .ok (.getfield 39, 3) := by decide +kernel
theorem dX11_limbOf_4 : decode cX11_limbOf 4 = .ok (.bipush 20, 2) := by decide +kernel
theorem dX11_limbOf_6 : decode cX11_limbOf 6 = .ok (.iload_n 1, 1) := by decide +kernel
theorem dX11_limbOf_7 : decode cX11_limbOf 7 = .ok (.imul, 1) := by decide +kernel
theorem dX11_limbOf_8 : decode cX11_limbOf 8 = .ok (.iconst 2, 1) := by decide +kernel
theorem dX11_limbOf_9 : decode cX11_limbOf 9 = .ok (.iload_n 2, 1) := by decide +kernel
theorem dX11_limbOf_10 : decode cX11_limbOf 10 = .ok (.imul, 1) := by decide +kernel
theorem dX11_limbOf_11 : decode cX11_limbOf 11 = .ok (.iadd, 1) := by decide +kernel
theorem dX11_limbOf_12 : decode cX11_limbOf 12 = .ok (.iaload, 1) := by decide +kernel
theorem dX11_limbOf_13 : decode cX11_limbOf 13 = .ok (.i2l, 1) := by decide +kernel
theorem dX11_limbOf_14 : decode cX11_limbOf 14 = .ok (.aload_n 0, 1) := by decide +kernel
theorem dX11_limbOf_15 : decode cX11_limbOf 15 = .ok (.getfield 39, 3) := by decide +kernel
theorem dX11_limbOf_18 : decode cX11_limbOf 18 = .ok (.bipush 20, 2) := by decide +kernel
theorem dX11_limbOf_20 : decode cX11_limbOf 20 = .ok (.iload_n 1, 1) := by decide +kernel
theorem dX11_limbOf_21 : decode cX11_limbOf 21 = .ok (.imul, 1) := by decide +kernel
theorem dX11_limbOf_22 : decode cX11_limbOf 22 = .ok (.iconst 2, 1) := by decide +kernel
theorem dX11_limbOf_23 : decode cX11_limbOf 23 = .ok (.iload_n 2, 1) := by decide +kernel
theorem dX11_limbOf_24 : decode cX11_limbOf 24 = .ok (.imul, 1) := by decide +kernel
theorem dX11_limbOf_25 : decode cX11_limbOf 25 = .ok (.iadd, 1) := by decide +kernel
theorem dX11_limbOf_26 : decode cX11_limbOf 26 = .ok (.iconst 1, 1) := by decide +kernel
theorem dX11_limbOf_27 : decode cX11_limbOf 27 = .ok (.iadd, 1) := by decide +kernel
theorem dX11_limbOf_28 : decode cX11_limbOf 28 = .ok (.iaload, 1) := by decide +kernel
theorem dX11_limbOf_29 : decode cX11_limbOf 29 = .ok (.i2l, 1) := by decide +kernel
theorem dX11_limbOf_30 : decode cX11_limbOf 30 = .ok (.bipush 16, 2) := by decide +kernel
theorem dX11_limbOf_32 : decode cX11_limbOf 32 = .ok (.lshl, 1) := by decide +kernel
theorem dX11_limbOf_33 : decode cX11_limbOf 33 = .ok (.lor, 1) := by decide +kernel
theorem dX11_limbOf_34 : decode cX11_limbOf 34 = .ok (.lreturn, 1) := by decide +kernel
theorem dX11_valueOf_0 : decode cX11_valueOf 0 = .ok (.aload_n 0, 1) := by decide +kernel
theorem dX11_valueOf_1 : decode cX11_valueOf 1 = .ok (.iload_n 1, 1) := by decide +kernel
theorem dX11_valueOf_2 : decode cX11_valueOf 2 = .ok (.iconst 0, 1) := by decide +kernel
theorem dX11_valueOf_3 : decode cX11_valueOf 3 = .ok (.invokevirtual 89, 3) := by decide +kernel
theorem dX11_valueOf_6 : decode cX11_valueOf 6 = .ok (.aload_n 0, 1) := by decide +kernel
theorem dX11_valueOf_7 : decode cX11_valueOf 7 = .ok (.iload_n 1, 1) := by decide +kernel
theorem dX11_valueOf_8 : decode cX11_valueOf 8 = .ok (.iconst 1, 1) := by decide +kernel
theorem dX11_valueOf_9 : decode cX11_valueOf 9 = .ok (.invokevirtual 89, 3) := by decide +kernel
theorem dX11_valueOf_12 : decode cX11_valueOf 12 = .ok (.bipush 32, 2) := by decide +kernel
theorem dX11_valueOf_14 : decode cX11_valueOf 14 = .ok (.lshl, 1) := by decide +kernel
theorem dX11_valueOf_15 : decode cX11_valueOf 15 = .ok (.lor, 1) := by decide +kernel
theorem dX11_valueOf_16 : decode cX11_valueOf 16 = .ok (.lstore_n 2, 1) := by decide +kernel
theorem dX11_valueOf_17 : decode cX11_valueOf 17 = .ok (.aload_n 0, 1) := by decide +kernel
theorem dX11_valueOf_18 : decode cX11_valueOf 18 = .ok (.getfield 42, 3) := by decide +kernel
theorem dX11_valueOf_21 : decode cX11_valueOf 21 = .ok (.iload_n 1, 1) := by decide +kernel
theorem dX11_valueOf_22 : decode cX11_valueOf 22 = .ok (.baload, 1) := by decide +kernel
theorem dX11_valueOf_23 : decode cX11_valueOf 23 = .ok (.ifCond .eq 9, 3) := by decide +kernel
theorem dX11_valueOf_26 : decode cX11_valueOf 26 = .ok (.lconst 0, 1) := by decide +kernel
theorem dX11_valueOf_27 : decode cX11_valueOf 27 = .ok (.lload_n 2, 1) := by decide +kernel
theorem dX11_valueOf_28 : decode cX11_valueOf 28 = .ok (.lsub, 1) := by decide +kernel
theorem dX11_valueOf_29 : decode cX11_valueOf 29 = .ok (.goto 4, 3) := by decide +kernel
theorem dX11_valueOf_32 : decode cX11_valueOf 32 = .ok (.lload_n 2, 1) := by decide +kernel
theorem dX11_valueOf_33 : decode cX11_valueOf 33 = .ok (.lreturn, 1) := by decide +kernel
theorem dX11_products_0 : decode cX11_products 0 = .ok (.aload_n 0, 1) := by decide +kernel
theorem dX11_products_1 : decode cX11_products 1 = .ok (.bipush 13, 2) := by decide +kernel
theorem dX11_products_3 : decode cX11_products 3 = .ok (.lload_n 2, 1) := by decide +kernel
theorem dX11_products_4 : decode cX11_products 4 = .ok (.invokevirtual 67, 3) := by decide +kernel
theorem dX11_products_7 : decode cX11_products 7 = .ok (.aload_n 0, 1) := by decide +kernel
theorem dX11_products_8 : decode cX11_products 8 = .ok (.bipush 14, 2) := by decide +kernel
theorem dX11_products_10 : decode cX11_products 10 = .ok (.lload 4, 2) := by decide +kernel
theorem dX11_products_12 : decode cX11_products 12 = .ok (.invokevirtual 67, 3) := by decide +kernel
theorem dX11_products_15 : decode cX11_products 15 = .ok (.aload_n 0, 1) := by decide +kernel
theorem dX11_products_16 : decode cX11_products 16 = .ok (.bipush 15, 2) := by decide +kernel
theorem dX11_products_18 : decode cX11_products 18 = .ok (.bipush 13, 2) := by decide +kernel
theorem dX11_products_20 : decode cX11_products 20 = .ok (.bipush 14, 2) := by decide +kernel
theorem dX11_products_22 : decode cX11_products 22 = .ok (.invokevirtual 93, 3) := by decide +kernel
theorem dX11_products_25 : decode cX11_products 25 = .ok (.aload_n 0, 1) := by decide +kernel
theorem dX11_products_26 : decode cX11_products 26 = .ok (.bipush 14, 2) := by decide +kernel
theorem dX11_products_28 : decode cX11_products 28 = .ok (.lload 6, 2) := by decide +kernel
theorem dX11_products_30 : decode cX11_products 30 = .ok (.invokevirtual 67, 3) := by decide +kernel
theorem dX11_products_33 : decode cX11_products 33 = .ok (.aload_n 0, 1) := by decide +kernel
theorem dX11_products_34 : decode cX11_products 34 = .ok (.bipush 13, 2) := by decide +kernel
theorem dX11_products_36 : decode cX11_products 36 = .ok (.lload 8, 2) := by decide +kernel
theorem dX11_products_38 : decode cX11_products 38 = .ok (.invokevirtual 67, 3) := by decide +kernel
theorem dX11_products_41 : decode cX11_products 41 = .ok (.aload_n 0, 1) := by decide +kernel
theorem dX11_products_42 : decode cX11_products 42 = .ok (.bipush 12, 2) := by decide +kernel
theorem dX11_products_44 : decode cX11_products 44 = .ok (.bipush 13, 2) := by decide +kernel
theorem dX11_products_46 : decode cX11_products 46 = .ok (.bipush 14, 2) := by decide +kernel
theorem dX11_products_48 : decode cX11_products 48 = .ok (.invokevirtual 93, 3) := by decide +kernel
theorem dX11_products_51 : decode cX11_products 51 = .ok (.aload_n 0, 1) := by decide +kernel
theorem dX11_products_52 : decode cX11_products 52 = .ok (.iload_n 1, 1) := by decide +kernel
theorem dX11_products_53 : decode cX11_products 53 = .ok (.bipush 15, 2) := by decide +kernel
theorem dX11_products_55 : decode cX11_products 55 = .ok (.bipush 12, 2) := by decide +kernel
theorem dX11_products_57 : decode cX11_products 57 = .ok (.iload 10, 2) := by decide +kernel
theorem dX11_products_59 : decode cX11_products 59 = .ok (.invokevirtual 82, 3) := by decide +kernel
theorem dX11_products_62 : decode cX11_products 62 = .ok (.return_, 1) := by decide +kernel
theorem dX11_turnOf_0 : decode cX11_turnOf 0 = .ok (.aload_n 0, 1) := by decide +kernel
theorem dX11_turnOf_1 : decode cX11_turnOf 1 = .ok (.iconst 4, 1) := by decide +kernel
theorem dX11_turnOf_2 : decode cX11_turnOf 2 = .ok (.lload 5, 2) := by decide +kernel
theorem dX11_turnOf_4 : decode cX11_turnOf 4 = .ok (.lload_n 1, 1) := by decide +kernel
theorem dX11_turnOf_5 : decode cX11_turnOf 5 = .ok (.lsub, 1) := by decide +kernel
theorem dX11_turnOf_6 : decode cX11_turnOf 6 = .ok (.lload 11, 2) := by decide +kernel
theorem dX11_turnOf_8 : decode cX11_turnOf 8 = .ok (.lload_n 3, 1) := by decide +kernel
theorem dX11_turnOf_9 : decode cX11_turnOf 9 = .ok (.lsub, 1) := by decide +kernel
theorem dX11_turnOf_10 : decode cX11_turnOf 10 = .ok (.lload 7, 2) := by decide +kernel
theorem dX11_turnOf_12 : decode cX11_turnOf 12 = .ok (.lload_n 3, 1) := by decide +kernel
theorem dX11_turnOf_13 : decode cX11_turnOf 13 = .ok (.lsub, 1) := by decide +kernel
theorem dX11_turnOf_14 : decode cX11_turnOf 14 = .ok (.lload 9, 2) := by decide +kernel
theorem dX11_turnOf_16 : decode cX11_turnOf 16 = .ok (.lload_n 1, 1) := by decide +kernel
theorem dX11_turnOf_17 : decode cX11_turnOf 17 = .ok (.lsub, 1) := by decide +kernel
theorem dX11_turnOf_18 : decode cX11_turnOf 18 = .ok (.iconst 1, 1) := by decide +kernel
theorem dX11_turnOf_19 : decode cX11_turnOf 19 = .ok (.invokevirtual 97, 3) := by decide +kernel
theorem dX11_turnOf_22 : decode cX11_turnOf 22 = .ok (.aload_n 0, 1) := by decide +kernel
theorem dX11_turnOf_23 : decode cX11_turnOf 23 = .ok (.iconst 4, 1) := by decide +kernel
theorem dX11_turnOf_24 : decode cX11_turnOf 24 = .ok (.invokevirtual 78, 3) := by decide +kernel
theorem dX11_turnOf_27 : decode cX11_turnOf 27 = .ok (.ireturn, 1) := by decide +kernel
theorem dX11_turn_0 : decode cX11_turn 0 = .ok (.aload_n 0, 1) := by decide +kernel
theorem dX11_turn_1 : decode cX11_turn 1 = .ok (.lload_n 1, 1) := by decide +kernel
theorem dX11_turn_2 : decode cX11_turn 2 = .ok (.lload_n 3, 1) := by decide +kernel
theorem dX11_turn_3 : decode cX11_turn 3 = .ok (.invokestatic 101, 3) := by decide +kernel
theorem dX11_turn_6 : decode cX11_turn 6 = .ok (.ifCond .eq 27, 3) := by decide +kernel
theorem dX11_turn_9 : decode cX11_turn 9 = .ok (.lload 5, 2) := by decide +kernel
theorem dX11_turn_11 : decode cX11_turn 11 = .ok (.lload 7, 2) := by decide +kernel
theorem dX11_turn_13 : decode cX11_turn 13 = .ok (.invokestatic 101, 3) := by decide +kernel
theorem dX11_turn_16 : decode cX11_turn 16 = .ok (.ifCond .eq 17, 3) := by decide +kernel
theorem dX11_turn_19 : decode cX11_turn 19 = .ok (.lload 9, 2) := by decide +kernel
theorem dX11_turn_21 : decode cX11_turn 21 = .ok (.lload 11, 2) := by decide +kernel
theorem dX11_turn_23 : decode cX11_turn 23 = .ok (.invokestatic 101, 3) := by decide +kernel
theorem dX11_turn_26 : decode cX11_turn 26 = .ok (.ifCond .eq 7, 3) := by decide +kernel
theorem dX11_turn_29 : decode cX11_turn 29 = .ok (.iconst 0, 1) := by decide +kernel
theorem dX11_turn_30 : decode cX11_turn 30 = .ok (.goto 4, 3) := by decide +kernel
theorem dX11_turn_33 : decode cX11_turn 33 = .ok (.iconst 1, 1) := by decide +kernel
theorem dX11_turn_34 : decode cX11_turn 34 = .ok (.putfield 48, 3) := by decide +kernel
theorem dX11_turn_37 : decode cX11_turn 37 = .ok (.aload_n 0, 1) := by decide +kernel
theorem dX11_turn_38 : decode cX11_turn 38 = .ok (.getfield 48, 3) := by decide +kernel
theorem dX11_turn_41 : decode cX11_turn 41 = .ok (.ifCond .eq 7, 3) := by decide +kernel
theorem dX11_turn_44 : decode cX11_turn 44 = .ok (.iconst 0, 1) := by decide +kernel
theorem dX11_turn_45 : decode cX11_turn 45 = .ok (.goto 17, 3) := by decide +kernel
theorem dX11_turn_48 : decode cX11_turn 48 = .ok (.aload_n 0, 1) := by decide +kernel
theorem dX11_turn_49 : decode cX11_turn 49 = .ok (.lload_n 1, 1) := by decide +kernel
theorem dX11_turn_50 : decode cX11_turn 50 = .ok (.lload_n 3, 1) := by decide +kernel
theorem dX11_turn_51 : decode cX11_turn 51 = .ok (.lload 5, 2) := by decide +kernel
theorem dX11_turn_53 : decode cX11_turn 53 = .ok (.lload 7, 2) := by decide +kernel
theorem dX11_turn_55 : decode cX11_turn 55 = .ok (.lload 9, 2) := by decide +kernel
theorem dX11_turn_57 : decode cX11_turn 57 = .ok (.lload 11, 2) := by decide +kernel
theorem dX11_turn_59 : decode cX11_turn 59 = .ok (.invokevirtual 105, 3) := by decide +kernel
theorem dX11_turn_62 : decode cX11_turn 62 = .ok (.ireturn, 1) := by decide +kernel
theorem dX11_made_0 : decode cX11_made 0 = .ok (.aload_n 0, 1) := by decide +kernel
theorem dX11_made_1 : decode cX11_made 1 = .ok (.getfield 109, 3) := by decide +kernel
theorem dX11_made_4 : decode cX11_made 4 = .ok (.sipush 200, 3) := by decide +kernel
theorem dX11_made_7 : decode cX11_made 7 = .ok (.if_icmp .ne 5, 3) := by decide +kernel
theorem dX11_made_10 : decode cX11_made 10 = .ok (.iconst (-1), 1) := by decide +kernel
theorem dX11_made_11 : decode cX11_made 11 = .ok (.ireturn, 1) := by decide +kernel
theorem dX11_made_12 : decode cX11_made 12 = .ok (.aload_n 0, 1) := by decide +kernel
theorem dX11_made_13 : decode cX11_made 13 = .ok (.getfield 7, 3) := by decide +kernel
theorem dX11_made_16 : decode cX11_made 16 = .ok (.aload_n 0, 1) := by decide +kernel
theorem dX11_made_17 : decode cX11_made 17 = .ok (.getfield 109, 3) := by decide +kernel
theorem dX11_made_20 : decode cX11_made 20 = .ok (.iload_n 1, 1) := by decide +kernel
theorem dX11_made_21 : decode cX11_made 21 = .ok (.bastore, 1) := by decide +kernel
theorem dX11_made_22 : decode cX11_made 22 = .ok (.aload_n 0, 1) := by decide +kernel
theorem dX11_made_23 : decode cX11_made 23 = .ok (.getfield 13, 3) := by decide +kernel
theorem dX11_made_26 : decode cX11_made 26 = .ok (.aload_n 0, 1) := by decide +kernel
theorem dX11_made_27 : decode cX11_made 27 = .ok (.getfield 109, 3) := by decide +kernel
theorem dX11_made_30 : decode cX11_made 30 = .ok (.lload_n 2, 1) := by decide +kernel
theorem dX11_made_31 : decode cX11_made 31 = .ok (.lastore, 1) := by decide +kernel
theorem dX11_made_32 : decode cX11_made 32 = .ok (.aload_n 0, 1) := by decide +kernel
theorem dX11_made_33 : decode cX11_made 33 = .ok (.getfield 17, 3) := by decide +kernel
theorem dX11_made_36 : decode cX11_made 36 = .ok (.aload_n 0, 1) := by decide +kernel
theorem dX11_made_37 : decode cX11_made 37 = .ok (.getfield 109, 3) := by decide +kernel
theorem dX11_made_40 : decode cX11_made 40 = .ok (.lload 4, 2) := by decide +kernel
theorem dX11_made_42 : decode cX11_made 42 = .ok (.lastore, 1) := by decide +kernel
theorem dX11_made_43 : decode cX11_made 43 = .ok (.aload_n 0, 1) := by decide +kernel
theorem dX11_made_44 : decode cX11_made 44 = .ok (.getfield 20, 3) := by decide +kernel
theorem dX11_made_47 : decode cX11_made 47 = .ok (.aload_n 0, 1) := by decide +kernel
theorem dX11_made_48 : decode cX11_made 48 = .ok (.getfield 109, 3) := by decide +kernel
theorem dX11_made_51 : decode cX11_made 51 = .ok (.lload 6, 2) := by decide +kernel
theorem dX11_made_53 : decode cX11_made 53 = .ok (.lastore, 1) := by decide +kernel
theorem dX11_made_54 : decode cX11_made 54 = .ok (.aload_n 0, 1) := by decide +kernel
theorem dX11_made_55 : decode cX11_made 55 = .ok (.getfield 23, 3) := by decide +kernel
theorem dX11_made_58 : decode cX11_made 58 = .ok (.aload_n 0, 1) := by decide +kernel
theorem dX11_made_59 : decode cX11_made 59 = .ok (.getfield 109, 3) := by decide +kernel
theorem dX11_made_62 : decode cX11_made 62 = .ok (.lload 8, 2) := by decide +kernel
theorem dX11_made_64 : decode cX11_made 64 = .ok (.lastore, 1) := by decide +kernel
theorem dX11_made_65 : decode cX11_made 65 = .ok (.aload_n 0, 1) := by decide +kernel
theorem dX11_made_66 : decode cX11_made 66 = .ok (.dup, 1) := by decide +kernel
theorem dX11_made_67 : decode cX11_made 67 = .ok (.getfield 109, 3) := by decide +kernel
theorem dX11_made_70 : decode cX11_made 70 = .ok (.iconst 1, 1) := by decide +kernel
theorem dX11_made_71 : decode cX11_made 71 = .ok (.iadd, 1) := by decide +kernel
theorem dX11_made_72 : decode cX11_made 72 = .ok (.putfield 109, 3) := by decide +kernel
theorem dX11_made_75 : decode cX11_made 75 = .ok (.aload_n 0, 1) := by decide +kernel
theorem dX11_made_76 : decode cX11_made 76 = .ok (.getfield 109, 3) := by decide +kernel
theorem dX11_made_79 : decode cX11_made 79 = .ok (.iconst 1, 1) := by decide +kernel
theorem dX11_made_80 : decode cX11_made 80 = .ok (.isub, 1) := by decide +kernel
theorem dX11_made_81 : decode cX11_made 81 = .ok (.ireturn, 1) := by decide +kernel
theorem dX11_segment_0 : decode cX11_segment 0 = .ok (.aload_n 0, 1) := by decide +kernel
theorem dX11_segment_1 : decode cX11_segment 1 = .ok (.lload_n 1, 1) := by decide +kernel
theorem dX11_segment_2 : decode cX11_segment 2 = .ok (.lload_n 3, 1) := by decide +kernel
theorem dX11_segment_3 : decode cX11_segment 3 = .ok (.invokestatic 101, 3) := by decide +kernel
theorem dX11_segment_6 : decode cX11_segment 6 = .ok (.ifCond .eq 31, 3) := by decide +kernel
theorem dX11_segment_9 : decode cX11_segment 9 = .ok (.lload 5, 2) := by decide +kernel
theorem dX11_segment_11 : decode cX11_segment 11 = .ok (.lload 7, 2) := by decide +kernel
theorem dX11_segment_13 : decode cX11_segment 13 = .ok (.invokestatic 101, 3) := by decide +kernel
theorem dX11_segment_16 : decode cX11_segment 16 = .ok (.ifCond .eq 21, 3) := by decide +kernel
theorem dX11_segment_19 : decode cX11_segment 19 = .ok (.lload_n 1, 1) := by decide +kernel
theorem dX11_segment_20 : decode cX11_segment 20 = .ok (.lload 5, 2) := by decide +kernel
theorem dX11_segment_22 : decode cX11_segment 22 = .ok (.lcmp, 1) := by decide +kernel
theorem dX11_segment_23 : decode cX11_segment 23 = .ok (.ifCond .ne 10, 3) := by decide +kernel
theorem dX11_segment_26 : decode cX11_segment 26 = .ok (.lload_n 3, 1) := by decide +kernel
theorem dX11_segment_27 : decode cX11_segment 27 = .ok (.lload 7, 2) := by decide +kernel
theorem dX11_segment_29 : decode cX11_segment 29 = .ok (.lcmp, 1) := by decide +kernel
theorem dX11_segment_30 : decode cX11_segment 30 = .ok (.ifCond .eq 7, 3) := by decide +kernel
theorem dX11_segment_33 : decode cX11_segment 33 = .ok (.iconst 0, 1) := by decide +kernel
theorem dX11_segment_34 : decode cX11_segment 34 = .ok (.goto 4, 3) := by decide +kernel
theorem dX11_segment_37 : decode cX11_segment 37 = .ok (.iconst 1, 1) := by decide +kernel
theorem dX11_segment_38 : decode cX11_segment 38 = .ok (.putfield 48, 3) := by decide +kernel
theorem dX11_segment_41 : decode cX11_segment 41 = .ok (.aload_n 0, 1) := by decide +kernel
theorem dX11_segment_42 : decode cX11_segment 42 = .ok (.getfield 48, 3) := by decide +kernel
theorem dX11_segment_45 : decode cX11_segment 45 = .ok (.ifCond .eq 7, 3) := by decide +kernel
theorem dX11_segment_48 : decode cX11_segment 48 = .ok (.iconst 0, 1) := by decide +kernel
theorem dX11_segment_49 : decode cX11_segment 49 = .ok (.goto 14, 3) := by decide +kernel
theorem dX11_segment_52 : decode cX11_segment 52 = .ok (.aload_n 0, 1) := by decide +kernel
theorem dX11_segment_53 : decode cX11_segment 53 = .ok (.iconst 0, 1) := by decide +kernel
theorem dX11_segment_54 : decode cX11_segment 54 = .ok (.lload_n 1, 1) := by decide +kernel
theorem dX11_segment_55 : decode cX11_segment 55 = .ok (.lload_n 3, 1) := by decide +kernel
theorem dX11_segment_56 : decode cX11_segment 56 = .ok (.lload 5, 2) := by decide +kernel
theorem dX11_segment_58 : decode cX11_segment 58 = .ok (.lload 7, 2) := by decide +kernel
theorem dX11_segment_60 : decode cX11_segment 60 = .ok (.invokevirtual 112, 3) := by decide +kernel
theorem dX11_segment_63 : decode cX11_segment 63 = .ok (.ireturn, 1) := by decide +kernel
theorem dX11_arc_0 : decode cX11_arc 0 = .ok (.aload_n 0, 1) := by decide +kernel
theorem dX11_arc_1 : decode cX11_arc 1 = .ok (.lload_n 1, 1) := by decide +kernel
theorem dX11_arc_2 : decode cX11_arc 2 = .ok (.lload_n 3, 1) := by decide +kernel
theorem dX11_arc_3 : decode cX11_arc 3 = .ok (.invokestatic 101, 3) := by decide +kernel
theorem dX11_arc_6 : decode cX11_arc 6 = .ok (.ifCond .eq 47, 3) := by decide +kernel
theorem dX11_arc_9 : decode cX11_arc 9 = .ok (.lload 5, 2) := by decide +kernel
theorem dX11_arc_11 : decode cX11_arc 11 = .ok (.lconst 1, 1) := by decide +kernel
theorem dX11_arc_12 : decode cX11_arc 12 = .ok (.lcmp, 1) := by decide +kernel
theorem dX11_arc_13 : decode cX11_arc 13 = .ok (.ifCond .lt 40, 3) := by decide +kernel
theorem dX11_arc_16 : decode cX11_arc 16 = .ok (.lload 5, 2) := by decide +kernel
theorem dX11_arc_18 : decode cX11_arc 18 = .ok (.ldc2_w 116, 3) := by decide +kernel
theorem dX11_arc_21 : decode cX11_arc 21 = .ok (.lcmp, 1) := by decide +kernel
theorem dX11_arc_22 : decode cX11_arc 22 = .ok (.ifCond .gt 31, 3) := by decide +kernel
theorem dX11_arc_25 : decode cX11_arc 25 = .ok (.iload 7, 2) := by decide +kernel
theorem dX11_arc_27 : decode cX11_arc 27 = .ok (.ifCond .lt 26, 3) := by decide +kernel
theorem dX11_arc_30 : decode cX11_arc 30 = .ok (.iload 7, 2) := by decide +kernel
theorem dX11_arc_32 : decode cX11_arc 32 = .ok (.bipush 8, 2) := by decide +kernel
theorem dX11_arc_34 : decode cX11_arc 34 = .ok (.if_icmp .ge 19, 3) := by decide +kernel
theorem dX11_arc_37 : decode cX11_arc 37 = .ok (.iload 8, 2) := by decide +kernel
theorem dX11_arc_39 : decode cX11_arc 39 = .ok (.ifCond .lt 14, 3) := by decide +kernel
theorem dX11_arc_42 : decode cX11_arc 42 = .ok (.iload 8, 2) := by decide +kernel
theorem dX11_arc_44 : decode cX11_arc 44 = .ok (.bipush 8, 2) := by decide +kernel
theorem dX11_arc_46 : decode cX11_arc 46 = .ok (.if_icmp .ge 7, 3) := by decide +kernel
theorem dX11_arc_49 : decode cX11_arc 49 = .ok (.iconst 0, 1) := by decide +kernel
theorem dX11_arc_50 : decode cX11_arc 50 = .ok (.goto 4, 3) := by decide +kernel
theorem dX11_arc_53 : decode cX11_arc 53 = .ok (.iconst 1, 1) := by decide +kernel
theorem dX11_arc_54 : decode cX11_arc 54 = .ok (.putfield 48, 3) := by decide +kernel
theorem dX11_arc_57 : decode cX11_arc 57 = .ok (.aload_n 0, 1) := by decide +kernel
theorem dX11_arc_58 : decode cX11_arc 58 = .ok (.getfield 48, 3) := by decide +kernel
theorem dX11_arc_61 : decode cX11_arc 61 = .ok (.ifCond .eq 5, 3) := by decide +kernel
theorem dX11_arc_64 : decode cX11_arc 64 = .ok (.iconst 0, 1) := by decide +kernel
theorem dX11_arc_65 : decode cX11_arc 65 = .ok (.ireturn, 1) := by decide +kernel
theorem dX11_arc_66 : decode cX11_arc 66 = .ok (.aload_n 0, 1) := by decide +kernel
theorem dX11_arc_67 : decode cX11_arc 67 = .ok (.iconst 1, 1) := by decide +kernel
theorem dX11_arc_68 : decode cX11_arc 68 = .ok (.lload_n 1, 1) := by decide +kernel
theorem dX11_arc_69 : decode cX11_arc 69 = .ok (.lload_n 3, 1) := by decide +kernel
theorem dX11_arc_70 : decode cX11_arc 70 = .ok (.lload 5, 2) := by decide +kernel
theorem dX11_arc_72 : decode cX11_arc 72 = .ok (.lconst 0, 1) := by decide +kernel
theorem dX11_arc_73 : decode cX11_arc 73 = .ok (.invokevirtual 112, 3) := by decide +kernel
theorem dX11_arc_76 : decode cX11_arc 76 = .ok (.istore 9, 2) := by decide +kernel
theorem dX11_arc_78 : decode cX11_arc 78 = .ok (.iload 9, 2) := by decide +kernel
theorem dX11_arc_80 : decode cX11_arc 80 = .ok (.iconst (-1), 1) := by decide +kernel
theorem dX11_arc_81 : decode cX11_arc 81 = .ok (.if_icmp .eq 21, 3) := by decide +kernel
theorem dX11_arc_84 : decode cX11_arc 84 = .ok (.aload_n 0, 1) := by decide +kernel
theorem dX11_arc_85 : decode cX11_arc 85 = .ok (.getfield 26, 3) := by decide +kernel
theorem dX11_arc_88 : decode cX11_arc 88 = .ok (.iload 9, 2) := by decide +kernel
theorem dX11_arc_90 : decode cX11_arc 90 = .ok (.iload 7, 2) := by decide +kernel
theorem dX11_arc_92 : decode cX11_arc 92 = .ok (.iastore, 1) := by decide +kernel
theorem dX11_arc_93 : decode cX11_arc 93 = .ok (.aload_n 0, 1) := by decide +kernel
theorem dX11_arc_94 : decode cX11_arc 94 = .ok (.getfield 30, 3) := by decide +kernel
theorem dX11_arc_97 : decode cX11_arc 97 = .ok (.iload 9, 2) := by decide +kernel
theorem dX11_arc_99 : decode cX11_arc 99 = .ok (.iload 8, 2) := by decide +kernel
theorem dX11_arc_101 : decode cX11_arc 101 = .ok (.iastore, 1) := by decide +kernel
theorem dX11_arc_102 : decode cX11_arc 102 = .ok (.iload 9, 2) := by decide +kernel
theorem dX11_arc_104 : decode cX11_arc 104 = .ok (.ireturn, 1) := by decide +kernel
theorem dX11_isShape_0 : decode cX11_isShape 0 = .ok (.iload_n 1, 1) := by decide +kernel
theorem dX11_isShape_1 : decode cX11_isShape 1 = .ok (.ifCond .lt 15, 3) := by decide +kernel
theorem dX11_isShape_4 : decode cX11_isShape 4 = .ok (.iload_n 1, 1) := by decide +kernel
theorem dX11_isShape_5 : decode cX11_isShape 5 = .ok (.aload_n 0, 1) := by decide +kernel
theorem dX11_isShape_6 : decode cX11_isShape 6 = .ok (.getfield 109, 3) := by decide +kernel
theorem dX11_isShape_9 : decode cX11_isShape 9 = .ok (.if_icmp .ge 7, 3) := by decide +kernel
theorem dX11_isShape_12 : decode cX11_isShape 12 = .ok (.iconst 1, 1) := by decide +kernel
theorem dX11_isShape_13 : decode cX11_isShape 13 = .ok (.goto 4, 3) := by decide +kernel
theorem dX11_isShape_16 : decode cX11_isShape 16 = .ok (.iconst 0, 1) := by decide +kernel
theorem dX11_isShape_17 : decode cX11_isShape 17 = .ok (.ireturn, 1) := by decide +kernel
theorem dX11_between_0 : decode cX11_between 0 = .ok (.lload_n 2, 1) := by decide +kernel
theorem dX11_between_1 : decode cX11_between 1 = .ok (.lload 4, 2) := by decide +kernel
theorem dX11_between_3 : decode cX11_between 3 = .ok (.lcmp, 1) := by decide +kernel
theorem dX11_between_4 : decode cX11_between 4 = .ok (.ifCond .gt 24, 3) := by decide +kernel
theorem dX11_between_7 : decode cX11_between 7 = .ok (.lload_n 0, 1) := by decide +kernel
theorem dX11_between_8 : decode cX11_between 8 = .ok (.lload_n 2, 1) := by decide +kernel
theorem dX11_between_9 : decode cX11_between 9 = .ok (.lcmp, 1) := by decide +kernel
theorem dX11_between_10 : decode cX11_between 10 = .ok (.ifCond .lt 14, 3) := by decide +kernel
theorem dX11_between_13 : decode cX11_between 13 = .ok (.lload_n 0, 1) := by decide +kernel
theorem dX11_between_14 : decode cX11_between 14 = .ok (.lload 4, 2) := by decide +kernel
theorem dX11_between_16 : decode cX11_between 16 = .ok (.lcmp, 1) := by decide +kernel
theorem dX11_between_17 : decode cX11_between 17 = .ok (.ifCond .gt 7, 3) := by decide +kernel
theorem dX11_between_20 : decode cX11_between 20 = .ok (.iconst 1, 1) := by decide +kernel
theorem dX11_between_21 : decode cX11_between 21 = .ok (.goto 25, 3) := by decide +kernel
theorem dX11_between_24 : decode cX11_between 24 = .ok (.iconst 0, 1) := by decide +kernel
theorem dX11_between_25 : decode cX11_between 25 = .ok (.goto 21, 3) := by decide +kernel
theorem dX11_between_28 : decode cX11_between 28 = .ok (.lload_n 0, 1) := by decide +kernel
theorem dX11_between_29 : decode cX11_between 29 = .ok (.lload 4, 2) := by decide +kernel
theorem dX11_between_31 : decode cX11_between 31 = .ok (.lcmp, 1) := by decide +kernel
theorem dX11_between_32 : decode cX11_between 32 = .ok (.ifCond .lt 13, 3) := by decide +kernel
theorem dX11_between_35 : decode cX11_between 35 = .ok (.lload_n 0, 1) := by decide +kernel
theorem dX11_between_36 : decode cX11_between 36 = .ok (.lload_n 2, 1) := by decide +kernel
theorem dX11_between_37 : decode cX11_between 37 = .ok (.lcmp, 1) := by decide +kernel
theorem dX11_between_38 : decode cX11_between 38 = .ok (.ifCond .gt 7, 3) := by decide +kernel
theorem dX11_between_41 : decode cX11_between 41 = .ok (.iconst 1, 1) := by decide +kernel
theorem dX11_between_42 : decode cX11_between 42 = .ok (.goto 4, 3) := by decide +kernel
theorem dX11_between_45 : decode cX11_between 45 = .ok (.iconst 0, 1) := by decide +kernel
theorem dX11_between_46 : decode cX11_between 46 = .ok (.ireturn, 1) := by decide +kernel
theorem dX11_onSegment_0 : decode cX11_onSegment 0 = .ok (.lload_n 2, 1) := by decide +kernel
theorem dX11_onSegment_1 : decode cX11_onSegment 1 = .ok (.aload_n 0, 1) := by decide +kernel
theorem dX11_onSegment_2 : decode cX11_onSegment 2 = .ok (.getfield 13, 3) := by decide +kernel
theorem dX11_onSegment_5 : decode cX11_onSegment 5 = .ok (.iload_n 1, 1) := by decide +kernel
theorem dX11_onSegment_6 : decode cX11_onSegment 6 = .ok (.laload, 1) := by decide +kernel
theorem dX11_onSegment_7 : decode cX11_onSegment 7 = .ok (.aload_n 0, 1) := by decide +kernel
theorem dX11_onSegment_8 : decode cX11_onSegment 8 = .ok (.getfield 20, 3) := by decide +kernel
theorem dX11_onSegment_11 : decode cX11_onSegment 11 = .ok (.iload_n 1, 1) := by decide +kernel
theorem dX11_onSegment_12 : decode cX11_onSegment 12 = .ok (.laload, 1) := by decide +kernel
theorem dX11_onSegment_13 : decode cX11_onSegment 13 = .ok (.invokestatic 118, 3) := by decide +kernel
theorem dX11_onSegment_16 : decode cX11_onSegment 16 = .ok (.ifCond .eq 23, 3) := by decide +kernel
theorem dX11_onSegment_19 : decode cX11_onSegment 19 = .ok (.lload 4, 2) := by decide +kernel
theorem dX11_onSegment_21 : decode cX11_onSegment 21 = .ok (.aload_n 0, 1) := by decide +kernel
theorem dX11_onSegment_22 : decode cX11_onSegment 22 = .ok (.getfield 17, 3) := by decide +kernel
theorem dX11_onSegment_25 : decode cX11_onSegment 25 = .ok (.iload_n 1, 1) := by decide +kernel
theorem dX11_onSegment_26 : decode cX11_onSegment 26 = .ok (.laload, 1) := by decide +kernel
theorem dX11_onSegment_27 : decode cX11_onSegment 27 = .ok (.aload_n 0, 1) := by decide +kernel
theorem dX11_onSegment_28 : decode cX11_onSegment 28 = .ok (.getfield 23, 3) := by decide +kernel
theorem dX11_onSegment_31 : decode cX11_onSegment 31 = .ok (.iload_n 1, 1) := by decide +kernel
theorem dX11_onSegment_32 : decode cX11_onSegment 32 = .ok (.laload, 1) := by decide +kernel
theorem dX11_onSegment_33 : decode cX11_onSegment 33 = .ok (.invokestatic 118, 3) := by decide +kernel
theorem dX11_onSegment_36 : decode cX11_onSegment 36 = .ok (.ifCond .ne 5, 3) := by decide +kernel
theorem dX11_onSegment_39 : decode cX11_onSegment 39 = .ok (.iconst 0, 1) := by decide +kernel
theorem dX11_onSegment_40 : decode cX11_onSegment 40 = .ok (.ireturn, 1) := by decide +kernel
theorem dX11_onSegment_41 : decode cX11_onSegment 41 = .ok (.aload_n 0, 1) := by decide +kernel
theorem dX11_onSegment_42 : decode cX11_onSegment 42 = .ok (.aload_n 0, 1) := by decide +kernel
theorem dX11_onSegment_43 : decode cX11_onSegment 43 = .ok (.getfield 13, 3) := by decide +kernel
theorem dX11_onSegment_46 : decode cX11_onSegment 46 = .ok (.iload_n 1, 1) := by decide +kernel
theorem dX11_onSegment_47 : decode cX11_onSegment 47 = .ok (.laload, 1) := by decide +kernel
theorem dX11_onSegment_48 : decode cX11_onSegment 48 = .ok (.aload_n 0, 1) := by decide +kernel
theorem dX11_onSegment_49 : decode cX11_onSegment 49 = .ok (.getfield 17, 3) := by decide +kernel
theorem dX11_onSegment_52 : decode cX11_onSegment 52 = .ok (.iload_n 1, 1) := by decide +kernel
theorem dX11_onSegment_53 : decode cX11_onSegment 53 = .ok (.laload, 1) := by decide +kernel
theorem dX11_onSegment_54 : decode cX11_onSegment 54 = .ok (.aload_n 0, 1) := by decide +kernel
theorem dX11_onSegment_55 : decode cX11_onSegment 55 = .ok (.getfield 20, 3) := by decide +kernel
theorem dX11_onSegment_58 : decode cX11_onSegment 58 = .ok (.iload_n 1, 1) := by decide +kernel
theorem dX11_onSegment_59 : decode cX11_onSegment 59 = .ok (.laload, 1) := by decide +kernel
theorem dX11_onSegment_60 : decode cX11_onSegment 60 = .ok (.aload_n 0, 1) := by decide +kernel
theorem dX11_onSegment_61 : decode cX11_onSegment 61 = .ok (.getfield 23, 3) := by decide +kernel
theorem dX11_onSegment_64 : decode cX11_onSegment 64 = .ok (.iload_n 1, 1) := by decide +kernel
theorem dX11_onSegment_65 : decode cX11_onSegment 65 = .ok (.laload, 1) := by decide +kernel
theorem dX11_onSegment_66 : decode cX11_onSegment 66 = .ok (.lload_n 2, 1) := by decide +kernel
theorem dX11_onSegment_67 : decode cX11_onSegment 67 = .ok (.lload 4, 2) := by decide +kernel
theorem dX11_onSegment_69 : decode cX11_onSegment 69 = .ok (.invokevirtual 105, 3) := by decide +kernel
theorem dX11_onSegment_72 : decode cX11_onSegment 72 = .ok (.ifCond .ne 7, 3) := by decide +kernel
theorem dX11_onSegment_75 : decode cX11_onSegment 75 = .ok (.iconst 1, 1) := by decide +kernel
theorem dX11_onSegment_76 : decode cX11_onSegment 76 = .ok (.goto 4, 3) := by decide +kernel
theorem dX11_onSegment_79 : decode cX11_onSegment 79 = .ok (.iconst 0, 1) := by decide +kernel
theorem dX11_onSegment_80 : decode cX11_onSegment 80 = .ok (.ireturn, 1) := by decide +kernel
theorem dX11_endSide_0 : decode cX11_endSide 0 = .ok (.aload_n 0, 1) := by decide +kernel
theorem dX11_endSide_1 : decode cX11_endSide 1 = .ok (.aload_n 0, 1) := by decide +kernel
theorem dX11_endSide_2 : decode cX11_endSide 2 = .ok (.getfield 13, 3) := by decide +kernel
theorem dX11_endSide_5 : decode cX11_endSide 5 = .ok (.iload_n 1, 1) := by decide +kernel
theorem dX11_endSide_6 : decode cX11_endSide 6 = .ok (.laload, 1) := by decide +kernel
theorem dX11_endSide_7 : decode cX11_endSide 7 = .ok (.aload_n 0, 1) := by decide +kernel
theorem dX11_endSide_8 : decode cX11_endSide 8 = .ok (.getfield 17, 3) := by decide +kernel
theorem dX11_endSide_11 : decode cX11_endSide 11 = .ok (.iload_n 1, 1) := by decide +kernel
theorem dX11_endSide_12 : decode cX11_endSide 12 = .ok (.laload, 1) := by decide +kernel
theorem dX11_endSide_13 : decode cX11_endSide 13 = .ok (.aload_n 0, 1) := by decide +kernel
theorem dX11_endSide_14 : decode cX11_endSide 14 = .ok (.getfield 20, 3) := by decide +kernel
theorem dX11_endSide_17 : decode cX11_endSide 17 = .ok (.iload_n 1, 1) := by decide +kernel
theorem dX11_endSide_18 : decode cX11_endSide 18 = .ok (.laload, 1) := by decide +kernel
theorem dX11_endSide_19 : decode cX11_endSide 19 = .ok (.aload_n 0, 1) := by decide +kernel
theorem dX11_endSide_20 : decode cX11_endSide 20 = .ok (.getfield 23, 3) := by decide +kernel
theorem dX11_endSide_23 : decode cX11_endSide 23 = .ok (.iload_n 1, 1) := by decide +kernel
theorem dX11_endSide_24 : decode cX11_endSide 24 = .ok (.laload, 1) := by decide +kernel
theorem dX11_endSide_25 : decode cX11_endSide 25 = .ok (.iload_n 3, 1) := by decide +kernel
theorem dX11_endSide_26 : decode cX11_endSide 26 = .ok (.ifCond .ne 12, 3) := by decide +kernel
theorem dX11_endSide_29 : decode cX11_endSide 29 = .ok (.aload_n 0, 1) := by decide +kernel
theorem dX11_endSide_30 : decode cX11_endSide 30 = .ok (.getfield 13, 3) := by decide +kernel
theorem dX11_endSide_33 : decode cX11_endSide 33 = .ok (.iload_n 2, 1) := by decide +kernel
theorem dX11_endSide_34 : decode cX11_endSide 34 = .ok (.laload, 1) := by decide +kernel
theorem dX11_endSide_35 : decode cX11_endSide 35 = .ok (.goto 9, 3) := by decide +kernel
theorem dX11_endSide_38 : decode cX11_endSide 38 = .ok (.aload_n 0, 1) := by decide +kernel
theorem dX11_endSide_39 : decode cX11_endSide 39 = .ok (.getfield 20, 3) := by decide +kernel
theorem dX11_endSide_42 : decode cX11_endSide 42 = .ok (.iload_n 2, 1) := by decide +kernel
theorem dX11_endSide_43 : decode cX11_endSide 43 = .ok (.laload, 1) := by decide +kernel
theorem dX11_endSide_44 : decode cX11_endSide 44 = .ok (.iload_n 3, 1) := by decide +kernel
theorem dX11_endSide_45 : decode cX11_endSide 45 = .ok (.ifCond .ne 12, 3) := by decide +kernel
theorem dX11_endSide_48 : decode cX11_endSide 48 = .ok (.aload_n 0, 1) := by decide +kernel
theorem dX11_endSide_49 : decode cX11_endSide 49 = .ok (.getfield 17, 3) := by decide +kernel
theorem dX11_endSide_52 : decode cX11_endSide 52 = .ok (.iload_n 2, 1) := by decide +kernel
theorem dX11_endSide_53 : decode cX11_endSide 53 = .ok (.laload, 1) := by decide +kernel
theorem dX11_endSide_54 : decode cX11_endSide 54 = .ok (.goto 9, 3) := by decide +kernel
theorem dX11_endSide_57 : decode cX11_endSide 57 = .ok (.aload_n 0, 1) := by decide +kernel
theorem dX11_endSide_58 : decode cX11_endSide 58 = .ok (.getfield 23, 3) := by decide +kernel
theorem dX11_endSide_61 : decode cX11_endSide 61 = .ok (.iload_n 2, 1) := by decide +kernel
theorem dX11_endSide_62 : decode cX11_endSide 62 = .ok (.laload, 1) := by decide +kernel
theorem dX11_endSide_63 : decode cX11_endSide 63 = .ok (.invokevirtual 105, 3) := by decide +kernel
theorem dX11_endSide_66 : decode cX11_endSide 66 = .ok (.ireturn, 1) := by decide +kernel
theorem dX11_hasEnd_0 : decode cX11_hasEnd 0 = .ok (.aload_n 0, 1) := by decide +kernel
theorem dX11_hasEnd_1 : decode cX11_hasEnd 1 = .ok (.iload_n 1, 1) := by decide +kernel
theorem dX11_hasEnd_2 : decode cX11_hasEnd 2 = .ok (.iload_n 3, 1) := by decide +kernel
theorem dX11_hasEnd_3 : decode cX11_hasEnd 3 = .ok (.ifCond .ne 12, 3) := by decide +kernel
theorem dX11_hasEnd_6 : decode cX11_hasEnd 6 = .ok (.aload_n 0, 1) := by decide +kernel
theorem dX11_hasEnd_7 : decode cX11_hasEnd 7 = .ok (.getfield 13, 3) := by decide +kernel
theorem dX11_hasEnd_10 : decode cX11_hasEnd 10 = .ok (.iload_n 2, 1) := by decide +kernel
theorem dX11_hasEnd_11 : decode cX11_hasEnd 11 = .ok (.laload, 1) := by decide +kernel
theorem dX11_hasEnd_12 : decode cX11_hasEnd 12 = .ok (.goto 9, 3) := by decide +kernel
theorem dX11_hasEnd_15 : decode cX11_hasEnd 15 = .ok (.aload_n 0, 1) := by decide +kernel
theorem dX11_hasEnd_16 : decode cX11_hasEnd 16 = .ok (.getfield 20, 3) := by decide +kernel
theorem dX11_hasEnd_19 : decode cX11_hasEnd 19 = .ok (.iload_n 2, 1) := by decide +kernel
theorem dX11_hasEnd_20 : decode cX11_hasEnd 20 = .ok (.laload, 1) := by decide +kernel
theorem dX11_hasEnd_21 : decode cX11_hasEnd 21 = .ok (.iload_n 3, 1) := by decide +kernel
theorem dX11_hasEnd_22 : decode cX11_hasEnd 22 = .ok (.ifCond .ne 12, 3) := by decide +kernel
theorem dX11_hasEnd_25 : decode cX11_hasEnd 25 = .ok (.aload_n 0, 1) := by decide +kernel
theorem dX11_hasEnd_26 : decode cX11_hasEnd 26 = .ok (.getfield 17, 3) := by decide +kernel
theorem dX11_hasEnd_29 : decode cX11_hasEnd 29 = .ok (.iload_n 2, 1) := by decide +kernel
theorem dX11_hasEnd_30 : decode cX11_hasEnd 30 = .ok (.laload, 1) := by decide +kernel
theorem dX11_hasEnd_31 : decode cX11_hasEnd 31 = .ok (.goto 9, 3) := by decide +kernel
theorem dX11_hasEnd_34 : decode cX11_hasEnd 34 = .ok (.aload_n 0, 1) := by decide +kernel
theorem dX11_hasEnd_35 : decode cX11_hasEnd 35 = .ok (.getfield 23, 3) := by decide +kernel
theorem dX11_hasEnd_38 : decode cX11_hasEnd 38 = .ok (.iload_n 2, 1) := by decide +kernel
theorem dX11_hasEnd_39 : decode cX11_hasEnd 39 = .ok (.laload, 1) := by decide +kernel
theorem dX11_hasEnd_40 : decode cX11_hasEnd 40 = .ok (.invokevirtual 122, 3) := by decide +kernel
theorem dX11_hasEnd_43 : decode cX11_hasEnd 43 = .ok (.ireturn, 1) := by decide +kernel
theorem dX11_meet_0 : decode cX11_meet 0 = .ok (.aload_n 0, 1) := by decide +kernel
theorem dX11_meet_1 : decode cX11_meet 1 = .ok (.iload_n 1, 1) := by decide +kernel
theorem dX11_meet_2 : decode cX11_meet 2 = .ok (.iload_n 2, 1) := by decide +kernel
theorem dX11_meet_3 : decode cX11_meet 3 = .ok (.iconst 0, 1) := by decide +kernel
theorem dX11_meet_4 : decode cX11_meet 4 = .ok (.invokevirtual 126, 3) := by decide +kernel
theorem dX11_meet_7 : decode cX11_meet 7 = .ok (.ifCond .ne 33, 3) := by decide +kernel
theorem dX11_meet_10 : decode cX11_meet 10 = .ok (.aload_n 0, 1) := by decide +kernel
theorem dX11_meet_11 : decode cX11_meet 11 = .ok (.iload_n 1, 1) := by decide +kernel
theorem dX11_meet_12 : decode cX11_meet 12 = .ok (.iload_n 2, 1) := by decide +kernel
theorem dX11_meet_13 : decode cX11_meet 13 = .ok (.iconst 1, 1) := by decide +kernel
theorem dX11_meet_14 : decode cX11_meet 14 = .ok (.invokevirtual 126, 3) := by decide +kernel
theorem dX11_meet_17 : decode cX11_meet 17 = .ok (.ifCond .ne 23, 3) := by decide +kernel
theorem dX11_meet_20 : decode cX11_meet 20 = .ok (.aload_n 0, 1) := by decide +kernel
theorem dX11_meet_21 : decode cX11_meet 21 = .ok (.iload_n 2, 1) := by decide +kernel
theorem dX11_meet_22 : decode cX11_meet 22 = .ok (.iload_n 1, 1) := by decide +kernel
theorem dX11_meet_23 : decode cX11_meet 23 = .ok (.iconst 0, 1) := by decide +kernel
theorem dX11_meet_24 : decode cX11_meet 24 = .ok (.invokevirtual 126, 3) := by decide +kernel
theorem dX11_meet_27 : decode cX11_meet 27 = .ok (.ifCond .ne 13, 3) := by decide +kernel
theorem dX11_meet_30 : decode cX11_meet 30 = .ok (.aload_n 0, 1) := by decide +kernel
theorem dX11_meet_31 : decode cX11_meet 31 = .ok (.iload_n 2, 1) := by decide +kernel
theorem dX11_meet_32 : decode cX11_meet 32 = .ok (.iload_n 1, 1) := by decide +kernel
theorem dX11_meet_33 : decode cX11_meet 33 = .ok (.iconst 1, 1) := by decide +kernel
theorem dX11_meet_34 : decode cX11_meet 34 = .ok (.invokevirtual 126, 3) := by decide +kernel
theorem dX11_meet_37 : decode cX11_meet 37 = .ok (.ifCond .eq 5, 3) := by decide +kernel
theorem dX11_meet_40 : decode cX11_meet 40 = .ok (.iconst 1, 1) := by decide +kernel
theorem dX11_meet_41 : decode cX11_meet 41 = .ok (.ireturn, 1) := by decide +kernel
theorem dX11_meet_42 : decode cX11_meet 42 = .ok (.aload_n 0, 1) := by decide +kernel
theorem dX11_meet_43 : decode cX11_meet 43 = .ok (.iload_n 1, 1) := by decide +kernel
theorem dX11_meet_44 : decode cX11_meet 44 = .ok (.iload_n 2, 1) := by decide +kernel
theorem dX11_meet_45 : decode cX11_meet 45 = .ok (.iconst 0, 1) := by decide +kernel
theorem dX11_meet_46 : decode cX11_meet 46 = .ok (.invokevirtual 130, 3) := by decide +kernel
theorem dX11_meet_49 : decode cX11_meet 49 = .ok (.aload_n 0, 1) := by decide +kernel
theorem dX11_meet_50 : decode cX11_meet 50 = .ok (.iload_n 1, 1) := by decide +kernel
theorem dX11_meet_51 : decode cX11_meet 51 = .ok (.iload_n 2, 1) := by decide +kernel
theorem dX11_meet_52 : decode cX11_meet 52 = .ok (.iconst 1, 1) := by decide +kernel
theorem dX11_meet_53 : decode cX11_meet 53 = .ok (.invokevirtual 130, 3) := by decide +kernel
theorem dX11_meet_56 : decode cX11_meet 56 = .ok (.imul, 1) := by decide +kernel
theorem dX11_meet_57 : decode cX11_meet 57 = .ok (.ifCond .ge 25, 3) := by decide +kernel
theorem dX11_meet_60 : decode cX11_meet 60 = .ok (.aload_n 0, 1) := by decide +kernel
theorem dX11_meet_61 : decode cX11_meet 61 = .ok (.iload_n 2, 1) := by decide +kernel
theorem dX11_meet_62 : decode cX11_meet 62 = .ok (.iload_n 1, 1) := by decide +kernel
theorem dX11_meet_63 : decode cX11_meet 63 = .ok (.iconst 0, 1) := by decide +kernel
theorem dX11_meet_64 : decode cX11_meet 64 = .ok (.invokevirtual 130, 3) := by decide +kernel
theorem dX11_meet_67 : decode cX11_meet 67 = .ok (.aload_n 0, 1) := by decide +kernel
theorem dX11_meet_68 : decode cX11_meet 68 = .ok (.iload_n 2, 1) := by decide +kernel
theorem dX11_meet_69 : decode cX11_meet 69 = .ok (.iload_n 1, 1) := by decide +kernel
theorem dX11_meet_70 : decode cX11_meet 70 = .ok (.iconst 1, 1) := by decide +kernel
theorem dX11_meet_71 : decode cX11_meet 71 = .ok (.invokevirtual 130, 3) := by decide +kernel
theorem dX11_meet_74 : decode cX11_meet 74 = .ok (.imul, 1) := by decide +kernel
theorem dX11_meet_75 : decode cX11_meet 75 = .ok (.ifCond .ge 7, 3) := by decide +kernel
theorem dX11_meet_78 : decode cX11_meet 78 = .ok (.iconst 1, 1) := by decide +kernel
theorem dX11_meet_79 : decode cX11_meet 79 = .ok (.goto 4, 3) := by decide +kernel
theorem dX11_meet_82 : decode cX11_meet 82 = .ok (.iconst 0, 1) := by decide +kernel
theorem dX11_meet_83 : decode cX11_meet 83 = .ok (.ireturn, 1) := by decide +kernel
theorem dX11_placeFrom_0 : decode cX11_placeFrom 0 = .ok (.aload_n 0, 1) := by decide +kernel
theorem dX11_placeFrom_1 : decode cX11_placeFrom 1 = .ok (.getfield 20, 3) := by decide +kernel
theorem dX11_placeFrom_4 : decode cX11_placeFrom 4 = .ok (.iload_n 1, 1) := by decide +kernel
theorem dX11_placeFrom_5 : decode cX11_placeFrom 5 = .ok (.laload, 1) := by decide +kernel
theorem dX11_placeFrom_6 : decode cX11_placeFrom 6 = .ok (.aload_n 0, 1) := by decide +kernel
theorem dX11_placeFrom_7 : decode cX11_placeFrom 7 = .ok (.getfield 13, 3) := by decide +kernel
theorem dX11_placeFrom_10 : decode cX11_placeFrom 10 = .ok (.iload_n 1, 1) := by decide +kernel
theorem dX11_placeFrom_11 : decode cX11_placeFrom 11 = .ok (.laload, 1) := by decide +kernel
theorem dX11_placeFrom_12 : decode cX11_placeFrom 12 = .ok (.lsub, 1) := by decide +kernel
theorem dX11_placeFrom_13 : decode cX11_placeFrom 13 = .ok (.lstore 6, 2) := by decide +kernel
theorem dX11_placeFrom_15 : decode cX11_placeFrom 15 = .ok (.aload_n 0, 1) := by decide +kernel
theorem dX11_placeFrom_16 : decode cX11_placeFrom 16 = .ok (.getfield 23, 3) := by decide +kernel
theorem dX11_placeFrom_19 : decode cX11_placeFrom 19 = .ok (.iload_n 1, 1) := by decide +kernel
theorem dX11_placeFrom_20 : decode cX11_placeFrom 20 = .ok (.laload, 1) := by decide +kernel
theorem dX11_placeFrom_21 : decode cX11_placeFrom 21 = .ok (.aload_n 0, 1) := by decide +kernel
theorem dX11_placeFrom_22 : decode cX11_placeFrom 22 = .ok (.getfield 17, 3) := by decide +kernel
theorem dX11_placeFrom_25 : decode cX11_placeFrom 25 = .ok (.iload_n 1, 1) := by decide +kernel
theorem dX11_placeFrom_26 : decode cX11_placeFrom 26 = .ok (.laload, 1) := by decide +kernel
theorem dX11_placeFrom_27 : decode cX11_placeFrom 27 = .ok (.lsub, 1) := by decide +kernel
theorem dX11_placeFrom_28 : decode cX11_placeFrom 28 = .ok (.lstore 8, 2) := by decide +kernel
theorem dX11_placeFrom_30 : decode cX11_placeFrom 30 = .ok (.lload_n 2, 1) := by decide +kernel
theorem dX11_placeFrom_31 : decode cX11_placeFrom 31 = .ok (.aload_n 0, 1) := by decide +kernel
theorem dX11_placeFrom_32 : decode cX11_placeFrom 32 = .ok (.getfield 13, 3) := by decide +kernel
theorem dX11_placeFrom_35 : decode cX11_placeFrom 35 = .ok (.iload_n 1, 1) := by decide +kernel
theorem dX11_placeFrom_36 : decode cX11_placeFrom 36 = .ok (.laload, 1) := by decide +kernel
theorem dX11_placeFrom_37 : decode cX11_placeFrom 37 = .ok (.lsub, 1) := by decide +kernel
theorem dX11_placeFrom_38 : decode cX11_placeFrom 38 = .ok (.lstore 10, 2) := by decide +kernel
theorem dX11_placeFrom_40 : decode cX11_placeFrom 40 = .ok (.lload 4, 2) := by decide +kernel
theorem dX11_placeFrom_42 : decode cX11_placeFrom 42 = .ok (.aload_n 0, 1) := by decide +kernel
theorem dX11_placeFrom_43 : decode cX11_placeFrom 43 = .ok (.getfield 17, 3) := by decide +kernel
theorem dX11_placeFrom_46 : decode cX11_placeFrom 46 = .ok (.iload_n 1, 1) := by decide +kernel
theorem dX11_placeFrom_47 : decode cX11_placeFrom 47 = .ok (.laload, 1) := by decide +kernel
theorem dX11_placeFrom_48 : decode cX11_placeFrom 48 = .ok (.lsub, 1) := by decide +kernel
theorem dX11_placeFrom_49 : decode cX11_placeFrom 49 = .ok (.lstore 12, 2) := by decide +kernel
theorem dX11_placeFrom_51 : decode cX11_placeFrom 51 = .ok (.aload_n 0, 1) := by decide +kernel
theorem dX11_placeFrom_52 : decode cX11_placeFrom 52 = .ok (.iconst 4, 1) := by decide +kernel
theorem dX11_placeFrom_53 : decode cX11_placeFrom 53 = .ok (.lload 6, 2) := by decide +kernel
theorem dX11_placeFrom_55 : decode cX11_placeFrom 55 = .ok (.lload 10, 2) := by decide +kernel
theorem dX11_placeFrom_57 : decode cX11_placeFrom 57 = .ok (.lload 8, 2) := by decide +kernel
theorem dX11_placeFrom_59 : decode cX11_placeFrom 59 = .ok (.lload 12, 2) := by decide +kernel
theorem dX11_placeFrom_61 : decode cX11_placeFrom 61 = .ok (.iconst 0, 1) := by decide +kernel
theorem dX11_placeFrom_62 : decode cX11_placeFrom 62 = .ok (.invokevirtual 97, 3) := by decide +kernel
theorem dX11_placeFrom_65 : decode cX11_placeFrom 65 = .ok (.aload_n 0, 1) := by decide +kernel
theorem dX11_placeFrom_66 : decode cX11_placeFrom 66 = .ok (.iconst 5, 1) := by decide +kernel
theorem dX11_placeFrom_67 : decode cX11_placeFrom 67 = .ok (.lload 6, 2) := by decide +kernel
theorem dX11_placeFrom_69 : decode cX11_placeFrom 69 = .ok (.lload 6, 2) := by decide +kernel
theorem dX11_placeFrom_71 : decode cX11_placeFrom 71 = .ok (.lload 8, 2) := by decide +kernel
theorem dX11_placeFrom_73 : decode cX11_placeFrom 73 = .ok (.lload 8, 2) := by decide +kernel
theorem dX11_placeFrom_75 : decode cX11_placeFrom 75 = .ok (.iconst 0, 1) := by decide +kernel
theorem dX11_placeFrom_76 : decode cX11_placeFrom 76 = .ok (.invokevirtual 97, 3) := by decide +kernel
theorem dX11_placeFrom_79 : decode cX11_placeFrom 79 = .ok (.aload_n 0, 1) := by decide +kernel
theorem dX11_placeFrom_80 : decode cX11_placeFrom 80 = .ok (.iconst 4, 1) := by decide +kernel
theorem dX11_placeFrom_81 : decode cX11_placeFrom 81 = .ok (.invokevirtual 78, 3) := by decide +kernel
theorem dX11_placeFrom_84 : decode cX11_placeFrom 84 = .ok (.ifCond .le 42, 3) := by decide +kernel
theorem dX11_placeFrom_87 : decode cX11_placeFrom 87 = .ok (.aload_n 0, 1) := by decide +kernel
theorem dX11_placeFrom_88 : decode cX11_placeFrom 88 = .ok (.iconst 4, 1) := by decide +kernel
theorem dX11_placeFrom_89 : decode cX11_placeFrom 89 = .ok (.iconst 5, 1) := by decide +kernel
theorem dX11_placeFrom_90 : decode cX11_placeFrom 90 = .ok (.invokevirtual 62, 3) := by decide +kernel
theorem dX11_placeFrom_93 : decode cX11_placeFrom 93 = .ok (.ifCond .ge 33, 3) := by decide +kernel
theorem dX11_placeFrom_96 : decode cX11_placeFrom 96 = .ok (.aload_n 0, 1) := by decide +kernel
theorem dX11_placeFrom_97 : decode cX11_placeFrom 97 = .ok (.iconst 4, 1) := by decide +kernel
theorem dX11_placeFrom_98 : decode cX11_placeFrom 98 = .ok (.lload 6, 2) := by decide +kernel
theorem dX11_placeFrom_100 : decode cX11_placeFrom 100 = .ok (.lload 12, 2) := by decide +kernel
theorem dX11_placeFrom_102 : decode cX11_placeFrom 102 = .ok (.lload 8, 2) := by decide +kernel
theorem dX11_placeFrom_104 : decode cX11_placeFrom 104 = .ok (.lload 10, 2) := by decide +kernel
theorem dX11_placeFrom_106 : decode cX11_placeFrom 106 = .ok (.iconst 1, 1) := by decide +kernel
theorem dX11_placeFrom_107 : decode cX11_placeFrom 107 = .ok (.invokevirtual 97, 3) := by decide +kernel
theorem dX11_placeFrom_110 : decode cX11_placeFrom 110 = .ok (.aload_n 0, 1) := by decide +kernel
theorem dX11_placeFrom_111 : decode cX11_placeFrom 111 = .ok (.bipush 6, 2) := by decide +kernel
theorem dX11_placeFrom_113 : decode cX11_placeFrom 113 = .ok (.iconst 4, 1) := by decide +kernel
theorem dX11_placeFrom_114 : decode cX11_placeFrom 114 = .ok (.iconst 4, 1) := by decide +kernel
theorem dX11_placeFrom_115 : decode cX11_placeFrom 115 = .ok (.invokevirtual 93, 3) := by decide +kernel
theorem dX11_placeFrom_118 : decode cX11_placeFrom 118 = .ok (.aload_n 0, 1) := by decide +kernel
theorem dX11_placeFrom_119 : decode cX11_placeFrom 119 = .ok (.bipush 7, 2) := by decide +kernel
theorem dX11_placeFrom_121 : decode cX11_placeFrom 121 = .ok (.iconst 5, 1) := by decide +kernel
theorem dX11_placeFrom_122 : decode cX11_placeFrom 122 = .ok (.invokevirtual 86, 3) := by decide +kernel
theorem dX11_placeFrom_125 : decode cX11_placeFrom 125 = .ok (.return_, 1) := by decide +kernel
theorem dX11_placeFrom_126 : decode cX11_placeFrom 126 = .ok (.aload_n 0, 1) := by decide +kernel
theorem dX11_placeFrom_127 : decode cX11_placeFrom 127 = .ok (.iconst 4, 1) := by decide +kernel
theorem dX11_placeFrom_128 : decode cX11_placeFrom 128 = .ok (.invokevirtual 78, 3) := by decide +kernel
theorem dX11_placeFrom_131 : decode cX11_placeFrom 131 = .ok (.ifCond .gt 7, 3) := by decide +kernel
theorem dX11_placeFrom_134 : decode cX11_placeFrom 134 = .ok (.iconst 1, 1) := by decide +kernel
theorem dX11_placeFrom_135 : decode cX11_placeFrom 135 = .ok (.goto 4, 3) := by decide +kernel
theorem dX11_placeFrom_138 : decode cX11_placeFrom 138 = .ok (.iconst 0, 1) := by decide +kernel
theorem dX11_placeFrom_139 : decode cX11_placeFrom 139 = .ok (.istore 14, 2) := by decide +kernel
theorem dX11_placeFrom_141 : decode cX11_placeFrom 141 = .ok (.iload 14, 2) := by decide +kernel
theorem dX11_placeFrom_143 : decode cX11_placeFrom 143 = .ok (.ifCond .eq 8, 3) := by decide +kernel
theorem dX11_placeFrom_146 : decode cX11_placeFrom 146 = .ok (.lload 10, 2) := by decide +kernel
theorem dX11_placeFrom_148 : decode cX11_placeFrom 148 = .ok (.goto 11, 3) := by decide +kernel
theorem dX11_placeFrom_151 : decode cX11_placeFrom 151 = .ok (.lload_n 2, 1) := by decide +kernel
theorem dX11_placeFrom_152 : decode cX11_placeFrom 152 = .ok (.aload_n 0, 1) := by decide +kernel
theorem dX11_placeFrom_153 : decode cX11_placeFrom 153 = .ok (.getfield 20, 3) := by decide +kernel
theorem dX11_placeFrom_156 : decode cX11_placeFrom 156 = .ok (.iload_n 1, 1) := by decide +kernel
theorem dX11_placeFrom_157 : decode cX11_placeFrom 157 = .ok (.laload, 1) := by decide +kernel
theorem dX11_placeFrom_158 : decode cX11_placeFrom 158 = .ok (.lsub, 1) := by decide +kernel
theorem dX11_placeFrom_159 : decode cX11_placeFrom 159 = .ok (.lstore 15, 2) := by decide +kernel
theorem dX11_placeFrom_161 : decode cX11_placeFrom 161 = .ok (.iload 14, 2) := by decide +kernel
theorem dX11_placeFrom_163 : decode cX11_placeFrom 163 = .ok (.ifCond .eq 8, 3) := by decide +kernel
theorem dX11_placeFrom_166 : decode cX11_placeFrom 166 = .ok (.lload 12, 2) := by decide +kernel
theorem dX11_placeFrom_168 : decode cX11_placeFrom 168 = .ok (.goto 12, 3) := by decide +kernel
theorem dX11_placeFrom_171 : decode cX11_placeFrom 171 = .ok (.lload 4, 2) := by decide +kernel
theorem dX11_placeFrom_173 : decode cX11_placeFrom 173 = .ok (.aload_n 0, 1) := by decide +kernel
theorem dX11_placeFrom_174 : decode cX11_placeFrom 174 = .ok (.getfield 23, 3) := by decide +kernel
theorem dX11_placeFrom_177 : decode cX11_placeFrom 177 = .ok (.iload_n 1, 1) := by decide +kernel
theorem dX11_placeFrom_178 : decode cX11_placeFrom 178 = .ok (.laload, 1) := by decide +kernel
theorem dX11_placeFrom_179 : decode cX11_placeFrom 179 = .ok (.lsub, 1) := by decide +kernel
theorem dX11_placeFrom_180 : decode cX11_placeFrom 180 = .ok (.lstore 17, 2) := by decide +kernel
theorem dX11_placeFrom_182 : decode cX11_placeFrom 182 = .ok (.aload_n 0, 1) := by decide +kernel
theorem dX11_placeFrom_183 : decode cX11_placeFrom 183 = .ok (.bipush 6, 2) := by decide +kernel
theorem dX11_placeFrom_185 : decode cX11_placeFrom 185 = .ok (.lload 15, 2) := by decide +kernel
theorem dX11_placeFrom_187 : decode cX11_placeFrom 187 = .ok (.lload 15, 2) := by decide +kernel
theorem dX11_placeFrom_189 : decode cX11_placeFrom 189 = .ok (.lload 17, 2) := by decide +kernel
theorem dX11_placeFrom_191 : decode cX11_placeFrom 191 = .ok (.lload 17, 2) := by decide +kernel
theorem dX11_placeFrom_193 : decode cX11_placeFrom 193 = .ok (.iconst 0, 1) := by decide +kernel
theorem dX11_placeFrom_194 : decode cX11_placeFrom 194 = .ok (.invokevirtual 97, 3) := by decide +kernel
theorem dX11_placeFrom_197 : decode cX11_placeFrom 197 = .ok (.aload_n 0, 1) := by decide +kernel
theorem dX11_placeFrom_198 : decode cX11_placeFrom 198 = .ok (.bipush 7, 2) := by decide +kernel
theorem dX11_placeFrom_200 : decode cX11_placeFrom 200 = .ok (.lconst 1, 1) := by decide +kernel
theorem dX11_placeFrom_201 : decode cX11_placeFrom 201 = .ok (.invokevirtual 67, 3) := by decide +kernel
theorem dX11_placeFrom_204 : decode cX11_placeFrom 204 = .ok (.return_, 1) := by decide +kernel
theorem dX11_nearest_0 : decode cX11_nearest 0 = .ok (.aload_n 0, 1) := by decide +kernel
theorem dX11_nearest_1 : decode cX11_nearest 1 = .ok (.iload_n 1, 1) := by decide +kernel
theorem dX11_nearest_2 : decode cX11_nearest 2 = .ok (.iload_n 3, 1) := by decide +kernel
theorem dX11_nearest_3 : decode cX11_nearest 3 = .ok (.ifCond .ne 12, 3) := by decide +kernel
theorem dX11_nearest_6 : decode cX11_nearest 6 = .ok (.aload_n 0, 1) := by decide +kernel
theorem dX11_nearest_7 : decode cX11_nearest 7 = .ok (.getfield 13, 3) := by decide +kernel
theorem dX11_nearest_10 : decode cX11_nearest 10 = .ok (.iload_n 2, 1) := by decide +kernel
theorem dX11_nearest_11 : decode cX11_nearest 11 = .ok (.laload, 1) := by decide +kernel
theorem dX11_nearest_12 : decode cX11_nearest 12 = .ok (.goto 9, 3) := by decide +kernel
theorem dX11_nearest_15 : decode cX11_nearest 15 = .ok (.aload_n 0, 1) := by decide +kernel
theorem dX11_nearest_16 : decode cX11_nearest 16 = .ok (.getfield 20, 3) := by decide +kernel
theorem dX11_nearest_19 : decode cX11_nearest 19 = .ok (.iload_n 2, 1) := by decide +kernel
theorem dX11_nearest_20 : decode cX11_nearest 20 = .ok (.laload, 1) := by decide +kernel
theorem dX11_nearest_21 : decode cX11_nearest 21 = .ok (.iload_n 3, 1) := by decide +kernel
theorem dX11_nearest_22 : decode cX11_nearest 22 = .ok (.ifCond .ne 12, 3) := by decide +kernel
theorem dX11_nearest_25 : decode cX11_nearest 25 = .ok (.aload_n 0, 1) := by decide +kernel
theorem dX11_nearest_26 : decode cX11_nearest 26 = .ok (.getfield 17, 3) := by decide +kernel
theorem dX11_nearest_29 : decode cX11_nearest 29 = .ok (.iload_n 2, 1) := by decide +kernel
theorem dX11_nearest_30 : decode cX11_nearest 30 = .ok (.laload, 1) := by decide +kernel
theorem dX11_nearest_31 : decode cX11_nearest 31 = .ok (.goto 9, 3) := by decide +kernel
theorem dX11_nearest_34 : decode cX11_nearest 34 = .ok (.aload_n 0, 1) := by decide +kernel
theorem dX11_nearest_35 : decode cX11_nearest 35 = .ok (.getfield 23, 3) := by decide +kernel
theorem dX11_nearest_38 : decode cX11_nearest 38 = .ok (.iload_n 2, 1) := by decide +kernel
theorem dX11_nearest_39 : decode cX11_nearest 39 = .ok (.laload, 1) := by decide +kernel
theorem dX11_nearest_40 : decode cX11_nearest 40 = .ok (.invokevirtual 134, 3) := by decide +kernel
theorem dX11_nearest_43 : decode cX11_nearest 43 = .ok (.aload_n 0, 1) := by decide +kernel
theorem dX11_nearest_44 : decode cX11_nearest 44 = .ok (.bipush 10, 2) := by decide +kernel
theorem dX11_nearest_46 : decode cX11_nearest 46 = .ok (.bipush 6, 2) := by decide +kernel
theorem dX11_nearest_48 : decode cX11_nearest 48 = .ok (.bipush 9, 2) := by decide +kernel
theorem dX11_nearest_50 : decode cX11_nearest 50 = .ok (.invokevirtual 93, 3) := by decide +kernel
theorem dX11_nearest_53 : decode cX11_nearest 53 = .ok (.aload_n 0, 1) := by decide +kernel
theorem dX11_nearest_54 : decode cX11_nearest 54 = .ok (.bipush 11, 2) := by decide +kernel
theorem dX11_nearest_56 : decode cX11_nearest 56 = .ok (.bipush 8, 2) := by decide +kernel
theorem dX11_nearest_58 : decode cX11_nearest 58 = .ok (.bipush 7, 2) := by decide +kernel
theorem dX11_nearest_60 : decode cX11_nearest 60 = .ok (.invokevirtual 93, 3) := by decide +kernel
theorem dX11_nearest_63 : decode cX11_nearest 63 = .ok (.aload_n 0, 1) := by decide +kernel
theorem dX11_nearest_64 : decode cX11_nearest 64 = .ok (.bipush 10, 2) := by decide +kernel
theorem dX11_nearest_66 : decode cX11_nearest 66 = .ok (.bipush 11, 2) := by decide +kernel
theorem dX11_nearest_68 : decode cX11_nearest 68 = .ok (.invokevirtual 62, 3) := by decide +kernel
theorem dX11_nearest_71 : decode cX11_nearest 71 = .ok (.ifCond .lt 4, 3) := by decide +kernel
theorem dX11_nearest_74 : decode cX11_nearest 74 = .ok (.return_, 1) := by decide +kernel
theorem dX11_nearest_75 : decode cX11_nearest 75 = .ok (.aload_n 0, 1) := by decide +kernel
theorem dX11_nearest_76 : decode cX11_nearest 76 = .ok (.bipush 8, 2) := by decide +kernel
theorem dX11_nearest_78 : decode cX11_nearest 78 = .ok (.bipush 6, 2) := by decide +kernel
theorem dX11_nearest_80 : decode cX11_nearest 80 = .ok (.invokevirtual 86, 3) := by decide +kernel
theorem dX11_nearest_83 : decode cX11_nearest 83 = .ok (.aload_n 0, 1) := by decide +kernel
theorem dX11_nearest_84 : decode cX11_nearest 84 = .ok (.bipush 9, 2) := by decide +kernel
theorem dX11_nearest_86 : decode cX11_nearest 86 = .ok (.bipush 7, 2) := by decide +kernel
theorem dX11_nearest_88 : decode cX11_nearest 88 = .ok (.invokevirtual 86, 3) := by decide +kernel
theorem dX11_nearest_91 : decode cX11_nearest 91 = .ok (.return_, 1) := by decide +kernel
theorem dX11_reduce_0 : decode cX11_reduce 0 = .ok (.aload_n 0, 1) := by decide +kernel
theorem dX11_reduce_1 : decode cX11_reduce 1 = .ok (.iconst 4, 1) := by decide +kernel
theorem dX11_reduce_2 : decode cX11_reduce 2 = .ok (.bipush 8, 2) := by decide +kernel
theorem dX11_reduce_4 : decode cX11_reduce 4 = .ok (.invokevirtual 86, 3) := by decide +kernel
theorem dX11_reduce_7 : decode cX11_reduce 7 = .ok (.aload_n 0, 1) := by decide +kernel
theorem dX11_reduce_8 : decode cX11_reduce 8 = .ok (.iconst 5, 1) := by decide +kernel
theorem dX11_reduce_9 : decode cX11_reduce 9 = .ok (.bipush 9, 2) := by decide +kernel
theorem dX11_reduce_11 : decode cX11_reduce 11 = .ok (.invokevirtual 86, 3) := by decide +kernel
theorem dX11_reduce_14 : decode cX11_reduce 14 = .ok (.aload_n 0, 1) := by decide +kernel
theorem dX11_reduce_15 : decode cX11_reduce 15 = .ok (.iconst 5, 1) := by decide +kernel
theorem dX11_reduce_16 : decode cX11_reduce 16 = .ok (.invokevirtual 78, 3) := by decide +kernel
theorem dX11_reduce_19 : decode cX11_reduce 19 = .ok (.ifCond .eq 27, 3) := by decide +kernel
theorem dX11_reduce_22 : decode cX11_reduce 22 = .ok (.aload_n 0, 1) := by decide +kernel
theorem dX11_reduce_23 : decode cX11_reduce 23 = .ok (.bipush 6, 2) := by decide +kernel
theorem dX11_reduce_25 : decode cX11_reduce 25 = .ok (.iconst 4, 1) := by decide +kernel
theorem dX11_reduce_26 : decode cX11_reduce 26 = .ok (.iconst 5, 1) := by decide +kernel
theorem dX11_reduce_27 : decode cX11_reduce 27 = .ok (.invokevirtual 138, 3) := by decide +kernel
theorem dX11_reduce_30 : decode cX11_reduce 30 = .ok (.aload_n 0, 1) := by decide +kernel
theorem dX11_reduce_31 : decode cX11_reduce 31 = .ok (.iconst 4, 1) := by decide +kernel
theorem dX11_reduce_32 : decode cX11_reduce 32 = .ok (.iconst 5, 1) := by decide +kernel
theorem dX11_reduce_33 : decode cX11_reduce 33 = .ok (.invokevirtual 86, 3) := by decide +kernel
theorem dX11_reduce_36 : decode cX11_reduce 36 = .ok (.aload_n 0, 1) := by decide +kernel
theorem dX11_reduce_37 : decode cX11_reduce 37 = .ok (.iconst 5, 1) := by decide +kernel
theorem dX11_reduce_38 : decode cX11_reduce 38 = .ok (.bipush 12, 2) := by decide +kernel
theorem dX11_reduce_40 : decode cX11_reduce 40 = .ok (.invokevirtual 86, 3) := by decide +kernel
theorem dX11_reduce_43 : decode cX11_reduce 43 = .ok (.goto (-29), 3) := by decide +kernel
theorem dX11_reduce_46 : decode cX11_reduce 46 = .ok (.aload_n 0, 1) := by decide +kernel
theorem dX11_reduce_47 : decode cX11_reduce 47 = .ok (.bipush 6, 2) := by decide +kernel
theorem dX11_reduce_49 : decode cX11_reduce 49 = .ok (.bipush 8, 2) := by decide +kernel
theorem dX11_reduce_51 : decode cX11_reduce 51 = .ok (.iconst 4, 1) := by decide +kernel
theorem dX11_reduce_52 : decode cX11_reduce 52 = .ok (.invokevirtual 138, 3) := by decide +kernel
theorem dX11_reduce_55 : decode cX11_reduce 55 = .ok (.aload_n 0, 1) := by decide +kernel
theorem dX11_reduce_56 : decode cX11_reduce 56 = .ok (.bipush 7, 2) := by decide +kernel
theorem dX11_reduce_58 : decode cX11_reduce 58 = .ok (.bipush 9, 2) := by decide +kernel
theorem dX11_reduce_60 : decode cX11_reduce 60 = .ok (.iconst 4, 1) := by decide +kernel
theorem dX11_reduce_61 : decode cX11_reduce 61 = .ok (.invokevirtual 138, 3) := by decide +kernel
theorem dX11_reduce_64 : decode cX11_reduce 64 = .ok (.aload_n 0, 1) := by decide +kernel
theorem dX11_reduce_65 : decode cX11_reduce 65 = .ok (.bipush 8, 2) := by decide +kernel
theorem dX11_reduce_67 : decode cX11_reduce 67 = .ok (.bipush 6, 2) := by decide +kernel
theorem dX11_reduce_69 : decode cX11_reduce 69 = .ok (.invokevirtual 86, 3) := by decide +kernel
theorem dX11_reduce_72 : decode cX11_reduce 72 = .ok (.aload_n 0, 1) := by decide +kernel
theorem dX11_reduce_73 : decode cX11_reduce 73 = .ok (.bipush 9, 2) := by decide +kernel
theorem dX11_reduce_75 : decode cX11_reduce 75 = .ok (.bipush 7, 2) := by decide +kernel
theorem dX11_reduce_77 : decode cX11_reduce 77 = .ok (.invokevirtual 86, 3) := by decide +kernel
theorem dX11_reduce_80 : decode cX11_reduce 80 = .ok (.return_, 1) := by decide +kernel
theorem dX11_distance_0 : decode cX11_distance 0 = .ok (.aload_n 0, 1) := by decide +kernel
theorem dX11_distance_1 : decode cX11_distance 1 = .ok (.iload_n 1, 1) := by decide +kernel
theorem dX11_distance_2 : decode cX11_distance 2 = .ok (.invokevirtual 141, 3) := by decide +kernel
theorem dX11_distance_5 : decode cX11_distance 5 = .ok (.ifCond .eq 36, 3) := by decide +kernel
theorem dX11_distance_8 : decode cX11_distance 8 = .ok (.aload_n 0, 1) := by decide +kernel
theorem dX11_distance_9 : decode cX11_distance 9 = .ok (.iload_n 2, 1) := by decide +kernel
theorem dX11_distance_10 : decode cX11_distance 10 = .ok (.invokevirtual 141, 3) := by decide +kernel
theorem dX11_distance_13 : decode cX11_distance 13 = .ok (.ifCond .eq 28, 3) := by decide +kernel
theorem dX11_distance_16 : decode cX11_distance 16 = .ok (.iload_n 3, 1) := by decide +kernel
theorem dX11_distance_17 : decode cX11_distance 17 = .ok (.ifCond .lt 24, 3) := by decide +kernel
theorem dX11_distance_20 : decode cX11_distance 20 = .ok (.iload_n 3, 1) := by decide +kernel
theorem dX11_distance_21 : decode cX11_distance 21 = .ok (.iconst 2, 1) := by decide +kernel
theorem dX11_distance_22 : decode cX11_distance 22 = .ok (.if_icmp .ge 19, 3) := by decide +kernel
theorem dX11_distance_25 : decode cX11_distance 25 = .ok (.iload 4, 2) := by decide +kernel
theorem dX11_distance_27 : decode cX11_distance 27 = .ok (.ifCond .lt 14, 3) := by decide +kernel
theorem dX11_distance_30 : decode cX11_distance 30 = .ok (.iload 4, 2) := by decide +kernel
theorem dX11_distance_32 : decode cX11_distance 32 = .ok (.bipush 6, 2) := by decide +kernel
theorem dX11_distance_34 : decode cX11_distance 34 = .ok (.if_icmp .ge 7, 3) := by decide +kernel
theorem dX11_distance_37 : decode cX11_distance 37 = .ok (.iconst 1, 1) := by decide +kernel
theorem dX11_distance_38 : decode cX11_distance 38 = .ok (.goto 4, 3) := by decide +kernel
theorem dX11_distance_41 : decode cX11_distance 41 = .ok (.iconst 0, 1) := by decide +kernel
theorem dX11_distance_42 : decode cX11_distance 42 = .ok (.istore 5, 2) := by decide +kernel
theorem dX11_distance_44 : decode cX11_distance 44 = .ok (.aload_n 0, 1) := by decide +kernel
theorem dX11_distance_45 : decode cX11_distance 45 = .ok (.iload 5, 2) := by decide +kernel
theorem dX11_distance_47 : decode cX11_distance 47 = .ok (.ifCond .ne 7, 3) := by decide +kernel
theorem dX11_distance_50 : decode cX11_distance 50 = .ok (.iconst 1, 1) := by decide +kernel
theorem dX11_distance_51 : decode cX11_distance 51 = .ok (.goto 26, 3) := by decide +kernel
theorem dX11_distance_54 : decode cX11_distance 54 = .ok (.aload_n 0, 1) := by decide +kernel
theorem dX11_distance_55 : decode cX11_distance 55 = .ok (.getfield 7, 3) := by decide +kernel
theorem dX11_distance_58 : decode cX11_distance 58 = .ok (.iload_n 1, 1) := by decide +kernel
theorem dX11_distance_59 : decode cX11_distance 59 = .ok (.baload, 1) := by decide +kernel
theorem dX11_distance_60 : decode cX11_distance 60 = .ok (.ifCond .ne 12, 3) := by decide +kernel
theorem dX11_distance_63 : decode cX11_distance 63 = .ok (.aload_n 0, 1) := by decide +kernel
theorem dX11_distance_64 : decode cX11_distance 64 = .ok (.getfield 7, 3) := by decide +kernel
theorem dX11_distance_67 : decode cX11_distance 67 = .ok (.iload_n 2, 1) := by decide +kernel
theorem dX11_distance_68 : decode cX11_distance 68 = .ok (.baload, 1) := by decide +kernel
theorem dX11_distance_69 : decode cX11_distance 69 = .ok (.ifCond .eq 7, 3) := by decide +kernel
theorem dX11_distance_72 : decode cX11_distance 72 = .ok (.iconst 2, 1) := by decide +kernel
theorem dX11_distance_73 : decode cX11_distance 73 = .ok (.goto 4, 3) := by decide +kernel
theorem dX11_distance_76 : decode cX11_distance 76 = .ok (.iconst 0, 1) := by decide +kernel
theorem dX11_distance_77 : decode cX11_distance 77 = .ok (.putfield 48, 3) := by decide +kernel
theorem dX11_distance_80 : decode cX11_distance 80 = .ok (.aload_n 0, 1) := by decide +kernel
theorem dX11_distance_81 : decode cX11_distance 81 = .ok (.getfield 48, 3) := by decide +kernel
theorem dX11_distance_84 : decode cX11_distance 84 = .ok (.ifCond .eq 5, 3) := by decide +kernel
theorem dX11_distance_87 : decode cX11_distance 87 = .ok (.lconst 0, 1) := by decide +kernel
theorem dX11_distance_88 : decode cX11_distance 88 = .ok (.lreturn, 1) := by decide +kernel
theorem dX11_distance_89 : decode cX11_distance 89 = .ok (.aload_n 0, 1) := by decide +kernel
theorem dX11_distance_90 : decode cX11_distance 90 = .ok (.iload_n 1, 1) := by decide +kernel
theorem dX11_distance_91 : decode cX11_distance 91 = .ok (.iload_n 2, 1) := by decide +kernel
theorem dX11_distance_92 : decode cX11_distance 92 = .ok (.invokevirtual 145, 3) := by decide +kernel
theorem dX11_distance_95 : decode cX11_distance 95 = .ok (.ifCond .eq 19, 3) := by decide +kernel
theorem dX11_distance_98 : decode cX11_distance 98 = .ok (.iload_n 3, 1) := by decide +kernel
theorem dX11_distance_99 : decode cX11_distance 99 = .ok (.iconst 1, 1) := by decide +kernel
theorem dX11_distance_100 : decode cX11_distance 100 = .ok (.if_icmp .ne 12, 3) := by decide +kernel
theorem dX11_distance_103 : decode cX11_distance 103 = .ok (.iload 4, 2) := by decide +kernel
theorem dX11_distance_105 : decode cX11_distance 105 = .ok (.ifCond .ne 7, 3) := by decide +kernel
theorem dX11_distance_108 : decode cX11_distance 108 = .ok (.lconst 1, 1) := by decide +kernel
theorem dX11_distance_109 : decode cX11_distance 109 = .ok (.goto 4, 3) := by decide +kernel
theorem dX11_distance_112 : decode cX11_distance 112 = .ok (.lconst 0, 1) := by decide +kernel
theorem dX11_distance_113 : decode cX11_distance 113 = .ok (.lreturn, 1) := by decide +kernel
theorem dX11_distance_114 : decode cX11_distance 114 = .ok (.aload_n 0, 1) := by decide +kernel
theorem dX11_distance_115 : decode cX11_distance 115 = .ok (.iload_n 1, 1) := by decide +kernel
theorem dX11_distance_116 : decode cX11_distance 116 = .ok (.aload_n 0, 1) := by decide +kernel
theorem dX11_distance_117 : decode cX11_distance 117 = .ok (.getfield 13, 3) := by decide +kernel
theorem dX11_distance_120 : decode cX11_distance 120 = .ok (.iload_n 2, 1) := by decide +kernel
theorem dX11_distance_121 : decode cX11_distance 121 = .ok (.laload, 1) := by decide +kernel
theorem dX11_distance_122 : decode cX11_distance 122 = .ok (.aload_n 0, 1) := by decide +kernel
theorem dX11_distance_123 : decode cX11_distance 123 = .ok (.getfield 17, 3) := by decide +kernel
theorem dX11_distance_126 : decode cX11_distance 126 = .ok (.iload_n 2, 1) := by decide +kernel
theorem dX11_distance_127 : decode cX11_distance 127 = .ok (.laload, 1) := by decide +kernel
theorem dX11_distance_128 : decode cX11_distance 128 = .ok (.invokevirtual 134, 3) := by decide +kernel
theorem dX11_distance_131 : decode cX11_distance 131 = .ok (.aload_n 0, 1) := by decide +kernel
theorem dX11_distance_132 : decode cX11_distance 132 = .ok (.bipush 8, 2) := by decide +kernel
theorem dX11_distance_134 : decode cX11_distance 134 = .ok (.bipush 6, 2) := by decide +kernel
theorem dX11_distance_136 : decode cX11_distance 136 = .ok (.invokevirtual 86, 3) := by decide +kernel
theorem dX11_distance_139 : decode cX11_distance 139 = .ok (.aload_n 0, 1) := by decide +kernel
theorem dX11_distance_140 : decode cX11_distance 140 = .ok (.bipush 9, 2) := by decide +kernel
theorem dX11_distance_142 : decode cX11_distance 142 = .ok (.bipush 7, 2) := by decide +kernel
theorem dX11_distance_144 : decode cX11_distance 144 = .ok (.invokevirtual 86, 3) := by decide +kernel
theorem dX11_distance_147 : decode cX11_distance 147 = .ok (.aload_n 0, 1) := by decide +kernel
theorem dX11_distance_148 : decode cX11_distance 148 = .ok (.iload_n 1, 1) := by decide +kernel
theorem dX11_distance_149 : decode cX11_distance 149 = .ok (.iload_n 2, 1) := by decide +kernel
theorem dX11_distance_150 : decode cX11_distance 150 = .ok (.iconst 1, 1) := by decide +kernel
theorem dX11_distance_151 : decode cX11_distance 151 = .ok (.invokevirtual 149, 3) := by decide +kernel
theorem dX11_distance_154 : decode cX11_distance 154 = .ok (.aload_n 0, 1) := by decide +kernel
theorem dX11_distance_155 : decode cX11_distance 155 = .ok (.iload_n 2, 1) := by decide +kernel
theorem dX11_distance_156 : decode cX11_distance 156 = .ok (.iload_n 1, 1) := by decide +kernel
theorem dX11_distance_157 : decode cX11_distance 157 = .ok (.iconst 0, 1) := by decide +kernel
theorem dX11_distance_158 : decode cX11_distance 158 = .ok (.invokevirtual 149, 3) := by decide +kernel
theorem dX11_distance_161 : decode cX11_distance 161 = .ok (.aload_n 0, 1) := by decide +kernel
theorem dX11_distance_162 : decode cX11_distance 162 = .ok (.iload_n 2, 1) := by decide +kernel
theorem dX11_distance_163 : decode cX11_distance 163 = .ok (.iload_n 1, 1) := by decide +kernel
theorem dX11_distance_164 : decode cX11_distance 164 = .ok (.iconst 1, 1) := by decide +kernel
theorem dX11_distance_165 : decode cX11_distance 165 = .ok (.invokevirtual 149, 3) := by decide +kernel
theorem dX11_distance_168 : decode cX11_distance 168 = .ok (.aload_n 0, 1) := by decide +kernel
theorem dX11_distance_169 : decode cX11_distance 169 = .ok (.invokevirtual 152, 3) := by decide +kernel
theorem dX11_distance_172 : decode cX11_distance 172 = .ok (.aload_n 0, 1) := by decide +kernel
theorem dX11_distance_173 : decode cX11_distance 173 = .ok (.iload_n 3, 1) := by decide +kernel
theorem dX11_distance_174 : decode cX11_distance 174 = .ok (.ifCond .ne 8, 3) := by decide +kernel
theorem dX11_distance_177 : decode cX11_distance 177 = .ok (.bipush 8, 2) := by decide +kernel
theorem dX11_distance_179 : decode cX11_distance 179 = .ok (.goto 5, 3) := by decide +kernel
theorem dX11_distance_182 : decode cX11_distance 182 = .ok (.bipush 9, 2) := by decide +kernel
theorem dX11_distance_184 : decode cX11_distance 184 = .ok (.iload 4, 2) := by decide +kernel
theorem dX11_distance_186 : decode cX11_distance 186 = .ok (.invokevirtual 89, 3) := by decide +kernel
theorem dX11_distance_189 : decode cX11_distance 189 = .ok (.lreturn, 1) := by decide +kernel
theorem dX11_signOf_0 : decode cX11_signOf 0 = .ok (.aload_n 0, 1) := by decide +kernel
theorem dX11_signOf_1 : decode cX11_signOf 1 = .ok (.iload_n 1, 1) := by decide +kernel
theorem dX11_signOf_2 : decode cX11_signOf 2 = .ok (.invokevirtual 78, 3) := by decide +kernel
theorem dX11_signOf_5 : decode cX11_signOf 5 = .ok (.istore 5, 2) := by decide +kernel
theorem dX11_signOf_7 : decode cX11_signOf 7 = .ok (.lload_n 2, 1) := by decide +kernel
theorem dX11_signOf_8 : decode cX11_signOf 8 = .ok (.lconst 0, 1) := by decide +kernel
theorem dX11_signOf_9 : decode cX11_signOf 9 = .ok (.lcmp, 1) := by decide +kernel
theorem dX11_signOf_10 : decode cX11_signOf 10 = .ok (.ifCond .eq 12, 3) := by decide +kernel
theorem dX11_signOf_13 : decode cX11_signOf 13 = .ok (.aload_n 0, 1) := by decide +kernel
theorem dX11_signOf_14 : decode cX11_signOf 14 = .ok (.iload 4, 2) := by decide +kernel
theorem dX11_signOf_16 : decode cX11_signOf 16 = .ok (.invokevirtual 78, 3) := by decide +kernel
theorem dX11_signOf_19 : decode cX11_signOf 19 = .ok (.ifCond .ne 7, 3) := by decide +kernel
theorem dX11_signOf_22 : decode cX11_signOf 22 = .ok (.iconst 0, 1) := by decide +kernel
theorem dX11_signOf_23 : decode cX11_signOf 23 = .ok (.goto 14, 3) := by decide +kernel
theorem dX11_signOf_26 : decode cX11_signOf 26 = .ok (.lload_n 2, 1) := by decide +kernel
theorem dX11_signOf_27 : decode cX11_signOf 27 = .ok (.lconst 0, 1) := by decide +kernel
theorem dX11_signOf_28 : decode cX11_signOf 28 = .ok (.lcmp, 1) := by decide +kernel
theorem dX11_signOf_29 : decode cX11_signOf 29 = .ok (.ifCond .ge 7, 3) := by decide +kernel
theorem dX11_signOf_32 : decode cX11_signOf 32 = .ok (.iconst (-1), 1) := by decide +kernel
theorem dX11_signOf_33 : decode cX11_signOf 33 = .ok (.goto 4, 3) := by decide +kernel
theorem dX11_signOf_36 : decode cX11_signOf 36 = .ok (.iconst 1, 1) := by decide +kernel
theorem dX11_signOf_37 : decode cX11_signOf 37 = .ok (.istore 6, 2) := by decide +kernel
theorem dX11_signOf_39 : decode cX11_signOf 39 = .ok (.iload 5, 2) := by decide +kernel
theorem dX11_signOf_41 : decode cX11_signOf 41 = .ok (.ifCond .eq 15, 3) := by decide +kernel
theorem dX11_signOf_44 : decode cX11_signOf 44 = .ok (.iload 6, 2) := by decide +kernel
theorem dX11_signOf_46 : decode cX11_signOf 46 = .ok (.ifCond .eq 10, 3) := by decide +kernel
theorem dX11_signOf_49 : decode cX11_signOf 49 = .ok (.iload 5, 2) := by decide +kernel
theorem dX11_signOf_51 : decode cX11_signOf 51 = .ok (.iload 6, 2) := by decide +kernel
theorem dX11_signOf_53 : decode cX11_signOf 53 = .ok (.if_icmp .ne 16, 3) := by decide +kernel
theorem dX11_signOf_56 : decode cX11_signOf 56 = .ok (.iload 5, 2) := by decide +kernel
theorem dX11_signOf_58 : decode cX11_signOf 58 = .ok (.ifCond .eq 8, 3) := by decide +kernel
theorem dX11_signOf_61 : decode cX11_signOf 61 = .ok (.iload 5, 2) := by decide +kernel
theorem dX11_signOf_63 : decode cX11_signOf 63 = .ok (.goto 5, 3) := by decide +kernel
theorem dX11_signOf_66 : decode cX11_signOf 66 = .ok (.iload 6, 2) := by decide +kernel
theorem dX11_signOf_68 : decode cX11_signOf 68 = .ok (.ireturn, 1) := by decide +kernel
theorem dX11_signOf_69 : decode cX11_signOf 69 = .ok (.aload_n 0, 1) := by decide +kernel
theorem dX11_signOf_70 : decode cX11_signOf 70 = .ok (.bipush 10, 2) := by decide +kernel
theorem dX11_signOf_72 : decode cX11_signOf 72 = .ok (.iload_n 1, 1) := by decide +kernel
theorem dX11_signOf_73 : decode cX11_signOf 73 = .ok (.iload_n 1, 1) := by decide +kernel
theorem dX11_signOf_74 : decode cX11_signOf 74 = .ok (.invokevirtual 93, 3) := by decide +kernel
theorem dX11_signOf_77 : decode cX11_signOf 77 = .ok (.aload_n 0, 1) := by decide +kernel
theorem dX11_signOf_78 : decode cX11_signOf 78 = .ok (.bipush 13, 2) := by decide +kernel
theorem dX11_signOf_80 : decode cX11_signOf 80 = .ok (.lload_n 2, 1) := by decide +kernel
theorem dX11_signOf_81 : decode cX11_signOf 81 = .ok (.invokevirtual 67, 3) := by decide +kernel
theorem dX11_signOf_84 : decode cX11_signOf 84 = .ok (.aload_n 0, 1) := by decide +kernel
theorem dX11_signOf_85 : decode cX11_signOf 85 = .ok (.bipush 15, 2) := by decide +kernel
theorem dX11_signOf_87 : decode cX11_signOf 87 = .ok (.bipush 13, 2) := by decide +kernel
theorem dX11_signOf_89 : decode cX11_signOf 89 = .ok (.bipush 13, 2) := by decide +kernel
theorem dX11_signOf_91 : decode cX11_signOf 91 = .ok (.invokevirtual 93, 3) := by decide +kernel
theorem dX11_signOf_94 : decode cX11_signOf 94 = .ok (.aload_n 0, 1) := by decide +kernel
theorem dX11_signOf_95 : decode cX11_signOf 95 = .ok (.bipush 11, 2) := by decide +kernel
theorem dX11_signOf_97 : decode cX11_signOf 97 = .ok (.bipush 15, 2) := by decide +kernel
theorem dX11_signOf_99 : decode cX11_signOf 99 = .ok (.iload 4, 2) := by decide +kernel
theorem dX11_signOf_101 : decode cX11_signOf 101 = .ok (.invokevirtual 93, 3) := by decide +kernel
theorem dX11_signOf_104 : decode cX11_signOf 104 = .ok (.aload_n 0, 1) := by decide +kernel
theorem dX11_signOf_105 : decode cX11_signOf 105 = .ok (.bipush 10, 2) := by decide +kernel
theorem dX11_signOf_107 : decode cX11_signOf 107 = .ok (.bipush 11, 2) := by decide +kernel
theorem dX11_signOf_109 : decode cX11_signOf 109 = .ok (.invokevirtual 62, 3) := by decide +kernel
theorem dX11_signOf_112 : decode cX11_signOf 112 = .ok (.istore 7, 2) := by decide +kernel
theorem dX11_signOf_114 : decode cX11_signOf 114 = .ok (.iload 7, 2) := by decide +kernel
theorem dX11_signOf_116 : decode cX11_signOf 116 = .ok (.ifCond .ne 7, 3) := by decide +kernel
theorem dX11_signOf_119 : decode cX11_signOf 119 = .ok (.iconst 0, 1) := by decide +kernel
theorem dX11_signOf_120 : decode cX11_signOf 120 = .ok (.goto 15, 3) := by decide +kernel
theorem dX11_signOf_123 : decode cX11_signOf 123 = .ok (.iload 7, 2) := by decide +kernel
theorem dX11_signOf_125 : decode cX11_signOf 125 = .ok (.ifCond .le 8, 3) := by decide +kernel
theorem dX11_signOf_128 : decode cX11_signOf 128 = .ok (.iload 5, 2) := by decide +kernel
theorem dX11_signOf_130 : decode cX11_signOf 130 = .ok (.goto 5, 3) := by decide +kernel
theorem dX11_signOf_133 : decode cX11_signOf 133 = .ok (.iload 6, 2) := by decide +kernel
theorem dX11_signOf_135 : decode cX11_signOf 135 = .ok (.ireturn, 1) := by decide +kernel
theorem dX11_compare_0 : decode cX11_compare 0 = .ok (.aload_n 0, 1) := by decide +kernel
theorem dX11_compare_1 : decode cX11_compare 1 = .ok (.lload 5, 2) := by decide +kernel
theorem dX11_compare_3 : decode cX11_compare 3 = .ok (.lconst 0, 1) := by decide +kernel
theorem dX11_compare_4 : decode cX11_compare 4 = .ok (.lcmp, 1) := by decide +kernel
theorem dX11_compare_5 : decode cX11_compare 5 = .ok (.ifCond .ge 7, 3) := by decide +kernel
theorem dX11_compare_8 : decode cX11_compare 8 = .ok (.iconst 1, 1) := by decide +kernel
theorem dX11_compare_9 : decode cX11_compare 9 = .ok (.goto 4, 3) := by decide +kernel
theorem dX11_compare_12 : decode cX11_compare 12 = .ok (.iconst 0, 1) := by decide +kernel
theorem dX11_compare_13 : decode cX11_compare 13 = .ok (.putfield 48, 3) := by decide +kernel
theorem dX11_compare_16 : decode cX11_compare 16 = .ok (.aload_n 0, 1) := by decide +kernel
theorem dX11_compare_17 : decode cX11_compare 17 = .ok (.getfield 48, 3) := by decide +kernel
theorem dX11_compare_20 : decode cX11_compare 20 = .ok (.ifCond .eq 5, 3) := by decide +kernel
theorem dX11_compare_23 : decode cX11_compare 23 = .ok (.iconst 0, 1) := by decide +kernel
theorem dX11_compare_24 : decode cX11_compare 24 = .ok (.ireturn, 1) := by decide +kernel
theorem dX11_compare_25 : decode cX11_compare 25 = .ok (.aload_n 0, 1) := by decide +kernel
theorem dX11_compare_26 : decode cX11_compare 26 = .ok (.iconst 4, 1) := by decide +kernel
theorem dX11_compare_27 : decode cX11_compare 27 = .ok (.lload_n 1, 1) := by decide +kernel
theorem dX11_compare_28 : decode cX11_compare 28 = .ok (.invokevirtual 67, 3) := by decide +kernel
theorem dX11_compare_31 : decode cX11_compare 31 = .ok (.aload_n 0, 1) := by decide +kernel
theorem dX11_compare_32 : decode cX11_compare 32 = .ok (.iconst 5, 1) := by decide +kernel
theorem dX11_compare_33 : decode cX11_compare 33 = .ok (.lload 7, 2) := by decide +kernel
theorem dX11_compare_35 : decode cX11_compare 35 = .ok (.invokevirtual 67, 3) := by decide +kernel
theorem dX11_compare_38 : decode cX11_compare 38 = .ok (.aload_n 0, 1) := by decide +kernel
theorem dX11_compare_39 : decode cX11_compare 39 = .ok (.bipush 6, 2) := by decide +kernel
theorem dX11_compare_41 : decode cX11_compare 41 = .ok (.iconst 4, 1) := by decide +kernel
theorem dX11_compare_42 : decode cX11_compare 42 = .ok (.iconst 5, 1) := by decide +kernel
theorem dX11_compare_43 : decode cX11_compare 43 = .ok (.iconst 1, 1) := by decide +kernel
theorem dX11_compare_44 : decode cX11_compare 44 = .ok (.invokevirtual 82, 3) := by decide +kernel
theorem dX11_compare_47 : decode cX11_compare 47 = .ok (.aload_n 0, 1) := by decide +kernel
theorem dX11_compare_48 : decode cX11_compare 48 = .ok (.bipush 7, 2) := by decide +kernel
theorem dX11_compare_50 : decode cX11_compare 50 = .ok (.lload 5, 2) := by decide +kernel
theorem dX11_compare_52 : decode cX11_compare 52 = .ok (.invokevirtual 67, 3) := by decide +kernel
theorem dX11_compare_55 : decode cX11_compare 55 = .ok (.aload_n 0, 1) := by decide +kernel
theorem dX11_compare_56 : decode cX11_compare 56 = .ok (.bipush 6, 2) := by decide +kernel
theorem dX11_compare_58 : decode cX11_compare 58 = .ok (.lload_n 3, 1) := by decide +kernel
theorem dX11_compare_59 : decode cX11_compare 59 = .ok (.bipush 7, 2) := by decide +kernel
theorem dX11_compare_61 : decode cX11_compare 61 = .ok (.invokevirtual 155, 3) := by decide +kernel
theorem dX11_compare_64 : decode cX11_compare 64 = .ok (.ireturn, 1) := by decide +kernel
theorem dX11_position_0 : decode cX11_position 0 = .ok (.iload_n 1, 1) := by decide +kernel
theorem dX11_position_1 : decode cX11_position 1 = .ok (.ifCond .ne 14, 3) := by decide +kernel
theorem dX11_position_4 : decode cX11_position 4 = .ok (.iload_n 0, 1) := by decide +kernel
theorem dX11_position_5 : decode cX11_position 5 = .ok (.ifCond .le 7, 3) := by decide +kernel
theorem dX11_position_8 : decode cX11_position 8 = .ok (.iconst 0, 1) := by decide +kernel
theorem dX11_position_9 : decode cX11_position 9 = .ok (.goto 5, 3) := by decide +kernel
theorem dX11_position_12 : decode cX11_position 12 = .ok (.bipush 8, 2) := by decide +kernel
theorem dX11_position_14 : decode cX11_position 14 = .ok (.ireturn, 1) := by decide +kernel
theorem dX11_position_15 : decode cX11_position 15 = .ok (.iload_n 0, 1) := by decide +kernel
theorem dX11_position_16 : decode cX11_position 16 = .ok (.ifCond .ne 14, 3) := by decide +kernel
theorem dX11_position_19 : decode cX11_position 19 = .ok (.iload_n 1, 1) := by decide +kernel
theorem dX11_position_20 : decode cX11_position 20 = .ok (.ifCond .le 7, 3) := by decide +kernel
theorem dX11_position_23 : decode cX11_position 23 = .ok (.iconst 4, 1) := by decide +kernel
theorem dX11_position_24 : decode cX11_position 24 = .ok (.goto 5, 3) := by decide +kernel
theorem dX11_position_27 : decode cX11_position 27 = .ok (.bipush 12, 2) := by decide +kernel
theorem dX11_position_29 : decode cX11_position 29 = .ok (.ireturn, 1) := by decide +kernel
theorem dX11_position_30 : decode cX11_position 30 = .ok (.iload_n 0, 1) := by decide +kernel
theorem dX11_position_31 : decode cX11_position 31 = .ok (.ifCond .le 18, 3) := by decide +kernel
theorem dX11_position_34 : decode cX11_position 34 = .ok (.iload_n 1, 1) := by decide +kernel
theorem dX11_position_35 : decode cX11_position 35 = .ok (.ifCond .le 9, 3) := by decide +kernel
theorem dX11_position_38 : decode cX11_position 38 = .ok (.iconst 2, 1) := by decide +kernel
theorem dX11_position_39 : decode cX11_position 39 = .ok (.iload_n 2, 1) := by decide +kernel
theorem dX11_position_40 : decode cX11_position 40 = .ok (.isub, 1) := by decide +kernel
theorem dX11_position_41 : decode cX11_position 41 = .ok (.goto 7, 3) := by decide +kernel
theorem dX11_position_44 : decode cX11_position 44 = .ok (.bipush 14, 2) := by decide +kernel
theorem dX11_position_46 : decode cX11_position 46 = .ok (.iload_n 3, 1) := by decide +kernel
theorem dX11_position_47 : decode cX11_position 47 = .ok (.iadd, 1) := by decide +kernel
theorem dX11_position_48 : decode cX11_position 48 = .ok (.ireturn, 1) := by decide +kernel
theorem dX11_position_49 : decode cX11_position 49 = .ok (.iload_n 1, 1) := by decide +kernel
theorem dX11_position_50 : decode cX11_position 50 = .ok (.ifCond .le 10, 3) := by decide +kernel
theorem dX11_position_53 : decode cX11_position 53 = .ok (.bipush 6, 2) := by decide +kernel
theorem dX11_position_55 : decode cX11_position 55 = .ok (.iload_n 3, 1) := by decide +kernel
theorem dX11_position_56 : decode cX11_position 56 = .ok (.isub, 1) := by decide +kernel
theorem dX11_position_57 : decode cX11_position 57 = .ok (.goto 7, 3) := by decide +kernel
theorem dX11_position_60 : decode cX11_position 60 = .ok (.bipush 10, 2) := by decide +kernel
theorem dX11_position_62 : decode cX11_position 62 = .ok (.iload_n 2, 1) := by decide +kernel
theorem dX11_position_63 : decode cX11_position 63 = .ok (.iadd, 1) := by decide +kernel
theorem dX11_position_64 : decode cX11_position 64 = .ok (.ireturn, 1) := by decide +kernel
theorem dX11_isTurned_0 : decode cX11_isTurned 0 = .ok (.aload_n 0, 1) := by decide +kernel
theorem dX11_isTurned_1 : decode cX11_isTurned 1 = .ok (.getfield 26, 3) := by decide +kernel
theorem dX11_isTurned_4 : decode cX11_isTurned 4 = .ok (.iload_n 1, 1) := by decide +kernel
theorem dX11_isTurned_5 : decode cX11_isTurned 5 = .ok (.iaload, 1) := by decide +kernel
theorem dX11_isTurned_6 : decode cX11_isTurned 6 = .ok (.aload_n 0, 1) := by decide +kernel
theorem dX11_isTurned_7 : decode cX11_isTurned 7 = .ok (.getfield 30, 3) := by decide +kernel
theorem dX11_isTurned_10 : decode cX11_isTurned 10 = .ok (.iload_n 1, 1) := by decide +kernel
theorem dX11_isTurned_11 : decode cX11_isTurned 11 = .ok (.iaload, 1) := by decide +kernel
theorem dX11_isTurned_12 : decode cX11_isTurned 12 = .ok (.if_icmp .ne 5, 3) := by decide +kernel
theorem dX11_isTurned_15 : decode cX11_isTurned 15 = .ok (.iconst 1, 1) := by decide +kernel
theorem dX11_isTurned_16 : decode cX11_isTurned 16 = .ok (.ireturn, 1) := by decide +kernel
theorem dX11_isTurned_17 : decode cX11_isTurned 17 = .ok (.iload_n 2, 1) := by decide +kernel
theorem dX11_isTurned_18 : decode cX11_isTurned 18 = .ok (.iconst 2, 1) := by decide +kernel
theorem dX11_isTurned_19 : decode cX11_isTurned 19 = .ok (.aload_n 0, 1) := by decide +kernel
theorem dX11_isTurned_20 : decode cX11_isTurned 20 = .ok (.getfield 26, 3) := by decide +kernel
theorem dX11_isTurned_23 : decode cX11_isTurned 23 = .ok (.iload_n 1, 1) := by decide +kernel
theorem dX11_isTurned_24 : decode cX11_isTurned 24 = .ok (.iaload, 1) := by decide +kernel
theorem dX11_isTurned_25 : decode cX11_isTurned 25 = .ok (.imul, 1) := by decide +kernel
theorem dX11_isTurned_26 : decode cX11_isTurned 26 = .ok (.isub, 1) := by decide +kernel
theorem dX11_isTurned_27 : decode cX11_isTurned 27 = .ok (.bipush 16, 2) := by decide +kernel
theorem dX11_isTurned_29 : decode cX11_isTurned 29 = .ok (.iadd, 1) := by decide +kernel
theorem dX11_isTurned_30 : decode cX11_isTurned 30 = .ok (.bipush 16, 2) := by decide +kernel
theorem dX11_isTurned_32 : decode cX11_isTurned 32 = .ok (.irem, 1) := by decide +kernel
theorem dX11_isTurned_33 : decode cX11_isTurned 33 = .ok (.iconst 2, 1) := by decide +kernel
theorem dX11_isTurned_34 : decode cX11_isTurned 34 = .ok (.aload_n 0, 1) := by decide +kernel
theorem dX11_isTurned_35 : decode cX11_isTurned 35 = .ok (.getfield 30, 3) := by decide +kernel
theorem dX11_isTurned_38 : decode cX11_isTurned 38 = .ok (.iload_n 1, 1) := by decide +kernel
theorem dX11_isTurned_39 : decode cX11_isTurned 39 = .ok (.iaload, 1) := by decide +kernel
theorem dX11_isTurned_40 : decode cX11_isTurned 40 = .ok (.imul, 1) := by decide +kernel
theorem dX11_isTurned_41 : decode cX11_isTurned 41 = .ok (.iconst 2, 1) := by decide +kernel
theorem dX11_isTurned_42 : decode cX11_isTurned 42 = .ok (.aload_n 0, 1) := by decide +kernel
theorem dX11_isTurned_43 : decode cX11_isTurned 43 = .ok (.getfield 26, 3) := by decide +kernel
theorem dX11_isTurned_46 : decode cX11_isTurned 46 = .ok (.iload_n 1, 1) := by decide +kernel
theorem dX11_isTurned_47 : decode cX11_isTurned 47 = .ok (.iaload, 1) := by decide +kernel
theorem dX11_isTurned_48 : decode cX11_isTurned 48 = .ok (.imul, 1) := by decide +kernel
theorem dX11_isTurned_49 : decode cX11_isTurned 49 = .ok (.isub, 1) := by decide +kernel
theorem dX11_isTurned_50 : decode cX11_isTurned 50 = .ok (.bipush 16, 2) := by decide +kernel
