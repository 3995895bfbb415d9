/-! the law's words among the tables, piece by piece -/
theorem in_p {big ws : List Cond} (ps : List Nat) (hp : ws = ps.filterMap (fun i => big[i]?)) : ∀ w ∈ ws, w ∈ big := fun w hw => by
  rw [hp] at hw
  obtain ⟨i, -, hi⟩ := List.mem_filterMap.mp hw
  exact List.mem_of_getElem? hi
theorem app_in {a b c : List Cond} (ha : ∀ w ∈ a, w ∈ c) (hb : ∀ w ∈ b, w ∈ c) : ∀ w ∈ a ++ b, w ∈ c := fun w h => (List.mem_append.mp h).elim (ha w) (hb w)
set_option maxRecDepth 100000 in
theorem wl_r1 : ∀ w ∈ wsL_law0_r1, w ∈ lw_tbl := in_p [78, 79, 55, 909, 910, 63, 104, 1189, 80, 81, 82, 83, 84, 85, 86, 295, 88, 89, 56, 297, 125, 126, 58, 298] rfl
set_option maxRecDepth 100000 in
theorem wl_r2 : ∀ w ∈ wsL_law0_r2, w ∈ lw_tbl := in_p [176, 177, 60, 299, 250, 251, 62, 300, 291, 134, 59, 301, 293, 95, 57, 302, 296, 91, 92, 93, 94, 111, 97, 98] rfl
set_option maxRecDepth 100000 in
theorem wl_r3 : ∀ w ∈ wsL_law0_r3, w ∈ lw_tbl := in_p [99, 100, 128, 129, 130, 131, 163, 164, 133, 165, 166, 136, 137, 138, 139, 141, 145, 151, 179, 180, 181, 182, 205, 184] rfl
set_option maxRecDepth 100000 in
theorem wl_r4 : ∀ w ∈ wsL_law0_r4, w ∈ lw_tbl := in_p [212, 186, 187, 61, 213, 214, 215, 203, 216, 217, 218, 219, 220, 189, 190, 191, 192, 194, 196, 253, 254, 255, 256, 258] rfl
set_option maxRecDepth 100000 in
theorem wl_r5 : ∀ w ∈ wsL_law0_r5, w ∈ lw_tbl := in_p [260, 262, 263, 264, 265, 266, 267, 911, 912, 913, 914, 973, 917, 918, 919, 920, 921, 974, 922, 923, 925, 926, 927, 928] rfl
set_option maxRecDepth 100000 in
theorem wl_r6 : ∀ w ∈ wsL_law0_r6, w ∈ lw_tbl := in_p [931, 337, 338, 54, 339, 340, 341, 342, 343, 344, 350, 67, 345, 346, 347, 348, 349, 419, 420, 421, 422, 423, 329, 330] rfl
set_option maxRecDepth 100000 in
theorem wl_r7 : ∀ w ∈ wsL_law0_r7, w ∈ lw_tbl := in_p [331, 332, 424, 425, 426, 427, 428, 429, 430, 431, 432, 433, 434, 435, 436, 437, 438, 979, 980, 981, 982, 915, 983, 984] rfl
set_option maxRecDepth 100000 in
theorem wl_r8 : ∀ w ∈ wsL_law0_r8, w ∈ lw_tbl := in_p [985, 986, 987, 988, 989, 990, 991, 993, 20, 994, 995, 997, 21, 998, 999, 1001, 22, 1002, 1003, 1004, 1006, 23, 1007, 1008] rfl
set_option maxRecDepth 100000 in
theorem wl_r9 : ∀ w ∈ wsL_law0_r9, w ∈ lw_tbl := in_p [1010, 24, 1011, 1016, 1012, 1014, 25, 1015, 1017, 1019, 26, 1020, 975, 976, 977, 978, 439, 440, 441, 442, 443, 444, 445, 447] rfl
set_option maxRecDepth 100000 in
theorem wl_r10 : ∀ w ∈ wsL_law0_r10, w ∈ lw_tbl := in_p [448, 69, 449, 450, 451, 456, 459, 462, 465, 468, 471, 453, 68, 454, 455, 487, 489, 1, 490, 1021, 1022, 1023, 1024, 1025] rfl
set_option maxRecDepth 100000 in
theorem wl_r11 : ∀ w ∈ wsL_law0_r11, w ∈ lw_tbl := in_p [1027, 27, 1028, 916, 491, 492, 493, 494, 495, 496, 497, 498, 504, 505, 70, 500, 501, 502, 506, 507, 508, 510, 512, 514] rfl
set_option maxRecDepth 100000 in
theorem wl_r12 : ∀ w ∈ wsL_law0_r12, w ∈ lw_tbl := in_p [516, 517, 1029, 1030, 1031, 1032, 1033, 529, 530, 531, 532, 533, 534, 535, 536, 541, 71, 447, 259, 261, 537, 539, 2, 540] rfl
set_option maxRecDepth 100000 in
theorem wl_r13 : ∀ w ∈ wsL_law0_r13, w ∈ lw_tbl := in_p [558, 559, 560, 561, 268, 269, 562, 564, 3, 565, 457, 460, 463, 466, 566, 568, 4, 569, 469, 472, 570, 571, 572, 573] rfl
set_option maxRecDepth 100000 in
theorem wl_r14 : ∀ w ∈ wsL_law0_r14, w ∈ lw_tbl := in_p [575, 5, 576, 577, 579, 6, 580, 581, 582, 583, 584, 585, 586, 587, 588, 589, 590, 591, 592, 593, 594, 595, 596, 597] rfl
set_option maxRecDepth 100000 in
theorem wl_r15 : ∀ w ∈ wsL_law0_r15, w ∈ lw_tbl := in_p [599, 598, 72, 600, 602, 7, 603, 604, 606, 8, 607, 608, 610, 9, 611, 612, 613, 614, 615, 616, 617, 73, 618, 619] rfl
set_option maxRecDepth 100000 in
theorem wl_r16 : ∀ w ∈ wsL_law0_r16, w ∈ lw_tbl := in_p [620, 74, 621, 622, 623, 624, 625, 626, 627, 628, 629, 630, 631, 632, 633, 634, 635, 636, 637, 638, 639, 640, 641, 642] rfl
set_option maxRecDepth 100000 in
theorem wl_r17 : ∀ w ∈ wsL_law0_r17, w ∈ lw_tbl := in_p [643, 1034, 1035, 1036, 1037, 1038, 1040, 28, 1041, 1042, 1044, 29, 1045, 1046, 1048, 30, 1049, 1050, 1052, 31, 1053, 1054, 1055, 1056] rfl
set_option maxRecDepth 100000 in
theorem wl_r18 : ∀ w ∈ wsL_law0_r18, w ∈ lw_tbl := in_p [1057, 1059, 32, 1060, 1061, 1063, 33, 1064, 1065, 1067, 34, 1068, 1069, 1071, 35, 1072, 1073, 1075, 36, 1076, 1077, 1079, 37, 1080] rfl
set_option maxRecDepth 100000 in
theorem wl_r19 : ∀ w ∈ wsL_law0_r19, w ∈ lw_tbl := in_p [1081, 1083, 38, 1084, 1085, 1087, 39, 1088, 1089, 1091, 40, 1092, 645, 646, 647, 648, 649, 650, 651, 143, 654, 653, 655, 656] rfl
set_option maxRecDepth 100000 in
theorem wl_r20 : ∀ w ∈ wsL_law0_r20, w ∈ lw_tbl := in_p [657, 658, 659, 149, 148, 660, 661, 662, 663, 664, 665, 666, 667, 668, 669, 670, 142, 147, 146, 671, 672, 673, 674, 675] rfl
set_option maxRecDepth 100000 in
theorem wl_r21 : ∀ w ∈ wsL_law0_r21, w ∈ lw_tbl := in_p [676, 677, 678, 1093, 1094, 1095, 1096, 1097, 1099, 41, 1100, 679, 680, 681, 682, 683, 684, 685, 504, 207, 209, 333, 334, 335] rfl
set_option maxRecDepth 100000 in
theorem wl_r22 : ∀ w ∈ wsL_law0_r22, w ∈ lw_tbl := in_p [336, 206, 208, 686, 687, 688, 689, 458, 461, 470, 473, 690, 691, 692, 694, 10, 695, 464, 467, 700, 701, 75, 702, 703] rfl
set_option maxRecDepth 100000 in
theorem wl_r23 : ∀ w ∈ wsL_law0_r23, w ∈ lw_tbl := in_p [704, 705, 696, 697, 698, 699, 706, 708, 11, 709, 210, 211, 710, 711, 713, 12, 714, 195, 144, 197, 715, 716, 717, 718] rfl
set_option maxRecDepth 100000 in
theorem wl_r24 : ∀ w ∈ wsL_law0_r24, w ∈ lw_tbl := in_p [720, 13, 721, 722, 723, 724, 725, 726, 511, 513, 515, 727, 728, 730, 14, 731, 732, 733, 734, 736, 15, 737, 738, 740] rfl
set_option maxRecDepth 100000 in
theorem wl_r25 : ∀ w ∈ wsL_law0_r25, w ∈ lw_tbl := in_p [16, 741, 742, 743, 744, 746, 17, 747, 150, 748, 749, 750, 751, 752, 753, 754, 755, 756, 757, 758, 759, 761, 760, 762] rfl
set_option maxRecDepth 100000 in
theorem wl_r26 : ∀ w ∈ wsL_law0_r26, w ∈ lw_tbl := in_p [764, 18, 765, 1101, 1102, 1103, 1104, 929, 930, 1105, 1107, 42, 1108, 1109, 932, 933, 1110, 1112, 43, 1113, 1114, 1116, 44, 1117] rfl
set_option maxRecDepth 100000 in
theorem wl_r27 : ∀ w ∈ wsL_law0_r27, w ∈ lw_tbl := in_p [1118, 1119, 1120, 1121, 1123, 45, 1124, 1125, 1127, 46, 1128, 1129, 1131, 47, 1132, 1133, 1135, 48, 1136, 1137, 1139, 49, 1140, 1141] rfl
set_option maxRecDepth 100000 in
theorem wl_r28 : ∀ w ∈ wsL_law0_r28, w ∈ lw_tbl := in_p [1143, 50, 1144, 767, 768, 769, 770, 771, 772, 773, 774, 775, 76, 792, 793, 794, 796, 797, 798, 799, 800, 801, 802, 803] rfl
set_option maxRecDepth 100000 in
theorem wl_r29 : ∀ w ∈ wsL_law0_r29, w ∈ lw_tbl := in_p [815, 804, 805, 806, 807, 808, 809, 811, 19, 812, 813, 814, 816, 817, 818, 1145, 1146, 1147, 1148, 1149, 1151, 51, 1152, 1153] rfl
set_option maxRecDepth 100000 in
theorem wl_r30 : ∀ w ∈ wsL_law0_r30, w ∈ lw_tbl := in_p [1155, 52, 1156, 1157, 1159, 53, 1160, 819, 820, 821, 822, 823, 824, 825, 826, 828, 829, 830, 831, 833, 832, 834, 835, 836] rfl
set_option maxRecDepth 100000 in
theorem wl_r31 : ∀ w ∈ wsL_law0_r31, w ∈ lw_tbl := in_p [837, 838, 839, 840, 841, 842, 843, 844, 1161, 1162, 1163, 1164, 1165, 1166, 1167, 845, 846, 847, 848, 849, 850, 851, 852, 853] rfl
set_option maxRecDepth 100000 in
theorem wl_r32 : ∀ w ∈ wsL_law0_r32, w ∈ lw_tbl := in_p [77, 870, 871, 75, 872, 1168, 1169, 1170, 1171, 873, 874, 875, 876, 877, 878, 879, 880, 881, 882, 883, 1172, 1173, 1174, 1175] rfl
set_option maxRecDepth 100000 in
theorem wl_r33 : ∀ w ∈ wsL_law0_r33, w ∈ lw_tbl := in_p [884, 885, 886, 887, 888, 889, 890, 106, 891, 892, 893, 894, 105, 107, 108, 109, 110, 895, 1176, 1177, 1178, 1179, 924, 896] rfl
set_option maxRecDepth 100000 in
theorem wl_r34 : ∀ w ∈ wsL_law0_r34, w ∈ lw_tbl := in_p [897, 898, 899, 900, 901, 902, 904, 905, 906, 907, 908, 1180, 1181, 1182, 1183, 1184, 320, 321, 322, 323, 324, 325, 326, 327] rfl
set_option maxRecDepth 100000 in
theorem wl_r35 : ∀ w ∈ wsL_law0_r35, w ∈ lw_tbl := in_p [328, 1185, 1186, 1187, 1188] rfl
theorem inX10 : ∀ w ∈ wsX100, w ∈ lw_tbl := by decide +kernel
theorem inX11 : ∀ w ∈ wsX110, w ∈ lw_tbl := by decide +kernel
theorem inX4 : ∀ w ∈ wsX40, w ∈ lw_tbl := by decide +kernel
theorem inX6 : ∀ w ∈ wsX60, w ∈ lw_tbl := by decide +kernel
theorem inX1 : ∀ w ∈ wsX10, w ∈ lw_tbl := by decide +kernel
theorem inX2 : ∀ w ∈ wsX20, w ∈ lw_tbl := by decide +kernel
theorem inX5 : ∀ w ∈ wsX50, w ∈ lw_tbl := by decide +kernel
theorem inX9 : ∀ w ∈ wsX90, w ∈ lw_tbl := by decide +kernel
theorem inX3 : ∀ w ∈ wsX30, w ∈ lw_tbl := by decide +kernel
theorem inX7 : ∀ w ∈ wsX70, w ∈ lw_tbl := by decide +kernel
theorem inX0 : ∀ w ∈ wsX00, w ∈ lw_tbl := by decide +kernel
theorem wsL_law_x0 : ∀ w ∈ (vx_atS RX10 69 "java/lang/IllegalArgumentException" ["java/lang/RuntimeException", "java/lang/Exception"]).filter goodWord, w ∈ lw_tbl := by decide +kernel
theorem wsL_law_x1 : ∀ w ∈ (vx_atS RX10 113 "java/lang/IndexOutOfBoundsException" ["java/lang/RuntimeException", "java/lang/Exception"]).filter goodWord, w ∈ lw_tbl := by decide +kernel
theorem wsL_law_x2 : ∀ w ∈ (vx_atS RX10 181 "java/lang/IllegalStateException" ["java/lang/RuntimeException", "java/lang/Exception"]).filter goodWord, w ∈ lw_tbl := by decide +kernel
theorem wsL_law_x3 : ∀ w ∈ (vx_atS RX10 201 "java/lang/ArithmeticException" ["java/lang/RuntimeException", "java/lang/Exception"]).filter goodWord, w ∈ lw_tbl := by decide +kernel
theorem wsL_law_in : ∀ w ∈ wsL_law, w ∈ lw_tbl := (app_in (app_in (app_in (app_in (app_in (app_in (app_in (app_in (app_in (app_in (app_in (app_in (app_in (app_in (app_in (app_in (app_in wl_r1 (app_in wl_r2 (app_in wl_r3 (app_in wl_r4 (app_in wl_r5 (app_in wl_r6 (app_in wl_r7 (app_in wl_r8 (app_in wl_r9 (app_in wl_r10 (app_in wl_r11 (app_in wl_r12 (app_in wl_r13 (app_in wl_r14 (app_in wl_r15 (app_in wl_r16 (app_in wl_r17 (app_in wl_r18 (app_in wl_r19 (app_in wl_r20 (app_in wl_r21 (app_in wl_r22 (app_in wl_r23 (app_in wl_r24 (app_in wl_r25 (app_in wl_r26 (app_in wl_r27 (app_in wl_r28 (app_in wl_r29 (app_in wl_r30 (app_in wl_r31 (app_in wl_r32 (app_in wl_r33 (app_in wl_r34 (wl_r35))))))))))))))))))))))))))))))))))) inX10) inX11) inX4) inX6) inX1) inX2) inX5) inX9) inX3) inX7) inX0) (fun w h => absurd h List.not_mem_nil)) wsL_law_x0) wsL_law_x1) wsL_law_x2) wsL_law_x3)
