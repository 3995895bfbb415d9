/-! the law's words among the tables, piece by piece -/
theorem in_p {big ws : List Cond} (ps : List Nat) (hp : ws = ps.filterMap (fun i => big[i]?)) : ∀ w ∈ ws, w ∈ big := fun w hw => by
  rw [hp] at hw
  obtain ⟨i, -, hi⟩ := List.mem_filterMap.mp hw
  exact List.mem_of_getElem? hi
theorem app_in {a b c : List Cond} (ha : ∀ w ∈ a, w ∈ c) (hb : ∀ w ∈ b, w ∈ c) : ∀ w ∈ a ++ b, w ∈ c := fun w h => (List.mem_append.mp h).elim (ha w) (hb w)
set_option maxRecDepth 100000 in
theorem wl_r1 : ∀ w ∈ wsL_law0_r1, w ∈ lw_tbl := in_p [77, 78, 54, 903, 904, 62, 103, 1183, 79, 80, 81, 82, 83, 84, 85, 294, 87, 88, 55, 296, 124, 125, 57, 297] rfl
set_option maxRecDepth 100000 in
theorem wl_r2 : ∀ w ∈ wsL_law0_r2, w ∈ lw_tbl := in_p [175, 176, 59, 298, 249, 250, 61, 299, 290, 133, 58, 300, 292, 94, 56, 301, 295, 90, 91, 92, 93, 110, 96, 97] rfl
set_option maxRecDepth 100000 in
theorem wl_r3 : ∀ w ∈ wsL_law0_r3, w ∈ lw_tbl := in_p [98, 99, 127, 128, 129, 130, 162, 163, 132, 164, 165, 135, 136, 137, 138, 140, 144, 150, 178, 179, 180, 181, 204, 183] rfl
set_option maxRecDepth 100000 in
theorem wl_r4 : ∀ w ∈ wsL_law0_r4, w ∈ lw_tbl := in_p [211, 185, 186, 60, 212, 213, 214, 202, 215, 216, 217, 218, 219, 188, 189, 190, 191, 193, 195, 252, 253, 254, 255, 257] rfl
set_option maxRecDepth 100000 in
theorem wl_r5 : ∀ w ∈ wsL_law0_r5, w ∈ lw_tbl := in_p [259, 261, 262, 263, 264, 265, 266, 905, 906, 907, 908, 967, 911, 912, 913, 914, 915, 968, 916, 917, 919, 920, 921, 922] rfl
set_option maxRecDepth 100000 in
theorem wl_r6 : ∀ w ∈ wsL_law0_r6, w ∈ lw_tbl := in_p [925, 336, 337, 53, 338, 339, 340, 341, 342, 343, 349, 66, 344, 345, 346, 347, 348, 418, 419, 420, 421, 422, 328, 329] rfl
set_option maxRecDepth 100000 in
theorem wl_r7 : ∀ w ∈ wsL_law0_r7, w ∈ lw_tbl := in_p [330, 331, 423, 424, 425, 426, 427, 428, 429, 430, 431, 432, 433, 973, 974, 975, 976, 909, 977, 978, 979, 980, 981, 982] rfl
set_option maxRecDepth 100000 in
theorem wl_r8 : ∀ w ∈ wsL_law0_r8, w ∈ lw_tbl := in_p [983, 984, 985, 987, 19, 988, 989, 991, 20, 992, 993, 995, 21, 996, 997, 998, 1000, 22, 1001, 1002, 1004, 23, 1005, 1010] rfl
set_option maxRecDepth 100000 in
theorem wl_r9 : ∀ w ∈ wsL_law0_r9, w ∈ lw_tbl := in_p [1006, 1008, 24, 1009, 1011, 1013, 25, 1014, 969, 970, 971, 972, 434, 435, 436, 437, 438, 439, 440, 442, 443, 68, 444, 445] rfl
set_option maxRecDepth 100000 in
theorem wl_r10 : ∀ w ∈ wsL_law0_r10, w ∈ lw_tbl := in_p [446, 451, 454, 457, 460, 463, 466, 448, 67, 449, 450, 482, 484, 1, 485, 1015, 1016, 1017, 1018, 1019, 1021, 26, 1022, 910] rfl
set_option maxRecDepth 100000 in
theorem wl_r11 : ∀ w ∈ wsL_law0_r11, w ∈ lw_tbl := in_p [486, 487, 488, 489, 490, 491, 492, 493, 499, 500, 69, 495, 496, 497, 501, 502, 503, 505, 507, 509, 511, 512, 1023, 1024] rfl
set_option maxRecDepth 100000 in
theorem wl_r12 : ∀ w ∈ wsL_law0_r12, w ∈ lw_tbl := in_p [1025, 1026, 1027, 524, 525, 526, 527, 528, 529, 530, 531, 536, 70, 442, 258, 260, 532, 534, 2, 535, 553, 554, 555, 556] rfl
set_option maxRecDepth 100000 in
theorem wl_r13 : ∀ w ∈ wsL_law0_r13, w ∈ lw_tbl := in_p [267, 268, 452, 455, 458, 461, 557, 559, 3, 560, 464, 467, 561, 562, 563, 564, 566, 4, 567, 568, 570, 5, 571, 572] rfl
set_option maxRecDepth 100000 in
theorem wl_r14 : ∀ w ∈ wsL_law0_r14, w ∈ lw_tbl := in_p [573, 574, 575, 576, 577, 578, 579, 580, 581, 582, 583, 584, 585, 586, 587, 588, 590, 589, 71, 591, 593, 6, 594, 595] rfl
set_option maxRecDepth 100000 in
theorem wl_r15 : ∀ w ∈ wsL_law0_r15, w ∈ lw_tbl := in_p [597, 7, 598, 599, 601, 8, 602, 603, 604, 605, 606, 607, 608, 72, 609, 610, 611, 73, 612, 613, 614, 615, 616, 617] rfl
set_option maxRecDepth 100000 in
theorem wl_r16 : ∀ w ∈ wsL_law0_r16, w ∈ lw_tbl := in_p [618, 619, 620, 621, 622, 623, 624, 625, 626, 627, 628, 629, 630, 631, 632, 633, 634, 1028, 1029, 1030, 1031, 1032, 1034, 27] rfl
set_option maxRecDepth 100000 in
theorem wl_r17 : ∀ w ∈ wsL_law0_r17, w ∈ lw_tbl := in_p [1035, 1036, 1038, 28, 1039, 1040, 1042, 29, 1043, 1044, 1046, 30, 1047, 1048, 1049, 1050, 1051, 1053, 31, 1054, 1055, 1057, 32, 1058] rfl
set_option maxRecDepth 100000 in
theorem wl_r18 : ∀ w ∈ wsL_law0_r18, w ∈ lw_tbl := in_p [1059, 1061, 33, 1062, 1063, 1065, 34, 1066, 1067, 1069, 35, 1070, 1071, 1073, 36, 1074, 1075, 1077, 37, 1078, 1079, 1081, 38, 1082] rfl
set_option maxRecDepth 100000 in
theorem wl_r19 : ∀ w ∈ wsL_law0_r19, w ∈ lw_tbl := in_p [1083, 1085, 39, 1086, 636, 637, 638, 639, 640, 641, 642, 142, 645, 644, 646, 647, 648, 649, 650, 148, 147, 651, 652, 653] rfl
set_option maxRecDepth 100000 in
theorem wl_r20 : ∀ w ∈ wsL_law0_r20, w ∈ lw_tbl := in_p [654, 655, 656, 657, 658, 659, 660, 661, 141, 146, 145, 662, 663, 664, 665, 666, 667, 668, 669, 1087, 1088, 1089, 1090, 1091] rfl
set_option maxRecDepth 100000 in
theorem wl_r21 : ∀ w ∈ wsL_law0_r21, w ∈ lw_tbl := in_p [1093, 40, 1094, 670, 671, 672, 673, 674, 675, 676, 499, 206, 208, 332, 333, 334, 335, 205, 207, 677, 678, 679, 680, 453] rfl
set_option maxRecDepth 100000 in
theorem wl_r22 : ∀ w ∈ wsL_law0_r22, w ∈ lw_tbl := in_p [456, 465, 468, 681, 682, 683, 685, 9, 686, 459, 462, 691, 692, 74, 693, 694, 695, 696, 687, 688, 689, 690, 697, 699] rfl
set_option maxRecDepth 100000 in
theorem wl_r23 : ∀ w ∈ wsL_law0_r23, w ∈ lw_tbl := in_p [10, 700, 209, 210, 701, 702, 704, 11, 705, 194, 143, 196, 706, 707, 708, 709, 711, 12, 712, 713, 714, 715, 716, 717] rfl
set_option maxRecDepth 100000 in
theorem wl_r24 : ∀ w ∈ wsL_law0_r24, w ∈ lw_tbl := in_p [506, 508, 510, 718, 719, 721, 13, 722, 723, 724, 725, 727, 14, 728, 729, 731, 15, 732, 733, 734, 735, 737, 16, 738] rfl
set_option maxRecDepth 100000 in
theorem wl_r25 : ∀ w ∈ wsL_law0_r25, w ∈ lw_tbl := in_p [149, 739, 740, 741, 742, 743, 744, 745, 746, 747, 748, 749, 750, 752, 751, 753, 755, 17, 756, 1095, 1096, 1097, 1098, 923] rfl
set_option maxRecDepth 100000 in
theorem wl_r26 : ∀ w ∈ wsL_law0_r26, w ∈ lw_tbl := in_p [924, 1099, 1101, 41, 1102, 1103, 926, 927, 1104, 1106, 42, 1107, 1108, 1110, 43, 1111, 1112, 1113, 1114, 1115, 1117, 44, 1118, 1119] rfl
set_option maxRecDepth 100000 in
theorem wl_r27 : ∀ w ∈ wsL_law0_r27, w ∈ lw_tbl := in_p [1121, 45, 1122, 1123, 1125, 46, 1126, 1127, 1129, 47, 1130, 1131, 1133, 48, 1134, 1135, 1137, 49, 1138, 758, 759, 760, 761, 762] rfl
set_option maxRecDepth 100000 in
theorem wl_r28 : ∀ w ∈ wsL_law0_r28, w ∈ lw_tbl := in_p [763, 764, 765, 766, 75, 783, 784, 785, 787, 788, 789, 790, 791, 792, 793, 794, 806, 795, 796, 797, 798, 799, 800, 802] rfl
set_option maxRecDepth 100000 in
theorem wl_r29 : ∀ w ∈ wsL_law0_r29, w ∈ lw_tbl := in_p [18, 803, 804, 805, 807, 808, 809, 1139, 1140, 1141, 1142, 1143, 1145, 50, 1146, 1147, 1149, 51, 1150, 1151, 1153, 52, 1154, 810] rfl
set_option maxRecDepth 100000 in
theorem wl_r30 : ∀ w ∈ wsL_law0_r30, w ∈ lw_tbl := in_p [811, 812, 813, 814, 815, 816, 817, 819, 820, 821, 822, 824, 823, 825, 826, 827, 828, 829, 830, 831, 832, 833, 834, 835] rfl
set_option maxRecDepth 100000 in
theorem wl_r31 : ∀ w ∈ wsL_law0_r31, w ∈ lw_tbl := in_p [1155, 1156, 1157, 1158, 1159, 1160, 1161, 836, 837, 838, 839, 840, 841, 842, 843, 844, 76, 861, 862, 74, 863, 1162, 1163, 1164] rfl
set_option maxRecDepth 100000 in
theorem wl_r32 : ∀ w ∈ wsL_law0_r32, w ∈ lw_tbl := in_p [1165, 864, 865, 866, 867, 868, 869, 870, 871, 872, 873, 874, 1166, 1167, 1168, 1169, 875, 876, 877, 878, 879, 880, 881, 105] rfl
set_option maxRecDepth 100000 in
theorem wl_r33 : ∀ w ∈ wsL_law0_r33, w ∈ lw_tbl := in_p [882, 883, 884, 885, 104, 106, 107, 108, 109, 886, 887, 888, 889, 1170, 1171, 1172, 1173, 918, 890, 891, 892, 893, 894, 895] rfl
set_option maxRecDepth 100000 in
theorem wl_r34 : ∀ w ∈ wsL_law0_r34, w ∈ lw_tbl := in_p [896, 898, 899, 900, 901, 902, 1174, 1175, 1176, 1177, 1178, 319, 320, 321, 322, 323, 324, 325, 326, 327, 1179, 1180, 1181, 1182] rfl
theorem inX10 : ∀ w ∈ wsX100, w ∈ lw_tbl := by decide +kernel
theorem inX11 : ∀ w ∈ wsX110, w ∈ lw_tbl := by decide +kernel
theorem inX4 : ∀ w ∈ wsX40, w ∈ lw_tbl := by decide +kernel
theorem inX6 : ∀ w ∈ wsX60, w ∈ lw_tbl := by decide +kernel
theorem inX1 : ∀ w ∈ wsX10, w ∈ lw_tbl := by decide +kernel
theorem inX2 : ∀ w ∈ wsX20, w ∈ lw_tbl := by decide +kernel
theorem inX5 : ∀ w ∈ wsX50, w ∈ lw_tbl := by decide +kernel
theorem inX9 : ∀ w ∈ wsX90, w ∈ lw_tbl := by decide +kernel
theorem inX3 : ∀ w ∈ wsX30, w ∈ lw_tbl := by decide +kernel
theorem inX7 : ∀ w ∈ wsX70, w ∈ lw_tbl := by decide +kernel
theorem inX0 : ∀ w ∈ wsX00, w ∈ lw_tbl := by decide +kernel
theorem wsL_law_x0 : ∀ w ∈ (vx_atS RX10 69 "java/lang/IllegalArgumentException" ["java/lang/RuntimeException", "java/lang/Exception"]).filter goodWord, w ∈ lw_tbl := by decide +kernel
theorem wsL_law_x1 : ∀ w ∈ (vx_atS RX10 113 "java/lang/IndexOutOfBoundsException" ["java/lang/RuntimeException", "java/lang/Exception"]).filter goodWord, w ∈ lw_tbl := by decide +kernel
theorem wsL_law_x2 : ∀ w ∈ (vx_atS RX10 181 "java/lang/IllegalStateException" ["java/lang/RuntimeException", "java/lang/Exception"]).filter goodWord, w ∈ lw_tbl := by decide +kernel
theorem wsL_law_x3 : ∀ w ∈ (vx_atS RX10 201 "java/lang/ArithmeticException" ["java/lang/RuntimeException", "java/lang/Exception"]).filter goodWord, w ∈ lw_tbl := by decide +kernel
theorem wsL_law_in : ∀ w ∈ wsL_law, w ∈ lw_tbl := (app_in (app_in (app_in (app_in (app_in (app_in (app_in (app_in (app_in (app_in (app_in (app_in (app_in (app_in (app_in (app_in (app_in wl_r1 (app_in wl_r2 (app_in wl_r3 (app_in wl_r4 (app_in wl_r5 (app_in wl_r6 (app_in wl_r7 (app_in wl_r8 (app_in wl_r9 (app_in wl_r10 (app_in wl_r11 (app_in wl_r12 (app_in wl_r13 (app_in wl_r14 (app_in wl_r15 (app_in wl_r16 (app_in wl_r17 (app_in wl_r18 (app_in wl_r19 (app_in wl_r20 (app_in wl_r21 (app_in wl_r22 (app_in wl_r23 (app_in wl_r24 (app_in wl_r25 (app_in wl_r26 (app_in wl_r27 (app_in wl_r28 (app_in wl_r29 (app_in wl_r30 (app_in wl_r31 (app_in wl_r32 (app_in wl_r33 (wl_r34)))))))))))))))))))))))))))))))))) inX10) inX11) inX4) inX6) inX1) inX2) inX5) inX9) inX3) inX7) inX0) (fun w h => absurd h List.not_mem_nil)) wsL_law_x0) wsL_law_x1) wsL_law_x2) wsL_law_x3)
