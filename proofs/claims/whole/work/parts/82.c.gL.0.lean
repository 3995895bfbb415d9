set_option maxRecDepth 20000 in
theorem ggL_law_X10_init : GoodIn wsL_law wsX10_init := goodIn_r _ [10, 11, 12, 13, 14, 15, 16, 17, 18, 19, 20, 21, 22, 23, 24, 25, 26, 27, 28, 29, 30, 31, 32, 33, 34, 35, 36, 37, 38, 39, 40, 41, 42, 43, 44, 45, 46, 47, 48, 6, 49, 50, 51, 52, 53, 54, 55, 56, 57, 58, 59, 60, 61, 62, 63, 64, 65, 66, 67, 68, 69, 70, 71, 72, 73, 74, 75, 76, 77, 78, 79, 80, 81, 82, 83, 84, 85, 86, 87, 88, 89, 90, 91, 92, 93, 94, 95, 96, 97, 98, 99, 100, 101, 102, 816, 817, 818, 819, 820, 821, 822, 823, 843, 844, 845, 846, 847, 848, 849, 850, 851, 852, 853, 854, 855, 856, 857, 858, 859, 860, 861, 862, 863, 864, 865, 866, 867, 868, 869, 870, 871, 872, 873, 874, 875, 876, 877, 878, 879, 880, 881, 882, 883, 884] rfl (by decide +kernel)
set_option maxRecDepth 20000 in
theorem gL_law_X10_init : GoodIn wsL_law (wsX10_init) := ggL_law_X10_init
set_option maxRecDepth 20000 in
theorem ggL_law_X11_init : GoodIn wsL_law wsX11_init := goodIn_r _ [105, 106, 12, 13, 107, 108, 6, 109, 110, 111, 112, 113, 114, 115, 116, 117, 118, 119, 120, 824, 825, 826, 827, 828, 829, 830, 831, 832, 833, 834, 835, 836, 837, 838, 839, 840, 841, 842] rfl (by decide +kernel)
set_option maxRecDepth 20000 in
theorem gL_law_X11_init : GoodIn wsL_law (wsX11_init) := ggL_law_X11_init
set_option maxRecDepth 20000 in
theorem ggL_law_L_turn : GoodIn wsL_law wsL_turn := goodIn_ca (goodIn_r _ [124, 125, 126, 127, 128, 2, 129, 130, 131, 39, 132, 133, 134, 135, 136, 137, 138, 139, 38, 140, 141, 142, 143, 144, 49, 145, 146, 147, 148, 149, 150, 151, 152, 153, 154, 155, 156, 816, 817, 818, 819, 820, 821, 822, 823, 882] rfl (by decide +kernel)) (goodIn_sub (fun _ h => List.mem_append_left _ (List.mem_append_left _ (List.mem_append_left _ (List.mem_append_right _ h)))) (by decide +kernel))
set_option maxRecDepth 20000 in
theorem gL_law_L_turn : GoodIn wsL_law (va_wsS RL 70 yL_turn wsL_turn) := goodIn_app (goodIn_of _ (by decide +kernel)) ggL_law_L_turn
set_option maxRecDepth 20000 in
theorem ggL_law_X11_turn : GoodIn wsL_law wsX11_turn := goodIn_r _ [160, 161, 162, 163, 5, 164, 165, 166, 167, 168, 169, 170, 171, 172, 173, 174, 175, 176, 177, 178, 179, 180, 181, 119, 118, 182, 183, 184, 185, 186, 187, 188, 189, 190, 191, 192, 193, 194, 195, 196, 197, 198, 199, 824, 825, 826, 827, 828, 829, 830, 831, 832, 833, 834, 835, 836, 837, 838, 839, 840, 841, 842] rfl (by decide +kernel)
set_option maxRecDepth 20000 in
theorem gL_law_X11_turn : GoodIn wsL_law (wsV RL 75 RX11 yX11_turn wsX11_turn) := goodIn_app (goodIn_of _ (by decide +kernel)) ggL_law_X11_turn
set_option maxRecDepth 20000 in
theorem ggL_law_X11_thrown : GoodIn wsL_law wsX11_thrown := goodIn_r _ [203, 161, 824, 825, 826, 827, 828, 829, 830, 831, 832, 833, 834, 835, 836, 837, 838, 839, 840, 841, 842] rfl (by decide +kernel)
set_option maxRecDepth 20000 in
theorem gL_law_X11_thrown : GoodIn wsL_law (wsV RL 76 RX11 yX11_thrown wsX11_thrown) := goodIn_app (goodIn_of _ (by decide +kernel)) ggL_law_X11_thrown
set_option maxRecDepth 20000 in
theorem ggL_law_L_segment : GoodIn wsL_law wsL_segment := goodIn_ca (goodIn_r _ [206, 125, 207, 208, 209, 2, 210, 130, 131, 211, 212, 213, 132, 133, 134, 135, 136, 214, 215, 216, 217, 218, 219, 220, 221, 222, 223, 224, 225, 226, 12, 13, 227, 228, 229, 230, 40, 15, 885, 886, 887, 888, 889, 890, 816, 817, 818, 819, 820, 821, 822, 823] rfl (by decide +kernel)) (goodIn_sub (fun _ h => List.mem_append_left _ (List.mem_append_left _ (List.mem_append_left _ (List.mem_append_right _ h)))) (by decide +kernel))
set_option maxRecDepth 20000 in
theorem gL_law_L_segment : GoodIn wsL_law (va_wsS RL 80 yL_segment wsL_segment) := goodIn_app (goodIn_of _ (by decide +kernel)) ggL_law_L_segment
set_option maxRecDepth 20000 in
theorem ggL_law_X11_segment : GoodIn wsL_law wsX11_segment := goodIn_r _ [234, 161, 162, 163, 5, 164, 165, 166, 167, 168, 169, 235, 236, 237, 238, 239, 108, 109, 110, 111, 112, 824, 825, 826, 827, 828, 829, 830, 831, 832, 833, 834, 835, 836, 837, 838, 839, 840, 841, 842] rfl (by decide +kernel)
set_option maxRecDepth 20000 in
theorem gL_law_X11_segment : GoodIn wsL_law (wsV RL 83 RX11 yX11_segment wsX11_segment) := goodIn_app (goodIn_of _ (by decide +kernel)) ggL_law_X11_segment
set_option maxRecDepth 20000 in
theorem ggL_law_L_arc : GoodIn wsL_law wsL_arc := goodIn_ca (goodIn_r _ [242, 125, 243, 244, 245, 2, 246, 130, 131, 247, 248, 249, 250, 132, 133, 134, 135, 136, 251, 252, 253, 254, 255, 256, 257, 258, 259, 260, 261, 223, 224, 225, 226, 12, 13, 227, 228, 229, 230, 40, 15, 891, 892, 893, 894, 895, 816, 817, 818, 819, 820, 821, 822, 823] rfl (by decide +kernel)) (goodIn_sub (fun _ h => List.mem_append_left _ (List.mem_append_left _ (List.mem_append_left _ (List.mem_append_right _ h)))) (by decide +kernel))
