set_option maxRecDepth 20000 in
theorem gL_law_X11_root : GoodIn wsL_law (wsV RL 114 RX11 yX11_root wsX11_root) := goodIn_app (goodIn_of _ (by decide +kernel)) ggL_law_X11_root
set_option maxRecDepth 20000 in
theorem ggL_law_L_corner : GoodIn wsL_law wsL_corner := goodIn_ca (goodIn_r _ [762, 125, 763, 764, 765, 2, 766, 130, 131, 19, 767, 132, 133, 134, 135, 136, 768, 769, 770, 18, 771, 772, 773, 774, 45, 775, 776, 777, 778, 779, 38, 780, 146, 147, 148, 149, 49, 145, 150, 151, 152, 816, 817, 818, 819, 820, 821, 822, 823, 843, 844, 845, 846, 847, 848, 882] rfl (by decide +kernel)) (goodIn_sub (fun _ h => List.mem_append_left _ (List.mem_append_left _ (List.mem_append_left _ (List.mem_append_right _ h)))) (by decide +kernel))
set_option maxRecDepth 20000 in
theorem gL_law_L_corner : GoodIn wsL_law (va_wsS RL 115 yL_corner wsL_corner) := goodIn_app (goodIn_of _ (by decide +kernel)) ggL_law_L_corner
set_option maxRecDepth 20000 in
theorem ggL_law_X11_corner : GoodIn wsL_law wsX11_corner := goodIn_r _ [784, 161, 785, 116, 117, 162, 163, 5, 164, 165, 166, 167, 168, 169, 824, 825, 826, 827, 828, 829, 830, 831, 832, 833, 834, 835, 836, 837, 838, 839, 840, 841, 842] rfl (by decide +kernel)
set_option maxRecDepth 20000 in
theorem gL_law_X11_corner : GoodIn wsL_law (wsV RL 118 RX11 yX11_corner wsX11_corner) := goodIn_app (goodIn_of _ (by decide +kernel)) ggL_law_X11_corner
set_option maxRecDepth 20000 in
theorem ggL_law_L_area : GoodIn wsL_law wsL_area := goodIn_ca (goodIn_r _ [788, 270, 789, 790, 791, 2, 792, 275, 276, 19, 39, 793, 794, 795, 18, 796, 45, 775, 776, 773, 774, 797, 324, 325, 38, 326, 49, 327, 328, 329, 330, 777, 778, 779, 780, 146, 147, 148, 149, 145, 150, 151, 152, 376, 361, 362, 363, 816, 817, 818, 819, 820, 821, 822, 823, 843, 844, 845, 846, 847, 848, 882] rfl (by decide +kernel)) (goodIn_sub (fun _ h => List.mem_append_left _ (List.mem_append_left _ (List.mem_append_right _ h))) (by decide +kernel))
set_option maxRecDepth 20000 in
theorem gL_law_L_area : GoodIn wsL_law (va_wsS RL 119 yL_area wsL_area) := goodIn_app (goodIn_of _ (by decide +kernel)) ggL_law_L_area
set_option maxRecDepth 20000 in
theorem ggL_law_X11_area : GoodIn wsL_law wsX11_area := goodIn_r _ [801, 161, 785, 116, 117, 119, 802, 178, 179, 180, 5, 181, 118, 182, 174, 175, 176, 177, 183, 184, 185, 186, 187, 188, 189, 190, 191, 192, 193, 194, 195, 408, 409, 410, 411, 196, 197, 198, 199, 432, 433, 434, 435, 824, 825, 826, 827, 828, 829, 830, 831, 832, 833, 834, 835, 836, 837, 838, 839, 840, 841, 842] rfl (by decide +kernel)
set_option maxRecDepth 20000 in
theorem gL_law_X11_area : GoodIn wsL_law (wsV RL 122 RX11 yX11_area wsX11_area) := goodIn_app (goodIn_of _ (by decide +kernel)) ggL_law_X11_area
set_option maxRecDepth 20000 in
theorem ggL_law_X10_clear : GoodIn wsL_law wsX10_clear := goodIn_r _ [806, 40, 19, 27, 807, 808, 809, 18, 810, 772, 773, 774, 775, 776, 45, 811, 142, 143, 38, 144, 49, 145, 493, 494, 495, 26, 496, 497, 498, 816, 817, 818, 819, 820, 821, 822, 823, 843, 844, 845, 846, 847, 848, 882, 853, 854, 855, 856, 857, 858, 859, 860, 861, 862, 863, 864, 865, 866] rfl (by decide +kernel)
set_option maxRecDepth 20000 in
theorem gL_law_X10_clear : GoodIn wsL_law (wsV RL 123 RX10 yX10_clear wsX10_clear) := goodIn_app (goodIn_of _ (by decide +kernel)) ggL_law_X10_clear
set_option maxRecDepth 20000 in
theorem ggL_law_X11_clear : GoodIn wsL_law wsX11_clear := goodIn_r _ [815, 161, 239, 785, 599, 600, 824, 825, 826, 827, 828, 829, 830, 831, 832, 833, 834, 835, 836, 837, 838, 839, 840, 841, 842] rfl (by decide +kernel)
set_option maxRecDepth 20000 in
theorem gL_law_X11_clear : GoodIn wsL_law (wsV RL 126 RX11 yX11_clear wsX11_clear) := goodIn_app (goodIn_of _ (by decide +kernel)) ggL_law_X11_clear
