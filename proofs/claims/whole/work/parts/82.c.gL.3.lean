set_option maxRecDepth 20000 in
theorem gL_law_X11_root : GoodIn wsL_law (wsV RL 114 RX11 yX11_root wsX11_root) := goodIn_app (goodIn_of _ (by decide +kernel)) ggL_law_X11_root
set_option maxRecDepth 20000 in
theorem ggL_law_L_corner : GoodIn wsL_law wsL_corner := goodIn_ca (goodIn_r _ [770, 125, 771, 772, 773, 2, 774, 130, 131, 19, 775, 132, 133, 134, 135, 136, 776, 777, 778, 18, 779, 780, 781, 782, 45, 783, 784, 785, 147, 148, 38, 149, 150, 151, 152, 153, 49, 145, 154, 155, 156, 821, 822, 823, 824, 825, 826, 827, 828, 848, 849, 850, 851, 852, 853, 887] rfl (by decide +kernel)) (goodIn_sub (fun _ h => List.mem_append_left _ (List.mem_append_left _ (List.mem_append_left _ (List.mem_append_right _ h)))) (by decide +kernel))
set_option maxRecDepth 20000 in
theorem gL_law_L_corner : GoodIn wsL_law (va_wsS RL 115 yL_corner wsL_corner) := goodIn_app (goodIn_of _ (by decide +kernel)) ggL_law_L_corner
set_option maxRecDepth 20000 in
theorem ggL_law_X11_corner : GoodIn wsL_law wsX11_corner := goodIn_r _ [789, 165, 790, 116, 117, 166, 167, 5, 168, 169, 170, 171, 172, 173, 829, 830, 831, 832, 833, 834, 835, 836, 837, 838, 839, 840, 841, 842, 843, 844, 845, 846, 847] rfl (by decide +kernel)
set_option maxRecDepth 20000 in
theorem gL_law_X11_corner : GoodIn wsL_law (wsV RL 118 RX11 yX11_corner wsX11_corner) := goodIn_app (goodIn_of _ (by decide +kernel)) ggL_law_X11_corner
set_option maxRecDepth 20000 in
theorem ggL_law_L_area : GoodIn wsL_law wsL_area := goodIn_ca (goodIn_r _ [793, 274, 794, 795, 796, 2, 797, 279, 280, 19, 39, 798, 799, 800, 18, 801, 45, 783, 784, 781, 782, 802, 332, 333, 38, 334, 49, 335, 336, 337, 338, 785, 147, 148, 149, 150, 151, 152, 153, 145, 154, 155, 156, 384, 369, 370, 371, 821, 822, 823, 824, 825, 826, 827, 828, 848, 849, 850, 851, 852, 853, 887] rfl (by decide +kernel)) (goodIn_sub (fun _ h => List.mem_append_left _ (List.mem_append_left _ (List.mem_append_right _ h))) (by decide +kernel))
set_option maxRecDepth 20000 in
theorem gL_law_L_area : GoodIn wsL_law (va_wsS RL 119 yL_area wsL_area) := goodIn_app (goodIn_of _ (by decide +kernel)) ggL_law_L_area
set_option maxRecDepth 20000 in
theorem ggL_law_X11_area : GoodIn wsL_law wsX11_area := goodIn_r _ [806, 165, 790, 116, 117, 119, 807, 182, 183, 184, 5, 185, 118, 186, 178, 179, 180, 181, 187, 188, 189, 190, 191, 192, 193, 194, 195, 196, 197, 198, 199, 416, 417, 418, 419, 200, 201, 202, 203, 440, 441, 442, 443, 829, 830, 831, 832, 833, 834, 835, 836, 837, 838, 839, 840, 841, 842, 843, 844, 845, 846, 847] rfl (by decide +kernel)
set_option maxRecDepth 20000 in
theorem gL_law_X11_area : GoodIn wsL_law (wsV RL 122 RX11 yX11_area wsX11_area) := goodIn_app (goodIn_of _ (by decide +kernel)) ggL_law_X11_area
set_option maxRecDepth 20000 in
theorem ggL_law_X10_clear : GoodIn wsL_law wsX10_clear := goodIn_r _ [811, 40, 19, 27, 812, 813, 814, 18, 815, 780, 781, 782, 783, 784, 45, 816, 142, 143, 38, 144, 49, 145, 501, 502, 503, 26, 504, 505, 506, 821, 822, 823, 824, 825, 826, 827, 828, 848, 849, 850, 851, 852, 853, 887, 858, 859, 860, 861, 862, 863, 864, 865, 866, 867, 868, 869, 870, 871] rfl (by decide +kernel)
set_option maxRecDepth 20000 in
theorem gL_law_X10_clear : GoodIn wsL_law (wsV RL 123 RX10 yX10_clear wsX10_clear) := goodIn_app (goodIn_of _ (by decide +kernel)) ggL_law_X10_clear
set_option maxRecDepth 20000 in
theorem ggL_law_X11_clear : GoodIn wsL_law wsX11_clear := goodIn_r _ [820, 165, 243, 790, 607, 608, 829, 830, 831, 832, 833, 834, 835, 836, 837, 838, 839, 840, 841, 842, 843, 844, 845, 846, 847] rfl (by decide +kernel)
set_option maxRecDepth 20000 in
theorem gL_law_X11_clear : GoodIn wsL_law (wsV RL 126 RX11 yX11_clear wsX11_clear) := goodIn_app (goodIn_of _ (by decide +kernel)) ggL_law_X11_clear
