set_option maxRecDepth 20000 in
theorem ggL_law_L_at : GoodIn wsL_law wsL_at := goodIn_ca (goodIn_ca (goodIn_r _ [645, 646, 270, 647, 648, 649, 2, 650, 651, 652, 275, 276, 27, 491, 492, 653, 654, 655, 656, 657, 658, 26, 659, 76, 77, 530, 70, 537, 72, 531, 539, 660, 661, 662, 22, 663, 57, 58, 464, 664, 665, 666, 667, 34, 668, 63, 64, 452, 451, 669, 324, 325, 38, 326, 49, 327, 328, 329, 330, 468, 670, 671, 672, 673, 466, 674, 357, 358, 359, 145, 360, 361, 362, 363, 675, 578, 579, 580, 676, 365, 366, 367, 677, 461, 462, 463, 465, 54, 55, 467, 154, 155, 156, 469, 470, 471, 472, 473, 320, 321, 322, 141, 142, 143, 144, 474, 316, 317, 318, 678, 373, 374, 375, 816, 817, 818, 819, 820, 821, 822, 823, 853, 854, 855, 856, 857, 858, 859, 860, 861, 862, 863, 864, 865, 866, 883, 884, 849, 850, 851, 852, 877, 878, 879, 880, 881, 882] rfl (by decide +kernel)) (goodIn_sub (fun _ h => List.mem_append_left _ (List.mem_append_right _ h)) (by decide +kernel))) (goodIn_sub (fun _ h => List.mem_append_left _ (List.mem_append_left _ (List.mem_append_right _ h))) (by decide +kernel))
set_option maxRecDepth 20000 in
theorem gL_law_L_at : GoodIn wsL_law (va_wsS RL 99 yL_at wsL_at) := goodIn_app (goodIn_of _ (by decide +kernel)) ggL_law_L_at
set_option maxRecDepth 20000 in
theorem ggL_law_X11_at : GoodIn wsL_law wsX11_at := goodIn_r _ [682, 600, 599, 161, 606, 607, 120, 119, 683, 684, 685, 5, 686, 178, 179, 180, 181, 118, 182, 183, 184, 185, 186, 187, 188, 189, 190, 191, 192, 193, 194, 195, 408, 409, 410, 411, 687, 688, 689, 690, 424, 425, 426, 427, 428, 429, 430, 431, 196, 197, 198, 199, 420, 421, 422, 423, 691, 692, 693, 694, 432, 433, 434, 435, 824, 825, 826, 827, 828, 829, 830, 831, 832, 833, 834, 835, 836, 837, 838, 839, 840, 841, 842] rfl (by decide +kernel)
set_option maxRecDepth 20000 in
theorem gL_law_X11_at : GoodIn wsL_law (wsV RL 102 RX11 yX11_at wsX11_at) := goodIn_app (goodIn_of _ (by decide +kernel)) ggL_law_X11_at
set_option maxRecDepth 20000 in
theorem ggL_law_L_on : GoodIn wsL_law wsL_on := goodIn_ca (goodIn_ca (goodIn_r _ [697, 270, 125, 698, 699, 700, 2, 701, 275, 276, 130, 131, 39, 280, 281, 282, 283, 40, 15, 132, 133, 134, 135, 136, 702, 703, 704, 705, 250, 706, 257, 258, 259, 707, 708, 312, 313, 38, 314, 141, 142, 143, 144, 49, 145, 146, 147, 148, 149, 150, 151, 152, 709, 710, 154, 155, 156, 711, 454, 349, 455, 712, 582, 583, 584, 260, 261, 713, 714, 213, 715, 217, 219, 716, 516, 517, 518, 717, 520, 521, 218, 220, 221, 222, 718, 138, 139, 140, 719, 816, 817, 818, 819, 820, 821, 822, 823, 891, 892, 893, 894, 895, 882, 885, 886, 887, 888, 889, 890] rfl (by decide +kernel)) (goodIn_sub (fun _ h => List.mem_append_left _ (List.mem_append_left _ (List.mem_append_right _ h))) (by decide +kernel))) (goodIn_sub (fun _ h => List.mem_append_left _ (List.mem_append_left _ (List.mem_append_left _ (List.mem_append_right _ h)))) (by decide +kernel))
set_option maxRecDepth 20000 in
theorem gL_law_L_on : GoodIn wsL_law (va_wsS RL 103 yL_on wsL_on) := goodIn_app (goodIn_of _ (by decide +kernel)) ggL_law_L_on
set_option maxRecDepth 20000 in
theorem ggL_law_X11_on : GoodIn wsL_law wsX11_on := goodIn_r _ [723, 161, 108, 109, 110, 111, 381, 382, 383, 5, 384, 239, 162, 163, 164, 165, 166, 167, 168, 169, 393, 394, 395, 396, 112, 397, 398, 399, 170, 171, 172, 173, 174, 175, 176, 177, 178, 179, 180, 181, 119, 118, 182, 183, 184, 185, 186, 187, 188, 189, 190, 191, 192, 193, 194, 195, 196, 197, 198, 199, 724, 725, 726, 616, 617, 618, 619, 620, 621, 622, 114, 115, 824, 825, 826, 827, 828, 829, 830, 831, 832, 833, 834, 835, 836, 837, 838, 839, 840, 841, 842] rfl (by decide +kernel)
set_option maxRecDepth 20000 in
theorem gL_law_X11_on : GoodIn wsL_law (wsV RL 106 RX11 yX11_on wsX11_on) := goodIn_app (goodIn_of _ (by decide +kernel)) ggL_law_X11_on
set_option maxRecDepth 20000 in
theorem ggL_law_L_over : GoodIn wsL_law wsL_over := goodIn_ca (goodIn_ca (goodIn_r _ [729, 730, 270, 731, 732, 733, 2, 734, 735, 736, 275, 276, 444, 653, 654, 655, 737, 738, 739, 740] rfl (by decide +kernel)) (goodIn_sub (fun _ h => List.mem_append_right _ h) (by decide +kernel))) (goodIn_sub (fun _ h => List.mem_append_left _ (List.mem_append_left _ (List.mem_append_right _ h))) (by decide +kernel))
set_option maxRecDepth 20000 in
theorem gL_law_L_over : GoodIn wsL_law (va_wsS RL 107 yL_over wsL_over) := goodIn_app (goodIn_of _ (by decide +kernel)) ggL_law_L_over
set_option maxRecDepth 20000 in
theorem ggL_law_X11_over : GoodIn wsL_law wsX11_over := goodIn_r _ [744, 161, 824, 825, 826, 827, 828, 829, 830, 831, 832, 833, 834, 835, 836, 837, 838, 839, 840, 841, 842] rfl (by decide +kernel)
set_option maxRecDepth 20000 in
theorem gL_law_X11_over : GoodIn wsL_law (wsV RL 110 RX11 yX11_over wsX11_over) := goodIn_app (goodIn_of _ (by decide +kernel)) ggL_law_X11_over
set_option maxRecDepth 20000 in
theorem ggL_law_L_root : GoodIn wsL_law wsL_root := goodIn_ca (goodIn_ca (goodIn_r _ [747, 270, 125, 748, 749, 750, 2, 751, 275, 276, 130, 131, 653, 654, 655, 752, 753, 754, 755] rfl (by decide +kernel)) (goodIn_sub (fun _ h => List.mem_append_left _ (List.mem_append_left _ (List.mem_append_right _ h))) (by decide +kernel))) (goodIn_sub (fun _ h => List.mem_append_left _ (List.mem_append_left _ (List.mem_append_left _ (List.mem_append_right _ h)))) (by decide +kernel))
set_option maxRecDepth 20000 in
theorem gL_law_L_root : GoodIn wsL_law (va_wsS RL 111 yL_root wsL_root) := goodIn_app (goodIn_of _ (by decide +kernel)) ggL_law_L_root
set_option maxRecDepth 20000 in
theorem ggL_law_X11_root : GoodIn wsL_law wsX11_root := goodIn_r _ [759, 161, 178, 179, 180, 5, 181, 119, 118, 182, 687, 688, 689, 690, 424, 425, 426, 427, 191, 408, 409, 410, 411, 192, 193, 194, 195, 428, 429, 430, 431, 196, 197, 198, 199, 691, 692, 693, 694, 432, 433, 434, 435, 824, 825, 826, 827, 828, 829, 830, 831, 832, 833, 834, 835, 836, 837, 838, 839, 840, 841, 842] rfl (by decide +kernel)
