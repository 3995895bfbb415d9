set_option maxRecDepth 20000 in
theorem ggL_law_L_at : GoodIn wsL_law wsL_at := goodIn_ca (goodIn_ca (goodIn_r _ [653, 654, 274, 655, 656, 657, 2, 658, 659, 660, 279, 280, 27, 499, 500, 661, 662, 663, 664, 665, 666, 26, 667, 76, 77, 538, 70, 545, 72, 539, 547, 668, 669, 670, 22, 671, 57, 58, 472, 672, 673, 674, 675, 34, 676, 63, 64, 460, 459, 677, 332, 333, 38, 334, 49, 335, 336, 337, 338, 476, 678, 679, 680, 681, 474, 682, 365, 366, 367, 145, 368, 369, 370, 371, 683, 586, 587, 588, 684, 373, 374, 375, 685, 469, 470, 471, 473, 54, 55, 475, 158, 159, 160, 477, 478, 479, 480, 481, 328, 329, 330, 141, 142, 143, 144, 482, 324, 325, 326, 686, 381, 382, 383, 821, 822, 823, 824, 825, 826, 827, 828, 858, 859, 860, 861, 862, 863, 864, 865, 866, 867, 868, 869, 870, 871, 888, 889, 854, 855, 856, 857, 882, 883, 884, 885, 886, 887] rfl (by decide +kernel)) (goodIn_sub (fun _ h => List.mem_append_left _ (List.mem_append_right _ h)) (by decide +kernel))) (goodIn_sub (fun _ h => List.mem_append_left _ (List.mem_append_left _ (List.mem_append_right _ h))) (by decide +kernel))
set_option maxRecDepth 20000 in
theorem gL_law_L_at : GoodIn wsL_law (va_wsS RL 99 yL_at wsL_at) := goodIn_app (goodIn_of _ (by decide +kernel)) ggL_law_L_at
set_option maxRecDepth 20000 in
theorem ggL_law_X11_at : GoodIn wsL_law wsX11_at := goodIn_r _ [690, 608, 607, 165, 614, 615, 120, 119, 691, 692, 693, 5, 694, 182, 183, 184, 185, 118, 186, 187, 188, 189, 190, 191, 192, 193, 194, 195, 196, 197, 198, 199, 416, 417, 418, 419, 695, 696, 697, 698, 432, 433, 434, 435, 436, 437, 438, 439, 200, 201, 202, 203, 428, 429, 430, 431, 699, 700, 701, 702, 440, 441, 442, 443, 829, 830, 831, 832, 833, 834, 835, 836, 837, 838, 839, 840, 841, 842, 843, 844, 845, 846, 847] rfl (by decide +kernel)
set_option maxRecDepth 20000 in
theorem gL_law_X11_at : GoodIn wsL_law (wsV RL 102 RX11 yX11_at wsX11_at) := goodIn_app (goodIn_of _ (by decide +kernel)) ggL_law_X11_at
set_option maxRecDepth 20000 in
theorem ggL_law_L_on : GoodIn wsL_law wsL_on := goodIn_ca (goodIn_ca (goodIn_r _ [705, 274, 125, 706, 707, 708, 2, 709, 279, 280, 130, 131, 39, 284, 285, 286, 287, 40, 15, 132, 133, 134, 135, 136, 710, 711, 712, 713, 254, 714, 261, 262, 263, 715, 716, 320, 321, 38, 322, 141, 142, 143, 144, 49, 145, 150, 151, 152, 153, 154, 155, 156, 717, 718, 158, 159, 160, 719, 462, 357, 463, 720, 590, 591, 592, 264, 265, 721, 722, 217, 723, 221, 223, 724, 524, 525, 526, 725, 528, 529, 222, 224, 225, 226, 726, 138, 139, 140, 146, 147, 148, 149, 727, 821, 822, 823, 824, 825, 826, 827, 828, 896, 897, 898, 899, 900, 887, 890, 891, 892, 893, 894, 895] rfl (by decide +kernel)) (goodIn_sub (fun _ h => List.mem_append_left _ (List.mem_append_left _ (List.mem_append_right _ h))) (by decide +kernel))) (goodIn_sub (fun _ h => List.mem_append_left _ (List.mem_append_left _ (List.mem_append_left _ (List.mem_append_right _ h)))) (by decide +kernel))
set_option maxRecDepth 20000 in
theorem gL_law_L_on : GoodIn wsL_law (va_wsS RL 103 yL_on wsL_on) := goodIn_app (goodIn_of _ (by decide +kernel)) ggL_law_L_on
set_option maxRecDepth 20000 in
theorem ggL_law_X11_on : GoodIn wsL_law wsX11_on := goodIn_r _ [731, 165, 108, 109, 110, 111, 389, 390, 391, 5, 392, 243, 166, 167, 168, 169, 170, 171, 172, 173, 401, 402, 403, 404, 112, 405, 406, 407, 174, 175, 176, 177, 178, 179, 180, 181, 182, 183, 184, 185, 119, 118, 186, 187, 188, 189, 190, 191, 192, 193, 194, 195, 196, 197, 198, 199, 200, 201, 202, 203, 732, 733, 734, 624, 625, 626, 627, 628, 629, 630, 114, 115, 829, 830, 831, 832, 833, 834, 835, 836, 837, 838, 839, 840, 841, 842, 843, 844, 845, 846, 847] rfl (by decide +kernel)
set_option maxRecDepth 20000 in
theorem gL_law_X11_on : GoodIn wsL_law (wsV RL 106 RX11 yX11_on wsX11_on) := goodIn_app (goodIn_of _ (by decide +kernel)) ggL_law_X11_on
set_option maxRecDepth 20000 in
theorem ggL_law_L_over : GoodIn wsL_law wsL_over := goodIn_ca (goodIn_ca (goodIn_r _ [737, 738, 274, 739, 740, 741, 2, 742, 743, 744, 279, 280, 452, 661, 662, 663, 745, 746, 747, 748] rfl (by decide +kernel)) (goodIn_sub (fun _ h => List.mem_append_right _ h) (by decide +kernel))) (goodIn_sub (fun _ h => List.mem_append_left _ (List.mem_append_left _ (List.mem_append_right _ h))) (by decide +kernel))
set_option maxRecDepth 20000 in
theorem gL_law_L_over : GoodIn wsL_law (va_wsS RL 107 yL_over wsL_over) := goodIn_app (goodIn_of _ (by decide +kernel)) ggL_law_L_over
set_option maxRecDepth 20000 in
theorem ggL_law_X11_over : GoodIn wsL_law wsX11_over := goodIn_r _ [752, 165, 829, 830, 831, 832, 833, 834, 835, 836, 837, 838, 839, 840, 841, 842, 843, 844, 845, 846, 847] rfl (by decide +kernel)
set_option maxRecDepth 20000 in
theorem gL_law_X11_over : GoodIn wsL_law (wsV RL 110 RX11 yX11_over wsX11_over) := goodIn_app (goodIn_of _ (by decide +kernel)) ggL_law_X11_over
set_option maxRecDepth 20000 in
theorem ggL_law_L_root : GoodIn wsL_law wsL_root := goodIn_ca (goodIn_ca (goodIn_r _ [755, 274, 125, 756, 757, 758, 2, 759, 279, 280, 130, 131, 661, 662, 663, 760, 761, 762, 763] rfl (by decide +kernel)) (goodIn_sub (fun _ h => List.mem_append_left _ (List.mem_append_left _ (List.mem_append_right _ h))) (by decide +kernel))) (goodIn_sub (fun _ h => List.mem_append_left _ (List.mem_append_left _ (List.mem_append_left _ (List.mem_append_right _ h)))) (by decide +kernel))
set_option maxRecDepth 20000 in
theorem gL_law_L_root : GoodIn wsL_law (va_wsS RL 111 yL_root wsL_root) := goodIn_app (goodIn_of _ (by decide +kernel)) ggL_law_L_root
set_option maxRecDepth 20000 in
theorem ggL_law_X11_root : GoodIn wsL_law wsX11_root := goodIn_r _ [767, 165, 182, 183, 184, 5, 185, 119, 118, 186, 695, 696, 697, 698, 432, 433, 434, 435, 195, 416, 417, 418, 419, 196, 197, 198, 199, 436, 437, 438, 439, 200, 201, 202, 203, 699, 700, 701, 702, 440, 441, 442, 443, 829, 830, 831, 832, 833, 834, 835, 836, 837, 838, 839, 840, 841, 842, 843, 844, 845, 846, 847] rfl (by decide +kernel)
