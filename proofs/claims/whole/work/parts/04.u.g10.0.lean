set_option maxRecDepth 20000 in
theorem ggX10_init_X4_init : GoodIn wsX10_init wsX4_init := goodIn_r _ [32, 33, 2, 3, 34, 27, 28, 35, 36, 37, 38, 39, 40, 141, 102, 103, 104, 105, 106, 107] rfl (by decide +kernel)
set_option maxRecDepth 20000 in
theorem gX10_init_X4_init_n17 : GoodIn wsX10_init (wsX4_init) := ggX10_init_X4_init
set_option maxRecDepth 20000 in
theorem ggX10_init_X6_init : GoodIn wsX10_init wsX6_init := goodIn_r _ [42, 43, 2, 3, 44, 27, 28, 45, 46, 47, 23, 24, 48, 49, 36, 37, 38, 39, 40, 50, 51, 52, 53, 54, 55, 56, 141, 108, 109, 110, 111, 136, 137, 138, 139, 140] rfl (by decide +kernel)
set_option maxRecDepth 20000 in
theorem gX10_init_X6_init_n24 : GoodIn wsX10_init (wsX6_init) := ggX10_init_X6_init
set_option maxRecDepth 20000 in
theorem ggX10_init_X1_init : GoodIn wsX10_init wsX1_init := goodIn_r _ [58, 59, 2, 3, 60, 11, 12, 61, 62, 27, 28, 63, 64, 65, 66, 67, 68, 69, 70, 23, 24, 71, 72, 73, 74, 75, 41, 42, 43, 44, 45, 46, 47, 48, 49, 36, 37, 38, 39, 40, 50, 51, 52, 53, 54, 55, 56, 76, 77, 78, 79, 80, 81, 108, 109, 110, 111, 112, 113, 114, 115, 116, 117, 118, 119, 120, 121, 122, 123, 124, 125, 141, 142, 143, 136, 137, 138, 139, 140] rfl (by decide +kernel)
set_option maxRecDepth 20000 in
theorem gX10_init_X1_init_n31 : GoodIn wsX10_init (wsX1_init) := ggX10_init_X1_init
set_option maxRecDepth 20000 in
theorem ggX10_init_X2_init : GoodIn wsX10_init wsX2_init := goodIn_r _ [83, 84, 2, 3, 85, 27, 28, 86, 87, 88, 89, 90, 91, 92, 93, 36, 37, 38, 39, 40, 141, 126, 127, 128, 129, 130, 131, 132, 133, 134, 135] rfl (by decide +kernel)
set_option maxRecDepth 20000 in
theorem gX10_init_X2_init_n38 : GoodIn wsX10_init (wsX2_init) := ggX10_init_X2_init
set_option maxRecDepth 20000 in
theorem ggX10_init_X5_init : GoodIn wsX10_init wsX5_init := goodIn_r _ [51, 52, 2, 3, 53, 27, 28, 54, 55, 56, 36, 37, 38, 39, 40, 141, 136, 137, 138, 139, 140] rfl (by decide +kernel)
set_option maxRecDepth 20000 in
theorem gX10_init_X5_init_n45 : GoodIn wsX10_init (wsX5_init) := ggX10_init_X5_init
set_option maxRecDepth 20000 in
theorem ggX10_init_X9_init : GoodIn wsX10_init wsX9_init := goodIn_r _ [37, 38, 2, 3, 39, 40, 141] rfl (by decide +kernel)
set_option maxRecDepth 20000 in
theorem gX10_init_X9_init_n52 : GoodIn wsX10_init (wsX9_init) := ggX10_init_X9_init
set_option maxRecDepth 20000 in
theorem ggX10_turn_X10_isPlace : GoodIn wsX10_turn wsX10_isPlace := goodIn_r _ [7, 8, 9] rfl (by decide +kernel)
set_option maxRecDepth 20000 in
theorem gX10_turn_X10_isPlace : GoodIn wsX10_turn (va_wsS RX10 61 yX10_isPlace wsX10_isPlace) := goodIn_app (goodIn_of _ (by decide +kernel)) ggX10_turn_X10_isPlace
set_option maxRecDepth 20000 in
theorem ggX10_turn_X9_setToCross : GoodIn wsX10_turn wsX9_setToCross := goodIn_r _ [14, 15, 16, 17, 13, 18, 19, 20, 21, 22, 23, 24, 25, 26, 27, 40] rfl (by decide +kernel)
set_option maxRecDepth 20000 in
theorem gX10_turn_X9_setToCross : GoodIn wsX10_turn (wsV RX10 72 RX9 yX9_setToCross wsX9_setToCross) := goodIn_app (goodIn_of _ (by decide +kernel)) ggX10_turn_X9_setToCross
set_option maxRecDepth 20000 in
theorem ggX10_turn_X9_sign : GoodIn wsX10_turn wsX9_sign := goodIn_r _ [31, 19, 40] rfl (by decide +kernel)
set_option maxRecDepth 20000 in
theorem gX10_turn_X9_sign : GoodIn wsX10_turn (wsV RX10 76 RX9 yX9_sign wsX9_sign) := goodIn_app (goodIn_of _ (by decide +kernel)) ggX10_turn_X9_sign
set_option maxRecDepth 20000 in
theorem ggX10_segment_X10_isPlace : GoodIn wsX10_segment wsX10_isPlace := goodIn_r _ [9, 10, 11] rfl (by decide +kernel)
set_option maxRecDepth 20000 in
theorem gX10_segment_X10_isPlace : GoodIn wsX10_segment (va_wsS RX10 61 yX10_isPlace wsX10_isPlace) := goodIn_app (goodIn_of _ (by decide +kernel)) ggX10_segment_X10_isPlace
set_option maxRecDepth 20000 in
theorem ggX10_segment_X7_init : GoodIn wsX10_segment wsX7_init := goodIn_r _ [14, 15, 16, 17, 18, 19, 20, 21, 22, 23, 24, 25, 26, 33, 34, 35, 36, 37, 38] rfl (by decide +kernel)
set_option maxRecDepth 20000 in
theorem gX10_segment_X7_init : GoodIn wsX10_segment (wsX7_init) := ggX10_segment_X7_init
set_option maxRecDepth 20000 in
theorem ggX10_segment_X10_keep : GoodIn wsX10_segment wsX10_keep := goodIn_r _ [30, 31, 32, 39, 40, 41, 42, 43, 44, 45, 46] rfl (by decide +kernel)
set_option maxRecDepth 20000 in
theorem gX10_segment_X10_keep : GoodIn wsX10_segment (wsV RX10 86 RX10 yX10_keep wsX10_keep) := goodIn_app (goodIn_of _ (by decide +kernel)) ggX10_segment_X10_keep
set_option maxRecDepth 20000 in
theorem ggX10_arc_X10_isPlace : GoodIn wsX10_arc wsX10_isPlace := goodIn_r _ [10, 11, 12] rfl (by decide +kernel)
set_option maxRecDepth 20000 in
theorem gX10_arc_X10_isPlace : GoodIn wsX10_arc (va_wsS RX10 61 yX10_isPlace wsX10_isPlace) := goodIn_app (goodIn_of _ (by decide +kernel)) ggX10_arc_X10_isPlace
set_option maxRecDepth 20000 in
theorem ggX10_arc_X10_isDirection : GoodIn wsX10_arc wsX10_isDirection := goodIn_r _ [15] rfl (by decide +kernel)
set_option maxRecDepth 20000 in
theorem gX10_arc_X10_isDirection : GoodIn wsX10_arc (va_wsS RX10 94 yX10_isDirection wsX10_isDirection) := goodIn_app (goodIn_of _ (by decide +kernel)) ggX10_arc_X10_isDirection
set_option maxRecDepth 20000 in
theorem ggX10_arc_X0_init : GoodIn wsX10_arc wsX0_init := goodIn_r _ [18, 19, 20, 21, 22, 23, 24, 25, 26, 27, 28, 29, 36, 37, 38, 39, 40] rfl (by decide +kernel)
set_option maxRecDepth 20000 in
theorem gX10_arc_X0_init : GoodIn wsX10_arc (wsX0_init) := ggX10_arc_X0_init
set_option maxRecDepth 20000 in
theorem ggX10_arc_X10_keep : GoodIn wsX10_arc wsX10_keep := goodIn_r _ [33, 34, 35, 41, 42, 43, 44, 45, 46, 47, 48] rfl (by decide +kernel)
set_option maxRecDepth 20000 in
theorem gX10_arc_X10_keep : GoodIn wsX10_arc (wsV RX10 86 RX10 yX10_keep wsX10_keep) := goodIn_app (goodIn_of _ (by decide +kernel)) ggX10_arc_X10_keep
set_option maxRecDepth 20000 in
theorem ggX10_distance_X10_shapeOf : GoodIn wsX10_distance wsX10_shapeOf := goodIn_r _ [13, 14, 15, 138, 139, 140, 141, 142, 143, 144, 145] rfl (by decide +kernel)
set_option maxRecDepth 20000 in
theorem gX10_distance_X10_shapeOf : GoodIn wsX10_distance (wsV RX10 105 RX10 yX10_shapeOf wsX10_shapeOf) := goodIn_app (goodIn_of _ (by decide +kernel)) ggX10_distance_X10_shapeOf
set_option maxRecDepth 20000 in
theorem ggX10_distance_X2_measure : GoodIn wsX10_distance wsX2_measure := goodIn_r _ [20, 21, 22, 23, 24, 25, 26, 27, 28, 29, 30, 31, 19, 32, 33, 34, 35, 36, 37, 38, 39, 40, 41, 42, 43, 44, 45, 46, 47, 48, 49, 50, 51, 52, 53, 54, 55, 56, 57, 58, 59, 60, 61, 62, 63, 64, 65, 66, 67, 68, 69, 70, 71, 72, 73, 74, 75, 76, 77, 78, 79, 80, 81, 82, 83, 84, 85, 86, 87, 88, 89, 90, 91, 92, 93, 94, 95, 96, 97, 98, 99, 100, 101, 102, 103, 104, 105, 106, 107, 108, 109, 110, 111, 112, 113, 114, 115, 116, 117, 118, 119, 120, 121, 122, 123, 124, 125, 126, 127, 128, 129, 130, 131, 132, 133, 134, 135, 136, 146, 147, 148, 149, 150, 151, 152, 153, 154, 155, 156, 157, 158, 159, 160, 161, 162] rfl (by decide +kernel)
set_option maxRecDepth 20000 in
theorem gX10_distance_X2_measure : GoodIn wsX10_distance (wsV RX10 116 RX2 yX2_measure wsX2_measure) := goodIn_app (goodIn_of _ (by decide +kernel)) ggX10_distance_X2_measure
set_option maxRecDepth 20000 in
theorem ggX10_distance_X9_limb : GoodIn wsX10_distance wsX9_limb := goodIn_r _ [124, 46, 162] rfl (by decide +kernel)
set_option maxRecDepth 20000 in
theorem gX10_distance_X9_limb : GoodIn wsX10_distance (wsV RX10 123 RX9 yX9_limb wsX9_limb) := goodIn_app (goodIn_of _ (by decide +kernel)) ggX10_distance_X9_limb
set_option maxRecDepth 20000 in
theorem ggX10_compare_X9_setTo : GoodIn wsX10_compare wsX9_setTo := goodIn_r _ [12, 13, 14, 87] rfl (by decide +kernel)
set_option maxRecDepth 20000 in
theorem gX10_compare_X9_setTo : GoodIn wsX10_compare (wsV RX10 137 RX9 yX9_setTo wsX9_setTo) := goodIn_app (goodIn_of _ (by decide +kernel)) ggX10_compare_X9_setTo
set_option maxRecDepth 20000 in
theorem ggX10_compare_X9_addProduct : GoodIn wsX10_compare wsX9_addProduct := goodIn_r _ [18, 13, 14, 19, 20, 11, 21, 87] rfl (by decide +kernel)
set_option maxRecDepth 20000 in
theorem gX10_compare_X9_addProduct : GoodIn wsX10_compare (wsV RX10 143 RX9 yX9_addProduct wsX9_addProduct) := goodIn_app (goodIn_of _ (by decide +kernel)) ggX10_compare_X9_addProduct
set_option maxRecDepth 20000 in
theorem ggX10_compare_X5_setRoot : GoodIn wsX10_compare wsX5_setRoot := goodIn_r _ [26, 27, 28, 29, 30, 31, 32, 33, 34, 35, 36, 37, 11, 38, 13, 39, 9, 10, 12, 14, 40, 16, 17, 18, 19, 20, 21, 41, 42, 43, 44, 45, 82, 83, 84, 85, 86, 87] rfl (by decide +kernel)
set_option maxRecDepth 20000 in
theorem gX10_compare_X5_setRoot : GoodIn wsX10_compare (wsV RX10 147 RX5 yX5_setRoot wsX5_setRoot) := goodIn_app (goodIn_of _ (by decide +kernel)) ggX10_compare_X5_setRoot
set_option maxRecDepth 20000 in
theorem ggX10_compare_X6_sign : GoodIn wsX10_compare wsX6_sign := goodIn_r _ [50, 51, 52, 53, 54, 55, 56, 36, 37, 11, 38, 13, 57, 58, 59, 60, 61, 62, 63, 64, 65, 66, 67, 68, 14, 69, 42, 43, 44, 45, 9, 10, 12, 70, 71, 72, 73, 82, 83, 84, 85, 86, 88, 89, 90, 91, 87] rfl (by decide +kernel)
set_option maxRecDepth 20000 in
theorem gX10_compare_X6_sign : GoodIn wsX10_compare (wsV RX10 151 RX6 yX6_sign wsX6_sign) := goodIn_app (goodIn_of _ (by decide +kernel)) ggX10_compare_X6_sign
set_option maxRecDepth 20000 in
theorem ggX10_cross_X1_forget : GoodIn wsX10_cross wsX1_forget := goodIn_r _ [14, 15, 16, 222, 223, 224, 225, 226, 227, 228, 229, 230, 231, 232, 233, 234, 235] rfl (by decide +kernel)
set_option maxRecDepth 20000 in
theorem gX10_cross_X1_forget : GoodIn wsX10_cross (wsV RX10 154 RX1 yX1_forget wsX1_forget) := goodIn_app (goodIn_of _ (by decide +kernel)) ggX10_cross_X1_forget
set_option maxRecDepth 20000 in
theorem ggX10_cross_X10_shapeOf : GoodIn wsX10_cross wsX10_shapeOf := goodIn_r _ [21, 22, 23, 214, 215, 216, 217, 218, 219, 220, 221] rfl (by decide +kernel)
set_option maxRecDepth 20000 in
theorem gX10_cross_X10_shapeOf : GoodIn wsX10_cross (wsV RX10 105 RX10 yX10_shapeOf wsX10_shapeOf) := goodIn_app (goodIn_of _ (by decide +kernel)) ggX10_cross_X10_shapeOf
set_option maxRecDepth 20000 in
theorem ggX10_cross_X1_ofSegments : GoodIn wsX10_cross wsX1_ofSegments := goodIn_r _ [27, 28, 29, 30, 31, 32, 33, 34, 15, 35, 16, 36, 37, 38, 39, 40, 41, 42, 43, 44, 45, 46, 47, 48, 49, 50, 51, 52, 53, 54, 55, 56, 57, 58, 59, 60, 13, 61, 62, 63, 64, 65, 66, 67, 68, 69, 70, 71, 72, 73, 74, 75, 76, 77, 78, 79, 80, 81, 82, 83, 84, 85, 86, 87, 88, 89, 90, 91, 92, 93, 94, 95, 96, 97, 98, 99, 100, 101, 102, 103, 104, 105, 106, 107, 108, 109, 110, 111, 112, 113, 114, 115, 116, 117, 118, 119, 120, 121, 122, 123, 124, 125, 236, 237, 238, 239, 240, 241, 222, 223, 224, 225, 226, 227, 228, 229, 230, 231, 232, 233, 234, 235, 242, 243, 244, 245, 246, 247, 248, 249] rfl (by decide +kernel)
set_option maxRecDepth 20000 in
theorem gX10_cross_X1_ofSegments : GoodIn wsX10_cross (wsV RX10 157 RX1 yX1_ofSegments wsX1_ofSegments) := goodIn_app (goodIn_of _ (by decide +kernel)) ggX10_cross_X1_ofSegments
set_option maxRecDepth 20000 in
theorem ggX10_cross_X1_ofSegmentAndArc : GoodIn wsX10_cross wsX1_ofSegmentAndArc := goodIn_r _ [129, 28, 130, 29, 131, 15, 30, 31, 32, 33, 34, 132, 91, 77, 78, 79, 13, 80, 81, 82, 133, 134, 135, 39, 136, 41, 42, 43, 44, 45, 46, 47, 48, 49, 50, 51, 52, 53, 36, 37, 38, 40, 137, 138, 139, 140, 88, 83, 141, 142, 143, 144, 145, 146, 147, 148, 93, 94, 95, 96, 149, 150, 151, 152, 54, 55, 56, 57, 153, 154, 155, 156, 16, 35, 157, 84, 85, 86, 87, 89, 90, 92, 97, 98, 99, 100, 101, 102, 103, 104, 105, 106, 107, 108, 109, 110, 111, 112, 113, 158, 159, 160, 161, 162, 163, 164, 165, 166, 167, 168, 169, 170, 171, 114, 115, 116, 117, 172, 173, 174, 175, 176, 177, 178, 179, 180, 181, 182, 183, 184, 185, 186, 123, 124, 125, 187, 188, 189, 190, 191, 192, 193, 194, 195, 196, 197, 198, 199, 200, 201, 202, 236, 237, 238, 239, 240, 241, 250, 251, 252, 253, 254, 222, 223, 224, 225, 226, 227, 228, 229, 230, 231, 232, 233, 234, 235, 242, 243, 244, 245, 246, 247, 248, 249, 255, 256, 257, 258] rfl (by decide +kernel)
set_option maxRecDepth 20000 in
theorem gX10_cross_X1_ofSegmentAndArc : GoodIn wsX10_cross (wsV RX10 160 RX1 yX1_ofSegmentAndArc wsX1_ofSegmentAndArc) := goodIn_app (goodIn_of _ (by decide +kernel)) ggX10_cross_X1_ofSegmentAndArc
set_option maxRecDepth 20000 in
theorem ggX10_cross_X1_ofArcs : GoodIn wsX10_cross wsX1_ofArcs := goodIn_r _ [206, 130, 131, 132, 15, 30, 33, 207, 34, 91, 77, 78, 79, 13, 80, 81, 82, 133, 134, 135, 39, 136, 41, 42, 43, 44, 45, 46, 47, 48, 49, 50, 51, 52, 53, 164, 165, 166, 167, 168, 169, 170, 171, 208, 141, 142, 143, 144, 145, 146, 147, 148, 149, 150, 151, 152, 137, 138, 139, 140, 88, 83, 93, 94, 95, 96, 54, 55, 56, 57, 209, 210, 211, 212, 16, 35, 157, 213, 84, 85, 86, 87, 89, 90, 92, 97, 98, 99, 100, 101, 102, 103, 104, 105, 106, 107, 108, 109, 110, 111, 112, 113, 187, 188, 189, 190, 163, 162, 191, 172, 173, 174, 175, 176, 177, 178, 179, 180, 181, 182, 183, 184, 115, 116, 117, 185, 186, 123, 124, 125, 192, 193, 194, 195, 196, 197, 198, 199, 200, 201, 202, 250, 251, 252, 253, 254, 222, 223, 224, 225, 226, 227, 228, 229, 230, 231, 232, 233, 234, 235, 242, 243, 244, 245, 246, 247, 248, 249, 255, 256, 257, 258] rfl (by decide +kernel)
set_option maxRecDepth 20000 in
theorem gX10_cross_X1_ofArcs : GoodIn wsX10_cross (wsV RX10 164 RX1 yX1_ofArcs wsX1_ofArcs) := goodIn_app (goodIn_of _ (by decide +kernel)) ggX10_cross_X1_ofArcs
set_option maxRecDepth 20000 in
theorem ggX10_at_X10_isRounding : GoodIn wsX10_at wsX10_isRounding := goodIn_r _ [11] rfl (by decide +kernel)
set_option maxRecDepth 20000 in
theorem gX10_at_X10_isRounding : GoodIn wsX10_at (va_wsS RX10 184 yX10_isRounding wsX10_isRounding) := goodIn_app (goodIn_of _ (by decide +kernel)) ggX10_at_X10_isRounding
set_option maxRecDepth 20000 in
theorem ggX10_at_X1_coordinate : GoodIn wsX10_at wsX1_coordinate := goodIn_r _ [16, 17, 18, 19, 20, 21, 22, 23, 24, 25, 26, 27, 28, 29, 30, 31, 32, 33, 34, 35, 36, 37, 38, 39, 40, 41, 42, 43, 44, 45, 46, 47, 48, 49, 50, 51, 52, 53, 54, 55, 56, 57, 58, 59, 60, 61, 62, 63, 64, 65, 66, 67, 68, 69, 70, 71, 72, 73, 74, 75, 76, 77, 78, 79, 80, 81, 82, 83, 84, 85, 86, 87, 88, 89, 90, 91, 92, 93, 94, 95, 96, 97, 98, 99, 100, 101, 102, 103, 104, 105, 106, 115, 116, 117, 118, 119, 120, 121, 122, 123, 124, 125, 126, 127, 128, 129, 130, 131, 132, 133, 134, 135, 136, 137, 138, 139, 140] rfl (by decide +kernel)
set_option maxRecDepth 20000 in
theorem gX10_at_X1_coordinate : GoodIn wsX10_at (wsV RX10 189 RX1 yX1_coordinate wsX1_coordinate) := goodIn_app (goodIn_of _ (by decide +kernel)) ggX10_at_X1_coordinate
