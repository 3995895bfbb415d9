set_option maxRecDepth 20000 in
theorem ggX11_crossArc_X11_pointWith : GoodIn wsX11_crossArc wsX11_pointWith := goodIn_r _ [64, 65, 66, 67, 68, 69, 70, 71, 72, 73, 74, 75, 76, 77, 78, 79, 80, 81, 82, 83, 84, 85] rfl (by decide +kernel)
set_option maxRecDepth 20000 in
theorem gX11_crossArc_X11_pointWith : GoodIn wsX11_crossArc (wsV RX11 176 RX11 yX11_pointWith wsX11_pointWith) := goodIn_app (goodIn_of _ (by decide +kernel)) ggX11_crossArc_X11_pointWith
set_option maxRecDepth 20000 in
theorem ggX11_crossArcs_X11_products : GoodIn wsX11_crossArcs wsX11_products := goodIn_r _ [11, 12, 13, 14, 10, 15, 16, 17, 18, 19, 20, 21, 22, 23, 24, 25, 26, 27, 28, 29, 30, 31, 67, 68, 69, 70, 71, 72, 73, 74, 75, 76, 77, 78, 79, 80, 81, 82, 83, 84, 85] rfl (by decide +kernel)
set_option maxRecDepth 20000 in
theorem gX11_crossArcs_X11_products : GoodIn wsX11_crossArcs (wsV RX11 97 RX11 yX11_products wsX11_products) := goodIn_app (goodIn_of _ (by decide +kernel)) ggX11_crossArcs_X11_products
set_option maxRecDepth 20000 in
theorem ggX11_crossArcs_X11_load : GoodIn wsX11_crossArcs wsX11_load := goodIn_r _ [15, 16, 17, 18, 67, 68, 69, 70, 71, 72, 73, 74, 75, 76, 77, 78, 79, 80, 81, 82, 83, 84, 85] rfl (by decide +kernel)
set_option maxRecDepth 20000 in
theorem gX11_crossArcs_X11_load : GoodIn wsX11_crossArcs (wsV RX11 67 RX11 yX11_load wsX11_load) := goodIn_app (goodIn_of _ (by decide +kernel)) ggX11_crossArcs_X11_load
set_option maxRecDepth 20000 in
theorem ggX11_crossArcs_X11_join : GoodIn wsX11_crossArcs wsX11_join := goodIn_r _ [26, 16, 17, 27, 28, 29, 30, 10, 31, 67, 68, 69, 70, 71, 72, 73, 74, 75, 76, 77, 78, 79, 80, 81, 82, 83, 84, 85] rfl (by decide +kernel)
set_option maxRecDepth 20000 in
theorem gX11_crossArcs_X11_join : GoodIn wsX11_crossArcs (wsV RX11 82 RX11 yX11_join wsX11_join) := goodIn_app (goodIn_of _ (by decide +kernel)) ggX11_crossArcs_X11_join
set_option maxRecDepth 20000 in
theorem ggX11_crossArcs_X11_multiply : GoodIn wsX11_crossArcs wsX11_multiply := goodIn_r _ [22, 16, 17, 18, 67, 68, 69, 70, 71, 72, 73, 74, 75, 76, 77, 78, 79, 80, 81, 82, 83, 84, 85] rfl (by decide +kernel)
set_option maxRecDepth 20000 in
theorem gX11_crossArcs_X11_multiply : GoodIn wsX11_crossArcs (wsV RX11 93 RX11 yX11_multiply wsX11_multiply) := goodIn_app (goodIn_of _ (by decide +kernel)) ggX11_crossArcs_X11_multiply
set_option maxRecDepth 20000 in
theorem ggX11_crossArcs_X11_sign : GoodIn wsX11_crossArcs wsX11_sign := goodIn_r _ [35, 17, 16, 67, 68, 69, 70, 71, 72, 73, 74, 75, 76, 77, 78, 79, 80, 81, 82, 83, 84, 85] rfl (by decide +kernel)
set_option maxRecDepth 20000 in
theorem gX11_crossArcs_X11_sign : GoodIn wsX11_crossArcs (wsV RX11 78 RX11 yX11_sign wsX11_sign) := goodIn_app (goodIn_of _ (by decide +kernel)) ggX11_crossArcs_X11_sign
set_option maxRecDepth 20000 in
theorem ggX11_crossArcs_X11_copy : GoodIn wsX11_crossArcs wsX11_copy := goodIn_r _ [39, 16, 17, 67, 68, 69, 70, 71, 72, 73, 74, 75, 76, 77, 78, 79, 80, 81, 82, 83, 84, 85] rfl (by decide +kernel)
set_option maxRecDepth 20000 in
theorem gX11_crossArcs_X11_copy : GoodIn wsX11_crossArcs (wsV RX11 86 RX11 yX11_copy wsX11_copy) := goodIn_app (goodIn_of _ (by decide +kernel)) ggX11_crossArcs_X11_copy
set_option maxRecDepth 20000 in
theorem ggX11_crossArcs_X11_onLine : GoodIn wsX11_crossArcs wsX11_onLine := goodIn_r _ [43, 12, 13, 14, 10, 15, 16, 17, 18, 19, 20, 21, 22, 23, 24, 25, 26, 27, 28, 29, 30, 31, 67, 68, 69, 70, 71, 72, 73, 74, 75, 76, 77, 78, 79, 80, 81, 82, 83, 84, 85] rfl (by decide +kernel)
set_option maxRecDepth 20000 in
theorem gX11_crossArcs_X11_onLine : GoodIn wsX11_crossArcs (wsV RX11 187 RX11 yX11_onLine wsX11_onLine) := goodIn_app (goodIn_of _ (by decide +kernel)) ggX11_crossArcs_X11_onLine
set_option maxRecDepth 20000 in
theorem ggX11_crossArcs_X11_isOfArc : GoodIn wsX11_crossArcs wsX11_isOfArc := goodIn_r _ [47, 1, 2, 5, 6, 12, 13, 14, 10, 15, 16, 17, 18, 19, 20, 21, 22, 23, 24, 25, 26, 27, 28, 29, 30, 31, 48, 49, 50, 51, 32, 33, 34, 35, 52, 53, 54, 55, 56, 57, 58, 59, 60, 67, 68, 69, 70, 71, 72, 73, 74, 75, 76, 77, 78, 79, 80, 81, 82, 83, 84, 85] rfl (by decide +kernel)
set_option maxRecDepth 20000 in
theorem gX11_crossArcs_X11_isOfArc : GoodIn wsX11_crossArcs (wsV RX11 191 RX11 yX11_isOfArc wsX11_isOfArc) := goodIn_app (goodIn_of _ (by decide +kernel)) ggX11_crossArcs_X11_isOfArc
set_option maxRecDepth 20000 in
theorem ggX11_crossArcs_X11_pointWith : GoodIn wsX11_crossArcs wsX11_pointWith := goodIn_r _ [64, 65, 66, 67, 68, 69, 70, 71, 72, 73, 74, 75, 76, 77, 78, 79, 80, 81, 82, 83, 84, 85] rfl (by decide +kernel)
set_option maxRecDepth 20000 in
theorem gX11_crossArcs_X11_pointWith : GoodIn wsX11_crossArcs (wsV RX11 176 RX11 yX11_pointWith wsX11_pointWith) := goodIn_app (goodIn_of _ (by decide +kernel)) ggX11_crossArcs_X11_pointWith
set_option maxRecDepth 20000 in
theorem ggX11_cross_X11_isShape : GoodIn wsX11_cross wsX11_isShape := goodIn_r _ [9, 10, 119, 120, 121, 122, 123, 124, 125, 126, 127, 128, 129, 130, 131, 132, 133, 134, 135, 136, 137] rfl (by decide +kernel)
set_option maxRecDepth 20000 in
theorem gX11_cross_X11_isShape : GoodIn wsX11_cross (wsV RX11 141 RX11 yX11_isShape wsX11_isShape) := goodIn_app (goodIn_of _ (by decide +kernel)) ggX11_cross_X11_isShape
set_option maxRecDepth 20000 in
theorem ggX11_cross_X11_crossArcs : GoodIn wsX11_cross wsX11_crossArcs := goodIn_r _ [14, 15, 16, 17, 18, 19, 20, 21, 22, 23, 8, 24, 25, 26, 27, 28, 29, 30, 31, 32, 33, 34, 35, 36, 37, 38, 39, 40, 41, 42, 43, 44, 45, 46, 47, 48, 49, 50, 51, 52, 53, 54, 55, 56, 57, 58, 59, 60, 61, 62, 63, 64, 65, 66, 67, 68, 69, 70, 71, 72, 73, 74, 75, 76, 77, 78, 2, 119, 120, 121, 122, 123, 124, 125, 126, 127, 128, 129, 130, 131, 132, 133, 134, 135, 136, 137] rfl (by decide +kernel)
set_option maxRecDepth 20000 in
theorem gX11_cross_X11_crossArcs : GoodIn wsX11_cross (wsV RX11 200 RX11 yX11_crossArcs wsX11_crossArcs) := goodIn_app (goodIn_of _ (by decide +kernel)) ggX11_cross_X11_crossArcs
set_option maxRecDepth 20000 in
theorem ggX11_cross_X11_crossArc : GoodIn wsX11_cross wsX11_crossArc := goodIn_r _ [82, 17, 15, 83, 16, 29, 19, 20, 21, 22, 23, 8, 24, 25, 26, 27, 28, 30, 31, 32, 33, 34, 35, 36, 37, 38, 39, 40, 41, 42, 43, 44, 45, 46, 47, 48, 49, 50, 51, 52, 53, 54, 55, 56, 61, 62, 63, 64, 57, 58, 59, 60, 65, 66, 67, 68, 69, 70, 71, 72, 73, 74, 75, 76, 77, 78, 2, 119, 120, 121, 122, 123, 124, 125, 126, 127, 128, 129, 130, 131, 132, 133, 134, 135, 136, 137] rfl (by decide +kernel)
set_option maxRecDepth 20000 in
theorem gX11_cross_X11_crossArc : GoodIn wsX11_cross (wsV RX11 203 RX11 yX11_crossArc wsX11_crossArc) := goodIn_app (goodIn_of _ (by decide +kernel)) ggX11_cross_X11_crossArc
set_option maxRecDepth 20000 in
theorem ggX11_cross_X11_crossSegments : GoodIn wsX11_cross wsX11_crossSegments := goodIn_r _ [87, 17, 15, 83, 16, 29, 19, 20, 21, 22, 23, 8, 24, 25, 26, 27, 28, 30, 31, 32, 33, 34, 35, 36, 37, 38, 39, 40, 41, 42, 43, 44, 45, 46, 47, 48, 88, 89, 90, 91, 92, 93, 94, 95, 96, 97, 98, 99, 100, 101, 102, 103, 104, 105, 106, 107, 108, 109, 110, 111, 112, 113, 114, 74, 75, 76, 77, 78, 2, 115, 116, 117, 118, 53, 54, 55, 56, 119, 120, 121, 122, 123, 124, 125, 126, 127, 128, 129, 130, 131, 132, 133, 134, 135, 136, 137] rfl (by decide +kernel)
set_option maxRecDepth 20000 in
theorem gX11_cross_X11_crossSegments : GoodIn wsX11_cross (wsV RX11 206 RX11 yX11_crossSegments wsX11_crossSegments) := goodIn_app (goodIn_of _ (by decide +kernel)) ggX11_cross_X11_crossSegments
set_option maxRecDepth 20000 in
theorem ggX11_cut_X11_load : GoodIn wsX11_cut wsX11_load := goodIn_r _ [5, 6, 7, 8, 46, 47, 48, 49, 50, 51, 52, 53, 54, 55, 56, 57, 58, 59, 60, 61, 62, 63, 64] rfl (by decide +kernel)
set_option maxRecDepth 20000 in
theorem gX11_cut_X11_load : GoodIn wsX11_cut (wsV RX11 67 RX11 yX11_load wsX11_load) := goodIn_app (goodIn_of _ (by decide +kernel)) ggX11_cut_X11_load
set_option maxRecDepth 20000 in
theorem ggX11_cut_X11_multiply : GoodIn wsX11_cut wsX11_multiply := goodIn_r _ [12, 6, 7, 8, 46, 47, 48, 49, 50, 51, 52, 53, 54, 55, 56, 57, 58, 59, 60, 61, 62, 63, 64] rfl (by decide +kernel)
set_option maxRecDepth 20000 in
theorem gX11_cut_X11_multiply : GoodIn wsX11_cut (wsV RX11 93 RX11 yX11_multiply wsX11_multiply) := goodIn_app (goodIn_of _ (by decide +kernel)) ggX11_cut_X11_multiply
set_option maxRecDepth 20000 in
theorem ggX11_cut_X11_join : GoodIn wsX11_cut wsX11_join := goodIn_r _ [16, 6, 7, 17, 18, 19, 20, 4, 21, 46, 47, 48, 49, 50, 51, 52, 53, 54, 55, 56, 57, 58, 59, 60, 61, 62, 63, 64] rfl (by decide +kernel)
set_option maxRecDepth 20000 in
theorem gX11_cut_X11_join : GoodIn wsX11_cut (wsV RX11 82 RX11 yX11_join wsX11_join) := goodIn_app (goodIn_of _ (by decide +kernel)) ggX11_cut_X11_join
set_option maxRecDepth 20000 in
theorem ggX11_cut_X11_copy : GoodIn wsX11_cut wsX11_copy := goodIn_r _ [25, 6, 7, 46, 47, 48, 49, 50, 51, 52, 53, 54, 55, 56, 57, 58, 59, 60, 61, 62, 63, 64] rfl (by decide +kernel)
set_option maxRecDepth 20000 in
theorem gX11_cut_X11_copy : GoodIn wsX11_cut (wsV RX11 86 RX11 yX11_copy wsX11_copy) := goodIn_app (goodIn_of _ (by decide +kernel)) ggX11_cut_X11_copy
set_option maxRecDepth 20000 in
theorem ggX11_cut_X11_rootOf : GoodIn wsX11_cut wsX11_rootOf := goodIn_r _ [29, 7, 1, 2, 3, 4, 5, 6, 8, 30, 31, 32, 33, 17, 22, 23, 24, 25, 18, 19, 20, 21, 34, 35, 36, 37, 38, 39, 40, 41, 46, 47, 48, 49, 50, 51, 52, 53, 54, 55, 56, 57, 58, 59, 60, 61, 62, 63, 64] rfl (by decide +kernel)
set_option maxRecDepth 20000 in
theorem gX11_cut_X11_rootOf : GoodIn wsX11_cut (wsV RX11 209 RX11 yX11_rootOf wsX11_rootOf) := goodIn_app (goodIn_of _ (by decide +kernel)) ggX11_cut_X11_rootOf
set_option maxRecDepth 20000 in
theorem ggX11_cut_X11_divide : GoodIn wsX11_cut wsX11_divide := goodIn_r _ [45, 7, 6, 1, 2, 3, 4, 5, 8, 30, 31, 32, 33, 17, 18, 19, 20, 21, 34, 35, 36, 37, 38, 39, 40, 41, 13, 14, 15, 16, 22, 23, 24, 25, 46, 47, 48, 49, 50, 51, 52, 53, 54, 55, 56, 57, 58, 59, 60, 61, 62, 63, 64] rfl (by decide +kernel)
set_option maxRecDepth 20000 in
theorem gX11_cut_X11_divide : GoodIn wsX11_cut (wsV RX11 138 RX11 yX11_divide wsX11_divide) := goodIn_app (goodIn_of _ (by decide +kernel)) ggX11_cut_X11_divide
set_option maxRecDepth 20000 in
theorem ggX11_at_X11_cut : GoodIn wsX11_at wsX11_cut := goodIn_r _ [12, 13, 14, 15, 11, 16, 7, 17, 18, 19, 20, 21, 22, 23, 24, 25, 26, 27, 28, 29, 30, 31, 32, 33, 34, 35, 36, 37, 38, 39, 40, 41, 42, 43, 44, 45, 46, 47, 48, 49, 50, 51, 52, 53, 54, 55, 64, 65, 66, 67, 68, 69, 70, 71, 72, 73, 74, 75, 76, 77, 78, 79, 80, 81, 82] rfl (by decide +kernel)
set_option maxRecDepth 20000 in
theorem gX11_at_X11_cut : GoodIn wsX11_at (wsV RX11 212 RX11 yX11_cut wsX11_cut) := goodIn_app (goodIn_of _ (by decide +kernel)) ggX11_at_X11_cut
set_option maxRecDepth 20000 in
theorem ggX11_at_X11_valueOf : GoodIn wsX11_at wsX11_valueOf := goodIn_r _ [59, 7, 60, 61, 62, 11, 63, 17, 64, 65, 66, 67, 68, 69, 70, 71, 72, 73, 74, 75, 76, 77, 78, 79, 80, 81, 82] rfl (by decide +kernel)
set_option maxRecDepth 20000 in
theorem gX11_at_X11_valueOf : GoodIn wsX11_at (wsV RX11 216 RX11 yX11_valueOf wsX11_valueOf) := goodIn_app (goodIn_of _ (by decide +kernel)) ggX11_at_X11_valueOf
set_option maxRecDepth 20000 in
theorem ggX11_at_X11_copy : GoodIn wsX11_at wsX11_copy := goodIn_r _ [35, 7, 17, 64, 65, 66, 67, 68, 69, 70, 71, 72, 73, 74, 75, 76, 77, 78, 79, 80, 81, 82] rfl (by decide +kernel)
set_option maxRecDepth 20000 in
theorem gX11_at_X11_copy : GoodIn wsX11_at (wsV RX11 86 RX11 yX11_copy wsX11_copy) := goodIn_app (goodIn_of _ (by decide +kernel)) ggX11_at_X11_copy
set_option maxRecDepth 20000 in
theorem ggX11_on_X11_isShape : GoodIn wsX11_on wsX11_isShape := goodIn_r _ [10, 11, 72, 73, 74, 75, 76, 77, 78, 79, 80, 81, 82, 83, 84, 85, 86, 87, 88, 89, 90] rfl (by decide +kernel)
set_option maxRecDepth 20000 in
theorem gX11_on_X11_isShape : GoodIn wsX11_on (wsV RX11 141 RX11 yX11_isShape wsX11_isShape) := goodIn_app (goodIn_of _ (by decide +kernel)) ggX11_on_X11_isShape
set_option maxRecDepth 20000 in
theorem ggX11_on_X11_isPlace : GoodIn wsX11_on wsX11_isPlace := goodIn_r _ [14, 15, 16, 9, 17, 18, 19] rfl (by decide +kernel)
set_option maxRecDepth 20000 in
theorem gX11_on_X11_isPlace : GoodIn wsX11_on (va_wsS RX11 101 yX11_isPlace wsX11_isPlace) := goodIn_app (goodIn_of _ (by decide +kernel)) ggX11_on_X11_isPlace
set_option maxRecDepth 20000 in
theorem ggX11_on_X11_onSegment : GoodIn wsX11_on wsX11_onSegment := goodIn_r _ [23, 3, 5, 4, 24, 25, 26, 9, 27, 28, 29, 30, 31, 32, 33, 34, 35, 36, 37, 38, 39, 40, 41, 42, 43, 44, 45, 46, 47, 48, 49, 50, 51, 52, 53, 54, 55, 56, 57, 58, 59, 72, 73, 74, 75, 76, 77, 78, 79, 80, 81, 82, 83, 84, 85, 86, 87, 88, 89, 90] rfl (by decide +kernel)
set_option maxRecDepth 20000 in
theorem gX11_on_X11_onSegment : GoodIn wsX11_on (wsV RX11 122 RX11 yX11_onSegment wsX11_onSegment) := goodIn_app (goodIn_of _ (by decide +kernel)) ggX11_on_X11_onSegment
set_option maxRecDepth 20000 in
theorem ggX11_on_X11_products : GoodIn wsX11_on wsX11_products := goodIn_r _ [35, 36, 37, 38, 9, 39, 40, 41, 42, 43, 44, 45, 46, 47, 48, 49, 50, 51, 52, 53, 54, 55, 72, 73, 74, 75, 76, 77, 78, 79, 80, 81, 82, 83, 84, 85, 86, 87, 88, 89, 90] rfl (by decide +kernel)
set_option maxRecDepth 20000 in
theorem gX11_on_X11_products : GoodIn wsX11_on (wsV RX11 97 RX11 yX11_products wsX11_products) := goodIn_app (goodIn_of _ (by decide +kernel)) ggX11_on_X11_products
set_option maxRecDepth 20000 in
theorem ggX11_on_X11_load : GoodIn wsX11_on wsX11_load := goodIn_r _ [39, 40, 41, 42, 72, 73, 74, 75, 76, 77, 78, 79, 80, 81, 82, 83, 84, 85, 86, 87, 88, 89, 90] rfl (by decide +kernel)
set_option maxRecDepth 20000 in
theorem gX11_on_X11_load : GoodIn wsX11_on (wsV RX11 67 RX11 yX11_load wsX11_load) := goodIn_app (goodIn_of _ (by decide +kernel)) ggX11_on_X11_load
set_option maxRecDepth 20000 in
theorem ggX11_on_X11_sizes : GoodIn wsX11_on wsX11_sizes := goodIn_r _ [55, 41, 72, 73, 74, 75, 76, 77, 78, 79, 80, 81, 82, 83, 84, 85, 86, 87, 88, 89, 90] rfl (by decide +kernel)
set_option maxRecDepth 20000 in
theorem gX11_on_X11_sizes : GoodIn wsX11_on (wsV RX11 62 RX11 yX11_sizes wsX11_sizes) := goodIn_app (goodIn_of _ (by decide +kernel)) ggX11_on_X11_sizes
set_option maxRecDepth 20000 in
theorem ggX11_on_X11_side : GoodIn wsX11_on wsX11_side := goodIn_r _ [62] rfl (by decide +kernel)
set_option maxRecDepth 20000 in
theorem gX11_on_X11_side : GoodIn wsX11_on (va_wsS RX11 220 yX11_side wsX11_side) := goodIn_app (goodIn_of _ (by decide +kernel)) ggX11_on_X11_side
set_option maxRecDepth 20000 in
theorem ggX11_on_X11_position : GoodIn wsX11_on wsX11_position := goodIn_r _ [65] rfl (by decide +kernel)
set_option maxRecDepth 20000 in
theorem gX11_on_X11_position : GoodIn wsX11_on (va_wsS RX11 166 yX11_position wsX11_position) := goodIn_app (goodIn_of _ (by decide +kernel)) ggX11_on_X11_position
set_option maxRecDepth 20000 in
theorem ggX11_on_X11_isTurned : GoodIn wsX11_on wsX11_isTurned := goodIn_r _ [69, 70, 71, 72, 73, 74, 75, 76, 77, 78, 79, 80, 81, 82, 83, 84, 85, 86, 87, 88, 89, 90] rfl (by decide +kernel)
set_option maxRecDepth 20000 in
theorem gX11_on_X11_isTurned : GoodIn wsX11_on (wsV RX11 170 RX11 yX11_isTurned wsX11_isTurned) := goodIn_app (goodIn_of _ (by decide +kernel)) ggX11_on_X11_isTurned
set_option maxRecDepth 20000 in
theorem ggX11_root_X11_load : GoodIn wsX11_root wsX11_load := goodIn_r _ [6, 7, 8, 9, 43, 44, 45, 46, 47, 48, 49, 50, 51, 52, 53, 54, 55, 56, 57, 58, 59, 60, 61] rfl (by decide +kernel)
set_option maxRecDepth 20000 in
theorem gX11_root_X11_load : GoodIn wsX11_root (wsV RX11 67 RX11 yX11_load wsX11_load) := goodIn_app (goodIn_of _ (by decide +kernel)) ggX11_root_X11_load
set_option maxRecDepth 20000 in
theorem ggX11_root_X11_rootOf : GoodIn wsX11_root wsX11_rootOf := goodIn_r _ [13, 8, 2, 3, 4, 5, 6, 7, 9, 14, 15, 16, 17, 18, 19, 20, 21, 22, 23, 24, 25, 26, 27, 28, 29, 30, 31, 32, 33, 34, 43, 44, 45, 46, 47, 48, 49, 50, 51, 52, 53, 54, 55, 56, 57, 58, 59, 60, 61] rfl (by decide +kernel)
set_option maxRecDepth 20000 in
theorem gX11_root_X11_rootOf : GoodIn wsX11_root (wsV RX11 209 RX11 yX11_rootOf wsX11_rootOf) := goodIn_app (goodIn_of _ (by decide +kernel)) ggX11_root_X11_rootOf
set_option maxRecDepth 20000 in
theorem ggX11_root_X11_valueOf : GoodIn wsX11_root wsX11_valueOf := goodIn_r _ [38, 7, 39, 40, 41, 5, 42, 8, 43, 44, 45, 46, 47, 48, 49, 50, 51, 52, 53, 54, 55, 56, 57, 58, 59, 60, 61] rfl (by decide +kernel)
set_option maxRecDepth 20000 in
theorem gX11_root_X11_valueOf : GoodIn wsX11_root (wsV RX11 216 RX11 yX11_valueOf wsX11_valueOf) := goodIn_app (goodIn_of _ (by decide +kernel)) ggX11_root_X11_valueOf
set_option maxRecDepth 20000 in
theorem ggX11_corner_X11_isPlace : GoodIn wsX11_corner wsX11_isPlace := goodIn_r _ [8, 9, 10, 7, 11, 12, 13] rfl (by decide +kernel)
set_option maxRecDepth 20000 in
theorem gX11_corner_X11_isPlace : GoodIn wsX11_corner (va_wsS RX11 101 yX11_isPlace wsX11_isPlace) := goodIn_app (goodIn_of _ (by decide +kernel)) ggX11_corner_X11_isPlace
set_option maxRecDepth 20000 in
theorem ggX11_area_X11_load : GoodIn wsX11_area wsX11_load := goodIn_r _ [11, 5, 12, 13, 43, 44, 45, 46, 47, 48, 49, 50, 51, 52, 53, 54, 55, 56, 57, 58, 59, 60, 61] rfl (by decide +kernel)
set_option maxRecDepth 20000 in
theorem gX11_area_X11_load : GoodIn wsX11_area (wsV RX11 67 RX11 yX11_load wsX11_load) := goodIn_app (goodIn_of _ (by decide +kernel)) ggX11_area_X11_load
set_option maxRecDepth 20000 in
theorem ggX11_area_X11_products : GoodIn wsX11_area wsX11_products := goodIn_r _ [17, 7, 8, 9, 10, 11, 5, 12, 13, 18, 19, 20, 21, 22, 23, 24, 25, 26, 27, 28, 29, 30, 43, 44, 45, 46, 47, 48, 49, 50, 51, 52, 53, 54, 55, 56, 57, 58, 59, 60, 61] rfl (by decide +kernel)
set_option maxRecDepth 20000 in
theorem gX11_area_X11_products : GoodIn wsX11_area (wsV RX11 97 RX11 yX11_products wsX11_products) := goodIn_app (goodIn_of _ (by decide +kernel)) ggX11_area_X11_products
set_option maxRecDepth 20000 in
theorem ggX11_area_X11_join : GoodIn wsX11_area wsX11_join := goodIn_r _ [25, 5, 12, 26, 27, 28, 29, 10, 30, 43, 44, 45, 46, 47, 48, 49, 50, 51, 52, 53, 54, 55, 56, 57, 58, 59, 60, 61] rfl (by decide +kernel)
set_option maxRecDepth 20000 in
theorem gX11_area_X11_join : GoodIn wsX11_area (wsV RX11 82 RX11 yX11_join wsX11_join) := goodIn_app (goodIn_of _ (by decide +kernel)) ggX11_area_X11_join
set_option maxRecDepth 20000 in
theorem ggX11_area_X11_copy : GoodIn wsX11_area wsX11_copy := goodIn_r _ [34, 5, 12, 43, 44, 45, 46, 47, 48, 49, 50, 51, 52, 53, 54, 55, 56, 57, 58, 59, 60, 61] rfl (by decide +kernel)
set_option maxRecDepth 20000 in
theorem gX11_area_X11_copy : GoodIn wsX11_area (wsV RX11 86 RX11 yX11_copy wsX11_copy) := goodIn_app (goodIn_of _ (by decide +kernel)) ggX11_area_X11_copy
set_option maxRecDepth 20000 in
theorem ggX11_area_X11_sign : GoodIn wsX11_area wsX11_sign := goodIn_r _ [38, 12, 5, 43, 44, 45, 46, 47, 48, 49, 50, 51, 52, 53, 54, 55, 56, 57, 58, 59, 60, 61] rfl (by decide +kernel)
set_option maxRecDepth 20000 in
theorem gX11_area_X11_sign : GoodIn wsX11_area (wsV RX11 78 RX11 yX11_sign wsX11_sign) := goodIn_app (goodIn_of _ (by decide +kernel)) ggX11_area_X11_sign
set_option maxRecDepth 20000 in
theorem ggX11_area_X11_limbOf : GoodIn wsX11_area wsX11_limbOf := goodIn_r _ [42, 12, 43, 44, 45, 46, 47, 48, 49, 50, 51, 52, 53, 54, 55, 56, 57, 58, 59, 60, 61] rfl (by decide +kernel)
set_option maxRecDepth 20000 in
theorem gX11_area_X11_limbOf : GoodIn wsX11_area (wsV RX11 89 RX11 yX11_limbOf wsX11_limbOf) := goodIn_app (goodIn_of _ (by decide +kernel)) ggX11_area_X11_limbOf
set_option maxRecDepth 20000 in
theorem ggX11_area_X11_multiply : GoodIn wsX11_area wsX11_multiply := goodIn_r _ [21, 5, 12, 13, 43, 44, 45, 46, 47, 48, 49, 50, 51, 52, 53, 54, 55, 56, 57, 58, 59, 60, 61] rfl (by decide +kernel)
set_option maxRecDepth 20000 in
theorem gX11_area_X11_multiply : GoodIn wsX11_area (wsV RX11 93 RX11 yX11_multiply wsX11_multiply) := goodIn_app (goodIn_of _ (by decide +kernel)) ggX11_area_X11_multiply
