set_option maxRecDepth 20000 in
theorem ggX11_reduce_X11_divide : GoodIn wsX11_reduce wsX11_divide := goodIn_r _ [15, 7, 6, 16, 17, 18, 4, 19, 20, 21, 22, 23, 24, 25, 26, 27, 28, 29, 30, 31, 32, 33, 8, 9, 10, 11, 34, 35, 36, 37, 1, 2, 3, 5, 38, 39, 40, 41, 42, 43, 44, 45, 46, 47, 48, 49, 50, 51, 52, 53, 54, 55, 56] rfl (by decide +kernel)
set_option maxRecDepth 20000 in
theorem gX11_reduce_X11_divide : GoodIn wsX11_reduce (wsV RX11 138 RX11 yX11_divide wsX11_divide) := goodIn_app (goodIn_of _ (by decide +kernel)) ggX11_reduce_X11_divide
set_option maxRecDepth 20000 in
theorem ggX11_distance_X11_isShape : GoodIn wsX11_distance wsX11_isShape := goodIn_r _ [9, 10, 96, 97, 98, 99, 100, 101, 102, 103, 104, 105, 106, 107, 108, 109, 110, 111, 112, 113, 114] rfl (by decide +kernel)
set_option maxRecDepth 20000 in
theorem gX11_distance_X11_isShape : GoodIn wsX11_distance (wsV RX11 141 RX11 yX11_isShape wsX11_isShape) := goodIn_app (goodIn_of _ (by decide +kernel)) ggX11_distance_X11_isShape
set_option maxRecDepth 20000 in
theorem ggX11_distance_X11_meet : GoodIn wsX11_distance wsX11_meet := goodIn_r _ [14, 15, 16, 17, 8, 18, 3, 19, 4, 20, 21, 22, 23, 24, 25, 26, 27, 28, 29, 30, 31, 32, 33, 34, 35, 36, 37, 38, 39, 40, 41, 42, 43, 44, 45, 46, 47, 48, 49, 50, 51, 52, 53, 54, 55, 56, 57, 58, 59, 60, 61, 62, 63, 96, 97, 98, 99, 100, 101, 102, 103, 104, 105, 106, 107, 108, 109, 110, 111, 112, 113, 114] rfl (by decide +kernel)
set_option maxRecDepth 20000 in
theorem gX11_distance_X11_meet : GoodIn wsX11_distance (wsV RX11 145 RX11 yX11_meet wsX11_meet) := goodIn_app (goodIn_of _ (by decide +kernel)) ggX11_distance_X11_meet
set_option maxRecDepth 20000 in
theorem ggX11_distance_X11_placeFrom : GoodIn wsX11_distance wsX11_placeFrom := goodIn_r _ [67, 19, 3, 20, 4, 32, 33, 34, 8, 35, 36, 37, 38, 39, 40, 41, 42, 43, 44, 45, 46, 47, 48, 49, 50, 51, 52, 53, 54, 55, 56, 57, 58, 59, 68, 69, 70, 71, 96, 97, 98, 99, 100, 101, 102, 103, 104, 105, 106, 107, 108, 109, 110, 111, 112, 113, 114] rfl (by decide +kernel)
set_option maxRecDepth 20000 in
theorem gX11_distance_X11_placeFrom : GoodIn wsX11_distance (wsV RX11 134 RX11 yX11_placeFrom wsX11_placeFrom) := goodIn_app (goodIn_of _ (by decide +kernel)) ggX11_distance_X11_placeFrom
set_option maxRecDepth 20000 in
theorem ggX11_distance_X11_copy : GoodIn wsX11_distance wsX11_copy := goodIn_r _ [71, 40, 41, 96, 97, 98, 99, 100, 101, 102, 103, 104, 105, 106, 107, 108, 109, 110, 111, 112, 113, 114] rfl (by decide +kernel)
set_option maxRecDepth 20000 in
theorem gX11_distance_X11_copy : GoodIn wsX11_distance (wsV RX11 86 RX11 yX11_copy wsX11_copy) := goodIn_app (goodIn_of _ (by decide +kernel)) ggX11_distance_X11_copy
set_option maxRecDepth 20000 in
theorem ggX11_distance_X11_nearest : GoodIn wsX11_distance wsX11_nearest := goodIn_r _ [75, 3, 19, 4, 20, 64, 65, 66, 8, 67, 32, 33, 34, 35, 36, 37, 38, 39, 40, 41, 42, 43, 44, 45, 46, 47, 48, 49, 50, 51, 52, 53, 54, 55, 56, 57, 58, 59, 68, 69, 70, 71, 96, 97, 98, 99, 100, 101, 102, 103, 104, 105, 106, 107, 108, 109, 110, 111, 112, 113, 114] rfl (by decide +kernel)
set_option maxRecDepth 20000 in
theorem gX11_distance_X11_nearest : GoodIn wsX11_distance (wsV RX11 149 RX11 yX11_nearest wsX11_nearest) := goodIn_app (goodIn_of _ (by decide +kernel)) ggX11_distance_X11_nearest
set_option maxRecDepth 20000 in
theorem ggX11_distance_X11_reduce : GoodIn wsX11_distance wsX11_reduce := goodIn_r _ [79, 68, 69, 70, 8, 71, 40, 41, 56, 57, 58, 59, 80, 81, 82, 83, 36, 37, 38, 39, 42, 84, 85, 86, 87, 51, 52, 53, 54, 55, 88, 89, 90, 91, 47, 48, 49, 50, 96, 97, 98, 99, 100, 101, 102, 103, 104, 105, 106, 107, 108, 109, 110, 111, 112, 113, 114] rfl (by decide +kernel)
set_option maxRecDepth 20000 in
theorem gX11_distance_X11_reduce : GoodIn wsX11_distance (wsV RX11 152 RX11 yX11_reduce wsX11_reduce) := goodIn_app (goodIn_of _ (by decide +kernel)) ggX11_distance_X11_reduce
set_option maxRecDepth 20000 in
theorem ggX11_distance_X11_limbOf : GoodIn wsX11_distance wsX11_limbOf := goodIn_r _ [95, 41, 96, 97, 98, 99, 100, 101, 102, 103, 104, 105, 106, 107, 108, 109, 110, 111, 112, 113, 114] rfl (by decide +kernel)
set_option maxRecDepth 20000 in
theorem gX11_distance_X11_limbOf : GoodIn wsX11_distance (wsV RX11 89 RX11 yX11_limbOf wsX11_limbOf) := goodIn_app (goodIn_of _ (by decide +kernel)) ggX11_distance_X11_limbOf
set_option maxRecDepth 20000 in
theorem ggX11_signOf_X11_sign : GoodIn wsX11_signOf wsX11_sign := goodIn_r _ [5, 6, 7, 21, 22, 23, 24, 25, 26, 27, 28, 29, 30, 31, 32, 33, 34, 35, 36, 37, 38, 39] rfl (by decide +kernel)
set_option maxRecDepth 20000 in
theorem gX11_signOf_X11_sign : GoodIn wsX11_signOf (wsV RX11 78 RX11 yX11_sign wsX11_sign) := goodIn_app (goodIn_of _ (by decide +kernel)) ggX11_signOf_X11_sign
set_option maxRecDepth 20000 in
theorem ggX11_signOf_X11_multiply : GoodIn wsX11_signOf wsX11_multiply := goodIn_r _ [11, 7, 6, 12, 21, 22, 23, 24, 25, 26, 27, 28, 29, 30, 31, 32, 33, 34, 35, 36, 37, 38, 39] rfl (by decide +kernel)
set_option maxRecDepth 20000 in
theorem gX11_signOf_X11_multiply : GoodIn wsX11_signOf (wsV RX11 93 RX11 yX11_multiply wsX11_multiply) := goodIn_app (goodIn_of _ (by decide +kernel)) ggX11_signOf_X11_multiply
set_option maxRecDepth 20000 in
theorem ggX11_signOf_X11_load : GoodIn wsX11_signOf wsX11_load := goodIn_r _ [16, 7, 6, 12, 21, 22, 23, 24, 25, 26, 27, 28, 29, 30, 31, 32, 33, 34, 35, 36, 37, 38, 39] rfl (by decide +kernel)
set_option maxRecDepth 20000 in
theorem gX11_signOf_X11_load : GoodIn wsX11_signOf (wsV RX11 67 RX11 yX11_load wsX11_load) := goodIn_app (goodIn_of _ (by decide +kernel)) ggX11_signOf_X11_load
set_option maxRecDepth 20000 in
theorem ggX11_signOf_X11_sizes : GoodIn wsX11_signOf wsX11_sizes := goodIn_r _ [20, 6, 21, 22, 23, 24, 25, 26, 27, 28, 29, 30, 31, 32, 33, 34, 35, 36, 37, 38, 39] rfl (by decide +kernel)
set_option maxRecDepth 20000 in
theorem gX11_signOf_X11_sizes : GoodIn wsX11_signOf (wsV RX11 62 RX11 yX11_sizes wsX11_sizes) := goodIn_app (goodIn_of _ (by decide +kernel)) ggX11_signOf_X11_sizes
set_option maxRecDepth 20000 in
theorem ggX11_compare_X11_load : GoodIn wsX11_compare wsX11_load := goodIn_r _ [6, 7, 8, 9, 31, 32, 33, 34, 35, 36, 37, 38, 39, 40, 41, 42, 43, 44, 45, 46, 47, 48, 49] rfl (by decide +kernel)
set_option maxRecDepth 20000 in
theorem gX11_compare_X11_load : GoodIn wsX11_compare (wsV RX11 67 RX11 yX11_load wsX11_load) := goodIn_app (goodIn_of _ (by decide +kernel)) ggX11_compare_X11_load
set_option maxRecDepth 20000 in
theorem ggX11_compare_X11_join : GoodIn wsX11_compare wsX11_join := goodIn_r _ [13, 7, 8, 14, 15, 16, 17, 5, 18, 31, 32, 33, 34, 35, 36, 37, 38, 39, 40, 41, 42, 43, 44, 45, 46, 47, 48, 49] rfl (by decide +kernel)
set_option maxRecDepth 20000 in
theorem gX11_compare_X11_join : GoodIn wsX11_compare (wsV RX11 82 RX11 yX11_join wsX11_join) := goodIn_app (goodIn_of _ (by decide +kernel)) ggX11_compare_X11_join
set_option maxRecDepth 20000 in
theorem ggX11_compare_X11_signOf : GoodIn wsX11_compare wsX11_signOf := goodIn_r _ [22, 23, 24, 25, 5, 26, 8, 7, 27, 28, 29, 30, 9, 2, 3, 4, 6, 15, 16, 17, 18, 31, 32, 33, 34, 35, 36, 37, 38, 39, 40, 41, 42, 43, 44, 45, 46, 47, 48, 49] rfl (by decide +kernel)
set_option maxRecDepth 20000 in
theorem gX11_compare_X11_signOf : GoodIn wsX11_compare (wsV RX11 155 RX11 yX11_signOf wsX11_signOf) := goodIn_app (goodIn_of _ (by decide +kernel)) ggX11_compare_X11_signOf
set_option maxRecDepth 20000 in
theorem ggX11_isOfArc_X11_load : GoodIn wsX11_isOfArc wsX11_load := goodIn_r _ [9, 10, 11, 12, 43, 44, 45, 46, 47, 48, 49, 50, 51, 52, 53, 54, 55, 56, 57, 58, 59, 60, 61] rfl (by decide +kernel)
set_option maxRecDepth 20000 in
theorem gX11_isOfArc_X11_load : GoodIn wsX11_isOfArc (wsV RX11 67 RX11 yX11_load wsX11_load) := goodIn_app (goodIn_of _ (by decide +kernel)) ggX11_isOfArc_X11_load
set_option maxRecDepth 20000 in
theorem ggX11_isOfArc_X11_multiply : GoodIn wsX11_isOfArc wsX11_multiply := goodIn_r _ [16, 10, 11, 12, 43, 44, 45, 46, 47, 48, 49, 50, 51, 52, 53, 54, 55, 56, 57, 58, 59, 60, 61] rfl (by decide +kernel)
set_option maxRecDepth 20000 in
theorem gX11_isOfArc_X11_multiply : GoodIn wsX11_isOfArc (wsV RX11 93 RX11 yX11_multiply wsX11_multiply) := goodIn_app (goodIn_of _ (by decide +kernel)) ggX11_isOfArc_X11_multiply
set_option maxRecDepth 20000 in
theorem ggX11_isOfArc_X11_join : GoodIn wsX11_isOfArc wsX11_join := goodIn_r _ [20, 10, 11, 21, 22, 23, 24, 8, 25, 43, 44, 45, 46, 47, 48, 49, 50, 51, 52, 53, 54, 55, 56, 57, 58, 59, 60, 61] rfl (by decide +kernel)
set_option maxRecDepth 20000 in
theorem gX11_isOfArc_X11_join : GoodIn wsX11_isOfArc (wsV RX11 82 RX11 yX11_join wsX11_join) := goodIn_app (goodIn_of _ (by decide +kernel)) ggX11_isOfArc_X11_join
set_option maxRecDepth 20000 in
theorem ggX11_isOfArc_X11_signOf : GoodIn wsX11_isOfArc wsX11_signOf := goodIn_r _ [29, 30, 31, 32, 8, 33, 11, 10, 13, 14, 15, 16, 12, 5, 6, 7, 9, 22, 23, 24, 25, 43, 44, 45, 46, 47, 48, 49, 50, 51, 52, 53, 54, 55, 56, 57, 58, 59, 60, 61] rfl (by decide +kernel)
set_option maxRecDepth 20000 in
theorem gX11_isOfArc_X11_signOf : GoodIn wsX11_isOfArc (wsV RX11 155 RX11 yX11_signOf wsX11_signOf) := goodIn_app (goodIn_of _ (by decide +kernel)) ggX11_isOfArc_X11_signOf
set_option maxRecDepth 20000 in
theorem ggX11_isOfArc_X11_position : GoodIn wsX11_isOfArc wsX11_position := goodIn_r _ [36] rfl (by decide +kernel)
set_option maxRecDepth 20000 in
theorem gX11_isOfArc_X11_position : GoodIn wsX11_isOfArc (va_wsS RX11 166 yX11_position wsX11_position) := goodIn_app (goodIn_of _ (by decide +kernel)) ggX11_isOfArc_X11_position
set_option maxRecDepth 20000 in
theorem ggX11_isOfArc_X11_isTurned : GoodIn wsX11_isOfArc wsX11_isTurned := goodIn_r _ [40, 41, 42, 43, 44, 45, 46, 47, 48, 49, 50, 51, 52, 53, 54, 55, 56, 57, 58, 59, 60, 61] rfl (by decide +kernel)
set_option maxRecDepth 20000 in
theorem gX11_isOfArc_X11_isTurned : GoodIn wsX11_isOfArc (wsV RX11 170 RX11 yX11_isTurned wsX11_isTurned) := goodIn_app (goodIn_of _ (by decide +kernel)) ggX11_isOfArc_X11_isTurned
set_option maxRecDepth 20000 in
theorem ggX11_onPlace_X11_load : GoodIn wsX11_onPlace wsX11_load := goodIn_r _ [7, 8, 9, 10, 17, 18, 19, 20, 21, 22, 23, 24, 25, 26, 27, 28, 29, 30, 31, 32, 33, 34, 35] rfl (by decide +kernel)
set_option maxRecDepth 20000 in
theorem gX11_onPlace_X11_load : GoodIn wsX11_onPlace (wsV RX11 67 RX11 yX11_load wsX11_load) := goodIn_app (goodIn_of _ (by decide +kernel)) ggX11_onPlace_X11_load
set_option maxRecDepth 20000 in
theorem ggX11_onPlace_X11_pointWith : GoodIn wsX11_onPlace wsX11_pointWith := goodIn_r _ [14, 15, 16, 17, 18, 19, 20, 21, 22, 23, 24, 25, 26, 27, 28, 29, 30, 31, 32, 33, 34, 35] rfl (by decide +kernel)
set_option maxRecDepth 20000 in
theorem gX11_onPlace_X11_pointWith : GoodIn wsX11_onPlace (wsV RX11 176 RX11 yX11_pointWith wsX11_pointWith) := goodIn_app (goodIn_of _ (by decide +kernel)) ggX11_onPlace_X11_pointWith
set_option maxRecDepth 20000 in
theorem ggX11_crossAlong_X11_hasEnd : GoodIn wsX11_crossAlong wsX11_hasEnd := goodIn_r _ [9, 1, 2, 3, 4, 10, 11, 12, 8, 13, 14, 15, 16, 17, 18, 19, 20, 21, 22, 23, 24, 25, 26, 27, 28, 29, 30, 31, 32, 33, 34, 35, 36, 37, 38, 39, 40, 41, 42, 43, 44, 45, 46, 47, 48, 61, 62, 63, 64, 65, 66, 67, 68, 69, 70, 71, 72, 73, 74, 75, 76, 77, 78, 79] rfl (by decide +kernel)
set_option maxRecDepth 20000 in
theorem gX11_crossAlong_X11_hasEnd : GoodIn wsX11_crossAlong (wsV RX11 126 RX11 yX11_hasEnd wsX11_hasEnd) := goodIn_app (goodIn_of _ (by decide +kernel)) ggX11_crossAlong_X11_hasEnd
set_option maxRecDepth 20000 in
theorem ggX11_crossAlong_X11_onPlace : GoodIn wsX11_crossAlong wsX11_onPlace := goodIn_r _ [52, 53, 54, 25, 26, 27, 8, 28, 29, 30, 31, 55, 56, 57, 58, 59, 60, 61, 62, 63, 64, 65, 66, 67, 68, 69, 70, 71, 72, 73, 74, 75, 76, 77, 78, 79] rfl (by decide +kernel)
set_option maxRecDepth 20000 in
theorem gX11_crossAlong_X11_onPlace : GoodIn wsX11_crossAlong (wsV RX11 180 RX11 yX11_onPlace wsX11_onPlace) := goodIn_app (goodIn_of _ (by decide +kernel)) ggX11_crossAlong_X11_onPlace
set_option maxRecDepth 20000 in
theorem ggX11_crossSegments_X11_products : GoodIn wsX11_crossSegments wsX11_products := goodIn_r _ [12, 13, 14, 15, 11, 16, 5, 17, 18, 19, 20, 21, 22, 23, 24, 25, 26, 27, 28, 29, 30, 31, 77, 78, 79, 80, 81, 82, 83, 84, 85, 86, 87, 88, 89, 90, 91, 92, 93, 94, 95] rfl (by decide +kernel)
set_option maxRecDepth 20000 in
theorem gX11_crossSegments_X11_products : GoodIn wsX11_crossSegments (wsV RX11 97 RX11 yX11_products wsX11_products) := goodIn_app (goodIn_of _ (by decide +kernel)) ggX11_crossSegments_X11_products
set_option maxRecDepth 20000 in
theorem ggX11_crossSegments_X11_sign : GoodIn wsX11_crossSegments wsX11_sign := goodIn_r _ [35, 17, 5, 77, 78, 79, 80, 81, 82, 83, 84, 85, 86, 87, 88, 89, 90, 91, 92, 93, 94, 95] rfl (by decide +kernel)
set_option maxRecDepth 20000 in
theorem gX11_crossSegments_X11_sign : GoodIn wsX11_crossSegments (wsV RX11 78 RX11 yX11_sign wsX11_sign) := goodIn_app (goodIn_of _ (by decide +kernel)) ggX11_crossSegments_X11_sign
set_option maxRecDepth 20000 in
theorem ggX11_crossSegments_X11_endSide : GoodIn wsX11_crossSegments wsX11_endSide := goodIn_r _ [39, 2, 4, 1, 3, 40, 41, 42, 11, 43, 8, 9, 10, 12, 13, 14, 15, 16, 5, 17, 18, 19, 20, 21, 22, 23, 24, 25, 26, 27, 28, 29, 30, 31, 32, 33, 34, 35, 77, 78, 79, 80, 81, 82, 83, 84, 85, 86, 87, 88, 89, 90, 91, 92, 93, 94, 95] rfl (by decide +kernel)
set_option maxRecDepth 20000 in
theorem gX11_crossSegments_X11_endSide : GoodIn wsX11_crossSegments (wsV RX11 130 RX11 yX11_endSide wsX11_endSide) := goodIn_app (goodIn_of _ (by decide +kernel)) ggX11_crossSegments_X11_endSide
set_option maxRecDepth 20000 in
theorem ggX11_crossSegments_X11_crossAlong : GoodIn wsX11_crossSegments wsX11_crossAlong := goodIn_r _ [47, 2, 1, 4, 3, 48, 49, 50, 11, 51, 52, 53, 54, 55, 56, 57, 58, 40, 41, 42, 43, 8, 9, 10, 12, 13, 14, 15, 16, 5, 17, 18, 19, 20, 21, 22, 23, 24, 25, 26, 27, 28, 29, 30, 31, 32, 33, 34, 35, 59, 60, 61, 62, 6, 7, 63, 64, 65, 66, 67, 68, 77, 78, 79, 80, 81, 82, 83, 84, 85, 86, 87, 88, 89, 90, 91, 92, 93, 94, 95] rfl (by decide +kernel)
set_option maxRecDepth 20000 in
theorem gX11_crossSegments_X11_crossAlong : GoodIn wsX11_crossSegments (wsV RX11 184 RX11 yX11_crossAlong wsX11_crossAlong) := goodIn_app (goodIn_of _ (by decide +kernel)) ggX11_crossSegments_X11_crossAlong
set_option maxRecDepth 20000 in
theorem ggX11_crossSegments_X11_meet : GoodIn wsX11_crossSegments wsX11_meet := goodIn_r _ [72, 48, 49, 50, 11, 51, 2, 1, 4, 3, 52, 53, 54, 55, 56, 57, 58, 40, 41, 42, 43, 8, 9, 10, 12, 13, 14, 15, 16, 5, 17, 18, 19, 20, 21, 22, 23, 24, 25, 26, 27, 28, 29, 30, 31, 32, 33, 34, 35, 36, 37, 38, 39, 77, 78, 79, 80, 81, 82, 83, 84, 85, 86, 87, 88, 89, 90, 91, 92, 93, 94, 95] rfl (by decide +kernel)
set_option maxRecDepth 20000 in
theorem gX11_crossSegments_X11_meet : GoodIn wsX11_crossSegments (wsV RX11 145 RX11 yX11_meet wsX11_meet) := goodIn_app (goodIn_of _ (by decide +kernel)) ggX11_crossSegments_X11_meet
set_option maxRecDepth 20000 in
theorem ggX11_crossSegments_X11_onLine : GoodIn wsX11_crossSegments wsX11_onLine := goodIn_r _ [76, 13, 14, 15, 11, 16, 5, 17, 18, 19, 20, 21, 22, 23, 24, 25, 26, 27, 28, 29, 30, 31, 77, 78, 79, 80, 81, 82, 83, 84, 85, 86, 87, 88, 89, 90, 91, 92, 93, 94, 95] rfl (by decide +kernel)
set_option maxRecDepth 20000 in
theorem gX11_crossSegments_X11_onLine : GoodIn wsX11_crossSegments (wsV RX11 187 RX11 yX11_onLine wsX11_onLine) := goodIn_app (goodIn_of _ (by decide +kernel)) ggX11_crossSegments_X11_onLine
set_option maxRecDepth 20000 in
theorem ggX11_crossSegments_X11_load : GoodIn wsX11_crossSegments wsX11_load := goodIn_r _ [16, 5, 17, 18, 77, 78, 79, 80, 81, 82, 83, 84, 85, 86, 87, 88, 89, 90, 91, 92, 93, 94, 95] rfl (by decide +kernel)
set_option maxRecDepth 20000 in
theorem gX11_crossSegments_X11_load : GoodIn wsX11_crossSegments (wsV RX11 67 RX11 yX11_load wsX11_load) := goodIn_app (goodIn_of _ (by decide +kernel)) ggX11_crossSegments_X11_load
set_option maxRecDepth 20000 in
theorem ggX11_crossSegments_X11_pointWith : GoodIn wsX11_crossSegments wsX11_pointWith := goodIn_r _ [66, 67, 68, 77, 78, 79, 80, 81, 82, 83, 84, 85, 86, 87, 88, 89, 90, 91, 92, 93, 94, 95] rfl (by decide +kernel)
set_option maxRecDepth 20000 in
theorem gX11_crossSegments_X11_pointWith : GoodIn wsX11_crossSegments (wsV RX11 176 RX11 yX11_pointWith wsX11_pointWith) := goodIn_app (goodIn_of _ (by decide +kernel)) ggX11_crossSegments_X11_pointWith
set_option maxRecDepth 20000 in
theorem ggX11_onLine_X11_load : GoodIn wsX11_onLine wsX11_load := goodIn_r _ [5, 6, 7, 8, 22, 23, 24, 25, 26, 27, 28, 29, 30, 31, 32, 33, 34, 35, 36, 37, 38, 39, 40] rfl (by decide +kernel)
set_option maxRecDepth 20000 in
theorem gX11_onLine_X11_load : GoodIn wsX11_onLine (wsV RX11 67 RX11 yX11_load wsX11_load) := goodIn_app (goodIn_of _ (by decide +kernel)) ggX11_onLine_X11_load
set_option maxRecDepth 20000 in
theorem ggX11_onLine_X11_multiply : GoodIn wsX11_onLine wsX11_multiply := goodIn_r _ [12, 6, 7, 8, 22, 23, 24, 25, 26, 27, 28, 29, 30, 31, 32, 33, 34, 35, 36, 37, 38, 39, 40] rfl (by decide +kernel)
set_option maxRecDepth 20000 in
theorem gX11_onLine_X11_multiply : GoodIn wsX11_onLine (wsV RX11 93 RX11 yX11_multiply wsX11_multiply) := goodIn_app (goodIn_of _ (by decide +kernel)) ggX11_onLine_X11_multiply
set_option maxRecDepth 20000 in
theorem ggX11_onLine_X11_join : GoodIn wsX11_onLine wsX11_join := goodIn_r _ [16, 6, 7, 17, 18, 19, 20, 4, 21, 22, 23, 24, 25, 26, 27, 28, 29, 30, 31, 32, 33, 34, 35, 36, 37, 38, 39, 40] rfl (by decide +kernel)
set_option maxRecDepth 20000 in
theorem gX11_onLine_X11_join : GoodIn wsX11_onLine (wsV RX11 82 RX11 yX11_join wsX11_join) := goodIn_app (goodIn_of _ (by decide +kernel)) ggX11_onLine_X11_join
set_option maxRecDepth 20000 in
theorem ggX11_crossArc_X11_products : GoodIn wsX11_crossArc wsX11_products := goodIn_r _ [12, 13, 14, 15, 11, 16, 5, 17, 18, 19, 20, 21, 22, 23, 24, 25, 26, 27, 28, 29, 30, 31, 67, 68, 69, 70, 71, 72, 73, 74, 75, 76, 77, 78, 79, 80, 81, 82, 83, 84, 85] rfl (by decide +kernel)
set_option maxRecDepth 20000 in
theorem gX11_crossArc_X11_products : GoodIn wsX11_crossArc (wsV RX11 97 RX11 yX11_products wsX11_products) := goodIn_app (goodIn_of _ (by decide +kernel)) ggX11_crossArc_X11_products
set_option maxRecDepth 20000 in
theorem ggX11_crossArc_X11_load : GoodIn wsX11_crossArc wsX11_load := goodIn_r _ [16, 5, 17, 18, 67, 68, 69, 70, 71, 72, 73, 74, 75, 76, 77, 78, 79, 80, 81, 82, 83, 84, 85] rfl (by decide +kernel)
set_option maxRecDepth 20000 in
theorem gX11_crossArc_X11_load : GoodIn wsX11_crossArc (wsV RX11 67 RX11 yX11_load wsX11_load) := goodIn_app (goodIn_of _ (by decide +kernel)) ggX11_crossArc_X11_load
set_option maxRecDepth 20000 in
theorem ggX11_crossArc_X11_join : GoodIn wsX11_crossArc wsX11_join := goodIn_r _ [26, 5, 17, 27, 28, 29, 30, 11, 31, 67, 68, 69, 70, 71, 72, 73, 74, 75, 76, 77, 78, 79, 80, 81, 82, 83, 84, 85] rfl (by decide +kernel)
set_option maxRecDepth 20000 in
theorem gX11_crossArc_X11_join : GoodIn wsX11_crossArc (wsV RX11 82 RX11 yX11_join wsX11_join) := goodIn_app (goodIn_of _ (by decide +kernel)) ggX11_crossArc_X11_join
set_option maxRecDepth 20000 in
theorem ggX11_crossArc_X11_multiply : GoodIn wsX11_crossArc wsX11_multiply := goodIn_r _ [22, 5, 17, 18, 67, 68, 69, 70, 71, 72, 73, 74, 75, 76, 77, 78, 79, 80, 81, 82, 83, 84, 85] rfl (by decide +kernel)
set_option maxRecDepth 20000 in
theorem gX11_crossArc_X11_multiply : GoodIn wsX11_crossArc (wsV RX11 93 RX11 yX11_multiply wsX11_multiply) := goodIn_app (goodIn_of _ (by decide +kernel)) ggX11_crossArc_X11_multiply
set_option maxRecDepth 20000 in
theorem ggX11_crossArc_X11_sign : GoodIn wsX11_crossArc wsX11_sign := goodIn_r _ [35, 17, 5, 67, 68, 69, 70, 71, 72, 73, 74, 75, 76, 77, 78, 79, 80, 81, 82, 83, 84, 85] rfl (by decide +kernel)
set_option maxRecDepth 20000 in
theorem gX11_crossArc_X11_sign : GoodIn wsX11_crossArc (wsV RX11 78 RX11 yX11_sign wsX11_sign) := goodIn_app (goodIn_of _ (by decide +kernel)) ggX11_crossArc_X11_sign
set_option maxRecDepth 20000 in
theorem ggX11_crossArc_X11_copy : GoodIn wsX11_crossArc wsX11_copy := goodIn_r _ [39, 5, 17, 67, 68, 69, 70, 71, 72, 73, 74, 75, 76, 77, 78, 79, 80, 81, 82, 83, 84, 85] rfl (by decide +kernel)
set_option maxRecDepth 20000 in
theorem gX11_crossArc_X11_copy : GoodIn wsX11_crossArc (wsV RX11 86 RX11 yX11_copy wsX11_copy) := goodIn_app (goodIn_of _ (by decide +kernel)) ggX11_crossArc_X11_copy
set_option maxRecDepth 20000 in
theorem ggX11_crossArc_X11_onLine : GoodIn wsX11_crossArc wsX11_onLine := goodIn_r _ [43, 13, 14, 15, 11, 16, 5, 17, 18, 19, 20, 21, 22, 23, 24, 25, 26, 27, 28, 29, 30, 31, 67, 68, 69, 70, 71, 72, 73, 74, 75, 76, 77, 78, 79, 80, 81, 82, 83, 84, 85] rfl (by decide +kernel)
set_option maxRecDepth 20000 in
theorem gX11_crossArc_X11_onLine : GoodIn wsX11_crossArc (wsV RX11 187 RX11 yX11_onLine wsX11_onLine) := goodIn_app (goodIn_of _ (by decide +kernel)) ggX11_crossArc_X11_onLine
set_option maxRecDepth 20000 in
theorem ggX11_crossArc_X11_signOf : GoodIn wsX11_crossArc wsX11_signOf := goodIn_r _ [47, 32, 33, 34, 11, 35, 17, 5, 19, 20, 21, 22, 18, 13, 14, 15, 16, 28, 29, 30, 31, 67, 68, 69, 70, 71, 72, 73, 74, 75, 76, 77, 78, 79, 80, 81, 82, 83, 84, 85] rfl (by decide +kernel)
set_option maxRecDepth 20000 in
theorem gX11_crossArc_X11_signOf : GoodIn wsX11_crossArc (wsV RX11 155 RX11 yX11_signOf wsX11_signOf) := goodIn_app (goodIn_of _ (by decide +kernel)) ggX11_crossArc_X11_signOf
set_option maxRecDepth 20000 in
theorem ggX11_crossArc_X11_isOfArc : GoodIn wsX11_crossArc wsX11_isOfArc := goodIn_r _ [51, 2, 4, 6, 7, 13, 14, 15, 11, 16, 5, 17, 18, 19, 20, 21, 22, 23, 24, 25, 26, 27, 28, 29, 30, 31, 44, 45, 46, 47, 32, 33, 34, 35, 52, 53, 54, 55, 56, 57, 58, 59, 60, 67, 68, 69, 70, 71, 72, 73, 74, 75, 76, 77, 78, 79, 80, 81, 82, 83, 84, 85] rfl (by decide +kernel)
set_option maxRecDepth 20000 in
theorem gX11_crossArc_X11_isOfArc : GoodIn wsX11_crossArc (wsV RX11 191 RX11 yX11_isOfArc wsX11_isOfArc) := goodIn_app (goodIn_of _ (by decide +kernel)) ggX11_crossArc_X11_isOfArc
