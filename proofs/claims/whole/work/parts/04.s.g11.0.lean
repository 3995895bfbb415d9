set_option maxRecDepth 20000 in
theorem ggX11_isPlace_X11_isCoordinate : GoodIn wsX11_isPlace wsX11_isCoordinate := goodIn_r _ [4, 5, 6] rfl (by decide +kernel)
set_option maxRecDepth 20000 in
theorem gX11_isPlace_X11_isCoordinate : GoodIn wsX11_isPlace (va_wsS RX11 56 yX11_isCoordinate wsX11_isCoordinate) := goodIn_app (goodIn_of _ (by decide +kernel)) ggX11_isPlace_X11_isCoordinate
set_option maxRecDepth 20000 in
theorem ggX11_join_X11_sizes : GoodIn wsX11_join wsX11_sizes := goodIn_r _ [8, 2, 9, 10, 11, 12, 13, 14, 15, 16, 17, 18, 19, 20, 21, 22, 23, 24, 25, 26, 27] rfl (by decide +kernel)
set_option maxRecDepth 20000 in
theorem gX11_join_X11_sizes : GoodIn wsX11_join (wsV RX11 62 RX11 yX11_sizes wsX11_sizes) := goodIn_app (goodIn_of _ (by decide +kernel)) ggX11_join_X11_sizes
set_option maxRecDepth 20000 in
theorem ggX11_divide_X11_load : GoodIn wsX11_divide wsX11_load := goodIn_r _ [7, 2, 1, 8, 34, 35, 36, 37, 38, 39, 40, 41, 42, 43, 44, 45, 46, 47, 48, 49, 50, 51, 52] rfl (by decide +kernel)
set_option maxRecDepth 20000 in
theorem gX11_divide_X11_load : GoodIn wsX11_divide (wsV RX11 67 RX11 yX11_load wsX11_load) := goodIn_app (goodIn_of _ (by decide +kernel)) ggX11_divide_X11_load
set_option maxRecDepth 20000 in
theorem ggX11_divide_X11_doubled : GoodIn wsX11_divide wsX11_doubled := goodIn_r _ [12, 1, 13, 34, 35, 36, 37, 38, 39, 40, 41, 42, 43, 44, 45, 46, 47, 48, 49, 50, 51, 52] rfl (by decide +kernel)
set_option maxRecDepth 20000 in
theorem gX11_divide_X11_doubled : GoodIn wsX11_divide (wsV RX11 71 RX11 yX11_doubled wsX11_doubled) := goodIn_app (goodIn_of _ (by decide +kernel)) ggX11_divide_X11_doubled
set_option maxRecDepth 20000 in
theorem ggX11_divide_X11_sizes : GoodIn wsX11_divide wsX11_sizes := goodIn_r _ [17, 1, 34, 35, 36, 37, 38, 39, 40, 41, 42, 43, 44, 45, 46, 47, 48, 49, 50, 51, 52] rfl (by decide +kernel)
set_option maxRecDepth 20000 in
theorem gX11_divide_X11_sizes : GoodIn wsX11_divide (wsV RX11 62 RX11 yX11_sizes wsX11_sizes) := goodIn_app (goodIn_of _ (by decide +kernel)) ggX11_divide_X11_sizes
set_option maxRecDepth 20000 in
theorem ggX11_divide_X11_takeAway : GoodIn wsX11_divide wsX11_takeAway := goodIn_r _ [21, 1, 13, 34, 35, 36, 37, 38, 39, 40, 41, 42, 43, 44, 45, 46, 47, 48, 49, 50, 51, 52] rfl (by decide +kernel)
set_option maxRecDepth 20000 in
theorem gX11_divide_X11_takeAway : GoodIn wsX11_divide (wsV RX11 75 RX11 yX11_takeAway wsX11_takeAway) := goodIn_app (goodIn_of _ (by decide +kernel)) ggX11_divide_X11_takeAway
set_option maxRecDepth 20000 in
theorem ggX11_divide_X11_sign : GoodIn wsX11_divide wsX11_sign := goodIn_r _ [25, 1, 2, 34, 35, 36, 37, 38, 39, 40, 41, 42, 43, 44, 45, 46, 47, 48, 49, 50, 51, 52] rfl (by decide +kernel)
set_option maxRecDepth 20000 in
theorem gX11_divide_X11_sign : GoodIn wsX11_divide (wsV RX11 78 RX11 yX11_sign wsX11_sign) := goodIn_app (goodIn_of _ (by decide +kernel)) ggX11_divide_X11_sign
set_option maxRecDepth 20000 in
theorem ggX11_divide_X11_join : GoodIn wsX11_divide wsX11_join := goodIn_r _ [29, 2, 1, 13, 14, 15, 16, 6, 17, 34, 35, 36, 37, 38, 39, 40, 41, 42, 43, 44, 45, 46, 47, 48, 49, 50, 51, 52] rfl (by decide +kernel)
set_option maxRecDepth 20000 in
theorem gX11_divide_X11_join : GoodIn wsX11_divide (wsV RX11 82 RX11 yX11_join wsX11_join) := goodIn_app (goodIn_of _ (by decide +kernel)) ggX11_divide_X11_join
set_option maxRecDepth 20000 in
theorem ggX11_divide_X11_copy : GoodIn wsX11_divide wsX11_copy := goodIn_r _ [33, 2, 1, 34, 35, 36, 37, 38, 39, 40, 41, 42, 43, 44, 45, 46, 47, 48, 49, 50, 51, 52] rfl (by decide +kernel)
set_option maxRecDepth 20000 in
theorem gX11_divide_X11_copy : GoodIn wsX11_divide (wsV RX11 86 RX11 yX11_copy wsX11_copy) := goodIn_app (goodIn_of _ (by decide +kernel)) ggX11_divide_X11_copy
set_option maxRecDepth 20000 in
theorem ggX11_rootOf_X11_load : GoodIn wsX11_rootOf wsX11_load := goodIn_r _ [6, 7, 1, 8, 30, 31, 32, 33, 34, 35, 36, 37, 38, 39, 40, 41, 42, 43, 44, 45, 46, 47, 48] rfl (by decide +kernel)
set_option maxRecDepth 20000 in
theorem gX11_rootOf_X11_load : GoodIn wsX11_rootOf (wsV RX11 67 RX11 yX11_load wsX11_load) := goodIn_app (goodIn_of _ (by decide +kernel)) ggX11_rootOf_X11_load
set_option maxRecDepth 20000 in
theorem ggX11_rootOf_X11_doubled : GoodIn wsX11_rootOf wsX11_doubled := goodIn_r _ [12, 1, 13, 30, 31, 32, 33, 34, 35, 36, 37, 38, 39, 40, 41, 42, 43, 44, 45, 46, 47, 48] rfl (by decide +kernel)
set_option maxRecDepth 20000 in
theorem gX11_rootOf_X11_doubled : GoodIn wsX11_rootOf (wsV RX11 71 RX11 yX11_doubled wsX11_doubled) := goodIn_app (goodIn_of _ (by decide +kernel)) ggX11_rootOf_X11_doubled
set_option maxRecDepth 20000 in
theorem ggX11_rootOf_X11_copy : GoodIn wsX11_rootOf wsX11_copy := goodIn_r _ [17, 7, 1, 30, 31, 32, 33, 34, 35, 36, 37, 38, 39, 40, 41, 42, 43, 44, 45, 46, 47, 48] rfl (by decide +kernel)
set_option maxRecDepth 20000 in
theorem gX11_rootOf_X11_copy : GoodIn wsX11_rootOf (wsV RX11 86 RX11 yX11_copy wsX11_copy) := goodIn_app (goodIn_of _ (by decide +kernel)) ggX11_rootOf_X11_copy
set_option maxRecDepth 20000 in
theorem ggX11_rootOf_X11_sizes : GoodIn wsX11_rootOf wsX11_sizes := goodIn_r _ [21, 1, 30, 31, 32, 33, 34, 35, 36, 37, 38, 39, 40, 41, 42, 43, 44, 45, 46, 47, 48] rfl (by decide +kernel)
set_option maxRecDepth 20000 in
theorem gX11_rootOf_X11_sizes : GoodIn wsX11_rootOf (wsV RX11 62 RX11 yX11_sizes wsX11_sizes) := goodIn_app (goodIn_of _ (by decide +kernel)) ggX11_rootOf_X11_sizes
set_option maxRecDepth 20000 in
theorem ggX11_rootOf_X11_takeAway : GoodIn wsX11_rootOf wsX11_takeAway := goodIn_r _ [25, 1, 13, 30, 31, 32, 33, 34, 35, 36, 37, 38, 39, 40, 41, 42, 43, 44, 45, 46, 47, 48] rfl (by decide +kernel)
set_option maxRecDepth 20000 in
theorem gX11_rootOf_X11_takeAway : GoodIn wsX11_rootOf (wsV RX11 75 RX11 yX11_takeAway wsX11_takeAway) := goodIn_app (goodIn_of _ (by decide +kernel)) ggX11_rootOf_X11_takeAway
set_option maxRecDepth 20000 in
theorem ggX11_rootOf_X11_sign : GoodIn wsX11_rootOf wsX11_sign := goodIn_r _ [29, 1, 7, 30, 31, 32, 33, 34, 35, 36, 37, 38, 39, 40, 41, 42, 43, 44, 45, 46, 47, 48] rfl (by decide +kernel)
set_option maxRecDepth 20000 in
theorem gX11_rootOf_X11_sign : GoodIn wsX11_rootOf (wsV RX11 78 RX11 yX11_sign wsX11_sign) := goodIn_app (goodIn_of _ (by decide +kernel)) ggX11_rootOf_X11_sign
set_option maxRecDepth 20000 in
theorem ggX11_valueOf_X11_limbOf : GoodIn wsX11_valueOf wsX11_limbOf := goodIn_r _ [6, 7, 8, 9, 10, 11, 12, 13, 14, 15, 16, 17, 18, 19, 20, 21, 22, 23, 24, 25, 26] rfl (by decide +kernel)
set_option maxRecDepth 20000 in
theorem gX11_valueOf_X11_limbOf : GoodIn wsX11_valueOf (wsV RX11 89 RX11 yX11_limbOf wsX11_limbOf) := goodIn_app (goodIn_of _ (by decide +kernel)) ggX11_valueOf_X11_limbOf
set_option maxRecDepth 20000 in
theorem ggX11_products_X11_load : GoodIn wsX11_products wsX11_load := goodIn_r _ [5, 6, 7, 8, 22, 23, 24, 25, 26, 27, 28, 29, 30, 31, 32, 33, 34, 35, 36, 37, 38, 39, 40] rfl (by decide +kernel)
set_option maxRecDepth 20000 in
theorem gX11_products_X11_load : GoodIn wsX11_products (wsV RX11 67 RX11 yX11_load wsX11_load) := goodIn_app (goodIn_of _ (by decide +kernel)) ggX11_products_X11_load
set_option maxRecDepth 20000 in
theorem ggX11_products_X11_multiply : GoodIn wsX11_products wsX11_multiply := goodIn_r _ [12, 6, 7, 8, 22, 23, 24, 25, 26, 27, 28, 29, 30, 31, 32, 33, 34, 35, 36, 37, 38, 39, 40] rfl (by decide +kernel)
set_option maxRecDepth 20000 in
theorem gX11_products_X11_multiply : GoodIn wsX11_products (wsV RX11 93 RX11 yX11_multiply wsX11_multiply) := goodIn_app (goodIn_of _ (by decide +kernel)) ggX11_products_X11_multiply
set_option maxRecDepth 20000 in
theorem ggX11_products_X11_join : GoodIn wsX11_products wsX11_join := goodIn_r _ [16, 6, 7, 17, 18, 19, 20, 4, 21, 22, 23, 24, 25, 26, 27, 28, 29, 30, 31, 32, 33, 34, 35, 36, 37, 38, 39, 40] rfl (by decide +kernel)
set_option maxRecDepth 20000 in
theorem gX11_products_X11_join : GoodIn wsX11_products (wsV RX11 82 RX11 yX11_join wsX11_join) := goodIn_app (goodIn_of _ (by decide +kernel)) ggX11_products_X11_join
set_option maxRecDepth 20000 in
theorem ggX11_turnOf_X11_products : GoodIn wsX11_turnOf wsX11_products := goodIn_r _ [5, 6, 7, 8, 4, 9, 10, 11, 12, 13, 14, 15, 16, 17, 18, 19, 20, 21, 22, 23, 24, 25, 30, 31, 32, 33, 34, 35, 36, 37, 38, 39, 40, 41, 42, 43, 44, 45, 46, 47, 48] rfl (by decide +kernel)
set_option maxRecDepth 20000 in
theorem gX11_turnOf_X11_products : GoodIn wsX11_turnOf (wsV RX11 97 RX11 yX11_products wsX11_products) := goodIn_app (goodIn_of _ (by decide +kernel)) ggX11_turnOf_X11_products
set_option maxRecDepth 20000 in
theorem ggX11_turnOf_X11_sign : GoodIn wsX11_turnOf wsX11_sign := goodIn_r _ [29, 11, 10, 30, 31, 32, 33, 34, 35, 36, 37, 38, 39, 40, 41, 42, 43, 44, 45, 46, 47, 48] rfl (by decide +kernel)
set_option maxRecDepth 20000 in
theorem gX11_turnOf_X11_sign : GoodIn wsX11_turnOf (wsV RX11 78 RX11 yX11_sign wsX11_sign) := goodIn_app (goodIn_of _ (by decide +kernel)) ggX11_turnOf_X11_sign
set_option maxRecDepth 20000 in
theorem ggX11_turn_X11_isPlace : GoodIn wsX11_turn wsX11_isPlace := goodIn_r _ [5, 6, 7, 4, 8, 9, 10] rfl (by decide +kernel)
set_option maxRecDepth 20000 in
theorem gX11_turn_X11_isPlace : GoodIn wsX11_turn (va_wsS RX11 101 yX11_isPlace wsX11_isPlace) := goodIn_app (goodIn_of _ (by decide +kernel)) ggX11_turn_X11_isPlace
set_option maxRecDepth 20000 in
theorem ggX11_turn_X11_turnOf : GoodIn wsX11_turn wsX11_turnOf := goodIn_r _ [14, 15, 16, 17, 4, 18, 19, 20, 21, 22, 23, 24, 25, 26, 27, 28, 29, 30, 31, 32, 33, 34, 35, 36, 37, 38, 39, 40, 41, 42, 43, 44, 45, 46, 47, 48, 49, 50, 51, 52, 53, 54, 55, 56, 57, 58, 59, 60, 61] rfl (by decide +kernel)
set_option maxRecDepth 20000 in
theorem gX11_turn_X11_turnOf : GoodIn wsX11_turn (wsV RX11 105 RX11 yX11_turnOf wsX11_turnOf) := goodIn_app (goodIn_of _ (by decide +kernel)) ggX11_turn_X11_turnOf
set_option maxRecDepth 20000 in
theorem ggX11_segment_X11_isPlace : GoodIn wsX11_segment wsX11_isPlace := goodIn_r _ [5, 6, 7, 4, 8, 9, 10] rfl (by decide +kernel)
set_option maxRecDepth 20000 in
theorem gX11_segment_X11_isPlace : GoodIn wsX11_segment (va_wsS RX11 101 yX11_isPlace wsX11_isPlace) := goodIn_app (goodIn_of _ (by decide +kernel)) ggX11_segment_X11_isPlace
set_option maxRecDepth 20000 in
theorem ggX11_segment_X11_made : GoodIn wsX11_segment wsX11_made := goodIn_r _ [14, 15, 16, 17, 18, 19, 20, 21, 22, 23, 24, 25, 26, 27, 28, 29, 30, 31, 32, 33, 34, 35, 36, 37, 38, 39] rfl (by decide +kernel)
set_option maxRecDepth 20000 in
theorem gX11_segment_X11_made : GoodIn wsX11_segment (wsV RX11 112 RX11 yX11_made wsX11_made) := goodIn_app (goodIn_of _ (by decide +kernel)) ggX11_segment_X11_made
set_option maxRecDepth 20000 in
theorem ggX11_arc_X11_isPlace : GoodIn wsX11_arc wsX11_isPlace := goodIn_r _ [8, 9, 10, 7, 11, 12, 13] rfl (by decide +kernel)
set_option maxRecDepth 20000 in
theorem gX11_arc_X11_isPlace : GoodIn wsX11_arc (va_wsS RX11 101 yX11_isPlace wsX11_isPlace) := goodIn_app (goodIn_of _ (by decide +kernel)) ggX11_arc_X11_isPlace
set_option maxRecDepth 20000 in
theorem ggX11_arc_X11_made : GoodIn wsX11_arc wsX11_made := goodIn_r _ [17, 18, 19, 20, 21, 22, 23, 24, 25, 26, 27, 28, 29, 30, 31, 32, 33, 34, 35, 36, 37, 38, 39, 40, 41, 42] rfl (by decide +kernel)
set_option maxRecDepth 20000 in
theorem gX11_arc_X11_made : GoodIn wsX11_arc (wsV RX11 112 RX11 yX11_made wsX11_made) := goodIn_app (goodIn_of _ (by decide +kernel)) ggX11_arc_X11_made
set_option maxRecDepth 20000 in
theorem ggX11_onSegment_X11_between : GoodIn wsX11_onSegment wsX11_between := goodIn_r _ [8] rfl (by decide +kernel)
set_option maxRecDepth 20000 in
theorem gX11_onSegment_X11_between : GoodIn wsX11_onSegment (va_wsS RX11 118 yX11_between wsX11_between) := goodIn_app (goodIn_of _ (by decide +kernel)) ggX11_onSegment_X11_between
set_option maxRecDepth 20000 in
theorem ggX11_onSegment_X11_turnOf : GoodIn wsX11_onSegment wsX11_turnOf := goodIn_r _ [12, 13, 14, 15, 7, 16, 17, 18, 19, 20, 21, 22, 23, 24, 25, 26, 27, 28, 29, 30, 31, 32, 33, 34, 35, 36, 37, 38, 39, 40, 41, 42, 43, 44, 45, 46, 47, 48, 49, 50, 51, 52, 53, 54, 55, 56, 57, 58, 59] rfl (by decide +kernel)
set_option maxRecDepth 20000 in
theorem gX11_onSegment_X11_turnOf : GoodIn wsX11_onSegment (wsV RX11 105 RX11 yX11_turnOf wsX11_turnOf) := goodIn_app (goodIn_of _ (by decide +kernel)) ggX11_onSegment_X11_turnOf
set_option maxRecDepth 20000 in
theorem ggX11_endSide_X11_turnOf : GoodIn wsX11_endSide wsX11_turnOf := goodIn_r _ [9, 10, 11, 12, 8, 13, 14, 15, 16, 17, 18, 19, 20, 21, 22, 23, 24, 25, 26, 27, 28, 29, 30, 31, 32, 33, 34, 35, 36, 37, 38, 39, 40, 41, 42, 43, 44, 45, 46, 47, 48, 49, 50, 51, 52, 53, 54, 55, 56] rfl (by decide +kernel)
set_option maxRecDepth 20000 in
theorem gX11_endSide_X11_turnOf : GoodIn wsX11_endSide (wsV RX11 105 RX11 yX11_turnOf wsX11_turnOf) := goodIn_app (goodIn_of _ (by decide +kernel)) ggX11_endSide_X11_turnOf
set_option maxRecDepth 20000 in
theorem ggX11_hasEnd_X11_onSegment : GoodIn wsX11_hasEnd wsX11_onSegment := goodIn_r _ [9, 1, 2, 3, 4, 10, 11, 8, 12, 13, 14, 15, 16, 17, 18, 19, 20, 21, 22, 23, 24, 25, 26, 27, 28, 29, 30, 31, 32, 33, 34, 35, 36, 37, 38, 39, 40, 41, 42, 43, 44, 45, 46, 47, 48, 49, 50, 51, 52, 53, 54, 55, 56, 57, 58, 59, 60, 61, 62, 63] rfl (by decide +kernel)
set_option maxRecDepth 20000 in
theorem gX11_hasEnd_X11_onSegment : GoodIn wsX11_hasEnd (wsV RX11 122 RX11 yX11_onSegment wsX11_onSegment) := goodIn_app (goodIn_of _ (by decide +kernel)) ggX11_hasEnd_X11_onSegment
set_option maxRecDepth 20000 in
theorem ggX11_meet_X11_hasEnd : GoodIn wsX11_meet wsX11_hasEnd := goodIn_r _ [5, 6, 7, 8, 9, 10, 11, 12, 4, 13, 14, 15, 16, 17, 18, 19, 20, 21, 22, 23, 24, 25, 26, 27, 28, 29, 30, 31, 32, 33, 34, 35, 36, 37, 38, 39, 40, 41, 42, 43, 44, 45, 46, 47, 48, 53, 54, 55, 56, 57, 58, 59, 60, 61, 62, 63, 64, 65, 66, 67, 68, 69, 70, 71] rfl (by decide +kernel)
set_option maxRecDepth 20000 in
theorem gX11_meet_X11_hasEnd : GoodIn wsX11_meet (wsV RX11 126 RX11 yX11_hasEnd wsX11_hasEnd) := goodIn_app (goodIn_of _ (by decide +kernel)) ggX11_meet_X11_hasEnd
set_option maxRecDepth 20000 in
theorem ggX11_meet_X11_endSide : GoodIn wsX11_meet wsX11_endSide := goodIn_r _ [52, 6, 8, 7, 9, 17, 18, 19, 4, 20, 21, 22, 23, 24, 25, 26, 27, 28, 29, 30, 31, 32, 33, 34, 35, 36, 37, 38, 39, 40, 41, 42, 43, 44, 45, 46, 47, 48, 53, 54, 55, 56, 57, 58, 59, 60, 61, 62, 63, 64, 65, 66, 67, 68, 69, 70, 71] rfl (by decide +kernel)
set_option maxRecDepth 20000 in
theorem gX11_meet_X11_endSide : GoodIn wsX11_meet (wsV RX11 130 RX11 yX11_endSide wsX11_endSide) := goodIn_app (goodIn_of _ (by decide +kernel)) ggX11_meet_X11_endSide
set_option maxRecDepth 20000 in
theorem ggX11_placeFrom_X11_products : GoodIn wsX11_placeFrom wsX11_products := goodIn_r _ [9, 10, 11, 12, 8, 13, 14, 15, 16, 17, 18, 19, 20, 21, 22, 23, 24, 25, 26, 27, 28, 29, 38, 39, 40, 41, 42, 43, 44, 45, 46, 47, 48, 49, 50, 51, 52, 53, 54, 55, 56] rfl (by decide +kernel)
set_option maxRecDepth 20000 in
theorem gX11_placeFrom_X11_products : GoodIn wsX11_placeFrom (wsV RX11 97 RX11 yX11_products wsX11_products) := goodIn_app (goodIn_of _ (by decide +kernel)) ggX11_placeFrom_X11_products
set_option maxRecDepth 20000 in
theorem ggX11_placeFrom_X11_sign : GoodIn wsX11_placeFrom wsX11_sign := goodIn_r _ [33, 15, 14, 38, 39, 40, 41, 42, 43, 44, 45, 46, 47, 48, 49, 50, 51, 52, 53, 54, 55, 56] rfl (by decide +kernel)
set_option maxRecDepth 20000 in
theorem gX11_placeFrom_X11_sign : GoodIn wsX11_placeFrom (wsV RX11 78 RX11 yX11_sign wsX11_sign) := goodIn_app (goodIn_of _ (by decide +kernel)) ggX11_placeFrom_X11_sign
set_option maxRecDepth 20000 in
theorem ggX11_placeFrom_X11_sizes : GoodIn wsX11_placeFrom wsX11_sizes := goodIn_r _ [29, 15, 38, 39, 40, 41, 42, 43, 44, 45, 46, 47, 48, 49, 50, 51, 52, 53, 54, 55, 56] rfl (by decide +kernel)
set_option maxRecDepth 20000 in
theorem gX11_placeFrom_X11_sizes : GoodIn wsX11_placeFrom (wsV RX11 62 RX11 yX11_sizes wsX11_sizes) := goodIn_app (goodIn_of _ (by decide +kernel)) ggX11_placeFrom_X11_sizes
set_option maxRecDepth 20000 in
theorem ggX11_placeFrom_X11_multiply : GoodIn wsX11_placeFrom wsX11_multiply := goodIn_r _ [20, 14, 15, 16, 38, 39, 40, 41, 42, 43, 44, 45, 46, 47, 48, 49, 50, 51, 52, 53, 54, 55, 56] rfl (by decide +kernel)
set_option maxRecDepth 20000 in
theorem gX11_placeFrom_X11_multiply : GoodIn wsX11_placeFrom (wsV RX11 93 RX11 yX11_multiply wsX11_multiply) := goodIn_app (goodIn_of _ (by decide +kernel)) ggX11_placeFrom_X11_multiply
set_option maxRecDepth 20000 in
theorem ggX11_placeFrom_X11_copy : GoodIn wsX11_placeFrom wsX11_copy := goodIn_r _ [37, 14, 15, 38, 39, 40, 41, 42, 43, 44, 45, 46, 47, 48, 49, 50, 51, 52, 53, 54, 55, 56] rfl (by decide +kernel)
set_option maxRecDepth 20000 in
theorem gX11_placeFrom_X11_copy : GoodIn wsX11_placeFrom (wsV RX11 86 RX11 yX11_copy wsX11_copy) := goodIn_app (goodIn_of _ (by decide +kernel)) ggX11_placeFrom_X11_copy
set_option maxRecDepth 20000 in
theorem ggX11_placeFrom_X11_load : GoodIn wsX11_placeFrom wsX11_load := goodIn_r _ [13, 14, 15, 16, 38, 39, 40, 41, 42, 43, 44, 45, 46, 47, 48, 49, 50, 51, 52, 53, 54, 55, 56] rfl (by decide +kernel)
set_option maxRecDepth 20000 in
theorem gX11_placeFrom_X11_load : GoodIn wsX11_placeFrom (wsV RX11 67 RX11 yX11_load wsX11_load) := goodIn_app (goodIn_of _ (by decide +kernel)) ggX11_placeFrom_X11_load
set_option maxRecDepth 20000 in
theorem ggX11_nearest_X11_placeFrom : GoodIn wsX11_nearest wsX11_placeFrom := goodIn_r _ [9, 2, 1, 4, 3, 10, 11, 12, 8, 13, 14, 15, 16, 17, 18, 19, 20, 21, 22, 23, 24, 25, 26, 27, 28, 29, 30, 31, 32, 33, 34, 35, 36, 37, 38, 39, 40, 41, 42, 43, 44, 45, 46, 47, 48, 49, 50, 51, 52, 53, 54, 55, 56, 57, 58, 59, 60] rfl (by decide +kernel)
set_option maxRecDepth 20000 in
theorem gX11_nearest_X11_placeFrom : GoodIn wsX11_nearest (wsV RX11 134 RX11 yX11_placeFrom wsX11_placeFrom) := goodIn_app (goodIn_of _ (by decide +kernel)) ggX11_nearest_X11_placeFrom
set_option maxRecDepth 20000 in
theorem ggX11_nearest_X11_multiply : GoodIn wsX11_nearest wsX11_multiply := goodIn_r _ [24, 18, 19, 20, 42, 43, 44, 45, 46, 47, 48, 49, 50, 51, 52, 53, 54, 55, 56, 57, 58, 59, 60] rfl (by decide +kernel)
set_option maxRecDepth 20000 in
theorem gX11_nearest_X11_multiply : GoodIn wsX11_nearest (wsV RX11 93 RX11 yX11_multiply wsX11_multiply) := goodIn_app (goodIn_of _ (by decide +kernel)) ggX11_nearest_X11_multiply
set_option maxRecDepth 20000 in
theorem ggX11_nearest_X11_sizes : GoodIn wsX11_nearest wsX11_sizes := goodIn_r _ [33, 19, 42, 43, 44, 45, 46, 47, 48, 49, 50, 51, 52, 53, 54, 55, 56, 57, 58, 59, 60] rfl (by decide +kernel)
set_option maxRecDepth 20000 in
theorem gX11_nearest_X11_sizes : GoodIn wsX11_nearest (wsV RX11 62 RX11 yX11_sizes wsX11_sizes) := goodIn_app (goodIn_of _ (by decide +kernel)) ggX11_nearest_X11_sizes
set_option maxRecDepth 20000 in
theorem ggX11_nearest_X11_copy : GoodIn wsX11_nearest wsX11_copy := goodIn_r _ [41, 18, 19, 42, 43, 44, 45, 46, 47, 48, 49, 50, 51, 52, 53, 54, 55, 56, 57, 58, 59, 60] rfl (by decide +kernel)
set_option maxRecDepth 20000 in
theorem gX11_nearest_X11_copy : GoodIn wsX11_nearest (wsV RX11 86 RX11 yX11_copy wsX11_copy) := goodIn_app (goodIn_of _ (by decide +kernel)) ggX11_nearest_X11_copy
set_option maxRecDepth 20000 in
theorem ggX11_reduce_X11_copy : GoodIn wsX11_reduce wsX11_copy := goodIn_r _ [5, 6, 7, 38, 39, 40, 41, 42, 43, 44, 45, 46, 47, 48, 49, 50, 51, 52, 53, 54, 55, 56] rfl (by decide +kernel)
set_option maxRecDepth 20000 in
theorem gX11_reduce_X11_copy : GoodIn wsX11_reduce (wsV RX11 86 RX11 yX11_copy wsX11_copy) := goodIn_app (goodIn_of _ (by decide +kernel)) ggX11_reduce_X11_copy
set_option maxRecDepth 20000 in
theorem ggX11_reduce_X11_sign : GoodIn wsX11_reduce wsX11_sign := goodIn_r _ [11, 7, 6, 38, 39, 40, 41, 42, 43, 44, 45, 46, 47, 48, 49, 50, 51, 52, 53, 54, 55, 56] rfl (by decide +kernel)
set_option maxRecDepth 20000 in
theorem gX11_reduce_X11_sign : GoodIn wsX11_reduce (wsV RX11 78 RX11 yX11_sign wsX11_sign) := goodIn_app (goodIn_of _ (by decide +kernel)) ggX11_reduce_X11_sign
