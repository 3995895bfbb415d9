set_option maxRecDepth 20000 in
theorem ggX1_init_X6_init : GoodIn wsX1_init wsX6_init := goodIn_r _ [27, 28, 2, 3, 29, 9, 10, 30, 31, 32, 19, 20, 33, 34, 35, 36, 37, 38, 39, 40, 41, 42, 43, 44, 45, 46, 71, 53, 54, 55, 56, 74, 75, 76, 77, 78] rfl (by decide +kernel)
set_option maxRecDepth 20000 in
theorem gX1_init_X6_init_n9 : GoodIn wsX1_init (wsX6_init) := ggX1_init_X6_init
set_option maxRecDepth 20000 in
theorem ggX1_init_X9_init : GoodIn wsX1_init wsX9_init := goodIn_r _ [36, 37, 2, 3, 38, 39, 71] rfl (by decide +kernel)
set_option maxRecDepth 20000 in
theorem gX1_init_X9_init_n18 : GoodIn wsX1_init (wsX9_init) := ggX1_init_X9_init
set_option maxRecDepth 20000 in
theorem ggX1_init_X3_init : GoodIn wsX1_init wsX3_init := goodIn_r _ [48, 49, 2, 3, 50, 19, 20, 51, 52, 40, 41, 42, 43, 9, 10, 44, 45, 46, 35, 36, 37, 38, 39, 74, 75, 76, 77, 78, 72, 73, 71] rfl (by decide +kernel)
set_option maxRecDepth 20000 in
theorem gX1_init_X3_init_n25 : GoodIn wsX1_init (wsX3_init) := ggX1_init_X3_init
set_option maxRecDepth 20000 in
theorem ggX1_init_X5_init : GoodIn wsX1_init wsX5_init := goodIn_r _ [41, 42, 2, 3, 43, 9, 10, 44, 45, 46, 35, 36, 37, 38, 39, 71, 74, 75, 76, 77, 78] rfl (by decide +kernel)
set_option maxRecDepth 20000 in
theorem gX1_init_X5_init_n38 : GoodIn wsX1_init (wsX5_init) := ggX1_init_X5_init
set_option maxRecDepth 20000 in
theorem ggX1_coordinate_X6_rounded : GoodIn wsX1_coordinate wsX6_rounded := goodIn_r _ [13, 14, 15, 16, 17, 18, 19, 20, 21, 22, 23, 24, 25, 26, 27, 28, 29, 30, 31, 32, 33, 34, 35, 36, 37, 38, 39, 40, 12, 41, 42, 43, 44, 45, 46, 47, 48, 49, 50, 51, 52, 53, 54, 55, 56, 57, 58, 59, 60, 61, 62, 63, 64, 65, 66, 67, 68, 69, 70, 71, 72, 73, 74, 75, 76, 77, 78, 79, 80, 81, 82, 83, 84, 85, 86, 87, 88, 89, 90, 107, 108, 109, 110, 111, 112, 113, 114, 115, 116] rfl (by decide +kernel)
set_option maxRecDepth 20000 in
theorem gX1_coordinate_X6_rounded : GoodIn wsX1_coordinate (wsV RX1 70 RX6 yX6_rounded wsX6_rounded) := goodIn_app (goodIn_of _ (by decide +kernel)) ggX1_coordinate_X6_rounded
set_option maxRecDepth 20000 in
theorem ggX1_ofSegments_X9_setToCross : GoodIn wsX1_ofSegments wsX9_setToCross := goodIn_r _ [15, 16, 17, 18, 14, 19, 20, 21, 22, 23, 24, 25, 26, 27, 28, 122] rfl (by decide +kernel)
set_option maxRecDepth 20000 in
theorem gX1_ofSegments_X9_setToCross : GoodIn wsX1_ofSegments (wsV RX1 94 RX9 yX9_setToCross wsX9_setToCross) := goodIn_app (goodIn_of _ (by decide +kernel)) ggX1_ofSegments_X9_setToCross
set_option maxRecDepth 20000 in
theorem ggX1_ofSegments_X9_sign : GoodIn wsX1_ofSegments wsX9_sign := goodIn_r _ [32, 20, 122] rfl (by decide +kernel)
set_option maxRecDepth 20000 in
theorem gX1_ofSegments_X9_sign : GoodIn wsX1_ofSegments (wsV RX1 98 RX9 yX9_sign wsX9_sign) := goodIn_app (goodIn_of _ (by decide +kernel)) ggX1_ofSegments_X9_sign
set_option maxRecDepth 20000 in
theorem ggX1_ofSegments_X1_ofSegmentsOnOneLine : GoodIn wsX1_ofSegments wsX1_ofSegmentsOnOneLine := goodIn_r _ [37, 1, 2, 38, 39, 40, 41, 42, 43, 44, 45, 46, 8, 3, 9, 6, 10, 47, 48, 49, 50, 51, 52, 53, 54, 55, 36, 56, 57, 58, 59, 17, 18, 14, 19, 20, 21, 60, 61, 62, 63, 64, 65, 66, 67, 68, 69, 70, 71, 72, 16, 73, 74, 75, 76, 77, 78, 79, 80, 81, 82, 83, 84, 85, 86, 30, 31, 32, 87, 88, 23, 24, 25, 26, 27, 28, 89, 102, 103, 104, 105, 106, 107, 108, 109, 110, 111, 112, 113, 114, 115, 116, 117, 118, 119, 120, 121, 122, 123, 124, 125, 126, 127, 128, 129] rfl (by decide +kernel)
set_option maxRecDepth 20000 in
theorem gX1_ofSegments_X1_ofSegmentsOnOneLine : GoodIn wsX1_ofSegments (wsV RX1 102 RX1 yX1_ofSegmentsOnOneLine wsX1_ofSegmentsOnOneLine) := goodIn_app (goodIn_of _ (by decide +kernel)) ggX1_ofSegments_X1_ofSegmentsOnOneLine
set_option maxRecDepth 20000 in
theorem ggX1_ofSegments_X9_negate : GoodIn wsX1_ofSegments wsX9_negate := goodIn_r _ [93, 20, 21, 122] rfl (by decide +kernel)
set_option maxRecDepth 20000 in
theorem gX1_ofSegments_X9_negate : GoodIn wsX1_ofSegments (wsV RX1 106 RX9 yX9_negate wsX9_negate) := goodIn_app (goodIn_of _ (by decide +kernel)) ggX1_ofSegments_X9_negate
set_option maxRecDepth 20000 in
theorem ggX1_ofSegments_X1_isPartOfBelow : GoodIn wsX1_ofSegments wsX1_isPartOfBelow := goodIn_r _ [97, 3, 29, 30, 31, 14, 32, 20, 98, 99, 100, 101, 108, 109, 110, 111, 112, 113, 114, 115, 116, 117, 118, 119, 120, 121, 122] rfl (by decide +kernel)
set_option maxRecDepth 20000 in
theorem gX1_ofSegments_X1_isPartOfBelow : GoodIn wsX1_ofSegments (wsV RX1 109 RX1 yX1_isPartOfBelow wsX1_isPartOfBelow) := goodIn_app (goodIn_of _ (by decide +kernel)) ggX1_ofSegments_X1_isPartOfBelow
set_option maxRecDepth 20000 in
theorem ggX1_ofSegments_X1_startFrom : GoodIn wsX1_ofSegments wsX1_startFrom := goodIn_r _ [56, 57, 58, 108, 109, 110, 111, 112, 113, 114, 115, 116, 117, 118, 119, 120, 121] rfl (by decide +kernel)
set_option maxRecDepth 20000 in
theorem gX1_ofSegments_X1_startFrom : GoodIn wsX1_ofSegments (wsV RX1 113 RX1 yX1_startFrom wsX1_startFrom) := goodIn_app (goodIn_of _ (by decide +kernel)) ggX1_ofSegments_X1_startFrom
set_option maxRecDepth 20000 in
theorem ggX1_ofSegments_X1_lay : GoodIn wsX1_ofSegments wsX1_lay := goodIn_r _ [63, 64, 65, 66, 67, 68, 59, 17, 18, 14, 19, 20, 21, 69, 70, 71, 72, 16, 73, 74, 75, 76, 77, 78, 79, 80, 81, 82, 83, 84, 85, 86, 30, 31, 32, 87, 88, 23, 24, 25, 26, 27, 28, 89, 108, 109, 110, 111, 112, 113, 114, 115, 116, 117, 118, 119, 120, 121, 123, 124, 125, 126, 127, 128, 129, 122] rfl (by decide +kernel)
set_option maxRecDepth 20000 in
theorem gX1_ofSegments_X1_lay : GoodIn wsX1_ofSegments (wsV RX1 117 RX1 yX1_lay wsX1_lay) := goodIn_app (goodIn_of _ (by decide +kernel)) ggX1_ofSegments_X1_lay
set_option maxRecDepth 20000 in
theorem ggX1_isPartOfBelow_X9_sign : GoodIn wsX1_isPartOfBelow wsX9_sign := goodIn_r _ [6, 7, 26] rfl (by decide +kernel)
set_option maxRecDepth 20000 in
theorem gX1_isPartOfBelow_X9_sign : GoodIn wsX1_isPartOfBelow (wsV RX1 98 RX9 yX9_sign wsX9_sign) := goodIn_app (goodIn_of _ (by decide +kernel)) ggX1_isPartOfBelow_X9_sign
set_option maxRecDepth 20000 in
theorem ggX1_isPartOfBelow_X9_against : GoodIn wsX1_isPartOfBelow wsX9_against := goodIn_r _ [11, 7, 26] rfl (by decide +kernel)
set_option maxRecDepth 20000 in
theorem gX1_isPartOfBelow_X9_against : GoodIn wsX1_isPartOfBelow (wsV RX1 121 RX9 yX9_against wsX9_against) := goodIn_app (goodIn_of _ (by decide +kernel)) ggX1_isPartOfBelow_X9_against
set_option maxRecDepth 20000 in
theorem ggX1_ofSegmentsOnOneLine_X7_along : GoodIn wsX1_ofSegmentsOnOneLine wsX7_along := goodIn_r _ [21, 22, 77, 78, 79, 80, 81, 82] rfl (by decide +kernel)
set_option maxRecDepth 20000 in
theorem gX1_ofSegmentsOnOneLine_X7_along : GoodIn wsX1_ofSegmentsOnOneLine (wsV RX1 125 RX7 yX7_along wsX7_along) := goodIn_app (goodIn_of _ (by decide +kernel)) ggX1_ofSegmentsOnOneLine_X7_along
set_option maxRecDepth 20000 in
theorem ggX1_ofSegmentsOnOneLine_X1_startFrom : GoodIn wsX1_ofSegmentsOnOneLine wsX1_startFrom := goodIn_r _ [27, 28, 29, 83, 84, 85, 86, 87, 88, 89, 90, 91, 92, 93, 94, 95, 96] rfl (by decide +kernel)
set_option maxRecDepth 20000 in
theorem gX1_ofSegmentsOnOneLine_X1_startFrom : GoodIn wsX1_ofSegmentsOnOneLine (wsV RX1 113 RX1 yX1_startFrom wsX1_startFrom) := goodIn_app (goodIn_of _ (by decide +kernel)) ggX1_ofSegmentsOnOneLine_X1_startFrom
set_option maxRecDepth 20000 in
theorem ggX1_ofSegmentsOnOneLine_X9_setTo : GoodIn wsX1_ofSegmentsOnOneLine wsX9_setTo := goodIn_r _ [34, 35, 36, 97] rfl (by decide +kernel)
set_option maxRecDepth 20000 in
theorem gX1_ofSegmentsOnOneLine_X9_setTo : GoodIn wsX1_ofSegmentsOnOneLine (wsV RX1 142 RX9 yX9_setTo wsX9_setTo) := goodIn_app (goodIn_of _ (by decide +kernel)) ggX1_ofSegmentsOnOneLine_X9_setTo
set_option maxRecDepth 20000 in
theorem ggX1_ofSegmentsOnOneLine_X1_lay : GoodIn wsX1_ofSegmentsOnOneLine wsX1_lay := goodIn_r _ [40, 41, 42, 43, 44, 45, 30, 31, 32, 33, 34, 35, 36, 46, 47, 48, 49, 50, 51, 52, 53, 54, 55, 56, 57, 58, 59, 60, 61, 62, 63, 64, 65, 66, 67, 68, 69, 70, 71, 72, 73, 74, 75, 76, 83, 84, 85, 86, 87, 88, 89, 90, 91, 92, 93, 94, 95, 96, 98, 99, 100, 101, 102, 103, 104, 97] rfl (by decide +kernel)
set_option maxRecDepth 20000 in
theorem gX1_ofSegmentsOnOneLine_X1_lay : GoodIn wsX1_ofSegmentsOnOneLine (wsV RX1 117 RX1 yX1_lay wsX1_lay) := goodIn_app (goodIn_of _ (by decide +kernel)) ggX1_ofSegmentsOnOneLine_X1_lay
set_option maxRecDepth 20000 in
theorem ggX1_ofSegmentAndArc_X1_startFrom : GoodIn wsX1_ofSegmentAndArc wsX1_startFrom := goodIn_r _ [17, 18, 19, 162, 163, 164, 165, 166, 167, 168, 169, 170, 171, 172, 173, 174, 175] rfl (by decide +kernel)
set_option maxRecDepth 20000 in
theorem gX1_ofSegmentAndArc_X1_startFrom : GoodIn wsX1_ofSegmentAndArc (wsV RX1 113 RX1 yX1_startFrom wsX1_startFrom) := goodIn_app (goodIn_of _ (by decide +kernel)) ggX1_ofSegmentAndArc_X1_startFrom
set_option maxRecDepth 20000 in
theorem ggX1_ofSegmentAndArc_X9_setToDot : GoodIn wsX1_ofSegmentAndArc wsX9_setToDot := goodIn_r _ [24, 25, 26, 27, 23, 28, 29, 30, 31, 32, 33, 34, 35, 36, 37, 176] rfl (by decide +kernel)
set_option maxRecDepth 20000 in
theorem gX1_ofSegmentAndArc_X9_setToDot : GoodIn wsX1_ofSegmentAndArc (wsV RX1 154 RX9 yX9_setToDot wsX9_setToDot) := goodIn_app (goodIn_of _ (by decide +kernel)) ggX1_ofSegmentAndArc_X9_setToDot
set_option maxRecDepth 20000 in
theorem ggX1_ofSegmentAndArc_X9_setToCross : GoodIn wsX1_ofSegmentAndArc wsX9_setToCross := goodIn_r _ [41, 25, 26, 27, 23, 28, 29, 30, 31, 32, 33, 34, 35, 36, 37, 176] rfl (by decide +kernel)
set_option maxRecDepth 20000 in
theorem gX1_ofSegmentAndArc_X9_setToCross : GoodIn wsX1_ofSegmentAndArc (wsV RX1 94 RX9 yX9_setToCross wsX9_setToCross) := goodIn_app (goodIn_of _ (by decide +kernel)) ggX1_ofSegmentAndArc_X9_setToCross
set_option maxRecDepth 20000 in
theorem ggX1_ofSegmentAndArc_X1_setRadicand : GoodIn wsX1_ofSegmentAndArc wsX1_setRadicand := goodIn_r _ [45, 46, 12, 6, 47, 26, 27, 23, 28, 29, 30, 48, 49, 50, 51, 52, 53, 54, 55, 56, 57, 58, 59, 25, 60, 61, 62, 63, 162, 163, 164, 165, 166, 167, 168, 169, 170, 171, 172, 173, 174, 175, 176] rfl (by decide +kernel)
set_option maxRecDepth 20000 in
theorem gX1_ofSegmentAndArc_X1_setRadicand : GoodIn wsX1_ofSegmentAndArc (wsV RX1 160 RX1 yX1_setRadicand wsX1_setRadicand) := goodIn_app (goodIn_of _ (by decide +kernel)) ggX1_ofSegmentAndArc_X1_setRadicand
set_option maxRecDepth 20000 in
theorem ggX1_ofSegmentAndArc_X9_sign : GoodIn wsX1_ofSegmentAndArc wsX9_sign := goodIn_r _ [67, 29, 176] rfl (by decide +kernel)
set_option maxRecDepth 20000 in
theorem gX1_ofSegmentAndArc_X9_sign : GoodIn wsX1_ofSegmentAndArc (wsV RX1 98 RX9 yX9_sign wsX9_sign) := goodIn_app (goodIn_of _ (by decide +kernel)) ggX1_ofSegmentAndArc_X9_sign
set_option maxRecDepth 20000 in
theorem ggX1_ofSegmentAndArc_X1_meetSegmentAndArc : GoodIn wsX1_ofSegmentAndArc wsX1_meetSegmentAndArc := goodIn_r _ [71, 72, 73, 74, 10, 8, 7, 75, 76, 77, 16, 78, 46, 79, 80, 12, 81, 47, 26, 27, 23, 28, 29, 30, 56, 57, 58, 59, 25, 82, 83, 84, 85, 86, 87, 88, 89, 90, 91, 92, 93, 94, 95, 65, 66, 67, 96, 97, 32, 33, 34, 35, 36, 37, 98, 99, 100, 101, 102, 103, 9, 104, 6, 105, 106, 107, 108, 109, 110, 111, 112, 113, 114, 115, 116, 117, 118, 119, 120, 121, 122, 123, 124, 125, 126, 127, 128, 129, 130, 131, 132, 133, 134, 60, 61, 62, 63, 135, 136, 137, 138, 139, 140, 141, 142, 143, 144, 145, 146, 147, 148, 149, 150, 162, 163, 164, 165, 166, 167, 168, 169, 170, 171, 172, 173, 174, 175, 151, 152, 153, 154, 155, 156, 177, 178, 179, 180, 181, 182, 183, 176, 184, 185, 186, 187, 157, 158, 159, 160, 161] rfl (by decide +kernel)
set_option maxRecDepth 20000 in
theorem gX1_ofSegmentAndArc_X1_meetSegmentAndArc : GoodIn wsX1_ofSegmentAndArc (wsV RX1 164 RX1 yX1_meetSegmentAndArc wsX1_meetSegmentAndArc) := goodIn_app (goodIn_of _ (by decide +kernel)) ggX1_ofSegmentAndArc_X1_meetSegmentAndArc
set_option maxRecDepth 20000 in
theorem ggX1_meetSegmentAndArc_X1_lay : GoodIn wsX1_meetSegmentAndArc wsX1_lay := goodIn_r _ [11, 12, 13, 14, 15, 16, 17, 18, 19, 20, 21, 22, 23, 24, 25, 26, 27, 28, 29, 30, 31, 32, 33, 34, 35, 36, 37, 38, 39, 40, 41, 42, 43, 44, 45, 46, 47, 48, 49, 50, 51, 52, 53, 54, 113, 114, 115, 116, 117, 118, 119, 120, 121, 122, 123, 124, 125, 126, 133, 134, 135, 136, 137, 138, 139, 140] rfl (by decide +kernel)
set_option maxRecDepth 20000 in
theorem gX1_meetSegmentAndArc_X1_lay : GoodIn wsX1_meetSegmentAndArc (wsV RX1 117 RX1 yX1_lay wsX1_lay) := goodIn_app (goodIn_of _ (by decide +kernel)) ggX1_meetSegmentAndArc_X1_lay
set_option maxRecDepth 20000 in
theorem ggX1_meetSegmentAndArc_X1_isBetweenEnds : GoodIn wsX1_meetSegmentAndArc wsX1_isBetweenEnds := goodIn_r _ [58, 59, 15, 14, 60, 61, 62, 29, 30, 31, 32, 33, 34, 35, 36, 37, 38, 39, 40, 41, 42, 43, 44, 20, 45, 22, 46, 18, 19, 21, 23, 47, 48, 49, 50, 51, 52, 53, 54, 25, 26, 27, 28, 63, 64, 65, 66, 67, 68, 69, 70, 71, 72, 73, 74, 75, 76, 77, 78, 79, 80, 81, 82, 83, 84, 85, 86, 87, 88, 89, 90, 91, 92, 93, 94, 95, 96, 113, 114, 115, 116, 117, 118, 119, 120, 121, 122, 123, 124, 125, 126, 135, 136, 137, 138, 139, 140, 141, 142, 143, 144] rfl (by decide +kernel)
set_option maxRecDepth 20000 in
theorem gX1_meetSegmentAndArc_X1_isBetweenEnds : GoodIn wsX1_meetSegmentAndArc (wsV RX1 168 RX1 yX1_isBetweenEnds wsX1_isBetweenEnds) := goodIn_app (goodIn_of _ (by decide +kernel)) ggX1_meetSegmentAndArc_X1_isBetweenEnds
set_option maxRecDepth 20000 in
theorem ggX1_meetSegmentAndArc_X1_isTowards : GoodIn wsX1_meetSegmentAndArc wsX1_isTowards := goodIn_r _ [100, 61, 13, 16, 59, 14, 101, 15, 75, 76, 77, 78, 79, 80, 81, 82, 83, 84, 85, 43, 44, 20, 45, 22, 86, 64, 65, 66, 67, 68, 69, 70, 87, 72, 73, 74, 23, 88, 25, 26, 27, 28, 18, 19, 21, 89, 90, 91, 92, 63, 102, 103, 104, 105, 29, 30, 31, 32, 33, 34, 35, 36, 37, 38, 39, 40, 41, 42, 46, 47, 48, 49, 50, 51, 52, 53, 54, 93, 94, 95, 96, 106, 107, 108, 109, 110, 111, 112, 113, 114, 115, 116, 117, 118, 119, 120, 121, 122, 123, 124, 125, 126, 133, 134, 135, 136, 137, 138, 139, 141, 142, 143, 144, 140, 145, 146, 147, 148, 149] rfl (by decide +kernel)
set_option maxRecDepth 20000 in
theorem gX1_meetSegmentAndArc_X1_isTowards : GoodIn wsX1_meetSegmentAndArc (wsV RX1 172 RX1 yX1_isTowards wsX1_isTowards) := goodIn_app (goodIn_of _ (by decide +kernel)) ggX1_meetSegmentAndArc_X1_isTowards
set_option maxRecDepth 20000 in
theorem ggX1_isBetweenEnds_X5_setRoot : GoodIn wsX1_isBetweenEnds wsX5_setRoot := goodIn_r _ [11, 12, 13, 14, 15, 16, 17, 18, 19, 20, 21, 22, 23, 24, 25, 26, 27, 28, 29, 30, 31, 32, 33, 34, 35, 36, 37, 38, 39, 40, 41, 42, 91, 92, 93, 94, 95, 96] rfl (by decide +kernel)
set_option maxRecDepth 20000 in
theorem gX1_isBetweenEnds_X5_setRoot : GoodIn wsX1_isBetweenEnds (wsV RX1 176 RX5 yX5_setRoot wsX5_setRoot) := goodIn_app (goodIn_of _ (by decide +kernel)) ggX1_isBetweenEnds_X5_setRoot
set_option maxRecDepth 20000 in
theorem ggX1_isBetweenEnds_X9_setTo_ : GoodIn wsX1_isBetweenEnds wsX9_setTo_ := goodIn_r _ [46, 25, 47, 48, 49, 50, 96] rfl (by decide +kernel)
set_option maxRecDepth 20000 in
theorem gX1_isBetweenEnds_X9_setTo_ : GoodIn wsX1_isBetweenEnds (wsV RX1 183 RX9 yX9_setTo_ wsX9_setTo_) := goodIn_app (goodIn_of _ (by decide +kernel)) ggX1_isBetweenEnds_X9_setTo_
set_option maxRecDepth 20000 in
theorem ggX1_isBetweenEnds_X9_negate : GoodIn wsX1_isBetweenEnds wsX9_negate := goodIn_r _ [54, 25, 30, 96] rfl (by decide +kernel)
set_option maxRecDepth 20000 in
theorem gX1_isBetweenEnds_X9_negate : GoodIn wsX1_isBetweenEnds (wsV RX1 106 RX9 yX9_negate wsX9_negate) := goodIn_app (goodIn_of _ (by decide +kernel)) ggX1_isBetweenEnds_X9_negate
