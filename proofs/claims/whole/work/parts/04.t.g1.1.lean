set_option maxRecDepth 20000 in
theorem ggX1_isBetweenEnds_X6_sign : GoodIn wsX1_isBetweenEnds wsX6_sign := goodIn_r _ [59, 60, 61, 62, 63, 64, 65, 21, 22, 23, 24, 25, 66, 44, 45, 46, 47, 48, 49, 50, 67, 52, 53, 54, 30, 68, 39, 40, 41, 42, 27, 28, 29, 69, 70, 71, 72, 91, 92, 93, 94, 95, 97, 98, 99, 100, 96] rfl (by decide +kernel)
set_option maxRecDepth 20000 in
theorem gX1_isBetweenEnds_X6_sign : GoodIn wsX1_isBetweenEnds (wsV RX1 186 RX6 yX6_sign wsX6_sign) := goodIn_app (goodIn_of _ (by decide +kernel)) ggX1_isBetweenEnds_X6_sign
set_option maxRecDepth 20000 in
theorem ggX1_isBetweenEnds_X9_subtract : GoodIn wsX1_isBetweenEnds wsX9_subtract := goodIn_r _ [76, 25, 30, 96] rfl (by decide +kernel)
set_option maxRecDepth 20000 in
theorem gX1_isBetweenEnds_X9_subtract : GoodIn wsX1_isBetweenEnds (wsV RX1 189 RX9 yX9_subtract wsX9_subtract) := goodIn_app (goodIn_of _ (by decide +kernel)) ggX1_isBetweenEnds_X9_subtract
set_option maxRecDepth 20000 in
theorem ggX1_ofArcs_X1_startFrom : GoodIn wsX1_ofArcs wsX1_startFrom := goodIn_r _ [14, 15, 16, 146, 147, 148, 149, 150, 151, 152, 153, 154, 155, 156, 157, 158, 159] rfl (by decide +kernel)
set_option maxRecDepth 20000 in
theorem gX1_ofArcs_X1_startFrom : GoodIn wsX1_ofArcs (wsV RX1 113 RX1 yX1_startFrom wsX1_startFrom) := goodIn_app (goodIn_of _ (by decide +kernel)) ggX1_ofArcs_X1_startFrom
set_option maxRecDepth 20000 in
theorem ggX1_ofArcs_X9_setToDot : GoodIn wsX1_ofArcs wsX9_setToDot := goodIn_r _ [21, 22, 23, 24, 20, 25, 26, 27, 28, 29, 30, 31, 32, 33, 34, 160] rfl (by decide +kernel)
set_option maxRecDepth 20000 in
theorem gX1_ofArcs_X9_setToDot : GoodIn wsX1_ofArcs (wsV RX1 154 RX9 yX9_setToDot wsX9_setToDot) := goodIn_app (goodIn_of _ (by decide +kernel)) ggX1_ofArcs_X9_setToDot
set_option maxRecDepth 20000 in
theorem ggX1_ofArcs_X9_setTo_ : GoodIn wsX1_ofArcs wsX9_setTo_ := goodIn_r _ [38, 26, 39, 40, 41, 42, 160] rfl (by decide +kernel)
set_option maxRecDepth 20000 in
theorem gX1_ofArcs_X9_setTo_ : GoodIn wsX1_ofArcs (wsV RX1 183 RX9 yX9_setTo_ wsX9_setTo_) := goodIn_app (goodIn_of _ (by decide +kernel)) ggX1_ofArcs_X9_setTo_
set_option maxRecDepth 20000 in
theorem ggX1_ofArcs_X9_addProduct : GoodIn wsX1_ofArcs wsX9_addProduct := goodIn_r _ [31, 26, 27, 32, 33, 20, 34, 160] rfl (by decide +kernel)
set_option maxRecDepth 20000 in
theorem gX1_ofArcs_X9_addProduct : GoodIn wsX1_ofArcs (wsV RX1 192 RX9 yX9_addProduct wsX9_addProduct) := goodIn_app (goodIn_of _ (by decide +kernel)) ggX1_ofArcs_X9_addProduct
set_option maxRecDepth 20000 in
theorem ggX1_ofArcs_X9_shiftLeft : GoodIn wsX1_ofArcs wsX9_shiftLeft := goodIn_r _ [47, 26, 27, 48, 49, 50, 20, 51, 160] rfl (by decide +kernel)
set_option maxRecDepth 20000 in
theorem gX1_ofArcs_X9_shiftLeft : GoodIn wsX1_ofArcs (wsV RX1 197 RX9 yX9_shiftLeft wsX9_shiftLeft) := goodIn_app (goodIn_of _ (by decide +kernel)) ggX1_ofArcs_X9_shiftLeft
set_option maxRecDepth 20000 in
theorem ggX1_ofArcs_X9_subtract : GoodIn wsX1_ofArcs wsX9_subtract := goodIn_r _ [55, 26, 27, 160] rfl (by decide +kernel)
set_option maxRecDepth 20000 in
theorem gX1_ofArcs_X9_subtract : GoodIn wsX1_ofArcs (wsV RX1 189 RX9 yX9_subtract wsX9_subtract) := goodIn_app (goodIn_of _ (by decide +kernel)) ggX1_ofArcs_X9_subtract
set_option maxRecDepth 20000 in
theorem ggX1_ofArcs_X1_setRadicand : GoodIn wsX1_ofArcs wsX1_setRadicand := goodIn_r _ [59, 60, 9, 5, 61, 23, 24, 20, 25, 26, 27, 44, 45, 46, 47, 48, 49, 50, 51, 62, 63, 64, 65, 22, 52, 53, 54, 55, 146, 147, 148, 149, 150, 151, 152, 153, 154, 155, 156, 157, 158, 159, 160] rfl (by decide +kernel)
set_option maxRecDepth 20000 in
theorem gX1_ofArcs_X1_setRadicand : GoodIn wsX1_ofArcs (wsV RX1 160 RX1 yX1_setRadicand wsX1_setRadicand) := goodIn_app (goodIn_of _ (by decide +kernel)) ggX1_ofArcs_X1_setRadicand
set_option maxRecDepth 20000 in
theorem ggX1_ofArcs_X9_sign : GoodIn wsX1_ofArcs wsX9_sign := goodIn_r _ [69, 26, 160] rfl (by decide +kernel)
set_option maxRecDepth 20000 in
theorem gX1_ofArcs_X9_sign : GoodIn wsX1_ofArcs (wsV RX1 98 RX9 yX9_sign wsX9_sign) := goodIn_app (goodIn_of _ (by decide +kernel)) ggX1_ofArcs_X9_sign
set_option maxRecDepth 20000 in
theorem ggX1_ofArcs_X1_meetArcs : GoodIn wsX1_ofArcs wsX1_meetArcs := goodIn_r _ [73, 1, 2, 74, 75, 76, 6, 77, 8, 78, 79, 80, 13, 81, 60, 82, 83, 9, 84, 61, 23, 24, 20, 25, 26, 27, 62, 63, 64, 65, 22, 85, 86, 87, 88, 89, 90, 91, 92, 93, 94, 95, 96, 97, 98, 67, 68, 69, 99, 100, 29, 30, 31, 32, 33, 34, 101, 102, 103, 104, 105, 106, 107, 108, 109, 110, 111, 112, 113, 114, 115, 116, 117, 118, 119, 120, 36, 37, 38, 39, 40, 41, 42, 121, 122, 123, 124, 125, 126, 127, 128, 129, 35, 130, 131, 132, 133, 52, 53, 54, 55, 134, 135, 136, 137, 138, 139, 140, 141, 142, 143, 144, 145, 146, 147, 148, 149, 150, 151, 152, 153, 154, 155, 156, 157, 158, 159, 161, 162, 163, 164, 165, 166, 167, 160, 168, 169, 170, 171] rfl (by decide +kernel)
set_option maxRecDepth 20000 in
theorem gX1_ofArcs_X1_meetArcs : GoodIn wsX1_ofArcs (wsV RX1 201 RX1 yX1_meetArcs wsX1_meetArcs) := goodIn_app (goodIn_of _ (by decide +kernel)) ggX1_ofArcs_X1_meetArcs
set_option maxRecDepth 20000 in
theorem ggX1_meetArcs_X1_lay : GoodIn wsX1_meetArcs wsX1_lay := goodIn_r _ [13, 14, 15, 16, 17, 18, 19, 20, 21, 22, 23, 24, 25, 26, 27, 28, 29, 30, 31, 32, 33, 34, 35, 36, 37, 38, 39, 40, 41, 42, 43, 44, 45, 46, 47, 48, 49, 50, 51, 52, 53, 54, 55, 56, 113, 114, 115, 116, 117, 118, 119, 120, 121, 122, 123, 124, 125, 126, 127, 128, 129, 130, 131, 132, 133, 134] rfl (by decide +kernel)
set_option maxRecDepth 20000 in
theorem gX1_meetArcs_X1_lay : GoodIn wsX1_meetArcs (wsV RX1 117 RX1 yX1_lay wsX1_lay) := goodIn_app (goodIn_of _ (by decide +kernel)) ggX1_meetArcs_X1_lay
set_option maxRecDepth 20000 in
theorem ggX1_meetArcs_X1_isTowards : GoodIn wsX1_meetArcs wsX1_isTowards := goodIn_r _ [60, 61, 15, 18, 62, 16, 63, 17, 64, 65, 66, 67, 68, 69, 70, 71, 72, 73, 74, 45, 46, 22, 47, 24, 75, 76, 77, 78, 79, 80, 81, 82, 83, 84, 85, 86, 25, 87, 27, 28, 29, 30, 20, 21, 23, 88, 89, 90, 91, 92, 93, 94, 95, 96, 31, 32, 33, 34, 35, 36, 37, 38, 39, 40, 41, 42, 43, 44, 48, 49, 50, 51, 52, 53, 54, 55, 56, 97, 98, 99, 100, 101, 102, 103, 104, 105, 106, 107, 113, 114, 115, 116, 117, 118, 119, 120, 121, 122, 123, 124, 125, 126, 127, 128, 129, 130, 131, 132, 133, 135, 136, 137, 138, 134, 108, 109, 110, 111, 112] rfl (by decide +kernel)
set_option maxRecDepth 20000 in
theorem gX1_meetArcs_X1_isTowards : GoodIn wsX1_meetArcs (wsV RX1 172 RX1 yX1_isTowards wsX1_isTowards) := goodIn_app (goodIn_of _ (by decide +kernel)) ggX1_meetArcs_X1_isTowards
set_option maxRecDepth 20000 in
theorem ggX1_setRadicand_X9_setTo : GoodIn wsX1_setRadicand wsX9_setTo := goodIn_r _ [8, 9, 10, 42] rfl (by decide +kernel)
set_option maxRecDepth 20000 in
theorem gX1_setRadicand_X9_setTo : GoodIn wsX1_setRadicand (wsV RX1 142 RX9 yX9_setTo wsX9_setTo) := goodIn_app (goodIn_of _ (by decide +kernel)) ggX1_setRadicand_X9_setTo
set_option maxRecDepth 20000 in
theorem ggX1_setRadicand_X9_shiftLeft : GoodIn wsX1_setRadicand wsX9_shiftLeft := goodIn_r _ [14, 9, 10, 15, 16, 17, 7, 18, 42] rfl (by decide +kernel)
set_option maxRecDepth 20000 in
theorem gX1_setRadicand_X9_shiftLeft : GoodIn wsX1_setRadicand (wsV RX1 197 RX9 yX9_shiftLeft wsX9_shiftLeft) := goodIn_app (goodIn_of _ (by decide +kernel)) ggX1_setRadicand_X9_shiftLeft
set_option maxRecDepth 20000 in
theorem ggX1_setRadicand_X9_setToProduct : GoodIn wsX1_setRadicand wsX9_setToProduct := goodIn_r _ [22, 9, 10, 23, 5, 6, 7, 8, 42] rfl (by decide +kernel)
set_option maxRecDepth 20000 in
theorem gX1_setRadicand_X9_setToProduct : GoodIn wsX1_setRadicand (wsV RX1 205 RX9 yX9_setToProduct wsX9_setToProduct) := goodIn_app (goodIn_of _ (by decide +kernel)) ggX1_setRadicand_X9_setToProduct
set_option maxRecDepth 20000 in
theorem ggX1_setRadicand_X9_subtract : GoodIn wsX1_setRadicand wsX9_subtract := goodIn_r _ [27, 9, 10, 42] rfl (by decide +kernel)
set_option maxRecDepth 20000 in
theorem gX1_setRadicand_X9_subtract : GoodIn wsX1_setRadicand (wsV RX1 189 RX9 yX9_subtract wsX9_subtract) := goodIn_app (goodIn_of _ (by decide +kernel)) ggX1_setRadicand_X9_subtract
set_option maxRecDepth 20000 in
theorem ggX1_lay_X9_setTo : GoodIn wsX1_lay wsX9_setTo := goodIn_r _ [10, 11, 12, 65] rfl (by decide +kernel)
set_option maxRecDepth 20000 in
theorem gX1_lay_X9_setTo : GoodIn wsX1_lay (wsV RX1 142 RX9 yX9_setTo wsX9_setTo) := goodIn_app (goodIn_of _ (by decide +kernel)) ggX1_lay_X9_setTo
set_option maxRecDepth 20000 in
theorem ggX1_lay_X9_setToProduct : GoodIn wsX1_lay wsX9_setToProduct := goodIn_r _ [16, 11, 12, 17, 7, 8, 9, 10, 65] rfl (by decide +kernel)
set_option maxRecDepth 20000 in
theorem gX1_lay_X9_setToProduct : GoodIn wsX1_lay (wsV RX1 205 RX9 yX9_setToProduct wsX9_setToProduct) := goodIn_app (goodIn_of _ (by decide +kernel)) ggX1_lay_X9_setToProduct
set_option maxRecDepth 20000 in
theorem ggX1_lay_X5_setRoot : GoodIn wsX1_lay wsX5_setRoot := goodIn_r _ [22, 23, 24, 25, 26, 27, 28, 29, 30, 31, 32, 33, 9, 34, 11, 35, 7, 8, 10, 12, 36, 37, 38, 39, 40, 41, 42, 43, 14, 15, 16, 17, 60, 61, 62, 63, 64, 65] rfl (by decide +kernel)
set_option maxRecDepth 20000 in
theorem gX1_lay_X5_setRoot : GoodIn wsX1_lay (wsV RX1 176 RX5 yX5_setRoot wsX5_setRoot) := goodIn_app (goodIn_of _ (by decide +kernel)) ggX1_lay_X5_setRoot
set_option maxRecDepth 20000 in
theorem ggX1_isTowards_X6_sign : GoodIn wsX1_isTowards wsX6_sign := goodIn_r _ [12, 13, 14, 15, 16, 17, 18, 19, 20, 21, 22, 23, 24, 25, 26, 27, 28, 29, 30, 31, 32, 33, 34, 35, 36, 37, 38, 39, 40, 41, 42, 43, 44, 45, 46, 47, 48, 104, 105, 106, 107, 108, 109, 110, 111, 112, 113] rfl (by decide +kernel)
set_option maxRecDepth 20000 in
theorem gX1_isTowards_X6_sign : GoodIn wsX1_isTowards (wsV RX1 186 RX6 yX6_sign wsX6_sign) := goodIn_app (goodIn_of _ (by decide +kernel)) ggX1_isTowards_X6_sign
set_option maxRecDepth 20000 in
theorem ggX1_isTowards_X9_setTo_ : GoodIn wsX1_isTowards wsX9_setTo_ := goodIn_r _ [27, 23, 28, 29, 30, 31, 113] rfl (by decide +kernel)
set_option maxRecDepth 20000 in
theorem gX1_isTowards_X9_setTo_ : GoodIn wsX1_isTowards (wsV RX1 183 RX9 yX9_setTo_ wsX9_setTo_) := goodIn_app (goodIn_of _ (by decide +kernel)) ggX1_isTowards_X9_setTo_
set_option maxRecDepth 20000 in
theorem ggX1_isTowards_X9_add : GoodIn wsX1_isTowards wsX9_add := goodIn_r _ [53, 23, 36, 113] rfl (by decide +kernel)
set_option maxRecDepth 20000 in
theorem gX1_isTowards_X9_add : GoodIn wsX1_isTowards (wsV RX1 209 RX9 yX9_add wsX9_add) := goodIn_app (goodIn_of _ (by decide +kernel)) ggX1_isTowards_X9_add
set_option maxRecDepth 20000 in
theorem ggX1_isTowards_X5_setRoot : GoodIn wsX1_isTowards wsX5_setRoot := goodIn_r _ [58, 59, 60, 61, 62, 63, 64, 65, 66, 67, 19, 20, 21, 22, 23, 68, 42, 43, 44, 36, 69, 70, 71, 72, 73, 74, 75, 76, 38, 39, 40, 41, 104, 105, 106, 107, 108, 113] rfl (by decide +kernel)
set_option maxRecDepth 20000 in
theorem gX1_isTowards_X5_setRoot : GoodIn wsX1_isTowards (wsV RX1 176 RX5 yX5_setRoot wsX5_setRoot) := goodIn_app (goodIn_of _ (by decide +kernel)) ggX1_isTowards_X5_setRoot
set_option maxRecDepth 20000 in
theorem ggX1_isTowards_X9_subtract : GoodIn wsX1_isTowards wsX9_subtract := goodIn_r _ [80, 23, 36, 113] rfl (by decide +kernel)
set_option maxRecDepth 20000 in
theorem gX1_isTowards_X9_subtract : GoodIn wsX1_isTowards (wsV RX1 189 RX9 yX9_subtract wsX9_subtract) := goodIn_app (goodIn_of _ (by decide +kernel)) ggX1_isTowards_X9_subtract
set_option maxRecDepth 20000 in
theorem ggX1_isTowards_X0_reaches : GoodIn wsX1_isTowards wsX0_reaches := goodIn_r _ [85, 86, 87, 114, 115, 116, 117, 118] rfl (by decide +kernel)
set_option maxRecDepth 20000 in
theorem gX1_isTowards_X0_reaches : GoodIn wsX1_isTowards (wsV RX1 215 RX0 yX0_reaches wsX0_reaches) := goodIn_app (goodIn_of _ (by decide +kernel)) ggX1_isTowards_X0_reaches
