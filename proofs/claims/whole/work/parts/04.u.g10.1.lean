set_option maxRecDepth 20000 in
theorem ggX10_on_X10_shapeOf : GoodIn wsX10_on wsX10_shapeOf := goodIn_r _ [10, 11, 12, 83, 84, 85, 86, 87, 88, 89, 90] rfl (by decide +kernel)
set_option maxRecDepth 20000 in
theorem gX10_on_X10_shapeOf : GoodIn wsX10_on (wsV RX10 105 RX10 yX10_shapeOf wsX10_shapeOf) := goodIn_app (goodIn_of _ (by decide +kernel)) ggX10_on_X10_shapeOf
set_option maxRecDepth 20000 in
theorem ggX10_on_X10_isPlace : GoodIn wsX10_on wsX10_isPlace := goodIn_r _ [15, 16, 17] rfl (by decide +kernel)
set_option maxRecDepth 20000 in
theorem gX10_on_X10_isPlace : GoodIn wsX10_on (va_wsS RX10 61 yX10_isPlace wsX10_isPlace) := goodIn_app (goodIn_of _ (by decide +kernel)) ggX10_on_X10_isPlace
set_option maxRecDepth 20000 in
theorem ggX10_on_X0_holds : GoodIn wsX10_on wsX0_holds := goodIn_r _ [23, 24, 25, 26, 27, 28, 29, 30, 31, 32, 33, 34, 35, 36, 37, 38, 39, 40, 41, 42, 43, 44, 45, 46, 47, 48, 49, 50, 51, 52, 53, 54, 55, 56, 57, 22, 58, 59, 60, 91, 92, 93, 94, 95, 96] rfl (by decide +kernel)
set_option maxRecDepth 20000 in
theorem gX10_on_X0_holds_u193X0 : GoodIn wsX10_on (va_wsU RX10 193 RX0 "NanoSigns$Shape" ⟨"NanoSigns$Shape", "holds", "(JJLNanoSigns$Whole;)Z"⟩ yX0_holds wsX0_holds) := goodIn_app (goodIn_of _ (by decide +kernel)) ggX10_on_X0_holds
set_option maxRecDepth 20000 in
theorem ggX10_on_X7_holds : GoodIn wsX10_on wsX7_holds := goodIn_r _ [64, 65, 66, 67, 68, 69, 70, 71, 72, 73, 74, 75, 76, 77, 78, 79, 80, 31, 81, 33, 34, 35, 36, 37, 38, 39, 40, 41, 42, 43, 44, 45, 82, 48, 49, 50, 97, 98, 99, 100, 101, 102, 96] rfl (by decide +kernel)
set_option maxRecDepth 20000 in
theorem gX10_on_X7_holds_u193X7 : GoodIn wsX10_on (va_wsU RX10 193 RX7 "NanoSigns$Shape" ⟨"NanoSigns$Shape", "holds", "(JJLNanoSigns$Whole;)Z"⟩ yX7_holds wsX7_holds) := goodIn_app (goodIn_of _ (by decide +kernel)) ggX10_on_X7_holds
set_option maxRecDepth 20000 in
theorem ggX10_over_X10_isRounding : GoodIn wsX10_over wsX10_isRounding := goodIn_r _ [9] rfl (by decide +kernel)
set_option maxRecDepth 20000 in
theorem gX10_over_X10_isRounding : GoodIn wsX10_over (va_wsS RX10 184 yX10_isRounding wsX10_isRounding) := goodIn_app (goodIn_of _ (by decide +kernel)) ggX10_over_X10_isRounding
set_option maxRecDepth 20000 in
theorem ggX10_over_J9_floorDiv_f86c9 : GoodIn wsX10_over wsJ9_floorDiv_f86c9 := goodIn_r _ [13] rfl (by decide +kernel)
set_option maxRecDepth 20000 in
theorem gX10_over_J9_floorDiv_f86c9 : GoodIn wsX10_over (va_wsS RX10 204 yJ9_floorDiv_f86c9 wsJ9_floorDiv_f86c9) := goodIn_app (goodIn_of _ (by decide +kernel)) ggX10_over_J9_floorDiv_f86c9
set_option maxRecDepth 20000 in
theorem ggX10_root_X10_isRounding : GoodIn wsX10_root wsX10_isRounding := goodIn_r _ [8] rfl (by decide +kernel)
set_option maxRecDepth 20000 in
theorem gX10_root_X10_isRounding : GoodIn wsX10_root (va_wsS RX10 184 yX10_isRounding wsX10_isRounding) := goodIn_app (goodIn_of _ (by decide +kernel)) ggX10_root_X10_isRounding
set_option maxRecDepth 20000 in
theorem ggX10_root_X10_wholeRoot : GoodIn wsX10_root wsX10_wholeRoot := goodIn_r _ [11, 12] rfl (by decide +kernel)
set_option maxRecDepth 20000 in
theorem gX10_root_X10_wholeRoot : GoodIn wsX10_root (va_wsS RX10 210 yX10_wholeRoot wsX10_wholeRoot) := goodIn_app (goodIn_of _ (by decide +kernel)) ggX10_root_X10_wholeRoot
set_option maxRecDepth 20000 in
theorem ggX10_corner_X10_isPlace : GoodIn wsX10_corner wsX10_isPlace := goodIn_r _ [8, 9, 10] rfl (by decide +kernel)
set_option maxRecDepth 20000 in
theorem gX10_corner_X10_isPlace : GoodIn wsX10_corner (va_wsS RX10 61 yX10_isPlace wsX10_isPlace) := goodIn_app (goodIn_of _ (by decide +kernel)) ggX10_corner_X10_isPlace
set_option maxRecDepth 20000 in
theorem ggX10_corner_X4_add : GoodIn wsX10_corner wsX4_add := goodIn_r _ [15, 16, 17, 18, 19, 20, 21, 22, 23, 24, 25, 26, 27, 28, 29, 30, 31, 32, 33, 34, 35, 44, 45, 46, 47, 48, 49, 50] rfl (by decide +kernel)
set_option maxRecDepth 20000 in
theorem gX10_corner_X4_add : GoodIn wsX10_corner (wsV RX10 215 RX4 yX4_add wsX4_add) := goodIn_app (goodIn_of _ (by decide +kernel)) ggX10_corner_X4_add
set_option maxRecDepth 20000 in
theorem ggX10_area_X4_measureTwice : GoodIn wsX10_area wsX4_measureTwice := goodIn_r _ [9, 10, 11, 12, 13, 14, 15, 16, 17, 18, 19, 20, 21, 22, 23, 24, 25, 26, 27, 28, 29, 30, 31, 32, 33, 34, 35, 36, 49, 50, 51, 52, 53, 54, 55] rfl (by decide +kernel)
set_option maxRecDepth 20000 in
theorem gX10_area_X4_measureTwice : GoodIn wsX10_area (wsV RX10 220 RX4 yX4_measureTwice wsX4_measureTwice) := goodIn_app (goodIn_of _ (by decide +kernel)) ggX10_area_X4_measureTwice
set_option maxRecDepth 20000 in
theorem ggX10_area_X9_limb : GoodIn wsX10_area wsX9_limb := goodIn_r _ [40, 20, 55] rfl (by decide +kernel)
set_option maxRecDepth 20000 in
theorem gX10_area_X9_limb : GoodIn wsX10_area (wsV RX10 123 RX9 yX9_limb wsX9_limb) := goodIn_app (goodIn_of _ (by decide +kernel)) ggX10_area_X9_limb
set_option maxRecDepth 20000 in
theorem ggX10_clear_X4_forget : GoodIn wsX10_clear wsX4_forget := goodIn_r _ [8, 9, 10, 11, 12, 13, 14, 15, 16, 17, 18, 19, 20, 21, 37, 38, 39, 40, 41, 42, 43] rfl (by decide +kernel)
set_option maxRecDepth 20000 in
theorem gX10_clear_X4_forget : GoodIn wsX10_clear (wsV RX10 224 RX4 yX4_forget wsX4_forget) := goodIn_app (goodIn_of _ (by decide +kernel)) ggX10_clear_X4_forget
set_option maxRecDepth 20000 in
theorem ggX10_clear_X1_forget : GoodIn wsX10_clear wsX1_forget := goodIn_r _ [26, 27, 28, 44, 45, 46, 47, 48, 49, 50, 51, 52, 53, 54, 55, 56, 57] rfl (by decide +kernel)
set_option maxRecDepth 20000 in
theorem gX10_clear_X1_forget : GoodIn wsX10_clear (wsV RX10 154 RX1 yX1_forget wsX1_forget) := goodIn_app (goodIn_of _ (by decide +kernel)) ggX10_clear_X1_forget
