set_option maxRecDepth 20000 in
theorem ggX0_init_X8_init : GoodIn wsX0_init wsX8_init := goodIn_r _ [8, 9, 10, 11] rfl (by decide +kernel)
set_option maxRecDepth 20000 in
theorem gX0_init_X8_init_n1 : GoodIn wsX0_init (wsX8_init) := ggX0_init_X8_init
set_option maxRecDepth 20000 in
theorem ggX0_holds_X9_setToDot : GoodIn wsX0_holds wsX9_setToDot := goodIn_r _ [9, 10, 11, 12, 8, 13, 14, 15, 16, 17, 18, 19, 20, 21, 22, 44] rfl (by decide +kernel)
set_option maxRecDepth 20000 in
theorem gX0_holds_X9_setToDot : GoodIn wsX0_holds (wsV RX0 26 RX9 yX9_setToDot wsX9_setToDot) := goodIn_app (goodIn_of _ (by decide +kernel)) ggX0_holds_X9_setToDot
set_option maxRecDepth 20000 in
theorem ggX0_holds_X9_addProduct : GoodIn wsX0_holds wsX9_addProduct := goodIn_r _ [19, 14, 15, 20, 21, 8, 22, 44] rfl (by decide +kernel)
set_option maxRecDepth 20000 in
theorem gX0_holds_X9_addProduct : GoodIn wsX0_holds (wsV RX0 34 RX9 yX9_addProduct wsX9_addProduct) := goodIn_app (goodIn_of _ (by decide +kernel)) ggX0_holds_X9_addProduct
set_option maxRecDepth 20000 in
theorem ggX0_holds_X9_sign : GoodIn wsX0_holds wsX9_sign := goodIn_r _ [27, 14, 44] rfl (by decide +kernel)
set_option maxRecDepth 20000 in
theorem gX0_holds_X9_sign : GoodIn wsX0_holds (wsV RX0 38 RX9 yX9_sign wsX9_sign) := goodIn_app (goodIn_of _ (by decide +kernel)) ggX0_holds_X9_sign
set_option maxRecDepth 20000 in
theorem ggX0_holds_J13_signum_95d88 : GoodIn wsX0_holds wsJ13_signum_95d88 := goodIn_r _ [31] rfl (by decide +kernel)
set_option maxRecDepth 20000 in
theorem gX0_holds_J13_signum_95d88 : GoodIn wsX0_holds (va_wsS RX0 42 yJ13_signum_95d88 wsJ13_signum_95d88) := goodIn_app (goodIn_of _ (by decide +kernel)) ggX0_holds_J13_signum_95d88
set_option maxRecDepth 20000 in
theorem ggX0_holds_X0_reaches : GoodIn wsX0_holds wsX0_reaches := goodIn_r _ [36, 37, 38, 39, 40, 41, 42, 43] rfl (by decide +kernel)
set_option maxRecDepth 20000 in
theorem gX0_holds_X0_reaches : GoodIn wsX0_holds (wsV RX0 48 RX0 yX0_reaches wsX0_reaches) := goodIn_app (goodIn_of _ (by decide +kernel)) ggX0_holds_X0_reaches
set_option maxRecDepth 20000 in
theorem ggX2_init_X9_init : GoodIn wsX2_init wsX9_init := goodIn_r _ [16, 17, 2, 3, 18, 19, 20] rfl (by decide +kernel)
set_option maxRecDepth 20000 in
theorem gX2_init_X9_init_n9 : GoodIn wsX2_init (wsX9_init) := ggX2_init_X9_init
set_option maxRecDepth 20000 in
theorem ggX2_measure_X2_isParted : GoodIn wsX2_measure wsX2_isParted := goodIn_r _ [13, 14, 15, 16, 5, 6, 17, 7, 8, 18, 19, 20, 21, 22, 23, 24, 25, 26, 27, 28, 29, 30, 31, 32, 33, 34, 35, 36, 37, 38, 39, 118, 119, 120, 121, 122, 123, 124, 125, 126, 127, 128, 129, 130, 131, 132, 133, 134] rfl (by decide +kernel)
set_option maxRecDepth 20000 in
theorem gX2_measure_X2_isParted : GoodIn wsX2_measure (wsV RX2 44 RX2 yX2_isParted wsX2_isParted) := goodIn_app (goodIn_of _ (by decide +kernel)) ggX2_measure_X2_isParted
set_option maxRecDepth 20000 in
theorem ggX2_measure_X9_setTo : GoodIn wsX2_measure wsX9_setTo := goodIn_r _ [26, 27, 28, 134] rfl (by decide +kernel)
set_option maxRecDepth 20000 in
theorem gX2_measure_X9_setTo : GoodIn wsX2_measure (wsV RX2 48 RX9 yX9_setTo wsX9_setTo) := goodIn_app (goodIn_of _ (by decide +kernel)) ggX2_measure_X9_setTo
set_option maxRecDepth 20000 in
theorem ggX2_measure_X2_takeIfNearer : GoodIn wsX2_measure wsX2_takeIfNearer := goodIn_r _ [44, 14, 45, 4, 17, 46, 3, 47, 48, 49, 12, 50, 5, 6, 15, 16, 7, 8, 51, 52, 53, 21, 54, 23, 24, 25, 26, 27, 28, 29, 30, 31, 32, 33, 34, 35, 36, 37, 38, 39, 40, 55, 56, 57, 58, 18, 19, 20, 22, 59, 60, 61, 62, 63, 64, 65, 66, 67, 68, 69, 70, 118, 119, 120, 121, 122, 123, 124, 125, 126, 127, 128, 129, 130, 131, 132, 133, 134] rfl (by decide +kernel)
set_option maxRecDepth 20000 in
theorem gX2_measure_X2_takeIfNearer : GoodIn wsX2_measure (wsV RX2 61 RX2 yX2_takeIfNearer wsX2_takeIfNearer) := goodIn_app (goodIn_of _ (by decide +kernel)) ggX2_measure_X2_takeIfNearer
set_option maxRecDepth 20000 in
theorem ggX2_measure_X2_reduce : GoodIn wsX2_measure wsX2_reduce := goodIn_r _ [74, 45, 3, 75, 46, 4, 76, 77, 78, 12, 79, 14, 17, 63, 64, 65, 21, 66, 27, 67, 68, 69, 70, 36, 37, 38, 39, 80, 81, 82, 83, 84, 85, 86, 87, 88, 89, 90, 91, 92, 93, 94, 95, 96, 97, 40, 24, 25, 26, 28, 98, 99, 100, 101, 102, 103, 104, 105, 55, 56, 57, 58, 106, 107, 108, 109, 110, 111, 112, 113, 114, 115, 116, 117, 118, 119, 120, 121, 122, 123, 124, 125, 126, 127, 134] rfl (by decide +kernel)
set_option maxRecDepth 20000 in
theorem gX2_measure_X2_reduce : GoodIn wsX2_measure (wsV RX2 71 RX2 yX2_reduce wsX2_reduce) := goodIn_app (goodIn_of _ (by decide +kernel)) ggX2_measure_X2_reduce
set_option maxRecDepth 20000 in
theorem ggX2_isParted_X9_setToCross : GoodIn wsX2_isParted wsX9_setToCross := goodIn_r _ [13, 14, 15, 16, 12, 17, 18, 19, 20, 21, 22, 23, 24, 25, 26, 47] rfl (by decide +kernel)
set_option maxRecDepth 20000 in
theorem gX2_isParted_X9_setToCross : GoodIn wsX2_isParted (wsV RX2 80 RX9 yX9_setToCross wsX9_setToCross) := goodIn_app (goodIn_of _ (by decide +kernel)) ggX2_isParted_X9_setToCross
set_option maxRecDepth 20000 in
theorem ggX2_isParted_X9_sign : GoodIn wsX2_isParted wsX9_sign := goodIn_r _ [30, 18, 47] rfl (by decide +kernel)
set_option maxRecDepth 20000 in
theorem gX2_isParted_X9_sign : GoodIn wsX2_isParted (wsV RX2 84 RX9 yX9_sign wsX9_sign) := goodIn_app (goodIn_of _ (by decide +kernel)) ggX2_isParted_X9_sign
set_option maxRecDepth 20000 in
theorem ggX2_takeIfNearer_X2_setNew : GoodIn wsX2_takeIfNearer wsX2_setNew := goodIn_r _ [11, 12, 13, 5, 14, 15, 1, 2, 16, 17, 18, 19, 20, 21, 22, 23, 24, 25, 26, 27, 28, 29, 30, 31, 32, 33, 34, 35, 36, 37, 38, 39, 40, 41, 42, 43, 44, 45, 46, 47, 48, 49, 50, 51, 52, 71, 72, 73, 74, 75, 76, 61, 62, 63, 64, 65, 66, 67, 68, 69, 70, 77] rfl (by decide +kernel)
set_option maxRecDepth 20000 in
theorem gX2_takeIfNearer_X2_setNew : GoodIn wsX2_takeIfNearer (wsV RX2 88 RX2 yX2_setNew wsX2_setNew) := goodIn_app (goodIn_of _ (by decide +kernel)) ggX2_takeIfNearer_X2_setNew
set_option maxRecDepth 20000 in
theorem ggX2_takeIfNearer_X9_setToProduct : GoodIn wsX2_takeIfNearer wsX9_setToProduct := goodIn_r _ [52, 27, 28, 23, 24, 25, 21, 26, 77] rfl (by decide +kernel)
set_option maxRecDepth 20000 in
theorem gX2_takeIfNearer_X9_setToProduct : GoodIn wsX2_takeIfNearer (wsV RX2 91 RX9 yX9_setToProduct wsX9_setToProduct) := goodIn_app (goodIn_of _ (by decide +kernel)) ggX2_takeIfNearer_X9_setToProduct
set_option maxRecDepth 20000 in
theorem ggX2_takeIfNearer_X9_against : GoodIn wsX2_takeIfNearer wsX9_against := goodIn_r _ [44, 27, 77] rfl (by decide +kernel)
set_option maxRecDepth 20000 in
theorem gX2_takeIfNearer_X9_against : GoodIn wsX2_takeIfNearer (wsV RX2 95 RX9 yX9_against wsX9_against) := goodIn_app (goodIn_of _ (by decide +kernel)) ggX2_takeIfNearer_X9_against
set_option maxRecDepth 20000 in
theorem ggX2_takeIfNearer_X9_setTo_ : GoodIn wsX2_takeIfNearer wsX9_setTo_ := goodIn_r _ [56, 27, 57, 58, 59, 60, 77] rfl (by decide +kernel)
set_option maxRecDepth 20000 in
theorem gX2_takeIfNearer_X9_setTo_ : GoodIn wsX2_takeIfNearer (wsV RX2 99 RX9 yX9_setTo_ wsX9_setTo_) := goodIn_app (goodIn_of _ (by decide +kernel)) ggX2_takeIfNearer_X9_setTo_
set_option maxRecDepth 20000 in
theorem ggX2_setNew_X9_setToDot : GoodIn wsX2_setNew wsX9_setToDot := goodIn_r _ [14, 15, 16, 17, 13, 18, 19, 20, 21, 22, 23, 24, 25, 26, 27, 61] rfl (by decide +kernel)
set_option maxRecDepth 20000 in
theorem gX2_setNew_X9_setToDot : GoodIn wsX2_setNew (wsV RX2 102 RX9 yX9_setToDot wsX9_setToDot) := goodIn_app (goodIn_of _ (by decide +kernel)) ggX2_setNew_X9_setToDot
set_option maxRecDepth 20000 in
theorem ggX2_setNew_X9_sign : GoodIn wsX2_setNew wsX9_sign := goodIn_r _ [31, 19, 61] rfl (by decide +kernel)
set_option maxRecDepth 20000 in
theorem gX2_setNew_X9_sign : GoodIn wsX2_setNew (wsV RX2 84 RX9 yX9_sign wsX9_sign) := goodIn_app (goodIn_of _ (by decide +kernel)) ggX2_setNew_X9_sign
set_option maxRecDepth 20000 in
theorem ggX2_setNew_X9_setTo : GoodIn wsX2_setNew wsX9_setTo := goodIn_r _ [18, 19, 20, 61] rfl (by decide +kernel)
set_option maxRecDepth 20000 in
theorem gX2_setNew_X9_setTo : GoodIn wsX2_setNew (wsV RX2 48 RX9 yX9_setTo wsX9_setTo) := goodIn_app (goodIn_of _ (by decide +kernel)) ggX2_setNew_X9_setTo
set_option maxRecDepth 20000 in
theorem ggX2_setNew_X9_against : GoodIn wsX2_setNew wsX9_against := goodIn_r _ [36, 19, 61] rfl (by decide +kernel)
set_option maxRecDepth 20000 in
theorem gX2_setNew_X9_against : GoodIn wsX2_setNew (wsV RX2 95 RX9 yX9_against wsX9_against) := goodIn_app (goodIn_of _ (by decide +kernel)) ggX2_setNew_X9_against
set_option maxRecDepth 20000 in
theorem ggX2_setNew_X9_setToCross : GoodIn wsX2_setNew wsX9_setToCross := goodIn_r _ [40, 15, 16, 17, 13, 18, 19, 20, 21, 22, 23, 24, 25, 26, 27, 61] rfl (by decide +kernel)
set_option maxRecDepth 20000 in
theorem gX2_setNew_X9_setToCross : GoodIn wsX2_setNew (wsV RX2 80 RX9 yX9_setToCross wsX9_setToCross) := goodIn_app (goodIn_of _ (by decide +kernel)) ggX2_setNew_X9_setToCross
set_option maxRecDepth 20000 in
theorem ggX2_setNew_X9_setToProduct : GoodIn wsX2_setNew wsX9_setToProduct := goodIn_r _ [44, 19, 20, 15, 16, 17, 13, 18, 61] rfl (by decide +kernel)
set_option maxRecDepth 20000 in
theorem gX2_setNew_X9_setToProduct : GoodIn wsX2_setNew (wsV RX2 91 RX9 yX9_setToProduct wsX9_setToProduct) := goodIn_app (goodIn_of _ (by decide +kernel)) ggX2_setNew_X9_setToProduct
set_option maxRecDepth 20000 in
theorem ggX2_reduce_X2_commonDivisor : GoodIn wsX2_reduce wsX2_commonDivisor := goodIn_r _ [10, 11, 2, 12, 5, 13, 14, 15, 16, 17, 18, 19, 20, 21, 22, 23, 24, 25, 26, 27, 28, 29, 9, 30, 3, 31, 32, 33, 34, 35, 36, 37, 38, 39, 40, 41, 42, 43, 44, 45, 46, 47, 48, 49, 50, 51, 52, 53, 54, 55, 56, 57, 58, 59, 60, 61, 62, 63, 64, 65, 66, 67, 68, 69, 70, 71, 72, 73, 74, 75, 76, 77, 78, 79, 80, 81, 82, 83, 84] rfl (by decide +kernel)
set_option maxRecDepth 20000 in
theorem gX2_reduce_X2_commonDivisor : GoodIn wsX2_reduce (wsV RX2 105 RX2 yX2_commonDivisor wsX2_commonDivisor) := goodIn_app (goodIn_of _ (by decide +kernel)) ggX2_reduce_X2_commonDivisor
set_option maxRecDepth 20000 in
theorem ggX2_reduce_X9_setTo_ : GoodIn wsX2_reduce wsX9_setTo_ := goodIn_r _ [17, 18, 19, 20, 21, 22, 84] rfl (by decide +kernel)
set_option maxRecDepth 20000 in
theorem gX2_reduce_X9_setTo_ : GoodIn wsX2_reduce (wsV RX2 99 RX9 yX9_setTo_ wsX9_setTo_) := goodIn_app (goodIn_of _ (by decide +kernel)) ggX2_reduce_X9_setTo_
set_option maxRecDepth 20000 in
theorem ggX2_reduce_X2_divide : GoodIn wsX2_reduce wsX2_divide := goodIn_r _ [30, 3, 31, 32, 33, 34, 16, 35, 18, 36, 37, 38, 39, 40, 41, 42, 43, 44, 45, 46, 47, 48, 49, 13, 14, 15, 17, 19, 20, 21, 22, 50, 51, 52, 53, 54, 55, 56, 57, 58, 59, 60, 61, 62, 63, 64, 65, 66, 67, 68, 69, 70, 71, 72, 73, 74, 75, 76, 77, 78, 79, 80, 81, 82, 83, 84] rfl (by decide +kernel)
set_option maxRecDepth 20000 in
theorem gX2_reduce_X2_divide : GoodIn wsX2_reduce (wsV RX2 109 RX2 yX2_divide wsX2_divide) := goodIn_app (goodIn_of _ (by decide +kernel)) ggX2_reduce_X2_divide
set_option maxRecDepth 20000 in
theorem ggX2_commonDivisor_X9_setTo_ : GoodIn wsX2_commonDivisor wsX9_setTo_ := goodIn_r _ [9, 10, 11, 12, 13, 14, 78] rfl (by decide +kernel)
set_option maxRecDepth 20000 in
theorem gX2_commonDivisor_X9_setTo_ : GoodIn wsX2_commonDivisor (wsV RX2 99 RX9 yX9_setTo_ wsX9_setTo_) := goodIn_app (goodIn_of _ (by decide +kernel)) ggX2_commonDivisor_X9_setTo_
set_option maxRecDepth 20000 in
theorem ggX2_commonDivisor_X9_sign : GoodIn wsX2_commonDivisor wsX9_sign := goodIn_r _ [18, 10, 78] rfl (by decide +kernel)
set_option maxRecDepth 20000 in
theorem gX2_commonDivisor_X9_sign : GoodIn wsX2_commonDivisor (wsV RX2 84 RX9 yX9_sign wsX9_sign) := goodIn_app (goodIn_of _ (by decide +kernel)) ggX2_commonDivisor_X9_sign
set_option maxRecDepth 20000 in
theorem ggX2_commonDivisor_X2_divide : GoodIn wsX2_commonDivisor wsX2_divide := goodIn_r _ [23, 24, 25, 26, 27, 28, 8, 29, 10, 30, 31, 32, 33, 34, 35, 36, 37, 38, 39, 40, 41, 42, 43, 5, 6, 7, 9, 11, 12, 13, 14, 44, 45, 46, 47, 48, 49, 50, 51, 52, 53, 54, 55, 56, 57, 58, 59, 60, 61, 62, 63, 64, 65, 66, 67, 68, 69, 70, 71, 72, 73, 74, 75, 76, 77, 78] rfl (by decide +kernel)
set_option maxRecDepth 20000 in
theorem gX2_commonDivisor_X2_divide : GoodIn wsX2_commonDivisor (wsV RX2 109 RX2 yX2_divide wsX2_divide) := goodIn_app (goodIn_of _ (by decide +kernel)) ggX2_commonDivisor_X2_divide
set_option maxRecDepth 20000 in
theorem ggX2_divide_X9_bits : GoodIn wsX2_divide wsX9_bits := goodIn_r _ [7, 8, 9, 10, 11, 12, 13, 14, 15, 16, 17, 65] rfl (by decide +kernel)
set_option maxRecDepth 20000 in
theorem gX2_divide_X9_bits : GoodIn wsX2_divide (wsV RX2 112 RX9 yX9_bits wsX9_bits) := goodIn_app (goodIn_of _ (by decide +kernel)) ggX2_divide_X9_bits
set_option maxRecDepth 20000 in
theorem ggX2_divide_X9_setTo : GoodIn wsX2_divide wsX9_setTo := goodIn_r _ [21, 8, 22, 65] rfl (by decide +kernel)
set_option maxRecDepth 20000 in
theorem gX2_divide_X9_setTo : GoodIn wsX2_divide (wsV RX2 48 RX9 yX9_setTo wsX9_setTo) := goodIn_app (goodIn_of _ (by decide +kernel)) ggX2_divide_X9_setTo
set_option maxRecDepth 20000 in
theorem ggX2_divide_X9_setTo_ : GoodIn wsX2_divide wsX9_setTo_ := goodIn_r _ [26, 8, 27, 28, 29, 30, 65] rfl (by decide +kernel)
set_option maxRecDepth 20000 in
theorem gX2_divide_X9_setTo_ : GoodIn wsX2_divide (wsV RX2 99 RX9 yX9_setTo_ wsX9_setTo_) := goodIn_app (goodIn_of _ (by decide +kernel)) ggX2_divide_X9_setTo_
set_option maxRecDepth 20000 in
theorem ggX2_divide_X9_shiftLeft : GoodIn wsX2_divide wsX9_shiftLeft := goodIn_r _ [34, 8, 22, 35, 36, 37, 6, 38, 65] rfl (by decide +kernel)
set_option maxRecDepth 20000 in
theorem gX2_divide_X9_shiftLeft : GoodIn wsX2_divide (wsV RX2 115 RX9 yX9_shiftLeft wsX9_shiftLeft) := goodIn_app (goodIn_of _ (by decide +kernel)) ggX2_divide_X9_shiftLeft
set_option maxRecDepth 20000 in
theorem ggX2_divide_X9_against : GoodIn wsX2_divide wsX9_against := goodIn_r _ [42, 8, 65] rfl (by decide +kernel)
set_option maxRecDepth 20000 in
theorem gX2_divide_X9_against : GoodIn wsX2_divide (wsV RX2 95 RX9 yX9_against wsX9_against) := goodIn_app (goodIn_of _ (by decide +kernel)) ggX2_divide_X9_against
set_option maxRecDepth 20000 in
theorem ggX2_divide_X9_subtract : GoodIn wsX2_divide wsX9_subtract := goodIn_r _ [46, 8, 22, 65] rfl (by decide +kernel)
set_option maxRecDepth 20000 in
theorem gX2_divide_X9_subtract : GoodIn wsX2_divide (wsV RX2 119 RX9 yX9_subtract wsX9_subtract) := goodIn_app (goodIn_of _ (by decide +kernel)) ggX2_divide_X9_subtract
set_option maxRecDepth 20000 in
theorem ggX2_divide_X9_setBit : GoodIn wsX2_divide wsX9_setBit := goodIn_r _ [50, 8, 65] rfl (by decide +kernel)
set_option maxRecDepth 20000 in
theorem gX2_divide_X9_setBit : GoodIn wsX2_divide (wsV RX2 122 RX9 yX9_setBit wsX9_setBit) := goodIn_app (goodIn_of _ (by decide +kernel)) ggX2_divide_X9_setBit
set_option maxRecDepth 20000 in
theorem ggX2_divide_X9_halve : GoodIn wsX2_divide wsX9_halve := goodIn_r _ [54, 8, 65] rfl (by decide +kernel)
set_option maxRecDepth 20000 in
theorem gX2_divide_X9_halve : GoodIn wsX2_divide (wsV RX2 125 RX9 yX9_halve wsX9_halve) := goodIn_app (goodIn_of _ (by decide +kernel)) ggX2_divide_X9_halve
set_option maxRecDepth 20000 in
theorem ggX3_init_X5_init : GoodIn wsX3_init wsX5_init := goodIn_r _ [10, 11, 2, 3, 12, 13, 14, 15, 16, 17, 18, 19, 20, 21, 22, 30, 23, 24, 25, 26, 27] rfl (by decide +kernel)
set_option maxRecDepth 20000 in
theorem gX3_init_X5_init_n9 : GoodIn wsX3_init (wsX5_init) := ggX3_init_X5_init
set_option maxRecDepth 20000 in
theorem ggX4_init_X9_init : GoodIn wsX4_init wsX9_init := goodIn_r _ [9, 10, 2, 3, 11, 12, 13] rfl (by decide +kernel)
set_option maxRecDepth 20000 in
theorem gX4_init_X9_init_n9 : GoodIn wsX4_init (wsX9_init) := ggX4_init_X9_init
set_option maxRecDepth 20000 in
theorem ggX4_forget_X9_setTo : GoodIn wsX4_forget wsX9_setTo := goodIn_r _ [11, 12, 13, 20] rfl (by decide +kernel)
set_option maxRecDepth 20000 in
theorem gX4_forget_X9_setTo : GoodIn wsX4_forget (wsV RX4 33 RX9 yX9_setTo wsX9_setTo) := goodIn_app (goodIn_of _ (by decide +kernel)) ggX4_forget_X9_setTo
set_option maxRecDepth 20000 in
theorem ggX4_add_X9_addCross : GoodIn wsX4_add wsX9_addCross := goodIn_r _ [11, 12, 13, 14, 10, 15, 16, 17, 18, 19, 20, 27] rfl (by decide +kernel)
set_option maxRecDepth 20000 in
theorem gX4_add_X9_addCross : GoodIn wsX4_add (wsV RX4 37 RX9 yX9_addCross wsX9_addCross) := goodIn_app (goodIn_of _ (by decide +kernel)) ggX4_add_X9_addCross
set_option maxRecDepth 20000 in
theorem ggX4_measureTwice_X9_setTo_ : GoodIn wsX4_measureTwice wsX9_setTo_ := goodIn_r _ [10, 11, 12, 13, 14, 15, 34] rfl (by decide +kernel)
set_option maxRecDepth 20000 in
theorem gX4_measureTwice_X9_setTo_ : GoodIn wsX4_measureTwice (wsV RX4 41 RX9 yX9_setTo_ wsX9_setTo_) := goodIn_app (goodIn_of _ (by decide +kernel)) ggX4_measureTwice_X9_setTo_
set_option maxRecDepth 20000 in
theorem ggX4_measureTwice_X9_addCross : GoodIn wsX4_measureTwice wsX9_addCross := goodIn_r _ [19, 20, 21, 22, 9, 23, 11, 24, 25, 26, 27, 34] rfl (by decide +kernel)
set_option maxRecDepth 20000 in
theorem gX4_measureTwice_X9_addCross : GoodIn wsX4_measureTwice (wsV RX4 37 RX9 yX9_addCross wsX9_addCross) := goodIn_app (goodIn_of _ (by decide +kernel)) ggX4_measureTwice_X9_addCross
set_option maxRecDepth 20000 in
theorem ggX5_init_X9_init : GoodIn wsX5_init wsX9_init := goodIn_r _ [11, 12, 2, 3, 13, 14, 15] rfl (by decide +kernel)
set_option maxRecDepth 20000 in
theorem gX5_init_X9_init_n9 : GoodIn wsX5_init (wsX9_init) := ggX5_init_X9_init
set_option maxRecDepth 20000 in
theorem ggX5_setTo_X9_setTo_ : GoodIn wsX5_setTo wsX9_setTo_ := goodIn_r _ [9, 10, 11, 12, 13, 14, 20] rfl (by decide +kernel)
set_option maxRecDepth 20000 in
theorem gX5_setTo_X9_setTo_ : GoodIn wsX5_setTo (wsV RX5 22 RX9 yX9_setTo_ wsX9_setTo_) := goodIn_app (goodIn_of _ (by decide +kernel)) ggX5_setTo_X9_setTo_
set_option maxRecDepth 20000 in
theorem ggX5_setRoot_J13_signum_95d88 : GoodIn wsX5_setRoot wsJ13_signum_95d88 := goodIn_r _ [8] rfl (by decide +kernel)
set_option maxRecDepth 20000 in
theorem gX5_setRoot_J13_signum_95d88 : GoodIn wsX5_setRoot (va_wsS RX5 34 yJ13_signum_95d88 wsJ13_signum_95d88) := goodIn_app (goodIn_of _ (by decide +kernel)) ggX5_setRoot_J13_signum_95d88
set_option maxRecDepth 20000 in
theorem ggX5_setRoot_X9_sign : GoodIn wsX5_setRoot wsX9_sign := goodIn_r _ [13, 14, 37] rfl (by decide +kernel)
set_option maxRecDepth 20000 in
theorem gX5_setRoot_X9_sign : GoodIn wsX5_setRoot (wsV RX5 40 RX9 yX9_sign wsX9_sign) := goodIn_app (goodIn_of _ (by decide +kernel)) ggX5_setRoot_X9_sign
set_option maxRecDepth 20000 in
theorem ggX5_setRoot_X9_setTo : GoodIn wsX5_setRoot wsX9_setTo := goodIn_r _ [18, 14, 19, 37] rfl (by decide +kernel)
set_option maxRecDepth 20000 in
theorem gX5_setRoot_X9_setTo : GoodIn wsX5_setRoot (wsV RX5 44 RX9 yX9_setTo wsX9_setTo) := goodIn_app (goodIn_of _ (by decide +kernel)) ggX5_setRoot_X9_setTo
set_option maxRecDepth 20000 in
theorem ggX5_setRoot_X9_addProduct : GoodIn wsX5_setRoot wsX9_addProduct := goodIn_r _ [23, 14, 19, 24, 25, 12, 26, 37] rfl (by decide +kernel)
set_option maxRecDepth 20000 in
theorem gX5_setRoot_X9_addProduct : GoodIn wsX5_setRoot (wsV RX5 47 RX9 yX9_addProduct wsX9_addProduct) := goodIn_app (goodIn_of _ (by decide +kernel)) ggX5_setRoot_X9_addProduct
set_option maxRecDepth 20000 in
theorem ggX5_setRoot_X9_setToProduct : GoodIn wsX5_setRoot wsX9_setToProduct := goodIn_r _ [30, 14, 19, 31, 16, 17, 12, 18, 37] rfl (by decide +kernel)
set_option maxRecDepth 20000 in
theorem gX5_setRoot_X9_setToProduct : GoodIn wsX5_setRoot (wsV RX5 51 RX9 yX9_setToProduct wsX9_setToProduct) := goodIn_app (goodIn_of _ (by decide +kernel)) ggX5_setRoot_X9_setToProduct
set_option maxRecDepth 20000 in
theorem ggX6_init_X9_init : GoodIn wsX6_init wsX9_init := goodIn_r _ [15, 16, 2, 3, 17, 18, 26] rfl (by decide +kernel)
set_option maxRecDepth 20000 in
theorem gX6_init_X9_init_n11 : GoodIn wsX6_init (wsX9_init) := ggX6_init_X9_init
set_option maxRecDepth 20000 in
theorem ggX6_init_X5_init : GoodIn wsX6_init wsX5_init := goodIn_r _ [20, 21, 2, 3, 22, 5, 6, 23, 24, 25, 14, 15, 16, 17, 18, 26, 31, 32, 33, 34, 35] rfl (by decide +kernel)
set_option maxRecDepth 20000 in
theorem gX6_init_X5_init_n23 : GoodIn wsX6_init (wsX5_init) := ggX6_init_X5_init
set_option maxRecDepth 20000 in
theorem ggX6_sign_X9_sign : GoodIn wsX6_sign wsX9_sign := goodIn_r _ [10, 11, 46] rfl (by decide +kernel)
set_option maxRecDepth 20000 in
theorem gX6_sign_X9_sign : GoodIn wsX6_sign (wsV RX6 34 RX9 yX9_sign wsX9_sign) := goodIn_app (goodIn_of _ (by decide +kernel)) ggX6_sign_X9_sign
set_option maxRecDepth 20000 in
theorem ggX6_sign_X9_setTo_ : GoodIn wsX6_sign wsX9_setTo_ := goodIn_r _ [15, 11, 16, 17, 18, 19, 46] rfl (by decide +kernel)
set_option maxRecDepth 20000 in
theorem gX6_sign_X9_setTo_ : GoodIn wsX6_sign (wsV RX6 42 RX9 yX9_setTo_ wsX9_setTo_) := goodIn_app (goodIn_of _ (by decide +kernel)) ggX6_sign_X9_setTo_
set_option maxRecDepth 20000 in
theorem ggX6_sign_X9_negate : GoodIn wsX6_sign wsX9_negate := goodIn_r _ [23, 11, 24, 46] rfl (by decide +kernel)
set_option maxRecDepth 20000 in
theorem gX6_sign_X9_negate : GoodIn wsX6_sign (wsV RX6 46 RX9 yX9_negate wsX9_negate) := goodIn_app (goodIn_of _ (by decide +kernel)) ggX6_sign_X9_negate
set_option maxRecDepth 20000 in
theorem ggX6_sign_X9_setToProduct : GoodIn wsX6_sign wsX9_setToProduct := goodIn_r _ [28, 11, 24, 29, 30, 31, 9, 32, 46] rfl (by decide +kernel)
set_option maxRecDepth 20000 in
theorem gX6_sign_X9_setToProduct : GoodIn wsX6_sign (wsV RX6 49 RX9 yX9_setToProduct wsX9_setToProduct) := goodIn_app (goodIn_of _ (by decide +kernel)) ggX6_sign_X9_setToProduct
set_option maxRecDepth 20000 in
theorem ggX6_sign_X9_against : GoodIn wsX6_sign wsX9_against := goodIn_r _ [36, 11, 46] rfl (by decide +kernel)
set_option maxRecDepth 20000 in
theorem gX6_sign_X9_against : GoodIn wsX6_sign (wsV RX6 56 RX9 yX9_against wsX9_against) := goodIn_app (goodIn_of _ (by decide +kernel)) ggX6_sign_X9_against
set_option maxRecDepth 20000 in
theorem ggX6_rounded_X5_setTo : GoodIn wsX6_rounded wsX5_setTo := goodIn_r _ [9, 10, 11, 12, 13, 14, 15, 16, 17, 18, 19, 20, 21, 22, 23, 83, 84, 85, 86, 87, 88] rfl (by decide +kernel)
set_option maxRecDepth 20000 in
theorem gX6_rounded_X5_setTo : GoodIn wsX6_rounded (wsV RX6 60 RX5 yX5_setTo wsX5_setTo) := goodIn_app (goodIn_of _ (by decide +kernel)) ggX6_rounded_X5_setTo
set_option maxRecDepth 20000 in
theorem ggX6_rounded_X9_setTo_ : GoodIn wsX6_rounded wsX9_setTo_ := goodIn_r _ [18, 19, 20, 21, 22, 23, 88] rfl (by decide +kernel)
set_option maxRecDepth 20000 in
theorem gX6_rounded_X9_setTo_ : GoodIn wsX6_rounded (wsV RX6 42 RX9 yX9_setTo_ wsX9_setTo_) := goodIn_app (goodIn_of _ (by decide +kernel)) ggX6_rounded_X9_setTo_
set_option maxRecDepth 20000 in
theorem ggX6_rounded_X6_addHalf : GoodIn wsX6_rounded wsX6_addHalf := goodIn_r _ [29, 1, 3, 30, 2, 31, 32, 33, 17, 34, 19, 35, 36, 37, 38, 39, 40, 41, 42, 43, 79, 80, 81, 82, 83, 84, 85, 86, 87, 88] rfl (by decide +kernel)
set_option maxRecDepth 20000 in
theorem gX6_rounded_X6_addHalf : GoodIn wsX6_rounded (wsV RX6 63 RX6 yX6_addHalf wsX6_addHalf) := goodIn_app (goodIn_of _ (by decide +kernel)) ggX6_rounded_X6_addHalf
set_option maxRecDepth 20000 in
theorem ggX6_rounded_X9_shiftLeft : GoodIn wsX6_rounded wsX9_shiftLeft := goodIn_r _ [34, 19, 35, 36, 37, 38, 17, 39, 88] rfl (by decide +kernel)
set_option maxRecDepth 20000 in
theorem gX6_rounded_X9_shiftLeft : GoodIn wsX6_rounded (wsV RX6 66 RX9 yX9_shiftLeft wsX9_shiftLeft) := goodIn_app (goodIn_of _ (by decide +kernel)) ggX6_rounded_X9_shiftLeft
set_option maxRecDepth 20000 in
theorem ggX6_rounded_X9_add : GoodIn wsX6_rounded wsX9_add := goodIn_r _ [43, 19, 35, 88] rfl (by decide +kernel)
set_option maxRecDepth 20000 in
theorem gX6_rounded_X9_add : GoodIn wsX6_rounded (wsV RX6 70 RX9 yX9_add wsX9_add) := goodIn_app (goodIn_of _ (by decide +kernel)) ggX6_rounded_X9_add
set_option maxRecDepth 20000 in
theorem ggX6_rounded_X9_subtract : GoodIn wsX6_rounded wsX9_subtract := goodIn_r _ [47, 19, 35, 88] rfl (by decide +kernel)
set_option maxRecDepth 20000 in
theorem gX6_rounded_X9_subtract : GoodIn wsX6_rounded (wsV RX6 75 RX9 yX9_subtract wsX9_subtract) := goodIn_app (goodIn_of _ (by decide +kernel)) ggX6_rounded_X9_subtract
set_option maxRecDepth 20000 in
theorem ggX6_rounded_X6_sign : GoodIn wsX6_rounded wsX6_sign := goodIn_r _ [51, 3, 52, 53, 54, 30, 55, 56, 57, 17, 58, 19, 24, 15, 16, 18, 20, 21, 22, 23, 59, 60, 61, 62, 35, 63, 64, 65, 66, 67, 68, 69, 70, 71, 72, 73, 74, 83, 84, 85, 86, 87, 79, 80, 81, 82, 88] rfl (by decide +kernel)
set_option maxRecDepth 20000 in
theorem gX6_rounded_X6_sign : GoodIn wsX6_rounded (wsV RX6 78 RX6 yX6_sign wsX6_sign) := goodIn_app (goodIn_of _ (by decide +kernel)) ggX6_rounded_X6_sign
set_option maxRecDepth 20000 in
theorem ggX6_rounded_X9_halve : GoodIn wsX6_rounded wsX9_halve := goodIn_r _ [78, 19, 88] rfl (by decide +kernel)
set_option maxRecDepth 20000 in
theorem gX6_rounded_X9_halve : GoodIn wsX6_rounded (wsV RX6 81 RX9 yX9_halve wsX9_halve) := goodIn_app (goodIn_of _ (by decide +kernel)) ggX6_rounded_X9_halve
set_option maxRecDepth 20000 in
theorem ggX6_addHalf_X9_shiftLeft : GoodIn wsX6_addHalf wsX9_shiftLeft := goodIn_r _ [9, 10, 11, 12, 13, 14, 8, 15, 29] rfl (by decide +kernel)
set_option maxRecDepth 20000 in
theorem gX6_addHalf_X9_shiftLeft : GoodIn wsX6_addHalf (wsV RX6 66 RX9 yX9_shiftLeft wsX9_shiftLeft) := goodIn_app (goodIn_of _ (by decide +kernel)) ggX6_addHalf_X9_shiftLeft
set_option maxRecDepth 20000 in
theorem ggX6_addHalf_X9_add : GoodIn wsX6_addHalf wsX9_add := goodIn_r _ [19, 10, 11, 29] rfl (by decide +kernel)
set_option maxRecDepth 20000 in
theorem gX6_addHalf_X9_add : GoodIn wsX6_addHalf (wsV RX6 70 RX9 yX9_add wsX9_add) := goodIn_app (goodIn_of _ (by decide +kernel)) ggX6_addHalf_X9_add
set_option maxRecDepth 20000 in
theorem ggX7_init_X8_init : GoodIn wsX7_init wsX8_init := goodIn_r _ [9, 10, 11, 12] rfl (by decide +kernel)
set_option maxRecDepth 20000 in
theorem gX7_init_X8_init_n1 : GoodIn wsX7_init (wsX8_init) := ggX7_init_X8_init
set_option maxRecDepth 20000 in
theorem ggX7_holds_X9_setToCross : GoodIn wsX7_holds wsX9_setToCross := goodIn_r _ [18, 19, 20, 21, 17, 22, 23, 24, 25, 26, 27, 28, 29, 30, 31, 42] rfl (by decide +kernel)
set_option maxRecDepth 20000 in
theorem gX7_holds_X9_setToCross : GoodIn wsX7_holds (wsV RX7 37 RX9 yX9_setToCross wsX9_setToCross) := goodIn_app (goodIn_of _ (by decide +kernel)) ggX7_holds_X9_setToCross
set_option maxRecDepth 20000 in
theorem ggX7_holds_X9_sign : GoodIn wsX7_holds wsX9_sign := goodIn_r _ [35, 23, 42] rfl (by decide +kernel)
set_option maxRecDepth 20000 in
theorem gX7_holds_X9_sign : GoodIn wsX7_holds (wsV RX7 43 RX9 yX9_sign wsX9_sign) := goodIn_app (goodIn_of _ (by decide +kernel)) ggX7_holds_X9_sign
set_option maxRecDepth 20000 in
theorem ggX9_bits_J13_numberOfLeadingZeros_95d88 : GoodIn wsX9_bits wsJ13_numberOfLeadingZeros_95d88 := goodIn_r _ [5, 6, 7, 8, 9, 10] rfl (by decide +kernel)
set_option maxRecDepth 20000 in
theorem gX9_bits_J13_numberOfLeadingZeros_95d88 : GoodIn wsX9_bits (va_wsS RX9 13 yJ13_numberOfLeadingZeros_95d88 wsJ13_numberOfLeadingZeros_95d88) := goodIn_app (goodIn_of _ (by decide +kernel)) ggX9_bits_J13_numberOfLeadingZeros_95d88
set_option maxRecDepth 20000 in
theorem ggX9_setToCross_X9_setTo : GoodIn wsX9_setToCross wsX9_setTo := goodIn_r _ [5, 6, 7, 15] rfl (by decide +kernel)
set_option maxRecDepth 20000 in
theorem gX9_setToCross_X9_setTo : GoodIn wsX9_setToCross (wsV RX9 27 RX9 yX9_setTo wsX9_setTo) := goodIn_app (goodIn_of _ (by decide +kernel)) ggX9_setToCross_X9_setTo
set_option maxRecDepth 20000 in
theorem ggX9_setToCross_X9_addProduct : GoodIn wsX9_setToCross wsX9_addProduct := goodIn_r _ [11, 6, 7, 12, 13, 4, 14, 15] rfl (by decide +kernel)
set_option maxRecDepth 20000 in
theorem gX9_setToCross_X9_addProduct : GoodIn wsX9_setToCross (wsV RX9 31 RX9 yX9_addProduct wsX9_addProduct) := goodIn_app (goodIn_of _ (by decide +kernel)) ggX9_setToCross_X9_addProduct
set_option maxRecDepth 20000 in
theorem ggX9_setToDot_X9_setTo : GoodIn wsX9_setToDot wsX9_setTo := goodIn_r _ [5, 6, 7, 15] rfl (by decide +kernel)
set_option maxRecDepth 20000 in
theorem gX9_setToDot_X9_setTo : GoodIn wsX9_setToDot (wsV RX9 27 RX9 yX9_setTo wsX9_setTo) := goodIn_app (goodIn_of _ (by decide +kernel)) ggX9_setToDot_X9_setTo
set_option maxRecDepth 20000 in
theorem ggX9_setToDot_X9_addProduct : GoodIn wsX9_setToDot wsX9_addProduct := goodIn_r _ [11, 6, 7, 12, 13, 4, 14, 15] rfl (by decide +kernel)
set_option maxRecDepth 20000 in
theorem gX9_setToDot_X9_addProduct : GoodIn wsX9_setToDot (wsV RX9 31 RX9 yX9_addProduct wsX9_addProduct) := goodIn_app (goodIn_of _ (by decide +kernel)) ggX9_setToDot_X9_addProduct
set_option maxRecDepth 20000 in
theorem ggX9_setToProduct_X9_setTo : GoodIn wsX9_setToProduct wsX9_setTo := goodIn_r _ [7, 1, 2, 8] rfl (by decide +kernel)
set_option maxRecDepth 20000 in
theorem gX9_setToProduct_X9_setTo : GoodIn wsX9_setToProduct (wsV RX9 27 RX9 yX9_setTo wsX9_setTo) := goodIn_app (goodIn_of _ (by decide +kernel)) ggX9_setToProduct_X9_setTo
set_option maxRecDepth 20000 in
theorem ggX9_addCross_X9_addProduct : GoodIn wsX9_addCross wsX9_addProduct := goodIn_r _ [5, 6, 7, 8, 9, 4, 10, 11] rfl (by decide +kernel)
set_option maxRecDepth 20000 in
theorem gX9_addCross_X9_addProduct : GoodIn wsX9_addCross (wsV RX9 31 RX9 yX9_addProduct wsX9_addProduct) := goodIn_app (goodIn_of _ (by decide +kernel)) ggX9_addCross_X9_addProduct
set_option maxRecDepth 20000 in
theorem ggX9_addProduct_X9_highOfProduct : GoodIn wsX9_addProduct wsX9_highOfProduct := goodIn_r _ [6, 2] rfl (by decide +kernel)
set_option maxRecDepth 20000 in
theorem gX9_addProduct_X9_highOfProduct : GoodIn wsX9_addProduct (va_wsS RX9 35 yX9_highOfProduct wsX9_highOfProduct) := goodIn_app (goodIn_of _ (by decide +kernel)) ggX9_addProduct_X9_highOfProduct
set_option maxRecDepth 20000 in
theorem ggX9_shiftLeft_X9_limb : GoodIn wsX9_shiftLeft wsX9_limb := goodIn_r _ [7, 1, 8] rfl (by decide +kernel)
set_option maxRecDepth 20000 in
theorem gX9_shiftLeft_X9_limb : GoodIn wsX9_shiftLeft (wsV RX9 39 RX9 yX9_limb wsX9_limb) := goodIn_app (goodIn_of _ (by decide +kernel)) ggX9_shiftLeft_X9_limb
set_option maxRecDepth 20000 in
theorem ggJ13_numberOfLeadingZeros_95d88_J6_numberOfLeadingZeros_0f7a4 : GoodIn wsJ13_numberOfLeadingZeros_95d88 wsJ6_numberOfLeadingZeros_0f7a4 := goodIn_r _ [4, 5] rfl (by decide +kernel)
set_option maxRecDepth 20000 in
theorem gJ13_numberOfLeadingZeros_95d88_J6_numberOfLeadingZeros_0f7a4 : GoodIn wsJ13_numberOfLeadingZeros_95d88 (va_wsS RJ13 308 yJ6_numberOfLeadingZeros_0f7a4 wsJ6_numberOfLeadingZeros_0f7a4) := goodIn_app (goodIn_of _ (by decide +kernel)) ggJ13_numberOfLeadingZeros_95d88_J6_numberOfLeadingZeros_0f7a4
