set_option maxRecDepth 20000 in
theorem ggX0_encode_X3_size : GoodIn wsX0_encode wsX3_size := goodIn_r _ [6, 7, 41, 42] (by decide +kernel) (by decide +kernel)
set_option maxRecDepth 20000 in
theorem ggX0_encode_X3_zeros : GoodIn wsX0_encode wsX3_zeros := goodIn_r _ [11, 12, 13, 14, 15, 16, 17, 18, 19, 7, 41, 42] (by decide +kernel) (by decide +kernel)
set_option maxRecDepth 20000 in
theorem ggX0_encode_X3_at : GoodIn wsX0_encode wsX3_at := goodIn_r _ [23, 7, 12, 41, 42] (by decide +kernel) (by decide +kernel)
set_option maxRecDepth 20000 in
theorem ggX0_encode_X0_wordOf : GoodIn wsX0_encode wsX0_wordOf := goodIn_r _ [28, 29, 38, 39, 40] (by decide +kernel) (by decide +kernel)
set_option maxRecDepth 20000 in
theorem ggX0_encode_X0_placeOf : GoodIn wsX0_encode wsX0_placeOf := goodIn_r _ [33, 29, 1, 38, 39, 40] (by decide +kernel) (by decide +kernel)
set_option maxRecDepth 20000 in
theorem ggX0_encode_X3_put : GoodIn wsX0_encode wsX3_put := goodIn_r _ [37, 7, 12, 41, 42] (by decide +kernel) (by decide +kernel)
set_option maxRecDepth 20000 in
theorem ggX0_decode_X3_empty : GoodIn wsX0_decode wsX3_empty := goodIn_r _ [8, 9, 50, 51] (by decide +kernel) (by decide +kernel)
set_option maxRecDepth 20000 in
theorem ggX0_decode_X3_size : GoodIn wsX0_decode wsX3_size := goodIn_r _ [13, 9, 50, 51] (by decide +kernel) (by decide +kernel)
set_option maxRecDepth 20000 in
theorem ggX0_decode_X0_decodeSign : GoodIn wsX0_decode wsX0_decodeSign := goodIn_r _ [18, 3, 2, 19, 20, 21, 17, 22, 23, 24, 25, 7, 26, 9, 27, 28, 29, 30, 31, 1, 32, 33, 34, 35, 36, 37, 38, 39, 40, 41, 42, 47, 48, 49, 50, 51] (by decide +kernel) (by decide +kernel)
set_option maxRecDepth 20000 in
theorem ggX0_decode_X3_add : GoodIn wsX0_decode wsX3_add := goodIn_r _ [46, 9, 27, 50, 51] (by decide +kernel) (by decide +kernel)
set_option maxRecDepth 20000 in
theorem ggX0_decodeSign_X0_placeOf : GoodIn wsX0_decodeSign wsX0_placeOf := goodIn_r _ [7, 2, 1, 31, 32, 33] (by decide +kernel) (by decide +kernel)
set_option maxRecDepth 20000 in
theorem ggX0_decodeSign_X3_at : GoodIn wsX0_decodeSign wsX3_at := goodIn_r _ [12, 13, 14, 34, 35] (by decide +kernel) (by decide +kernel)
set_option maxRecDepth 20000 in
theorem ggX0_decodeSign_X0_mend : GoodIn wsX0_decodeSign wsX0_mend := goodIn_r _ [18, 19, 20, 21, 22, 23, 24, 25, 26, 27, 28, 29, 6, 30, 2, 31, 32, 33] (by decide +kernel) (by decide +kernel)
set_option maxRecDepth 20000 in
theorem ggX0_mend_J6_bitCount_0f7a4 : GoodIn wsX0_mend wsJ6_bitCount_0f7a4 := goodIn_r _ [5, 6, 7, 8] (by decide +kernel) (by decide +kernel)
set_option maxRecDepth 20000 in
theorem ggX0_mend_X0_wordOf : GoodIn wsX0_mend wsX0_wordOf := goodIn_r _ [13, 14, 15, 16, 17] (by decide +kernel) (by decide +kernel)
set_option maxRecDepth 20000 in
theorem ggX2_put_X6_isPrefix : GoodIn wsX2_put wsX6_isPrefix := goodIn_r _ [8] (by decide +kernel) (by decide +kernel)
set_option maxRecDepth 20000 in
theorem ggX2_put_X2_has : GoodIn wsX2_put wsX2_has := goodIn_r _ [13, 2, 14, 15, 16, 17, 18] (by decide +kernel) (by decide +kernel)
set_option maxRecDepth 20000 in
theorem ggX2_putNeed_X2_has : GoodIn wsX2_putNeed wsX2_has := goodIn_r _ [6, 7, 8, 9, 10, 11, 12] (by decide +kernel) (by decide +kernel)
set_option maxRecDepth 20000 in
theorem ggX2_lengthOf_X2_has : GoodIn wsX2_lengthOf wsX2_has := goodIn_r _ [6, 1, 7, 8, 9, 10, 11] (by decide +kernel) (by decide +kernel)
set_option maxRecDepth 20000 in
theorem ggX2_isFixed_X2_has : GoodIn wsX2_isFixed wsX2_has := goodIn_r _ [6, 7, 8, 9, 10, 11, 12] (by decide +kernel) (by decide +kernel)
set_option maxRecDepth 20000 in
theorem ggX2_stationOf_X2_has : GoodIn wsX2_stationOf wsX2_has := goodIn_r _ [6, 7, 8, 9, 10, 11, 12] (by decide +kernel) (by decide +kernel)
set_option maxRecDepth 20000 in
theorem ggX2_needOf_X2_has : GoodIn wsX2_needOf wsX2_has := goodIn_r _ [6, 7, 8, 9, 10, 11, 12] (by decide +kernel) (by decide +kernel)
set_option maxRecDepth 20000 in
theorem ggX2_lets_X2_lengthOf : GoodIn wsX2_lets wsX2_lengthOf := goodIn_r _ [5, 6, 7, 8, 9, 4, 10, 16, 17, 18, 19, 20] (by decide +kernel) (by decide +kernel)
set_option maxRecDepth 20000 in
theorem ggX2_lets_X2_isFixed : GoodIn wsX2_lets wsX2_isFixed := goodIn_r _ [14, 15, 7, 8, 9, 4, 10, 6, 16, 17, 18, 19, 20] (by decide +kernel) (by decide +kernel)
set_option maxRecDepth 20000 in
theorem ggX2_nearTo_X2_has : GoodIn wsX2_nearTo wsX2_has := goodIn_r _ [5, 6, 10, 11, 12, 13, 14] (by decide +kernel) (by decide +kernel)
set_option maxRecDepth 20000 in
theorem ggX2_nearTo_X2_differInOneDigit : GoodIn wsX2_nearTo wsX2_differInOneDigit := goodIn_r _ [9] (by decide +kernel) (by decide +kernel)
set_option maxRecDepth 20000 in
theorem ggX3_addNumber_X3_add : GoodIn wsX3_addNumber wsX3_add := goodIn_r _ [7, 1, 8, 13, 14] (by decide +kernel) (by decide +kernel)
set_option maxRecDepth 20000 in
theorem ggX3_addNumber_X3_put : GoodIn wsX3_addNumber wsX3_put := goodIn_r _ [12, 1, 8, 13, 14] (by decide +kernel) (by decide +kernel)
set_option maxRecDepth 20000 in
theorem ggX3_nextSeparator_X3_at : GoodIn wsX3_nextSeparator wsX3_at := goodIn_r _ [5, 6, 7, 8, 9] (by decide +kernel) (by decide +kernel)
set_option maxRecDepth 20000 in
theorem ggX3_numberAt_X3_at : GoodIn wsX3_numberAt wsX3_at := goodIn_r _ [6, 7, 8, 9, 10] (by decide +kernel) (by decide +kernel)
set_option maxRecDepth 20000 in
theorem ggX4_init_J7_fill_53178 : GoodIn wsX4_init wsJ7_fill_53178 := goodIn_r _ [12] (by decide +kernel) (by decide +kernel)
set_option maxRecDepth 20000 in
theorem ggX4_placeOf_X4_isAt : GoodIn wsX4_placeOf wsX4_isAt := goodIn_r _ [6, 7, 8, 9, 5, 10, 11, 12, 13, 14, 15, 16, 17, 18, 19, 20, 21, 22, 23, 24, 25, 26, 27, 28, 29, 30, 31, 32, 33, 34, 35, 36, 37, 38, 39] (by decide +kernel) (by decide +kernel)
set_option maxRecDepth 20000 in
theorem ggX4_add_X4_isFull : GoodIn wsX4_add wsX4_isFull := goodIn_r _ [7, 2, 33, 34, 35] (by decide +kernel) (by decide +kernel)
set_option maxRecDepth 20000 in
theorem ggX4_add_X4_keyOf : GoodIn wsX4_add wsX4_keyOf := goodIn_r _ [10, 11, 12, 13, 14, 15, 16, 17, 18, 19, 20, 21, 22, 23, 24, 25, 26, 27, 28, 29, 30, 31, 32, 36, 37, 38, 39] (by decide +kernel) (by decide +kernel)
set_option maxRecDepth 20000 in
theorem ggX4_accepts_X6_isStation : GoodIn wsX4_accepts wsX6_isStation := goodIn_r _ [5] (by decide +kernel) (by decide +kernel)
set_option maxRecDepth 20000 in
theorem ggX4_isAt_X4_keyOf : GoodIn wsX4_isAt wsX4_keyOf := goodIn_r _ [5, 6, 7, 8, 9, 10, 11, 12, 13, 14, 15, 16, 17, 18, 19, 20, 21, 22, 23, 24, 25, 26, 27, 31, 32, 33, 34] (by decide +kernel) (by decide +kernel)
set_option maxRecDepth 20000 in
theorem ggX4_keyOf_X1_size : GoodIn wsX4_keyOf wsX1_size := goodIn_r _ [6, 7, 23, 24, 25, 26] (by decide +kernel) (by decide +kernel)
set_option maxRecDepth 20000 in
theorem ggX4_keyOf_X1_prefixAt : GoodIn wsX4_keyOf wsX1_prefixAt := goodIn_r _ [11, 7, 12, 23, 24, 25, 26] (by decide +kernel) (by decide +kernel)
set_option maxRecDepth 20000 in
theorem ggX4_keyOf_X1_digitsAt : GoodIn wsX4_keyOf wsX1_digitsAt := goodIn_r _ [16, 7, 17, 23, 24, 25, 26] (by decide +kernel) (by decide +kernel)
set_option maxRecDepth 20000 in
theorem ggX4_keyOf_X1_numberAt : GoodIn wsX4_keyOf wsX1_numberAt := goodIn_r _ [21, 7, 22, 23, 24, 25, 26] (by decide +kernel) (by decide +kernel)
set_option maxRecDepth 20000 in
theorem ggX5_init_X1_init : GoodIn wsX5_init wsX1_init := goodIn_r _ [12, 13, 2, 3, 14, 15, 16, 17, 18, 19, 23, 24, 25, 26] (by decide +kernel) (by decide +kernel)
set_option maxRecDepth 20000 in
theorem ggX5_forget_X1_empty : GoodIn wsX5_forget wsX1_empty := goodIn_r _ [7, 8, 12, 13, 14, 15] (by decide +kernel) (by decide +kernel)
set_option maxRecDepth 20000 in
theorem ggX5_takeApart_X5_forget : GoodIn wsX5_takeApart wsX5_forget := goodIn_r _ [6, 1, 7, 8, 9, 10, 11, 12, 13, 104, 105, 106, 107, 108, 109, 110] (by decide +kernel) (by decide +kernel)
set_option maxRecDepth 20000 in
theorem ggX5_takeApart_X5_firstWrong : GoodIn wsX5_takeApart wsX5_firstWrong := goodIn_r _ [17, 18, 19, 20, 21, 22, 23, 24, 25, 26, 27, 28, 29, 30, 31, 32, 33, 34, 35, 36, 37, 38, 39, 5, 40, 41, 7, 1, 42, 43, 44, 45, 46, 47, 48, 49, 50, 51, 52, 53, 54, 55, 56, 57, 58, 59, 60, 11, 61, 13, 62, 63, 64, 65, 66, 67, 68, 69, 70, 71, 72, 73, 74, 75, 76, 77, 78, 79, 80, 81, 82, 83, 84, 85, 86, 87, 88, 89, 90, 91, 92, 93, 94, 95, 96, 97, 98, 99, 100, 101, 102, 103, 111, 112, 104, 105, 106, 113, 114, 115, 116, 117, 107, 108, 109, 110] (by decide +kernel) (by decide +kernel)
set_option maxRecDepth 20000 in
theorem ggX5_takeApart_X1_empty : GoodIn wsX5_takeApart wsX1_empty := goodIn_r _ [12, 13, 107, 108, 109, 110] (by decide +kernel) (by decide +kernel)
set_option maxRecDepth 20000 in
theorem ggX5_takeApart_X1_size : GoodIn wsX5_takeApart wsX1_size := goodIn_r _ [94, 13, 107, 108, 109, 110] (by decide +kernel) (by decide +kernel)
set_option maxRecDepth 20000 in
theorem ggX5_firstWrong_X3_size : GoodIn wsX5_firstWrong wsX3_size := goodIn_r _ [5, 6, 92, 93] (by decide +kernel) (by decide +kernel)
set_option maxRecDepth 20000 in
theorem ggX5_firstWrong_X3_at : GoodIn wsX5_firstWrong wsX3_at := goodIn_r _ [10, 6, 11, 92, 93] (by decide +kernel) (by decide +kernel)
set_option maxRecDepth 20000 in
theorem ggX5_firstWrong_X6_checkSign : GoodIn wsX5_firstWrong wsX6_checkSign := goodIn_r _ [14, 15, 8, 9, 4, 10, 6, 11, 16, 17, 18, 19, 92, 93] (by decide +kernel) (by decide +kernel)
set_option maxRecDepth 20000 in
theorem ggX5_firstWrong_X5_takeField : GoodIn wsX5_firstWrong wsX5_takeField := goodIn_r _ [24, 25, 26, 27, 28, 29, 30, 4, 31, 32, 8, 9, 10, 6, 11, 33, 34, 35, 36, 37, 38, 39, 40, 41, 42, 43, 44, 45, 46, 47, 48, 49, 50, 51, 52, 53, 54, 55, 56, 57, 58, 59, 23, 60, 61, 62, 63, 64, 65, 66, 67, 68, 69, 70, 71, 72, 73, 74, 94, 95, 96, 92, 93, 97, 98, 99, 100, 101, 102, 103, 104, 105] (by decide +kernel) (by decide +kernel)
set_option maxRecDepth 20000 in
theorem ggX5_firstWrong_X5_needsAreThere : GoodIn wsX5_firstWrong wsX5_needsAreThere := goodIn_r _ [78, 27, 25, 79, 80, 81, 47, 82, 49, 83, 84, 85, 86, 50, 87, 88, 89, 41, 90, 91, 56, 39, 40, 42, 43, 44, 45, 46, 48, 94, 95, 96, 102, 103, 104, 105, 97, 98, 99, 100, 101] (by decide +kernel) (by decide +kernel)
set_option maxRecDepth 20000 in
theorem ggX5_takeField_X3_nextSeparator : GoodIn wsX5_takeField wsX3_nextSeparator := goodIn_r _ [8, 9, 10, 11, 7, 12, 13, 14, 61, 62] (by decide +kernel) (by decide +kernel)
set_option maxRecDepth 20000 in
theorem ggX5_takeField_X3_numberAt : GoodIn wsX5_takeField wsX3_numberAt := goodIn_r _ [18, 19, 9, 10, 11, 7, 12, 13, 14, 61, 62] (by decide +kernel) (by decide +kernel)
set_option maxRecDepth 20000 in
theorem ggX5_takeField_X2_has : GoodIn wsX5_takeField wsX2_has := goodIn_r _ [24, 25, 63, 64, 65, 66, 67] (by decide +kernel) (by decide +kernel)
set_option maxRecDepth 20000 in
theorem ggX5_takeField_X1_has : GoodIn wsX5_takeField wsX1_has := goodIn_r _ [30, 31, 32, 68, 69, 70, 71] (by decide +kernel) (by decide +kernel)
set_option maxRecDepth 20000 in
theorem ggX5_takeField_X2_isFixed : GoodIn wsX5_takeField wsX2_isFixed := goodIn_r _ [36, 37, 38, 21, 22, 23, 24, 25, 63, 64, 65, 66, 67] (by decide +kernel) (by decide +kernel)
set_option maxRecDepth 20000 in
theorem ggX5_takeField_X5_takeFixed : GoodIn wsX5_takeField wsX5_takeFixed := goodIn_r _ [43, 1, 3, 44, 45, 46, 23, 47, 25, 38, 21, 22, 24, 4, 5, 6, 7, 8, 9, 10, 11, 12, 13, 14, 15, 16, 17, 18, 19, 48, 49, 50, 29, 51, 31, 32, 52, 53, 58, 59, 60, 63, 64, 65, 66, 67, 61, 62, 68, 69, 70, 71] (by decide +kernel) (by decide +kernel)
set_option maxRecDepth 20000 in
theorem ggX5_takeField_X5_takeLoose : GoodIn wsX5_takeField wsX5_takeLoose := goodIn_r _ [57, 1, 3, 4, 5, 6, 7, 8, 9, 10, 11, 12, 13, 14, 44, 45, 46, 23, 47, 25, 38, 21, 22, 24, 15, 16, 17, 18, 19, 48, 49, 50, 29, 51, 31, 32, 52, 53, 58, 59, 60, 61, 62, 63, 64, 65, 66, 67, 68, 69, 70, 71] (by decide +kernel) (by decide +kernel)
set_option maxRecDepth 20000 in
theorem ggX5_takeFixed_X2_lengthOf : GoodIn wsX5_takeFixed wsX2_lengthOf := goodIn_r _ [7, 8, 9, 10, 11, 6, 12, 41, 42, 43, 44, 45] (by decide +kernel) (by decide +kernel)
set_option maxRecDepth 20000 in
theorem ggX5_takeFixed_X3_nextSeparator : GoodIn wsX5_takeFixed wsX3_nextSeparator := goodIn_r _ [17, 18, 19, 20, 16, 21, 22, 23, 46, 47] (by decide +kernel) (by decide +kernel)
set_option maxRecDepth 20000 in
theorem ggX5_takeFixed_X3_numberAt : GoodIn wsX5_takeFixed wsX3_numberAt := goodIn_r _ [27, 28, 18, 19, 20, 16, 21, 22, 23, 46, 47] (by decide +kernel) (by decide +kernel)
set_option maxRecDepth 20000 in
theorem ggX5_takeFixed_X1_add : GoodIn wsX5_takeFixed wsX1_add := goodIn_r _ [33, 34, 35, 36, 37, 48, 49, 50, 51] (by decide +kernel) (by decide +kernel)
set_option maxRecDepth 20000 in
theorem ggX5_takeLoose_X3_nextSeparator : GoodIn wsX5_takeLoose wsX3_nextSeparator := goodIn_r _ [7, 8, 9, 10, 6, 11, 12, 13, 41, 42] (by decide +kernel) (by decide +kernel)
set_option maxRecDepth 20000 in
theorem ggX5_takeLoose_X2_lengthOf : GoodIn wsX5_takeLoose wsX2_lengthOf := goodIn_r _ [18, 19, 20, 21, 22, 17, 23, 43, 44, 45, 46, 47] (by decide +kernel) (by decide +kernel)
set_option maxRecDepth 20000 in
theorem ggX5_takeLoose_X3_numberAt : GoodIn wsX5_takeLoose wsX3_numberAt := goodIn_r _ [27, 28, 8, 9, 10, 6, 11, 12, 13, 41, 42] (by decide +kernel) (by decide +kernel)
set_option maxRecDepth 20000 in
theorem ggX5_takeLoose_X1_add : GoodIn wsX5_takeLoose wsX1_add := goodIn_r _ [33, 34, 35, 36, 37, 48, 49, 50, 51] (by decide +kernel) (by decide +kernel)
set_option maxRecDepth 20000 in
theorem ggX5_needsAreThere_X1_size : GoodIn wsX5_needsAreThere wsX1_size := goodIn_r _ [7, 8, 32, 33, 34, 35] (by decide +kernel) (by decide +kernel)
set_option maxRecDepth 20000 in
theorem ggX5_needsAreThere_X1_prefixAt : GoodIn wsX5_needsAreThere wsX1_prefixAt := goodIn_r _ [12, 8, 13, 32, 33, 34, 35] (by decide +kernel) (by decide +kernel)
set_option maxRecDepth 20000 in
theorem ggX5_needsAreThere_X2_needOf : GoodIn wsX5_needsAreThere wsX2_needOf := goodIn_r _ [18, 19, 20, 21, 22, 17, 23, 24, 36, 37, 38, 39, 40] (by decide +kernel) (by decide +kernel)
set_option maxRecDepth 20000 in
theorem ggX5_needsAreThere_X1_has : GoodIn wsX5_needsAreThere wsX1_has := goodIn_r _ [28, 8, 13, 32, 33, 34, 35] (by decide +kernel) (by decide +kernel)
set_option maxRecDepth 20000 in
theorem ggX6_init_X0_init : GoodIn wsX6_init wsX0_init := goodIn_r _ [42, 43, 2, 3, 44, 45, 46, 94, 95, 96] (by decide +kernel) (by decide +kernel)
set_option maxRecDepth 20000 in
theorem ggX6_init_X2_init : GoodIn wsX6_init wsX2_init := goodIn_r _ [49, 50, 2, 3, 51, 52, 53, 54, 55, 56, 57, 108, 109, 110, 111, 112] (by decide +kernel) (by decide +kernel)
set_option maxRecDepth 20000 in
theorem ggX6_init_X1_init : GoodIn wsX6_init wsX1_init := goodIn_r _ [60, 61, 2, 3, 51, 62, 63, 64, 65, 66, 113, 114, 115, 116] (by decide +kernel) (by decide +kernel)
set_option maxRecDepth 20000 in
theorem ggX6_init_X3_init : GoodIn wsX6_init wsX3_init := goodIn_r _ [69, 70, 2, 3, 71, 12, 9, 13, 51, 72, 73, 117, 118] (by decide +kernel) (by decide +kernel)
set_option maxRecDepth 20000 in
theorem ggX6_init_X5_init : GoodIn wsX6_init wsX5_init := goodIn_r _ [76, 77, 2, 3, 78, 79, 20, 21, 80, 81, 82, 59, 60, 61, 51, 62, 63, 64, 65, 66, 119, 120, 121, 113, 114, 115, 116] (by decide +kernel) (by decide +kernel)
set_option maxRecDepth 20000 in
theorem ggX6_init_X4_init : GoodIn wsX6_init wsX4_init := goodIn_r _ [85, 86, 2, 3, 64, 87, 51, 88, 89, 90, 91, 92, 93, 122, 123, 124] (by decide +kernel) (by decide +kernel)
set_option maxRecDepth 20000 in
theorem ggX6_prefix_X6_isPrefix : GoodIn wsX6_prefix wsX6_isPrefix := goodIn_r _ [9] (by decide +kernel) (by decide +kernel)
set_option maxRecDepth 20000 in
theorem ggX6_prefix_X6_isStation : GoodIn wsX6_prefix wsX6_isStation := goodIn_r _ [12] (by decide +kernel) (by decide +kernel)
set_option maxRecDepth 20000 in
theorem ggX6_prefix_X2_has : GoodIn wsX6_prefix wsX2_has := goodIn_r _ [17, 18, 43, 44, 45, 46, 47] (by decide +kernel) (by decide +kernel)
set_option maxRecDepth 20000 in
theorem ggX6_prefix_X2_size : GoodIn wsX6_prefix wsX2_size := goodIn_r _ [22, 23, 43, 44, 45, 46, 47] (by decide +kernel) (by decide +kernel)
set_option maxRecDepth 20000 in
theorem ggX6_prefix_X2_put : GoodIn wsX6_prefix wsX2_put := goodIn_r _ [27, 23, 18, 28, 29, 30, 7, 8, 9, 31, 14, 15, 16, 17, 43, 44, 45, 46, 47] (by decide +kernel) (by decide +kernel)
set_option maxRecDepth 20000 in
theorem ggX6_needs_X2_has : GoodIn wsX6_needs wsX2_has := goodIn_r _ [10, 11, 33, 34, 35, 36, 37] (by decide +kernel) (by decide +kernel)
set_option maxRecDepth 20000 in
theorem ggX6_needs_X6_isPrefix : GoodIn wsX6_needs wsX6_isPrefix := goodIn_r _ [15] (by decide +kernel) (by decide +kernel)
set_option maxRecDepth 20000 in
theorem ggX6_needs_X2_putNeed : GoodIn wsX6_needs wsX2_putNeed := goodIn_r _ [19, 20, 21, 7, 8, 9, 10, 11, 33, 34, 35, 36, 37] (by decide +kernel) (by decide +kernel)
set_option maxRecDepth 20000 in
theorem ggX6_begin_X1_empty : GoodIn wsX6_begin wsX1_empty := goodIn_r _ [6, 7, 19, 20, 21, 22] (by decide +kernel) (by decide +kernel)
set_option maxRecDepth 20000 in
theorem ggX6_field_X2_has : GoodIn wsX6_field wsX2_has := goodIn_r _ [13, 14, 62, 63, 64, 65, 66] (by decide +kernel) (by decide +kernel)
set_option maxRecDepth 20000 in
theorem ggX6_field_X6_digitsOf : GoodIn wsX6_field wsX6_digitsOf := goodIn_r _ [18, 19] (by decide +kernel) (by decide +kernel)
set_option maxRecDepth 20000 in
theorem ggX6_field_X2_lets : GoodIn wsX6_field wsX2_lets := goodIn_r _ [23, 24, 25, 26, 12, 27, 14, 28, 10, 11, 13, 29, 30, 31, 32, 33, 62, 63, 64, 65, 66] (by decide +kernel) (by decide +kernel)
set_option maxRecDepth 20000 in
theorem ggX6_field_X1_has : GoodIn wsX6_field wsX1_has := goodIn_r _ [38, 39, 40, 67, 68, 69, 70] (by decide +kernel) (by decide +kernel)
set_option maxRecDepth 20000 in
theorem ggX6_field_X1_size : GoodIn wsX6_field wsX1_size := goodIn_r _ [44, 39, 67, 68, 69, 70] (by decide +kernel) (by decide +kernel)
set_option maxRecDepth 20000 in
theorem ggX6_field_X1_add : GoodIn wsX6_field wsX1_add := goodIn_r _ [48, 39, 40, 49, 50, 67, 68, 69, 70] (by decide +kernel) (by decide +kernel)
set_option maxRecDepth 20000 in
theorem ggX6_make_X1_size : GoodIn wsX6_make wsX1_size := goodIn_r _ [13, 14, 123, 124, 125, 126] (by decide +kernel) (by decide +kernel)
set_option maxRecDepth 20000 in
theorem ggX6_make_X6_writeFields : GoodIn wsX6_make wsX6_writeFields := goodIn_r _ [19, 6, 5, 20, 21, 22, 23, 24, 25, 26, 9, 10, 11, 12, 13, 14, 27, 28, 29, 30, 31, 32, 33, 34, 35, 36, 37, 38, 39, 40, 41, 42, 43, 44, 45, 46, 47, 48, 49, 50, 51, 52, 53, 54, 55, 56, 57, 58, 59, 60, 61, 62, 63, 64, 65, 66, 67, 112, 113, 114, 115, 116, 117, 118, 119, 120, 121, 122, 127, 128, 123, 124, 125, 126, 129, 130, 131, 132, 133] (by decide +kernel) (by decide +kernel)
set_option maxRecDepth 20000 in
theorem ggX6_make_X3_size : GoodIn wsX6_make wsX3_size := goodIn_r _ [71, 26, 127, 128] (by decide +kernel) (by decide +kernel)
set_option maxRecDepth 20000 in
theorem ggX6_make_X6_checkSign : GoodIn wsX6_make wsX6_checkSign := goodIn_r _ [74, 75, 76, 77, 24, 78, 26, 41, 79, 80, 81, 82, 127, 128] (by decide +kernel) (by decide +kernel)
set_option maxRecDepth 20000 in
theorem ggX6_make_X3_add : GoodIn wsX6_make wsX3_add := goodIn_r _ [40, 26, 41, 127, 128] (by decide +kernel) (by decide +kernel)
set_option maxRecDepth 20000 in
theorem ggX6_make_X0_encode : GoodIn wsX6_make wsX0_encode := goodIn_r _ [87, 88, 89, 69, 70, 24, 71, 26, 90, 91, 92, 93, 41, 94, 95, 96, 97, 98, 99, 100, 101, 76, 77, 78, 102, 103, 104, 86, 105, 106, 107, 108, 109, 110, 111, 43, 44, 45, 134, 135, 136, 127, 128] (by decide +kernel) (by decide +kernel)
set_option maxRecDepth 20000 in
theorem ggX6_module_X3_size : GoodIn wsX6_module wsX3_size := goodIn_r _ [9, 10, 33, 34] (by decide +kernel) (by decide +kernel)
set_option maxRecDepth 20000 in
theorem ggX6_module_X3_at : GoodIn wsX6_module wsX3_at := goodIn_r _ [14, 10, 15, 33, 34] (by decide +kernel) (by decide +kernel)
set_option maxRecDepth 20000 in
theorem ggX6_clear_X3_empty : GoodIn wsX6_clear wsX3_empty := goodIn_r _ [9, 10, 35, 36] (by decide +kernel) (by decide +kernel)
set_option maxRecDepth 20000 in
theorem ggX6_clear_X5_forget : GoodIn wsX6_clear wsX5_forget := goodIn_r _ [15, 16, 17, 18, 19, 20, 21, 22, 23, 37, 38, 39, 40, 41, 42, 43] (by decide +kernel) (by decide +kernel)
set_option maxRecDepth 20000 in
theorem ggX6_read_X3_isFull : GoodIn wsX6_read wsX3_isFull := goodIn_r _ [10, 11, 12, 32, 33] (by decide +kernel) (by decide +kernel)
set_option maxRecDepth 20000 in
theorem ggX6_read_X3_add : GoodIn wsX6_read wsX3_add := goodIn_r _ [16, 11, 12, 32, 33] (by decide +kernel) (by decide +kernel)
set_option maxRecDepth 20000 in
theorem ggX6_read_X3_size : GoodIn wsX6_read wsX3_size := goodIn_r _ [20, 11, 32, 33] (by decide +kernel) (by decide +kernel)
set_option maxRecDepth 20000 in
theorem ggX6_typed_X3_isFull : GoodIn wsX6_typed wsX3_isFull := goodIn_r _ [10, 11, 12, 32, 33] (by decide +kernel) (by decide +kernel)
set_option maxRecDepth 20000 in
theorem ggX6_typed_X3_add : GoodIn wsX6_typed wsX3_add := goodIn_r _ [16, 11, 12, 32, 33] (by decide +kernel) (by decide +kernel)
set_option maxRecDepth 20000 in
theorem ggX6_typed_X3_size : GoodIn wsX6_typed wsX3_size := goodIn_r _ [20, 11, 32, 33] (by decide +kernel) (by decide +kernel)
set_option maxRecDepth 20000 in
theorem ggX6_parse_X3_size : GoodIn wsX6_parse wsX3_size := goodIn_r _ [12, 13, 173, 174] (by decide +kernel) (by decide +kernel)
set_option maxRecDepth 20000 in
theorem ggX6_parse_X5_forget : GoodIn wsX6_parse wsX5_forget := goodIn_r _ [18, 19, 20, 21, 22, 23, 24, 25, 26, 175, 176, 177, 178, 179, 180, 181] (by decide +kernel) (by decide +kernel)
set_option maxRecDepth 20000 in
theorem ggX6_parse_X0_decode : GoodIn wsX6_parse wsX0_decode := goodIn_r _ [31, 32, 33, 34, 35, 36, 37, 11, 38, 13, 39, 9, 10, 12, 40, 41, 42, 30, 43, 44, 45, 46, 47, 48, 49, 50, 51, 52, 53, 54, 55, 56, 57, 58, 59, 60, 61, 62, 63, 64, 65, 66, 67, 68, 69, 70, 71, 182, 183, 184, 173, 174] (by decide +kernel) (by decide +kernel)
set_option maxRecDepth 20000 in
theorem ggX6_parse_X0_mendedLast : GoodIn wsX6_parse wsX0_mendedLast := goodIn_r _ [75, 32, 182, 183, 184] (by decide +kernel) (by decide +kernel)
set_option maxRecDepth 20000 in
theorem ggX6_parse_X5_takeApart : GoodIn wsX6_parse wsX5_takeApart := goodIn_r _ [79, 19, 80, 15, 16, 17, 18, 20, 21, 22, 23, 24, 25, 26, 81, 82, 83, 84, 85, 9, 10, 11, 12, 13, 86, 49, 50, 51, 52, 87, 88, 89, 90, 91, 92, 93, 94, 95, 96, 97, 98, 99, 100, 101, 102, 103, 104, 105, 106, 107, 108, 109, 110, 111, 112, 113, 114, 115, 116, 117, 118, 119, 120, 121, 122, 123, 124, 125, 126, 127, 128, 129, 130, 131, 132, 133, 134, 135, 136, 137, 138, 139, 140, 141, 142, 143, 144, 145, 146, 147, 148, 149, 150, 151, 152, 153, 154, 155, 156, 157, 158, 159, 160, 161, 175, 176, 177, 178, 179, 180, 181, 173, 174, 185, 186, 187, 188, 189] (by decide +kernel) (by decide +kernel)
set_option maxRecDepth 20000 in
theorem ggX6_parseTyped_X3_size : GoodIn wsX6_parseTyped wsX3_size := goodIn_r _ [9, 10, 124, 125] (by decide +kernel) (by decide +kernel)
set_option maxRecDepth 20000 in
theorem ggX6_parseTyped_X5_takeApart : GoodIn wsX6_parseTyped wsX5_takeApart := goodIn_r _ [15, 16, 17, 18, 19, 14, 20, 21, 22, 23, 24, 25, 26, 27, 28, 29, 30, 31, 32, 6, 7, 8, 9, 10, 33, 34, 35, 36, 37, 38, 39, 40, 41, 42, 43, 44, 45, 46, 47, 48, 49, 50, 51, 52, 53, 54, 55, 56, 57, 58, 59, 60, 61, 62, 63, 64, 65, 66, 67, 68, 69, 70, 71, 72, 73, 74, 75, 76, 77, 78, 79, 80, 81, 82, 83, 84, 85, 86, 87, 88, 89, 90, 91, 92, 93, 94, 95, 96, 97, 98, 99, 100, 101, 102, 103, 104, 105, 106, 107, 108, 109, 110, 111, 112, 126, 127, 128, 129, 130, 131, 132, 124, 125, 133, 134, 135, 136, 137] (by decide +kernel) (by decide +kernel)
set_option maxRecDepth 20000 in
theorem ggX6_check_X3_size : GoodIn wsX6_check wsX3_size := goodIn_r _ [8, 9, 34, 35] (by decide +kernel) (by decide +kernel)
set_option maxRecDepth 20000 in
theorem ggX6_check_X6_checkSign : GoodIn wsX6_check wsX6_checkSign := goodIn_r _ [13, 14, 15, 16, 7, 17, 9, 18, 19, 20, 21, 22, 34, 35] (by decide +kernel) (by decide +kernel)
set_option maxRecDepth 20000 in
theorem ggX6_known_X5_fields : GoodIn wsX6_known wsX5_fields := goodIn_r _ [10, 11, 39, 40, 41] (by decide +kernel) (by decide +kernel)
set_option maxRecDepth 20000 in
theorem ggX6_known_X1_size : GoodIn wsX6_known wsX1_size := goodIn_r _ [16, 17, 42, 43, 44, 45] (by decide +kernel) (by decide +kernel)
set_option maxRecDepth 20000 in
theorem ggX6_known_X1_prefixAt : GoodIn wsX6_known wsX1_prefixAt := goodIn_r _ [21, 17, 22, 42, 43, 44, 45] (by decide +kernel) (by decide +kernel)
set_option maxRecDepth 20000 in
theorem ggX6_known_X1_digitsAt : GoodIn wsX6_known wsX1_digitsAt := goodIn_r _ [26, 17, 27, 42, 43, 44, 45] (by decide +kernel) (by decide +kernel)
set_option maxRecDepth 20000 in
theorem ggX6_value_X5_fields : GoodIn wsX6_value wsX5_fields := goodIn_r _ [8, 9, 32, 33, 34] (by decide +kernel) (by decide +kernel)
set_option maxRecDepth 20000 in
theorem ggX6_value_X1_size : GoodIn wsX6_value wsX1_size := goodIn_r _ [14, 15, 35, 36, 37, 38] (by decide +kernel) (by decide +kernel)
set_option maxRecDepth 20000 in
theorem ggX6_value_X1_numberAt : GoodIn wsX6_value wsX1_numberAt := goodIn_r _ [19, 15, 20, 35, 36, 37, 38] (by decide +kernel) (by decide +kernel)
set_option maxRecDepth 20000 in
theorem ggX6_hint_X5_unknownPrefix : GoodIn wsX6_hint wsX5_unknownPrefix := goodIn_r _ [9, 10, 35, 36, 37] (by decide +kernel) (by decide +kernel)
set_option maxRecDepth 20000 in
theorem ggX6_hint_X2_nearTo : GoodIn wsX6_hint wsX2_nearTo := goodIn_r _ [15, 16, 17, 18, 14, 19, 20, 21, 22, 23, 38, 39, 40, 41, 42] (by decide +kernel) (by decide +kernel)
set_option maxRecDepth 20000 in
theorem ggX6_scan_X6_isStation : GoodIn wsX6_scan wsX6_isStation := goodIn_r _ [13] (by decide +kernel) (by decide +kernel)
set_option maxRecDepth 20000 in
theorem ggX6_scan_X5_fields : GoodIn wsX6_scan wsX5_fields := goodIn_r _ [18, 19, 99, 100, 101] (by decide +kernel) (by decide +kernel)
set_option maxRecDepth 20000 in
theorem ggX6_scan_X1_size : GoodIn wsX6_scan wsX1_size := goodIn_r _ [24, 25, 102, 103, 104, 105] (by decide +kernel) (by decide +kernel)
set_option maxRecDepth 20000 in
theorem ggX6_scan_X4_placeOf : GoodIn wsX6_scan wsX4_placeOf := goodIn_r _ [30, 31, 32, 33, 34, 29, 35, 36, 37, 38, 39, 40, 41, 21, 22, 23, 24, 25, 42, 43, 44, 45, 46, 47, 48, 49, 50, 51, 52, 53, 54, 55, 56, 106, 107, 108, 102, 103, 104, 105] (by decide +kernel) (by decide +kernel)
set_option maxRecDepth 20000 in
theorem ggX6_scan_X4_isFull : GoodIn wsX6_scan wsX4_isFull := goodIn_r _ [60, 31, 106, 107, 108] (by decide +kernel) (by decide +kernel)
set_option maxRecDepth 20000 in
theorem ggX6_scan_X6_firstStrange : GoodIn wsX6_scan wsX6_firstStrange := goodIn_r _ [64, 65, 20, 21, 22, 23, 24, 25, 66, 43, 44, 45, 46, 67, 68, 69, 70, 71, 72, 73, 74, 75, 76, 77, 88, 89, 90, 91, 92, 93, 94, 95, 96, 97, 98, 102, 103, 104, 105, 109, 110, 111, 112, 113] (by decide +kernel) (by decide +kernel)
set_option maxRecDepth 20000 in
theorem ggX6_scan_X4_add : GoodIn wsX6_scan wsX4_add := goodIn_r _ [81, 36, 31, 82, 58, 59, 29, 60, 37, 38, 39, 40, 41, 21, 22, 23, 24, 25, 42, 43, 44, 45, 46, 47, 48, 49, 50, 51, 52, 53, 54, 55, 56, 106, 107, 108, 102, 103, 104, 105] (by decide +kernel) (by decide +kernel)
set_option maxRecDepth 20000 in
theorem ggX6_scan_X4_accepts : GoodIn wsX6_scan wsX4_accepts := goodIn_r _ [86, 31, 87, 11, 12, 13, 106, 107, 108] (by decide +kernel) (by decide +kernel)
set_option maxRecDepth 20000 in
theorem ggX6_count_X2_size : GoodIn wsX6_count wsX2_size := goodIn_r _ [13, 14, 56, 57, 58, 59, 60] (by decide +kernel) (by decide +kernel)
set_option maxRecDepth 20000 in
theorem ggX6_count_X1_size : GoodIn wsX6_count wsX1_size := goodIn_r _ [19, 20, 61, 62, 63, 64] (by decide +kernel) (by decide +kernel)
set_option maxRecDepth 20000 in
theorem ggX6_count_X3_size : GoodIn wsX6_count wsX3_size := goodIn_r _ [25, 26, 65, 66] (by decide +kernel) (by decide +kernel)
set_option maxRecDepth 20000 in
theorem ggX6_count_X5_fields : GoodIn wsX6_count wsX5_fields := goodIn_r _ [31, 32, 67, 68, 69] (by decide +kernel) (by decide +kernel)
set_option maxRecDepth 20000 in
theorem ggX6_count_X4_size : GoodIn wsX6_count wsX4_size := goodIn_r _ [37, 38, 70, 71, 72] (by decide +kernel) (by decide +kernel)
set_option maxRecDepth 20000 in
theorem ggX6_count_X0_form : GoodIn wsX6_count wsX0_form := goodIn_r _ [43, 44, 73, 74, 75] (by decide +kernel) (by decide +kernel)
set_option maxRecDepth 20000 in
theorem ggX6_checkSign_X3_at : GoodIn wsX6_checkSign wsX3_at := goodIn_r _ [5, 6, 7, 12, 13] (by decide +kernel) (by decide +kernel)
set_option maxRecDepth 20000 in
theorem ggX6_checkSign_J9_floorMod_7cf53 : GoodIn wsX6_checkSign wsJ9_floorMod_7cf53 := goodIn_r _ [11] (by decide +kernel) (by decide +kernel)
set_option maxRecDepth 20000 in
theorem ggX6_writeFields_X3_empty : GoodIn wsX6_writeFields wsX3_empty := goodIn_r _ [8, 9, 68, 69] (by decide +kernel) (by decide +kernel)
set_option maxRecDepth 20000 in
theorem ggX6_writeFields_X1_size : GoodIn wsX6_writeFields wsX1_size := goodIn_r _ [14, 15, 70, 71, 72, 73] (by decide +kernel) (by decide +kernel)
set_option maxRecDepth 20000 in
theorem ggX6_writeFields_X1_prefixAt : GoodIn wsX6_writeFields wsX1_prefixAt := goodIn_r _ [19, 15, 20, 70, 71, 72, 73] (by decide +kernel) (by decide +kernel)
set_option maxRecDepth 20000 in
theorem ggX6_writeFields_X3_addNumber : GoodIn wsX6_writeFields wsX3_addNumber := goodIn_r _ [24, 9, 25, 26, 27, 28, 7, 29, 30, 31, 32, 33, 34, 68, 69] (by decide +kernel) (by decide +kernel)
set_option maxRecDepth 20000 in
theorem ggX6_writeFields_X1_numberAt : GoodIn wsX6_writeFields wsX1_numberAt := goodIn_r _ [38, 15, 39, 70, 71, 72, 73] (by decide +kernel) (by decide +kernel)
set_option maxRecDepth 20000 in
theorem ggX6_writeFields_X1_digitsAt : GoodIn wsX6_writeFields wsX1_digitsAt := goodIn_r _ [43, 15, 44, 70, 71, 72, 73] (by decide +kernel) (by decide +kernel)
set_option maxRecDepth 20000 in
theorem ggX6_writeFields_X2_isFixed : GoodIn wsX6_writeFields wsX2_isFixed := goodIn_r _ [49, 50, 51, 52, 53, 48, 54, 55, 74, 75, 76, 77, 78] (by decide +kernel) (by decide +kernel)
set_option maxRecDepth 20000 in
theorem ggX6_writeFields_X3_add : GoodIn wsX6_writeFields wsX3_add := goodIn_r _ [29, 9, 30, 68, 69] (by decide +kernel) (by decide +kernel)
set_option maxRecDepth 20000 in
theorem ggX6_firstStrange_X1_size : GoodIn wsX6_firstStrange wsX1_size := goodIn_r _ [6, 7, 35, 36, 37, 38] (by decide +kernel) (by decide +kernel)
set_option maxRecDepth 20000 in
theorem ggX6_firstStrange_X1_prefixAt : GoodIn wsX6_firstStrange wsX1_prefixAt := goodIn_r _ [11, 7, 12, 35, 36, 37, 38] (by decide +kernel) (by decide +kernel)
set_option maxRecDepth 20000 in
theorem ggX6_firstStrange_X2_stationOf : GoodIn wsX6_firstStrange wsX2_stationOf := goodIn_r _ [17, 18, 19, 20, 21, 16, 22, 23, 39, 40, 41, 42, 43] (by decide +kernel) (by decide +kernel)
set_option maxRecDepth 20000 in
theorem ggX7_place_X7_width : GoodIn wsX7_place wsX7_width := goodIn_r _ [6, 1, 7, 8, 9, 10, 11, 12, 13, 14, 15, 16, 17, 18, 19, 20, 21, 22, 23, 24, 25, 26, 27, 28, 29, 30, 31, 32, 33, 34, 35, 36, 37, 38] (by decide +kernel) (by decide +kernel)
set_option maxRecDepth 20000 in
theorem ggX7_mend_X7_width : GoodIn wsX7_mend wsX7_width := goodIn_r _ [8, 2, 16, 17, 18, 19, 20, 21, 22, 23, 24, 25, 26, 27, 28, 29, 30, 31, 32, 33, 34, 35, 36, 37, 38, 39, 40, 41, 42, 43, 44, 45, 46, 47] (by decide +kernel) (by decide +kernel)
set_option maxRecDepth 20000 in
theorem ggX7_mend_X7_place : GoodIn wsX7_mend wsX7_place := goodIn_r _ [12, 2, 4, 5, 6, 7, 8, 16, 17, 18, 19, 20, 21, 22, 23, 24, 25, 26, 27, 28, 29, 30, 31, 32, 33, 34, 35, 36, 37, 38, 39, 40, 41, 42, 43, 44, 45, 46, 47] (by decide +kernel) (by decide +kernel)
set_option maxRecDepth 20000 in
theorem ggX7_mend_X7_bit : GoodIn wsX7_mend wsX7_bit := goodIn_r _ [15] (by decide +kernel) (by decide +kernel)
set_option maxRecDepth 20000 in
theorem ggX7_takeApart_X7_forget : GoodIn wsX7_takeApart wsX7_forget := goodIn_r _ [16, 11, 3, 24, 25, 26, 27, 28, 29, 30, 31, 32, 33, 34, 35, 36, 37, 38, 39, 40, 41, 42, 43, 44, 45, 46, 47, 48, 49, 50, 51, 52, 53, 54, 55] (by decide +kernel) (by decide +kernel)
set_option maxRecDepth 20000 in
theorem ggX7_takeApart_X7_checkOf : GoodIn wsX7_takeApart wsX7_checkOf := goodIn_r _ [19] (by decide +kernel) (by decide +kernel)
set_option maxRecDepth 20000 in
theorem ggX7_takeApart_X7_isKnown : GoodIn wsX7_takeApart wsX7_isKnown := goodIn_r _ [23, 6, 24, 25, 26, 27, 28, 29, 30, 31, 32, 33, 34, 35, 36, 37, 38, 39, 40, 41, 42, 43, 44, 45, 46, 47, 48, 49, 50, 51, 52, 53, 54, 55] (by decide +kernel) (by decide +kernel)
set_option maxRecDepth 20000 in
theorem ggX7_prefix_X7_prefixes : GoodIn wsX7_prefix wsX7_prefixes := goodIn_r _ [10, 2, 11, 12, 13, 14, 15, 16, 17, 18, 19, 20, 21, 22, 23, 24, 25, 26, 27, 28, 29, 30, 31, 32, 33, 34, 35, 36, 37, 38, 39, 40, 41, 42] (by decide +kernel) (by decide +kernel)
set_option maxRecDepth 20000 in
theorem ggX7_needs_X7_isKnown : GoodIn wsX7_needs wsX7_isKnown := goodIn_r _ [7, 8, 9, 10, 11, 12, 13, 14, 15, 16, 17, 18, 19, 20, 21, 22, 23, 24, 25, 26, 27, 28, 29, 30, 31, 32, 33, 34, 35, 36, 37, 38, 39, 40] (by decide +kernel) (by decide +kernel)
set_option maxRecDepth 20000 in
theorem ggX7_field_X7_isKnown : GoodIn wsX7_field wsX7_isKnown := goodIn_r _ [13, 5, 14, 15, 16, 17, 18, 19, 20, 21, 22, 23, 24, 25, 26, 27, 28, 29, 30, 31, 32, 33, 34, 35, 36, 37, 38, 39, 40, 41, 42, 43, 44, 45] (by decide +kernel) (by decide +kernel)
set_option maxRecDepth 20000 in
theorem ggX7_make_X7_size : GoodIn wsX7_make wsX7_size := goodIn_r _ [15, 1, 6, 8, 4, 31, 32, 33, 34, 35, 36, 37, 38, 39, 40, 41, 42, 43, 44, 45, 46, 47, 48, 49, 50, 51, 52, 53, 54, 55, 56, 57, 58, 59, 60, 61, 62] (by decide +kernel) (by decide +kernel)
set_option maxRecDepth 20000 in
theorem ggX7_make_X7_checkOf : GoodIn wsX7_make wsX7_checkOf := goodIn_r _ [18] (by decide +kernel) (by decide +kernel)
set_option maxRecDepth 20000 in
theorem ggX7_make_X7_width : GoodIn wsX7_make wsX7_width := goodIn_r _ [22, 23, 31, 32, 33, 34, 35, 36, 37, 38, 39, 40, 41, 42, 43, 44, 45, 46, 47, 48, 49, 50, 51, 52, 53, 54, 55, 56, 57, 58, 59, 60, 61, 62] (by decide +kernel) (by decide +kernel)
set_option maxRecDepth 20000 in
theorem ggX7_make_X7_place : GoodIn wsX7_make wsX7_place := goodIn_r _ [27, 23, 19, 20, 21, 14, 22, 31, 32, 33, 34, 35, 36, 37, 38, 39, 40, 41, 42, 43, 44, 45, 46, 47, 48, 49, 50, 51, 52, 53, 54, 55, 56, 57, 58, 59, 60, 61, 62] (by decide +kernel) (by decide +kernel)
set_option maxRecDepth 20000 in
theorem ggX7_make_X7_bit : GoodIn wsX7_make wsX7_bit := goodIn_r _ [30] (by decide +kernel) (by decide +kernel)
set_option maxRecDepth 20000 in
theorem ggX7_clear_X7_forget : GoodIn wsX7_clear wsX7_forget := goodIn_r _ [9, 10, 11, 12, 13, 14, 15, 16, 17, 18, 19, 20, 21, 22, 23, 24, 25, 26, 27, 28, 29, 30, 31, 32, 33, 34, 35, 36, 37, 38, 39, 40, 41, 42, 43] (by decide +kernel) (by decide +kernel)
set_option maxRecDepth 20000 in
theorem ggX7_parse_X7_forget : GoodIn wsX7_parse wsX7_forget := goodIn_r _ [9, 10, 11, 52, 53, 54, 55, 56, 57, 58, 59, 60, 61, 62, 63, 64, 65, 66, 67, 68, 69, 70, 71, 72, 73, 74, 75, 76, 77, 78, 79, 80, 81, 82, 83] (by decide +kernel) (by decide +kernel)
set_option maxRecDepth 20000 in
theorem ggX7_parse_X7_width : GoodIn wsX7_parse wsX7_width := goodIn_r _ [15, 16, 52, 53, 54, 55, 56, 57, 58, 59, 60, 61, 62, 63, 64, 65, 66, 67, 68, 69, 70, 71, 72, 73, 74, 75, 76, 77, 78, 79, 80, 81, 82, 83] (by decide +kernel) (by decide +kernel)
set_option maxRecDepth 20000 in
theorem ggX7_parse_X7_mend : GoodIn wsX7_parse wsX7_mend := goodIn_r _ [20, 21, 16, 3, 12, 13, 14, 8, 15, 22, 23, 24, 25, 26, 27, 28, 52, 53, 54, 55, 56, 57, 58, 59, 60, 61, 62, 63, 64, 65, 66, 67, 68, 69, 70, 71, 72, 73, 74, 75, 76, 77, 78, 79, 80, 81, 82, 83] (by decide +kernel) (by decide +kernel)
set_option maxRecDepth 20000 in
theorem ggX7_parse_X7_put : GoodIn wsX7_parse wsX7_put := goodIn_r _ [32, 33, 4, 52, 53, 54, 55, 56, 57, 58, 59, 60, 61, 62, 63, 64, 65, 66, 67, 68, 69, 70, 71, 72, 73, 74, 75, 76, 77, 78, 79, 80, 81, 82, 83] (by decide +kernel) (by decide +kernel)
set_option maxRecDepth 20000 in
theorem ggX7_parse_X7_takeApart : GoodIn wsX7_parse wsX7_takeApart := goodIn_r _ [37, 4, 33, 11, 38, 39, 40, 41, 42, 43, 44, 10, 5, 6, 7, 8, 9, 45, 46, 47, 48, 49, 50, 51, 52, 53, 54, 55, 56, 57, 58, 59, 60, 61, 62, 63, 64, 65, 66, 67, 68, 69, 70, 71, 72, 73, 74, 75, 76, 77, 78, 79, 80, 81, 82, 83] (by decide +kernel) (by decide +kernel)
set_option maxRecDepth 20000 in
theorem ggX7_parseTyped_X7_put : GoodIn wsX7_parseTyped wsX7_put := goodIn_r _ [9, 10, 3, 35, 36, 37, 38, 39, 40, 41, 42, 43, 44, 45, 46, 47, 48, 49, 50, 51, 52, 53, 54, 55, 56, 57, 58, 59, 60, 61, 62, 63, 64, 65, 66] (by decide +kernel) (by decide +kernel)
set_option maxRecDepth 20000 in
theorem ggX7_parseTyped_X7_takeApart : GoodIn wsX7_parseTyped wsX7_takeApart := goodIn_r _ [14, 3, 10, 15, 16, 17, 18, 19, 20, 21, 22, 23, 24, 25, 26, 8, 27, 28, 29, 30, 31, 32, 33, 34, 35, 36, 37, 38, 39, 40, 41, 42, 43, 44, 45, 46, 47, 48, 49, 50, 51, 52, 53, 54, 55, 56, 57, 58, 59, 60, 61, 62, 63, 64, 65, 66] (by decide +kernel) (by decide +kernel)
set_option maxRecDepth 20000 in
theorem ggX7_check_X7_checkOf : GoodIn wsX7_check wsX7_checkOf := goodIn_r _ [7] (by decide +kernel) (by decide +kernel)
set_option maxRecDepth 20000 in
theorem ggX7_scan_X7_labelNow : GoodIn wsX7_scan wsX7_labelNow := goodIn_r _ [12, 6, 13, 2, 14, 5, 15, 16, 17, 18, 23, 24, 25, 26, 27, 28, 29, 30, 31, 32, 33, 34, 35, 36, 37, 38, 39, 40, 41, 42, 43, 44, 45, 46, 47, 48, 49, 50, 51, 52, 53, 54] (by decide +kernel) (by decide +kernel)
set_option maxRecDepth 20000 in
theorem ggX7_scan_X7_keep : GoodIn wsX7_scan wsX7_keep := goodIn_r _ [22, 6, 13, 2, 14, 5, 15, 16, 17, 18, 7, 23, 24, 25, 26, 27, 28, 29, 30, 31, 32, 33, 34, 35, 36, 37, 38, 39, 40, 41, 42, 43, 44, 45, 46, 47, 48, 49, 50, 51, 52, 53, 54] (by decide +kernel) (by decide +kernel)
set_option maxRecDepth 20000 in
theorem ggX7_count_X7_prefixes : GoodIn wsX7_count wsX7_prefixes := goodIn_r _ [13, 14, 15, 16, 17, 18, 19, 20, 21, 22, 23, 24, 25, 26, 27, 28, 29, 30, 31, 32, 33, 34, 35, 36, 37, 38, 39, 40, 41, 42, 43, 44, 45, 46] (by decide +kernel) (by decide +kernel)
