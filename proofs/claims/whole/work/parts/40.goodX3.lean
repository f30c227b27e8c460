set_option maxRecDepth 20000 in
theorem ggX3_init_X0_init : GoodIn wsX3_init wsX0_init := goodIn_r _ [21, 22, 2, 3, 23, 17, 18, 24, 25, 26, 27, 28, 29, 30, 41, 39, 40] (by decide +kernel) (by decide +kernel)
set_option maxRecDepth 20000 in
theorem gX3_init_X0_init_n32 : GoodIn wsX3_init (wsX0_init) := ggX3_init_X0_init
set_option maxRecDepth 20000 in
theorem ggX3_init_X2_init : GoodIn wsX3_init wsX2_init := goodIn_r _ [27, 28, 2, 3, 29, 30, 41] (by decide +kernel) (by decide +kernel)
set_option maxRecDepth 20000 in
theorem gX3_init_X2_init_n42 : GoodIn wsX3_init (wsX2_init) := ggX3_init_X2_init
set_option maxRecDepth 20000 in
theorem ggX3_kind_X3_isWidth : GoodIn wsX3_kind wsX3_isWidth := goodIn_r _ [9] (by decide +kernel) (by decide +kernel)
set_option maxRecDepth 20000 in
theorem gX3_kind_X3_isWidth : GoodIn wsX3_kind (va_wsS RX3 47 yX3_isWidth wsX3_isWidth) := goodIn_app (goodIn_of _ (by decide +kernel)) ggX3_kind_X3_isWidth
set_option maxRecDepth 20000 in
theorem ggX3_kind_X3_isSlope : GoodIn wsX3_kind wsX3_isSlope := goodIn_r _ [12, 13] (by decide +kernel) (by decide +kernel)
set_option maxRecDepth 20000 in
theorem gX3_kind_X3_isSlope : GoodIn wsX3_kind (va_wsS RX3 51 yX3_isSlope wsX3_isSlope) := goodIn_app (goodIn_of _ (by decide +kernel)) ggX3_kind_X3_isSlope
set_option maxRecDepth 20000 in
theorem ggX3_kind_X3_isOffset : GoodIn wsX3_kind wsX3_isOffset := goodIn_r _ [16, 17, 18] (by decide +kernel) (by decide +kernel)
set_option maxRecDepth 20000 in
theorem gX3_kind_X3_isOffset : GoodIn wsX3_kind (va_wsS RX3 55 yX3_isOffset wsX3_isOffset) := goodIn_app (goodIn_of _ (by decide +kernel)) ggX3_kind_X3_isOffset
set_option maxRecDepth 20000 in
theorem ggX3_kind_X1_init : GoodIn wsX3_kind wsX1_init := goodIn_r _ [20, 21, 22, 23, 24, 25, 26, 27, 28, 29, 30, 39, 40, 41, 42, 43, 44, 45] (by decide +kernel) (by decide +kernel)
set_option maxRecDepth 20000 in
theorem gX3_kind_X1_init_n59 : GoodIn wsX3_kind (wsX1_init) := ggX3_kind_X1_init
set_option maxRecDepth 20000 in
theorem ggX3_rule_X3_find : GoodIn wsX3_rule wsX3_find := goodIn_r _ [5, 6, 7, 15, 16, 17, 18, 19, 20, 21, 22] (by decide +kernel) (by decide +kernel)
set_option maxRecDepth 20000 in
theorem gX3_rule_X3_find : GoodIn wsX3_rule (wsV RX3 62 RX3 yX3_find wsX3_find) := goodIn_app (goodIn_of _ (by decide +kernel)) ggX3_rule_X3_find
set_option maxRecDepth 20000 in
theorem ggX3_apply_X3_find : GoodIn wsX3_apply wsX3_find := goodIn_r _ [9, 10, 11, 134, 135, 136, 137, 138, 139, 140, 141] (by decide +kernel) (by decide +kernel)
set_option maxRecDepth 20000 in
theorem gX3_apply_X3_find : GoodIn wsX3_apply (wsV RX3 62 RX3 yX3_find wsX3_find) := goodIn_app (goodIn_of _ (by decide +kernel)) ggX3_apply_X3_find
set_option maxRecDepth 20000 in
theorem ggX3_apply_X0_take : GoodIn wsX3_apply wsX0_take := goodIn_r _ [15, 16, 17, 18, 19, 20, 21, 22, 23, 24, 25, 26, 27, 28, 29, 30, 31, 32, 33, 34, 35, 149, 150, 142, 143, 144, 145, 146, 147, 148, 151] (by decide +kernel) (by decide +kernel)
set_option maxRecDepth 20000 in
theorem gX3_apply_X0_take_n72 : GoodIn wsX3_apply (wsX0_take) := ggX3_apply_X0_take
set_option maxRecDepth 20000 in
theorem ggX3_apply_X0_sign : GoodIn wsX3_apply wsX0_sign := goodIn_r _ [38, 16, 39, 25, 40, 41, 42, 43, 44, 45, 28, 46, 47, 48, 149, 150, 151] (by decide +kernel) (by decide +kernel)
set_option maxRecDepth 20000 in
theorem gX3_apply_X0_sign_n76 : GoodIn wsX3_apply (wsX0_sign) := ggX3_apply_X0_sign
set_option maxRecDepth 20000 in
theorem ggX3_apply_X3_putQuotientByZero : GoodIn wsX3_apply wsX3_putQuotientByZero := goodIn_r _ [52, 3, 53, 36, 13, 37, 38, 16, 39, 25, 40, 41, 42, 43, 44, 45, 28, 46, 47, 48, 54, 19, 55, 56, 23, 57, 22, 58, 59, 60, 61, 62, 63, 64, 8, 65, 66, 67, 68, 69, 17, 70, 71, 72, 73, 74, 75, 76, 29, 77, 78, 79, 80, 30, 31, 32, 81, 82, 83, 84, 85, 86, 87, 88, 24, 26, 27, 89, 90, 91, 92, 93, 94, 95, 96, 97, 98, 99, 100, 33, 34, 35, 101, 102, 103, 104, 105, 106, 107, 108, 109, 110, 111, 112, 113, 114, 115, 18, 20, 21, 134, 135, 136, 137, 138, 139, 140, 141, 149, 150, 151, 142, 143, 144, 145, 146, 147, 148] (by decide +kernel) (by decide +kernel)
set_option maxRecDepth 20000 in
theorem gX3_apply_X3_putQuotientByZero : GoodIn wsX3_apply (wsV RX3 87 RX3 yX3_putQuotientByZero wsX3_putQuotientByZero) := goodIn_app (goodIn_of _ (by decide +kernel)) ggX3_apply_X3_putQuotientByZero
set_option maxRecDepth 20000 in
theorem ggX3_apply_X3_combine : GoodIn wsX3_apply wsX3_combine := goodIn_r _ [119, 3, 4, 120, 121, 13, 122, 123, 16, 17, 124, 25, 125, 126, 28, 127, 33, 34, 35, 29, 70, 71, 72, 73, 74, 75, 76, 77, 78, 79, 80, 128, 129, 130, 131, 132, 133, 84, 46, 47, 48, 30, 31, 32, 134, 135, 136, 137, 138, 139, 140, 141, 149, 150, 151] (by decide +kernel) (by decide +kernel)
set_option maxRecDepth 20000 in
theorem gX3_apply_X3_combine : GoodIn wsX3_apply (wsV RX3 91 RX3 yX3_combine wsX3_combine) := goodIn_app (goodIn_of _ (by decide +kernel)) ggX3_apply_X3_combine
set_option maxRecDepth 20000 in
theorem ggX3_apply_X3_put : GoodIn wsX3_apply wsX3_put := goodIn_r _ [65, 3, 66, 53, 67, 13, 68, 69, 16, 17, 70, 25, 71, 72, 73, 74, 75, 76, 28, 29, 77, 78, 79, 80, 30, 31, 32, 81, 82, 83, 84, 46, 47, 48, 85, 86, 87, 88, 24, 26, 27, 42, 43, 44, 45, 89, 90, 91, 92, 39, 40, 41, 93, 94, 95, 96, 97, 98, 99, 100, 33, 34, 35, 101, 102, 103, 104, 105, 106, 107, 108, 19, 109, 110, 58, 59, 60, 61, 23, 57, 22, 111, 54, 55, 56, 112, 113, 114, 8, 115, 18, 20, 21, 134, 135, 136, 137, 138, 139, 140, 141, 142, 143, 144, 145, 146, 147, 148, 149, 150, 151] (by decide +kernel) (by decide +kernel)
set_option maxRecDepth 20000 in
theorem gX3_apply_X3_put : GoodIn wsX3_apply (wsV RX3 95 RX3 yX3_put wsX3_put) := goodIn_app (goodIn_of _ (by decide +kernel)) ggX3_apply_X3_put
set_option maxRecDepth 20000 in
theorem ggX3_convert_X3_find : GoodIn wsX3_convert wsX3_find := goodIn_r _ [6, 7, 8, 106, 107, 108, 109, 110, 111, 112, 113] (by decide +kernel) (by decide +kernel)
set_option maxRecDepth 20000 in
theorem gX3_convert_X3_find : GoodIn wsX3_convert (wsV RX3 62 RX3 yX3_find wsX3_find) := goodIn_app (goodIn_of _ (by decide +kernel)) ggX3_convert_X3_find
set_option maxRecDepth 20000 in
theorem ggX3_convert_X0_take : GoodIn wsX3_convert wsX0_take := goodIn_r _ [12, 13, 14, 15, 16, 17, 18, 19, 20, 21, 22, 23, 24, 25, 26, 27, 28, 29, 30, 31, 32, 114, 115, 116, 117, 118, 119, 120, 121, 122, 123] (by decide +kernel) (by decide +kernel)
set_option maxRecDepth 20000 in
theorem gX3_convert_X0_take_n72 : GoodIn wsX3_convert (wsX0_take) := ggX3_convert_X0_take
set_option maxRecDepth 20000 in
theorem ggX3_convert_X3_put : GoodIn wsX3_convert wsX3_put := goodIn_r _ [36, 1, 37, 38, 39, 10, 40, 41, 13, 14, 42, 22, 43, 44, 45, 46, 47, 48, 25, 26, 49, 50, 51, 52, 27, 28, 29, 53, 54, 55, 56, 57, 58, 59, 60, 61, 62, 63, 21, 23, 24, 64, 65, 66, 67, 68, 69, 70, 71, 72, 73, 74, 75, 76, 77, 78, 79, 80, 81, 82, 30, 31, 32, 83, 84, 85, 86, 87, 88, 89, 90, 16, 91, 92, 93, 94, 95, 96, 20, 97, 19, 98, 99, 100, 101, 102, 103, 104, 5, 105, 15, 17, 18, 106, 107, 108, 109, 110, 111, 112, 113, 116, 117, 118, 119, 120, 121, 122, 114, 115, 123] (by decide +kernel) (by decide +kernel)
set_option maxRecDepth 20000 in
theorem gX3_convert_X3_put : GoodIn wsX3_convert (wsV RX3 95 RX3 yX3_put wsX3_put) := goodIn_app (goodIn_of _ (by decide +kernel)) ggX3_convert_X3_put
set_option maxRecDepth 20000 in
theorem ggX3_physical_X3_find : GoodIn wsX3_physical wsX3_find := goodIn_r _ [8, 9, 10, 58, 59, 60, 61, 62, 63, 64, 65] (by decide +kernel) (by decide +kernel)
set_option maxRecDepth 20000 in
theorem gX3_physical_X3_find : GoodIn wsX3_physical (wsV RX3 62 RX3 yX3_find wsX3_find) := goodIn_app (goodIn_of _ (by decide +kernel)) ggX3_physical_X3_find
set_option maxRecDepth 20000 in
theorem ggX3_physical_X0_take : GoodIn wsX3_physical wsX0_take := goodIn_r _ [14, 15, 16, 17, 18, 19, 20, 21, 22, 23, 24, 25, 26, 27, 28, 29, 30, 31, 32, 33, 34, 66, 67, 68, 69, 70, 71, 72, 73, 74, 75] (by decide +kernel) (by decide +kernel)
set_option maxRecDepth 20000 in
theorem gX3_physical_X0_take_n72 : GoodIn wsX3_physical (wsX0_take) := ggX3_physical_X0_take
set_option maxRecDepth 20000 in
theorem ggX3_physical_X0_reduce : GoodIn wsX3_physical wsX0_reduce := goodIn_r _ [37, 15, 38, 16, 39, 24, 40, 41, 27, 29, 30, 31, 28, 42, 43, 44, 45, 46, 47, 48, 49, 50, 51, 52, 53, 54, 55, 56, 12, 57, 66, 67, 75] (by decide +kernel) (by decide +kernel)
set_option maxRecDepth 20000 in
theorem gX3_physical_X0_reduce_n101 : GoodIn wsX3_physical (wsX0_reduce) := ggX3_physical_X0_reduce
set_option maxRecDepth 20000 in
theorem ggX3_physical_X2_bitsFrom : GoodIn wsX3_physical wsX2_bitsFrom := goodIn_r _ [44, 45, 46, 47, 24, 48, 27, 75] (by decide +kernel) (by decide +kernel)
set_option maxRecDepth 20000 in
theorem gX3_physical_X2_bitsFrom_n108 : GoodIn wsX3_physical (wsX2_bitsFrom) := ggX3_physical_X2_bitsFrom
set_option maxRecDepth 20000 in
theorem ggX3_text_X3_find : GoodIn wsX3_text wsX3_find := goodIn_r _ [7, 8, 9, 79, 80, 81, 82, 83, 84, 85, 86] (by decide +kernel) (by decide +kernel)
set_option maxRecDepth 20000 in
theorem gX3_text_X3_find : GoodIn wsX3_text (wsV RX3 62 RX3 yX3_find wsX3_find) := goodIn_app (goodIn_of _ (by decide +kernel)) ggX3_text_X3_find
set_option maxRecDepth 20000 in
theorem ggX3_text_X0_take : GoodIn wsX3_text wsX0_take := goodIn_r _ [13, 14, 15, 16, 17, 18, 19, 20, 21, 22, 23, 24, 25, 26, 27, 28, 29, 30, 31, 32, 33, 87, 88, 89, 90, 91, 92, 93, 94, 95, 96] (by decide +kernel) (by decide +kernel)
set_option maxRecDepth 20000 in
theorem gX3_text_X0_take_n72 : GoodIn wsX3_text (wsX0_take) := ggX3_text_X0_take
set_option maxRecDepth 20000 in
theorem ggX3_text_X2_isNegative : GoodIn wsX3_text wsX2_isNegative := goodIn_r _ [36, 26, 96] (by decide +kernel) (by decide +kernel)
set_option maxRecDepth 20000 in
theorem gX3_text_X2_isNegative_n114 : GoodIn wsX3_text (wsX2_isNegative) := ggX3_text_X2_isNegative
set_option maxRecDepth 20000 in
theorem ggX3_text_X0_toMillionths : GoodIn wsX3_text wsX0_toMillionths := goodIn_r _ [39, 14, 40, 15, 41, 42, 34, 23, 35, 36, 26, 28, 29, 30, 27, 43, 44, 45, 46, 47, 48, 49, 31, 32, 33, 50, 51, 52, 87, 88, 96] (by decide +kernel) (by decide +kernel)
set_option maxRecDepth 20000 in
theorem gX3_text_X0_toMillionths_n118 : GoodIn wsX3_text (wsX0_toMillionths) := ggX3_text_X0_toMillionths
set_option maxRecDepth 20000 in
theorem ggX3_text_X2_isZero : GoodIn wsX3_text wsX2_isZero := goodIn_r _ [55, 56, 57, 58, 23, 59, 26, 96] (by decide +kernel) (by decide +kernel)
set_option maxRecDepth 20000 in
theorem gX3_text_X2_isZero_n122 : GoodIn wsX3_text (wsX2_isZero) := ggX3_text_X2_isZero
set_option maxRecDepth 20000 in
theorem ggX3_text_X3_writePlaces : GoodIn wsX3_text wsX3_writePlaces := goodIn_r _ [63, 64, 2, 50, 23, 51, 52, 26, 65, 66, 67, 6, 68, 69, 70, 71, 72, 73, 74, 79, 80, 81, 82, 83, 84, 85, 86, 96] (by decide +kernel) (by decide +kernel)
set_option maxRecDepth 20000 in
theorem gX3_text_X3_writePlaces : GoodIn wsX3_text (wsV RX3 125 RX3 yX3_writePlaces wsX3_writePlaces) := goodIn_app (goodIn_of _ (by decide +kernel)) ggX3_text_X3_writePlaces
set_option maxRecDepth 20000 in
theorem ggX3_text_X3_writeWholePart : GoodIn wsX3_text wsX3_writeWholePart := goodIn_r _ [78, 64, 50, 23, 51, 52, 26, 65, 66, 67, 6, 68, 69, 70, 71, 72, 73, 2, 74, 53, 54, 55, 56, 57, 58, 59, 96, 79, 80, 81, 82, 83, 84, 85, 86] (by decide +kernel) (by decide +kernel)
set_option maxRecDepth 20000 in
theorem gX3_text_X3_writeWholePart : GoodIn wsX3_text (wsV RX3 128 RX3 yX3_writeWholePart wsX3_writeWholePart) := goodIn_app (goodIn_of _ (by decide +kernel)) ggX3_text_X3_writeWholePart
set_option maxRecDepth 20000 in
theorem ggX3_text_X3_writeBefore : GoodIn wsX3_text wsX3_writeBefore := goodIn_r _ [73, 2, 74, 79, 80, 81, 82, 83, 84, 85, 86] (by decide +kernel) (by decide +kernel)
set_option maxRecDepth 20000 in
theorem gX3_text_X3_writeBefore : GoodIn wsX3_text (wsV RX3 131 RX3 yX3_writeBefore wsX3_writeBefore) := goodIn_app (goodIn_of _ (by decide +kernel)) ggX3_text_X3_writeBefore
set_option maxRecDepth 20000 in
theorem ggX3_bound_X3_find : GoodIn wsX3_bound wsX3_find := goodIn_r _ [5, 6, 7, 19, 20, 21, 22, 23, 24, 25, 26] (by decide +kernel) (by decide +kernel)
set_option maxRecDepth 20000 in
theorem gX3_bound_X3_find : GoodIn wsX3_bound (wsV RX3 62 RX3 yX3_find wsX3_find) := goodIn_app (goodIn_of _ (by decide +kernel)) ggX3_bound_X3_find
set_option maxRecDepth 20000 in
theorem ggX3_bound_X1_least : GoodIn wsX3_bound wsX1_least := goodIn_r _ [11, 12, 13, 14, 27, 28, 29, 30, 31, 32, 33] (by decide +kernel) (by decide +kernel)
set_option maxRecDepth 20000 in
theorem gX3_bound_X1_least_n140 : GoodIn wsX3_bound (wsX1_least) := ggX3_bound_X1_least
set_option maxRecDepth 20000 in
theorem ggX3_bound_X1_greatest : GoodIn wsX3_bound wsX1_greatest := goodIn_r _ [17, 12, 13, 14, 18, 8, 10, 9, 11, 27, 28, 29, 30, 31, 32, 33] (by decide +kernel) (by decide +kernel)
set_option maxRecDepth 20000 in
theorem gX3_bound_X1_greatest_n144 : GoodIn wsX3_bound (wsX1_greatest) := ggX3_bound_X1_greatest
set_option maxRecDepth 20000 in
theorem ggX3_compare_X3_find : GoodIn wsX3_compare wsX3_find := goodIn_r _ [8, 9, 10, 66, 67, 68, 69, 70, 71, 72, 73] (by decide +kernel) (by decide +kernel)
set_option maxRecDepth 20000 in
theorem gX3_compare_X3_find : GoodIn wsX3_compare (wsV RX3 62 RX3 yX3_find wsX3_find) := goodIn_app (goodIn_of _ (by decide +kernel)) ggX3_compare_X3_find
set_option maxRecDepth 20000 in
theorem ggX3_compare_X0_take : GoodIn wsX3_compare wsX0_take := goodIn_r _ [14, 15, 16, 17, 18, 19, 20, 21, 22, 23, 24, 25, 26, 27, 28, 29, 30, 31, 32, 33, 34, 74, 75, 76, 77, 78, 79, 80, 81, 82, 83] (by decide +kernel) (by decide +kernel)
set_option maxRecDepth 20000 in
theorem gX3_compare_X0_take_n72 : GoodIn wsX3_compare (wsX0_take) := ggX3_compare_X0_take
set_option maxRecDepth 20000 in
theorem ggX3_compare_X0_add : GoodIn wsX3_compare wsX0_add := goodIn_r _ [37, 15, 16, 38, 24, 39, 40, 27, 41, 32, 33, 34, 28, 42, 43, 44, 45, 46, 47, 48, 49, 50, 51, 52, 74, 75, 83] (by decide +kernel) (by decide +kernel)
set_option maxRecDepth 20000 in
theorem gX3_compare_X0_add_n149 : GoodIn wsX3_compare (wsX0_add) := ggX3_compare_X0_add
set_option maxRecDepth 20000 in
theorem ggX3_compare_X0_sign : GoodIn wsX3_compare wsX0_sign := goodIn_r _ [55, 15, 56, 24, 57, 58, 59, 60, 61, 62, 27, 63, 64, 65, 74, 75, 83] (by decide +kernel) (by decide +kernel)
set_option maxRecDepth 20000 in
theorem gX3_compare_X0_sign_n76 : GoodIn wsX3_compare (wsX0_sign) := ggX3_compare_X0_sign
set_option maxRecDepth 20000 in
theorem ggX3_octet_X3_find : GoodIn wsX3_octet wsX3_find := goodIn_r _ [5, 6, 7, 16, 17, 18, 19, 20, 21, 22, 23] (by decide +kernel) (by decide +kernel)
set_option maxRecDepth 20000 in
theorem gX3_octet_X3_find : GoodIn wsX3_octet (wsV RX3 62 RX3 yX3_find wsX3_find) := goodIn_app (goodIn_of _ (by decide +kernel)) ggX3_octet_X3_find
set_option maxRecDepth 20000 in
theorem ggX3_octet_X1_octets : GoodIn wsX3_octet wsX1_octets := goodIn_r _ [11, 12, 24, 25, 26, 27, 28, 29, 30] (by decide +kernel) (by decide +kernel)
set_option maxRecDepth 20000 in
theorem gX3_octet_X1_octets_n153 : GoodIn wsX3_octet (wsX1_octets) := ggX3_octet_X1_octets
set_option maxRecDepth 20000 in
theorem ggX3_octet_X1_bits : GoodIn wsX3_octet wsX1_bits := goodIn_r _ [15, 12, 24, 25, 26, 27, 28, 29, 30] (by decide +kernel) (by decide +kernel)
set_option maxRecDepth 20000 in
theorem gX3_octet_X1_bits_n156 : GoodIn wsX3_octet (wsX1_bits) := ggX3_octet_X1_bits
set_option maxRecDepth 20000 in
theorem ggX3_half_X3_find : GoodIn wsX3_half wsX3_find := goodIn_r _ [5, 6, 7, 20, 21, 22, 23, 24, 25, 26, 27] (by decide +kernel) (by decide +kernel)
set_option maxRecDepth 20000 in
theorem gX3_half_X3_find : GoodIn wsX3_half (wsV RX3 62 RX3 yX3_find wsX3_find) := goodIn_app (goodIn_of _ (by decide +kernel)) ggX3_half_X3_find
set_option maxRecDepth 20000 in
theorem ggX3_half_X1_bits : GoodIn wsX3_half wsX1_bits := goodIn_r _ [11, 12, 13, 14, 15, 16, 17, 18, 19] (by decide +kernel) (by decide +kernel)
set_option maxRecDepth 20000 in
theorem gX3_half_X1_bits_n156 : GoodIn wsX3_half (wsX1_bits) := ggX3_half_X1_bits
set_option maxRecDepth 20000 in
theorem ggX3_combine_X0_add : GoodIn wsX3_combine wsX0_add := goodIn_r _ [7, 8, 9, 10, 11, 12, 13, 14, 15, 16, 17, 18, 19, 20, 21, 22, 23, 24, 25, 26, 27, 28, 29, 30, 52, 53, 54] (by decide +kernel) (by decide +kernel)
set_option maxRecDepth 20000 in
theorem gX3_combine_X0_add_n149 : GoodIn wsX3_combine (wsX0_add) := ggX3_combine_X0_add
set_option maxRecDepth 20000 in
theorem ggX3_combine_X0_multiply : GoodIn wsX3_combine wsX0_multiply := goodIn_r _ [33, 8, 9, 10, 11, 12, 13, 14, 15, 16, 17, 18, 19, 52, 53, 54] (by decide +kernel) (by decide +kernel)
set_option maxRecDepth 20000 in
theorem gX3_combine_X0_multiply_n169 : GoodIn wsX3_combine (wsX0_multiply) := ggX3_combine_X0_multiply
set_option maxRecDepth 20000 in
theorem ggX3_combine_X0_divide : GoodIn wsX3_combine wsX0_divide := goodIn_r _ [36, 8, 9, 37, 10, 11, 12, 13, 14, 15, 16, 17, 18, 19, 38, 39, 40, 41, 42, 43, 52, 53, 54] (by decide +kernel) (by decide +kernel)
set_option maxRecDepth 20000 in
theorem gX3_combine_X0_divide_n173 : GoodIn wsX3_combine (wsX0_divide) := ggX3_combine_X0_divide
set_option maxRecDepth 20000 in
theorem ggX3_putQuotientByZero_X0_sign : GoodIn wsX3_putQuotientByZero wsX0_sign := goodIn_r _ [6, 7, 8, 9, 10, 11, 12, 13, 14, 15, 16, 17, 18, 19, 108, 109, 110] (by decide +kernel) (by decide +kernel)
set_option maxRecDepth 20000 in
theorem gX3_putQuotientByZero_X0_sign_n76 : GoodIn wsX3_putQuotientByZero (wsX0_sign) := ggX3_putQuotientByZero_X0_sign
set_option maxRecDepth 20000 in
theorem ggX3_putQuotientByZero_X1_greatest : GoodIn wsX3_putQuotientByZero wsX1_greatest := goodIn_r _ [23, 24, 25, 26, 27, 28, 29, 21, 30, 111, 112, 113, 114, 115, 116, 117] (by decide +kernel) (by decide +kernel)
set_option maxRecDepth 20000 in
theorem gX3_putQuotientByZero_X1_greatest_n144 : GoodIn wsX3_putQuotientByZero (wsX1_greatest) := ggX3_putQuotientByZero_X1_greatest
set_option maxRecDepth 20000 in
theorem ggX3_putQuotientByZero_X1_least : GoodIn wsX3_putQuotientByZero wsX1_least := goodIn_r _ [30, 24, 25, 26, 111, 112, 113, 114, 115, 116, 117] (by decide +kernel) (by decide +kernel)
set_option maxRecDepth 20000 in
theorem gX3_putQuotientByZero_X1_least_n140 : GoodIn wsX3_putQuotientByZero (wsX1_least) := ggX3_putQuotientByZero_X1_least
set_option maxRecDepth 20000 in
theorem ggX3_putQuotientByZero_X3_put : GoodIn wsX3_putQuotientByZero wsX3_put := goodIn_r _ [35, 1, 36, 2, 37, 4, 38, 39, 7, 40, 41, 9, 42, 43, 44, 45, 46, 47, 16, 48, 49, 50, 51, 52, 53, 54, 55, 56, 57, 58, 59, 17, 18, 19, 60, 61, 62, 63, 64, 65, 66, 12, 13, 14, 15, 67, 68, 69, 70, 8, 10, 11, 71, 72, 73, 74, 75, 76, 77, 78, 79, 80, 81, 82, 83, 84, 85, 86, 87, 88, 89, 21, 90, 91, 27, 28, 29, 30, 24, 25, 26, 92, 20, 22, 23, 93, 94, 95, 34, 96, 97, 98, 99, 100, 101, 102, 103, 104, 105, 106, 107, 111, 112, 113, 114, 115, 116, 117, 108, 109, 110] (by decide +kernel) (by decide +kernel)
set_option maxRecDepth 20000 in
theorem gX3_putQuotientByZero_X3_put : GoodIn wsX3_putQuotientByZero (wsV RX3 95 RX3 yX3_put wsX3_put) := goodIn_app (goodIn_of _ (by decide +kernel)) ggX3_putQuotientByZero_X3_put
set_option maxRecDepth 20000 in
theorem ggX3_put_X0_toRawScale : GoodIn wsX3_put wsX0_toRawScale := goodIn_r _ [7, 8, 9, 10, 11, 12, 13, 14, 15, 16, 17, 18, 19, 20, 21, 22, 23, 24, 25, 26, 108, 109, 101, 102, 103, 104, 105, 106, 107, 110] (by decide +kernel) (by decide +kernel)
set_option maxRecDepth 20000 in
theorem gX3_put_X0_toRawScale_n176 : GoodIn wsX3_put (wsX0_toRawScale) := ggX3_put_X0_toRawScale
set_option maxRecDepth 20000 in
theorem ggX3_put_X0_round : GoodIn wsX3_put wsX0_round := goodIn_r _ [29, 8, 30, 9, 31, 11, 32, 33, 18, 24, 25, 26, 19, 34, 35, 36, 37, 38, 39, 40, 41, 42, 43, 44, 45, 46, 47, 48, 20, 21, 22, 23, 14, 15, 16, 17, 49, 50, 51, 52, 53, 54, 55, 56, 57, 5, 58, 59, 10, 12, 13, 60, 61, 62, 108, 109, 110] (by decide +kernel) (by decide +kernel)
set_option maxRecDepth 20000 in
theorem gX3_put_X0_round_n180 : GoodIn wsX3_put (wsX0_round) := ggX3_put_X0_round
set_option maxRecDepth 20000 in
theorem ggX3_put_X2_fitsLong : GoodIn wsX3_put wsX2_fitsLong := goodIn_r _ [65, 18, 19, 66, 67, 68, 11, 69, 20, 21, 22, 23, 110] (by decide +kernel) (by decide +kernel)
set_option maxRecDepth 20000 in
theorem gX3_put_X2_fitsLong_n184 : GoodIn wsX3_put (wsX2_fitsLong) := ggX3_put_X2_fitsLong
set_option maxRecDepth 20000 in
theorem ggX3_put_X2_bitsFrom : GoodIn wsX3_put wsX2_bitsFrom := goodIn_r _ [69, 20, 21, 22, 11, 23, 18, 110] (by decide +kernel) (by decide +kernel)
set_option maxRecDepth 20000 in
theorem gX3_put_X2_bitsFrom_n108 : GoodIn wsX3_put (wsX2_bitsFrom) := ggX3_put_X2_bitsFrom
set_option maxRecDepth 20000 in
theorem ggX3_put_X1_isRaw : GoodIn wsX3_put wsX1_isRaw := goodIn_r _ [73, 74, 75, 76, 71, 77, 78, 79, 80, 81, 82, 83, 84, 101, 102, 103, 104, 105, 106, 107] (by decide +kernel) (by decide +kernel)
set_option maxRecDepth 20000 in
theorem gX3_put_X1_isRaw_n187 : GoodIn wsX3_put (wsX1_isRaw) := ggX3_put_X1_isRaw
set_option maxRecDepth 20000 in
theorem ggX3_put_X3_beyond : GoodIn wsX3_put wsX3_beyond := goodIn_r _ [89, 2, 31, 11, 32, 33, 18, 75, 71, 76, 77, 78, 79, 80, 82, 83, 84, 74, 67, 68, 69, 20, 21, 22, 23, 90, 91, 92, 101, 102, 103, 104, 105, 106, 107, 93, 94, 95, 96, 97, 98, 99, 100, 110] (by decide +kernel) (by decide +kernel)
set_option maxRecDepth 20000 in
theorem gX3_put_X3_beyond : GoodIn wsX3_put (wsV RX3 190 RX3 yX3_beyond wsX3_beyond) := goodIn_app (goodIn_of _ (by decide +kernel)) ggX3_put_X3_beyond
set_option maxRecDepth 20000 in
theorem ggX3_beyond_X2_isNegative : GoodIn wsX3_beyond wsX2_isNegative := goodIn_r _ [5, 6, 43] (by decide +kernel) (by decide +kernel)
set_option maxRecDepth 20000 in
theorem gX3_beyond_X2_isNegative_n114 : GoodIn wsX3_beyond (wsX2_isNegative) := ggX3_beyond_X2_isNegative
set_option maxRecDepth 20000 in
theorem ggX3_beyond_X1_least : GoodIn wsX3_beyond wsX1_least := goodIn_r _ [10, 11, 12, 13, 28, 29, 30, 31, 32, 33, 34] (by decide +kernel) (by decide +kernel)
set_option maxRecDepth 20000 in
theorem gX3_beyond_X1_least_n140 : GoodIn wsX3_beyond (wsX1_least) := ggX3_beyond_X1_least
set_option maxRecDepth 20000 in
theorem ggX3_beyond_X1_greatest : GoodIn wsX3_beyond wsX1_greatest := goodIn_r _ [16, 11, 12, 13, 17, 7, 9, 8, 10, 28, 29, 30, 31, 32, 33, 34] (by decide +kernel) (by decide +kernel)
set_option maxRecDepth 20000 in
theorem gX3_beyond_X1_greatest_n144 : GoodIn wsX3_beyond (wsX1_greatest) := ggX3_beyond_X1_greatest
set_option maxRecDepth 20000 in
theorem ggX3_beyond_X2_bitsFrom : GoodIn wsX3_beyond wsX2_bitsFrom := goodIn_r _ [20, 21, 22, 23, 3, 24, 6, 43] (by decide +kernel) (by decide +kernel)
set_option maxRecDepth 20000 in
theorem gX3_beyond_X2_bitsFrom_n108 : GoodIn wsX3_beyond (wsX2_bitsFrom) := ggX3_beyond_X2_bitsFrom
set_option maxRecDepth 20000 in
theorem ggX3_beyond_X1_broughtIn : GoodIn wsX3_beyond wsX1_broughtIn := goodIn_r _ [27, 13, 11, 28, 29, 30, 31, 32, 33, 34] (by decide +kernel) (by decide +kernel)
set_option maxRecDepth 20000 in
theorem gX3_beyond_X1_broughtIn_n193 : GoodIn wsX3_beyond (wsX1_broughtIn) := ggX3_beyond_X1_broughtIn
set_option maxRecDepth 20000 in
theorem ggX3_writeDigit_X3_writeBefore : GoodIn wsX3_writeDigit wsX3_writeBefore := goodIn_r _ [6, 7, 8, 9, 10, 11, 12, 13, 14, 15, 16] (by decide +kernel) (by decide +kernel)
set_option maxRecDepth 20000 in
theorem gX3_writeDigit_X3_writeBefore : GoodIn wsX3_writeDigit (wsV RX3 131 RX3 yX3_writeBefore wsX3_writeBefore) := goodIn_app (goodIn_of _ (by decide +kernel)) ggX3_writeDigit_X3_writeBefore
set_option maxRecDepth 20000 in
theorem ggX3_writePlaces_X2_shorten : GoodIn wsX3_writePlaces wsX2_shorten := goodIn_r _ [6, 7, 27] (by decide +kernel) (by decide +kernel)
set_option maxRecDepth 20000 in
theorem gX3_writePlaces_X2_shorten_n200 : GoodIn wsX3_writePlaces (wsX2_shorten) := ggX3_writePlaces_X2_shorten
set_option maxRecDepth 20000 in
theorem ggX3_writePlaces_X3_writeDigit : GoodIn wsX3_writePlaces wsX3_writeDigit := goodIn_r _ [12, 13, 14, 15, 16, 11, 17, 2, 18, 19, 20, 21, 22, 23, 24, 25, 26] (by decide +kernel) (by decide +kernel)
set_option maxRecDepth 20000 in
theorem gX3_writePlaces_X3_writeDigit : GoodIn wsX3_writePlaces (wsV RX3 203 RX3 yX3_writeDigit wsX3_writeDigit) := goodIn_app (goodIn_of _ (by decide +kernel)) ggX3_writePlaces_X3_writeDigit
set_option maxRecDepth 20000 in
theorem ggX3_writePlaces_X3_writeBefore : GoodIn wsX3_writePlaces wsX3_writeBefore := goodIn_r _ [17, 2, 18, 19, 20, 21, 22, 23, 24, 25, 26] (by decide +kernel) (by decide +kernel)
set_option maxRecDepth 20000 in
theorem gX3_writePlaces_X3_writeBefore : GoodIn wsX3_writePlaces (wsV RX3 131 RX3 yX3_writeBefore wsX3_writeBefore) := goodIn_app (goodIn_of _ (by decide +kernel)) ggX3_writePlaces_X3_writeBefore
set_option maxRecDepth 20000 in
theorem ggX3_writeWholePart_X2_shorten : GoodIn wsX3_writeWholePart wsX2_shorten := goodIn_r _ [5, 6, 26] (by decide +kernel) (by decide +kernel)
set_option maxRecDepth 20000 in
theorem gX3_writeWholePart_X2_shorten_n200 : GoodIn wsX3_writeWholePart (wsX2_shorten) := ggX3_writeWholePart_X2_shorten
set_option maxRecDepth 20000 in
theorem ggX3_writeWholePart_X3_writeDigit : GoodIn wsX3_writeWholePart wsX3_writeDigit := goodIn_r _ [11, 12, 13, 14, 15, 10, 16, 17, 18, 27, 28, 29, 30, 31, 32, 33, 34] (by decide +kernel) (by decide +kernel)
set_option maxRecDepth 20000 in
theorem gX3_writeWholePart_X3_writeDigit : GoodIn wsX3_writeWholePart (wsV RX3 203 RX3 yX3_writeDigit wsX3_writeDigit) := goodIn_app (goodIn_of _ (by decide +kernel)) ggX3_writeWholePart_X3_writeDigit
set_option maxRecDepth 20000 in
theorem ggX3_writeWholePart_X2_isZero : GoodIn wsX3_writeWholePart wsX2_isZero := goodIn_r _ [21, 22, 23, 24, 3, 25, 6, 26] (by decide +kernel) (by decide +kernel)
set_option maxRecDepth 20000 in
theorem gX3_writeWholePart_X2_isZero_n122 : GoodIn wsX3_writeWholePart (wsX2_isZero) := ggX3_writeWholePart_X2_isZero
