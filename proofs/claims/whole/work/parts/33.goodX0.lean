set_option maxRecDepth 20000 in
theorem ggX0_init_X2_init : GoodIn wsX0_init wsX2_init := goodIn_r _ [10, 11, 2, 3, 12, 13, 14] (by decide +kernel) (by decide +kernel)
set_option maxRecDepth 20000 in
theorem gX0_init_X2_init_n11 : GoodIn wsX0_init (wsX2_init) := ggX0_init_X2_init
set_option maxRecDepth 20000 in
theorem ggX0_take_X1_broughtIn : GoodIn wsX0_take wsX1_broughtIn := goodIn_r _ [6, 7, 8, 23, 24, 25, 26, 27, 28, 29] (by decide +kernel) (by decide +kernel)
set_option maxRecDepth 20000 in
theorem gX0_take_X1_broughtIn_n21 : GoodIn wsX0_take (wsX1_broughtIn) := ggX0_take_X1_broughtIn
set_option maxRecDepth 20000 in
theorem ggX0_take_X2_setTo : GoodIn wsX0_take wsX2_setTo := goodIn_r _ [12, 13, 14, 30] (by decide +kernel) (by decide +kernel)
set_option maxRecDepth 20000 in
theorem gX0_take_X2_setTo_n27 : GoodIn wsX0_take (wsX2_setTo) := ggX0_take_X2_setTo
set_option maxRecDepth 20000 in
theorem ggX0_take_X2_scale : GoodIn wsX0_take wsX2_scale := goodIn_r _ [17, 13, 14, 30] (by decide +kernel) (by decide +kernel)
set_option maxRecDepth 20000 in
theorem gX0_take_X2_scale_n35 : GoodIn wsX0_take (wsX2_scale) := ggX0_take_X2_scale
set_option maxRecDepth 20000 in
theorem ggX0_take_X2_grow : GoodIn wsX0_take wsX2_grow := goodIn_r _ [20, 13, 14, 30] (by decide +kernel) (by decide +kernel)
set_option maxRecDepth 20000 in
theorem gX0_take_X2_grow_n44 : GoodIn wsX0_take (wsX2_grow) := ggX0_take_X2_grow
set_option maxRecDepth 20000 in
theorem ggX0_sign_X2_isZero : GoodIn wsX0_sign wsX2_isZero := goodIn_r _ [5, 6, 7, 8, 3, 9, 10, 16] (by decide +kernel) (by decide +kernel)
set_option maxRecDepth 20000 in
theorem gX0_sign_X2_isZero_n47 : GoodIn wsX0_sign (wsX2_isZero) := ggX0_sign_X2_isZero
set_option maxRecDepth 20000 in
theorem ggX0_sign_X2_isNegative : GoodIn wsX0_sign wsX2_isNegative := goodIn_r _ [13, 10, 16] (by decide +kernel) (by decide +kernel)
set_option maxRecDepth 20000 in
theorem gX0_sign_X2_isNegative_n51 : GoodIn wsX0_sign (wsX2_isNegative) := ggX0_sign_X2_isNegative
set_option maxRecDepth 20000 in
theorem ggX0_add_X2_multiply : GoodIn wsX0_add wsX2_multiply := goodIn_r _ [6, 7, 8, 9, 10, 4, 11, 12, 26] (by decide +kernel) (by decide +kernel)
set_option maxRecDepth 20000 in
theorem gX0_add_X2_multiply_n54 : GoodIn wsX0_add (wsX2_multiply) := ggX0_add_X2_multiply
set_option maxRecDepth 20000 in
theorem ggX0_add_X2_addTimes : GoodIn wsX0_add wsX2_addTimes := goodIn_r _ [15, 16, 17, 18, 4, 19, 7, 12, 20, 21, 22, 23, 26] (by decide +kernel) (by decide +kernel)
set_option maxRecDepth 20000 in
theorem gX0_add_X2_addTimes_n58 : GoodIn wsX0_add (wsX2_addTimes) := ggX0_add_X2_addTimes
set_option maxRecDepth 20000 in
theorem ggX0_multiply_X2_multiply : GoodIn wsX0_multiply wsX2_multiply := goodIn_r _ [6, 7, 8, 9, 10, 4, 11, 12, 15] (by decide +kernel) (by decide +kernel)
set_option maxRecDepth 20000 in
theorem gX0_multiply_X2_multiply_n54 : GoodIn wsX0_multiply (wsX2_multiply) := ggX0_multiply_X2_multiply
set_option maxRecDepth 20000 in
theorem ggX0_divide_X2_multiply : GoodIn wsX0_divide wsX2_multiply := goodIn_r _ [7, 8, 9, 10, 11, 5, 12, 13, 22] (by decide +kernel) (by decide +kernel)
set_option maxRecDepth 20000 in
theorem gX0_divide_X2_multiply_n54 : GoodIn wsX0_divide (wsX2_multiply) := ggX0_divide_X2_multiply
set_option maxRecDepth 20000 in
theorem ggX0_divide_X2_isNegative : GoodIn wsX0_divide wsX2_isNegative := goodIn_r _ [16, 8, 22] (by decide +kernel) (by decide +kernel)
set_option maxRecDepth 20000 in
theorem gX0_divide_X2_isNegative_n51 : GoodIn wsX0_divide (wsX2_isNegative) := ggX0_divide_X2_isNegative
set_option maxRecDepth 20000 in
theorem ggX0_divide_X2_scale : GoodIn wsX0_divide wsX2_scale := goodIn_r _ [19, 8, 13, 22] (by decide +kernel) (by decide +kernel)
set_option maxRecDepth 20000 in
theorem gX0_divide_X2_scale_n35 : GoodIn wsX0_divide (wsX2_scale) := ggX0_divide_X2_scale
set_option maxRecDepth 20000 in
theorem ggX0_toRawScale_X2_addTimes : GoodIn wsX0_toRawScale wsX2_addTimes := goodIn_r _ [6, 7, 8, 9, 4, 10, 11, 12, 13, 14, 15, 16, 29] (by decide +kernel) (by decide +kernel)
set_option maxRecDepth 20000 in
theorem gX0_toRawScale_X2_addTimes_n58 : GoodIn wsX0_toRawScale (wsX2_addTimes) := ggX0_toRawScale_X2_addTimes
set_option maxRecDepth 20000 in
theorem ggX0_toRawScale_X2_scale : GoodIn wsX0_toRawScale wsX2_scale := goodIn_r _ [19, 11, 12, 29] (by decide +kernel) (by decide +kernel)
set_option maxRecDepth 20000 in
theorem gX0_toRawScale_X2_scale_n35 : GoodIn wsX0_toRawScale (wsX2_scale) := ggX0_toRawScale_X2_scale
set_option maxRecDepth 20000 in
theorem ggX0_round_X2_isNegative : GoodIn wsX0_round wsX2_isNegative := goodIn_r _ [7, 8, 56] (by decide +kernel) (by decide +kernel)
set_option maxRecDepth 20000 in
theorem gX0_round_X2_isNegative_n51 : GoodIn wsX0_round (wsX2_isNegative) := ggX0_round_X2_isNegative
set_option maxRecDepth 20000 in
theorem ggX0_round_X2_scale : GoodIn wsX0_round wsX2_scale := goodIn_r _ [11, 8, 12, 56] (by decide +kernel) (by decide +kernel)
set_option maxRecDepth 20000 in
theorem gX0_round_X2_scale_n35 : GoodIn wsX0_round (wsX2_scale) := ggX0_round_X2_scale
set_option maxRecDepth 20000 in
theorem ggX0_round_X2_divide : GoodIn wsX0_round wsX2_divide := goodIn_r _ [15, 8, 16, 17, 18, 5, 19, 12, 20, 21, 22, 23, 24, 25, 26, 27, 28, 29, 30, 31, 32, 33, 34, 35, 56] (by decide +kernel) (by decide +kernel)
set_option maxRecDepth 20000 in
theorem gX0_round_X2_divide_n64 : GoodIn wsX0_round (wsX2_divide) := ggX0_round_X2_divide
set_option maxRecDepth 20000 in
theorem ggX0_round_X2_isZero : GoodIn wsX0_round wsX2_isZero := goodIn_r _ [38, 20, 21, 22, 5, 23, 8, 56] (by decide +kernel) (by decide +kernel)
set_option maxRecDepth 20000 in
theorem gX0_round_X2_isZero_n47 : GoodIn wsX0_round (wsX2_isZero) := ggX0_round_X2_isZero
set_option maxRecDepth 20000 in
theorem ggX0_round_X2_isOdd : GoodIn wsX0_round wsX2_isOdd := goodIn_r _ [41, 8, 56] (by decide +kernel) (by decide +kernel)
set_option maxRecDepth 20000 in
theorem gX0_round_X2_isOdd_n68 : GoodIn wsX0_round (wsX2_isOdd) := ggX0_round_X2_isOdd
set_option maxRecDepth 20000 in
theorem ggX0_round_X0_isRoundedAway : GoodIn wsX0_round wsX0_isRoundedAway := goodIn_r _ [46, 1, 47, 3, 2, 9, 5, 10, 11, 8, 12, 48, 49, 50, 32, 33, 34, 35, 28, 29, 30, 31, 36, 37, 38, 20, 21, 22, 23, 4, 6, 7, 54, 55, 56] (by decide +kernel) (by decide +kernel)
set_option maxRecDepth 20000 in
theorem gX0_round_X0_isRoundedAway : GoodIn wsX0_round (wsV RX0 71 RX0 yX0_isRoundedAway wsX0_isRoundedAway) := goodIn_app (goodIn_of _ (by decide +kernel)) ggX0_round_X0_isRoundedAway
set_option maxRecDepth 20000 in
theorem ggX0_round_X2_grow : GoodIn wsX0_round wsX2_grow := goodIn_r _ [53, 8, 12, 56] (by decide +kernel) (by decide +kernel)
set_option maxRecDepth 20000 in
theorem gX0_round_X2_grow_n44 : GoodIn wsX0_round (wsX2_grow) := ggX0_round_X2_grow
set_option maxRecDepth 20000 in
theorem ggX0_isRoundedAway_X2_scale : GoodIn wsX0_isRoundedAway wsX2_scale := goodIn_r _ [8, 9, 10, 34] (by decide +kernel) (by decide +kernel)
set_option maxRecDepth 20000 in
theorem gX0_isRoundedAway_X2_scale_n35 : GoodIn wsX0_isRoundedAway (wsX2_scale) := ggX0_isRoundedAway_X2_scale
set_option maxRecDepth 20000 in
theorem ggX0_isRoundedAway_X2_addTimes : GoodIn wsX0_isRoundedAway wsX2_addTimes := goodIn_r _ [13, 14, 15, 16, 6, 17, 9, 10, 18, 19, 20, 21, 34] (by decide +kernel) (by decide +kernel)
set_option maxRecDepth 20000 in
theorem gX0_isRoundedAway_X2_addTimes_n58 : GoodIn wsX0_isRoundedAway (wsX2_addTimes) := ggX0_isRoundedAway_X2_addTimes
set_option maxRecDepth 20000 in
theorem ggX0_isRoundedAway_X2_isZero : GoodIn wsX0_isRoundedAway wsX2_isZero := goodIn_r _ [24, 25, 26, 27, 6, 28, 9, 34] (by decide +kernel) (by decide +kernel)
set_option maxRecDepth 20000 in
theorem gX0_isRoundedAway_X2_isZero_n47 : GoodIn wsX0_isRoundedAway (wsX2_isZero) := ggX0_isRoundedAway_X2_isZero
set_option maxRecDepth 20000 in
theorem ggX0_isRoundedAway_X2_isNegative : GoodIn wsX0_isRoundedAway wsX2_isNegative := goodIn_r _ [31, 9, 34] (by decide +kernel) (by decide +kernel)
set_option maxRecDepth 20000 in
theorem gX0_isRoundedAway_X2_isNegative_n51 : GoodIn wsX0_isRoundedAway (wsX2_isNegative) := ggX0_isRoundedAway_X2_isNegative
set_option maxRecDepth 20000 in
theorem ggX0_reduce_X2_isNegative : GoodIn wsX0_reduce wsX2_isNegative := goodIn_r _ [7, 8, 32] (by decide +kernel) (by decide +kernel)
set_option maxRecDepth 20000 in
theorem gX0_reduce_X2_isNegative_n51 : GoodIn wsX0_reduce (wsX2_isNegative) := ggX0_reduce_X2_isNegative
set_option maxRecDepth 20000 in
theorem ggX0_reduce_X2_scale : GoodIn wsX0_reduce wsX2_scale := goodIn_r _ [11, 8, 12, 32] (by decide +kernel) (by decide +kernel)
set_option maxRecDepth 20000 in
theorem gX0_reduce_X2_scale_n35 : GoodIn wsX0_reduce (wsX2_scale) := ggX0_reduce_X2_scale
set_option maxRecDepth 20000 in
theorem ggX0_reduce_X2_bitsFrom : GoodIn wsX0_reduce wsX2_bitsFrom := goodIn_r _ [15, 16, 17, 18, 5, 19, 8, 32] (by decide +kernel) (by decide +kernel)
set_option maxRecDepth 20000 in
theorem gX0_reduce_X2_bitsFrom_n77 : GoodIn wsX0_reduce (wsX2_bitsFrom) := ggX0_reduce_X2_bitsFrom
set_option maxRecDepth 20000 in
theorem ggX0_reduce_X2_copy : GoodIn wsX0_reduce wsX2_copy := goodIn_r _ [22, 8, 32] (by decide +kernel) (by decide +kernel)
set_option maxRecDepth 20000 in
theorem gX0_reduce_X2_copy_n81 : GoodIn wsX0_reduce (wsX2_copy) := ggX0_reduce_X2_copy
set_option maxRecDepth 20000 in
theorem ggX0_reduce_X2_shorten : GoodIn wsX0_reduce wsX2_shorten := goodIn_r _ [25, 8, 32] (by decide +kernel) (by decide +kernel)
set_option maxRecDepth 20000 in
theorem gX0_reduce_X2_shorten_n84 : GoodIn wsX0_reduce (wsX2_shorten) := ggX0_reduce_X2_shorten
set_option maxRecDepth 20000 in
theorem ggX0_reduce_X0_commonDivisor : GoodIn wsX0_reduce wsX0_commonDivisor := goodIn_r _ [29] (by decide +kernel) (by decide +kernel)
set_option maxRecDepth 20000 in
theorem gX0_reduce_X0_commonDivisor : GoodIn wsX0_reduce (va_wsS RX0 87 yX0_commonDivisor wsX0_commonDivisor) := goodIn_app (goodIn_of _ (by decide +kernel)) ggX0_reduce_X0_commonDivisor
set_option maxRecDepth 20000 in
theorem ggX0_toMillionths_X2_isNegative : GoodIn wsX0_toMillionths wsX2_isNegative := goodIn_r _ [9, 10, 30] (by decide +kernel) (by decide +kernel)
set_option maxRecDepth 20000 in
theorem gX0_toMillionths_X2_isNegative_n51 : GoodIn wsX0_toMillionths (wsX2_isNegative) := ggX0_toMillionths_X2_isNegative
set_option maxRecDepth 20000 in
theorem ggX0_toMillionths_X2_scale : GoodIn wsX0_toMillionths wsX2_scale := goodIn_r _ [13, 10, 14, 30] (by decide +kernel) (by decide +kernel)
set_option maxRecDepth 20000 in
theorem gX0_toMillionths_X2_scale_n35 : GoodIn wsX0_toMillionths (wsX2_scale) := ggX0_toMillionths_X2_scale
set_option maxRecDepth 20000 in
theorem ggX0_toMillionths_X2_bitsFrom : GoodIn wsX0_toMillionths wsX2_bitsFrom := goodIn_r _ [17, 18, 19, 20, 7, 21, 10, 30] (by decide +kernel) (by decide +kernel)
set_option maxRecDepth 20000 in
theorem gX0_toMillionths_X2_bitsFrom_n77 : GoodIn wsX0_toMillionths (wsX2_bitsFrom) := ggX0_toMillionths_X2_bitsFrom
set_option maxRecDepth 20000 in
theorem ggX0_toMillionths_X2_grow : GoodIn wsX0_toMillionths wsX2_grow := goodIn_r _ [24, 10, 14, 30] (by decide +kernel) (by decide +kernel)
set_option maxRecDepth 20000 in
theorem gX0_toMillionths_X2_grow_n44 : GoodIn wsX0_toMillionths (wsX2_grow) := ggX0_toMillionths_X2_grow
set_option maxRecDepth 20000 in
theorem ggX0_toMillionths_X2_shorten : GoodIn wsX0_toMillionths wsX2_shorten := goodIn_r _ [27, 10, 30] (by decide +kernel) (by decide +kernel)
set_option maxRecDepth 20000 in
theorem gX0_toMillionths_X2_shorten_n84 : GoodIn wsX0_toMillionths (wsX2_shorten) := ggX0_toMillionths_X2_shorten
