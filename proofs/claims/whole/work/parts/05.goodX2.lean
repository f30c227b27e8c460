set_option maxRecDepth 20000 in
theorem ggX2_isZero_X2_size : GoodIn wsX2_isZero wsX2_size := goodIn_r _ [5, 6, 7] (by decide +kernel) (by decide +kernel)
set_option maxRecDepth 20000 in
theorem gX2_isZero_X2_size : GoodIn wsX2_isZero (wsV RX2 17 RX2 yX2_size wsX2_size) := goodIn_app (goodIn_of _ (by decide +kernel)) ggX2_isZero_X2_size
set_option maxRecDepth 20000 in
theorem ggX2_bitsFrom_X2_limb : GoodIn wsX2_bitsFrom wsX2_limb := goodIn_r _ [5, 6, 7] (by decide +kernel) (by decide +kernel)
set_option maxRecDepth 20000 in
theorem gX2_bitsFrom_X2_limb : GoodIn wsX2_bitsFrom (wsV RX2 21 RX2 yX2_limb wsX2_limb) := goodIn_app (goodIn_of _ (by decide +kernel)) ggX2_bitsFrom_X2_limb
set_option maxRecDepth 20000 in
theorem ggX2_fitsLong_X2_bitsFrom : GoodIn wsX2_fitsLong wsX2_bitsFrom := goodIn_r _ [7, 8, 9, 10, 6, 11, 1, 12] (by decide +kernel) (by decide +kernel)
set_option maxRecDepth 20000 in
theorem gX2_fitsLong_X2_bitsFrom : GoodIn wsX2_fitsLong (wsV RX2 25 RX2 yX2_bitsFrom wsX2_bitsFrom) := goodIn_app (goodIn_of _ (by decide +kernel)) ggX2_fitsLong_X2_bitsFrom
set_option maxRecDepth 20000 in
theorem ggX2_addTimes_X2_addShifted : GoodIn wsX2_addTimes wsX2_addShifted := goodIn_r _ [5, 6, 7, 8, 9, 10, 4, 11, 12] (by decide +kernel) (by decide +kernel)
set_option maxRecDepth 20000 in
theorem gX2_addTimes_X2_addShifted : GoodIn wsX2_addTimes (wsV RX2 28 RX2 yX2_addShifted wsX2_addShifted) := goodIn_app (goodIn_of _ (by decide +kernel)) ggX2_addTimes_X2_addShifted
set_option maxRecDepth 20000 in
theorem ggX2_addShifted_X2_limb : GoodIn wsX2_addShifted wsX2_limb := goodIn_r _ [7, 1, 8] (by decide +kernel) (by decide +kernel)
set_option maxRecDepth 20000 in
theorem gX2_addShifted_X2_limb : GoodIn wsX2_addShifted (wsV RX2 21 RX2 yX2_limb wsX2_limb) := goodIn_app (goodIn_of _ (by decide +kernel)) ggX2_addShifted_X2_limb
set_option maxRecDepth 20000 in
theorem ggX2_multiply_X2_grow : GoodIn wsX2_multiply wsX2_grow := goodIn_r _ [6, 1, 7, 8] (by decide +kernel) (by decide +kernel)
set_option maxRecDepth 20000 in
theorem gX2_multiply_X2_grow : GoodIn wsX2_multiply (wsV RX2 32 RX2 yX2_grow wsX2_grow) := goodIn_app (goodIn_of _ (by decide +kernel)) ggX2_multiply_X2_grow
set_option maxRecDepth 20000 in
theorem ggX2_divide_X2_setTo : GoodIn wsX2_divide wsX2_setTo := goodIn_r _ [6, 1, 7, 24] (by decide +kernel) (by decide +kernel)
set_option maxRecDepth 20000 in
theorem gX2_divide_X2_setTo : GoodIn wsX2_divide (wsV RX2 36 RX2 yX2_setTo wsX2_setTo) := goodIn_app (goodIn_of _ (by decide +kernel)) ggX2_divide_X2_setTo
set_option maxRecDepth 20000 in
theorem ggX2_divide_X2_size : GoodIn wsX2_divide wsX2_size := goodIn_r _ [11, 1, 24] (by decide +kernel) (by decide +kernel)
set_option maxRecDepth 20000 in
theorem gX2_divide_X2_size : GoodIn wsX2_divide (wsV RX2 17 RX2 yX2_size wsX2_size) := goodIn_app (goodIn_of _ (by decide +kernel)) ggX2_divide_X2_size
set_option maxRecDepth 20000 in
theorem ggX2_divide_X2_guessDigit : GoodIn wsX2_divide wsX2_guessDigit := goodIn_r _ [15, 16, 17, 18, 5, 19, 1, 24] (by decide +kernel) (by decide +kernel)
set_option maxRecDepth 20000 in
theorem gX2_divide_X2_guessDigit : GoodIn wsX2_divide (wsV RX2 39 RX2 yX2_guessDigit wsX2_guessDigit) := goodIn_app (goodIn_of _ (by decide +kernel)) ggX2_divide_X2_guessDigit
set_option maxRecDepth 20000 in
theorem ggX2_divide_X2_addShifted : GoodIn wsX2_divide wsX2_addShifted := goodIn_r _ [23, 1, 7, 16, 17, 18, 5, 19, 24] (by decide +kernel) (by decide +kernel)
set_option maxRecDepth 20000 in
theorem gX2_divide_X2_addShifted : GoodIn wsX2_divide (wsV RX2 28 RX2 yX2_addShifted wsX2_addShifted) := goodIn_app (goodIn_of _ (by decide +kernel)) ggX2_divide_X2_addShifted
set_option maxRecDepth 20000 in
theorem ggX2_guessDigit_X2_limb : GoodIn wsX2_guessDigit wsX2_limb := goodIn_r _ [5, 6, 7] (by decide +kernel) (by decide +kernel)
set_option maxRecDepth 20000 in
theorem gX2_guessDigit_X2_limb : GoodIn wsX2_guessDigit (wsV RX2 21 RX2 yX2_limb wsX2_limb) := goodIn_app (goodIn_of _ (by decide +kernel)) ggX2_guessDigit_X2_limb
