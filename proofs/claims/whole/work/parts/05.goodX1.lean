set_option maxRecDepth 20000 in
theorem ggX1_greatest_X1_least : GoodIn wsX1_greatest wsX1_least := goodIn_r _ [8, 1, 2, 3, 9, 10, 11, 12, 13, 14, 15] (by decide +kernel) (by decide +kernel)
set_option maxRecDepth 20000 in
theorem gX1_greatest_X1_least : GoodIn wsX1_greatest (wsV RX1 37 RX1 yX1_least wsX1_least) := goodIn_app (goodIn_of _ (by decide +kernel)) ggX1_greatest_X1_least
set_option maxRecDepth 20000 in
theorem ggX1_isRaw_X1_least : GoodIn wsX1_isRaw wsX1_least := goodIn_r _ [5, 6, 7, 8, 13, 14, 15, 16, 17, 18, 19] (by decide +kernel) (by decide +kernel)
set_option maxRecDepth 20000 in
theorem gX1_isRaw_X1_least : GoodIn wsX1_isRaw (wsV RX1 37 RX1 yX1_least wsX1_least) := goodIn_app (goodIn_of _ (by decide +kernel)) ggX1_isRaw_X1_least
set_option maxRecDepth 20000 in
theorem ggX1_isRaw_X1_greatest : GoodIn wsX1_isRaw wsX1_greatest := goodIn_r _ [12, 6, 7, 8, 1, 2, 3, 4, 5, 13, 14, 15, 16, 17, 18, 19] (by decide +kernel) (by decide +kernel)
set_option maxRecDepth 20000 in
theorem gX1_isRaw_X1_greatest : GoodIn wsX1_isRaw (wsV RX1 41 RX1 yX1_greatest wsX1_greatest) := goodIn_app (goodIn_of _ (by decide +kernel)) ggX1_isRaw_X1_greatest
