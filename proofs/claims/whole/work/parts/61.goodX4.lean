set_option maxRecDepth 20000 in
theorem ggX4_add_X4_addSizes : GoodIn wsX4_add wsX4_addSizes := goodIn_r _ [6, 7, 8, 21, 22, 23, 24, 25, 26, 27, 28, 29, 30, 31, 32, 33, 34] (by decide +kernel) (by decide +kernel)
set_option maxRecDepth 20000 in
theorem gX4_add_X4_addSizes : GoodIn wsX4_add (wsV RX4 49 RX4 yX4_addSizes wsX4_addSizes) := goodIn_app (goodIn_of _ (by decide +kernel)) ggX4_add_X4_addSizes
set_option maxRecDepth 20000 in
theorem ggX4_add_X4_sizes : GoodIn wsX4_add wsX4_sizes := goodIn_r _ [12, 7, 21, 22, 23, 24, 25, 26, 27, 28, 29, 30, 31, 32, 33, 34] (by decide +kernel) (by decide +kernel)
set_option maxRecDepth 20000 in
theorem gX4_add_X4_sizes : GoodIn wsX4_add (wsV RX4 53 RX4 yX4_sizes wsX4_sizes) := goodIn_app (goodIn_of _ (by decide +kernel)) ggX4_add_X4_sizes
set_option maxRecDepth 20000 in
theorem ggX4_add_X4_lessSizes : GoodIn wsX4_add wsX4_lessSizes := goodIn_r _ [16, 7, 8, 21, 22, 23, 24, 25, 26, 27, 28, 29, 30, 31, 32, 33, 34] (by decide +kernel) (by decide +kernel)
set_option maxRecDepth 20000 in
theorem gX4_add_X4_lessSizes : GoodIn wsX4_add (wsV RX4 57 RX4 yX4_lessSizes wsX4_lessSizes) := goodIn_app (goodIn_of _ (by decide +kernel)) ggX4_add_X4_lessSizes
set_option maxRecDepth 20000 in
theorem ggX4_add_X4_nothing : GoodIn wsX4_add wsX4_nothing := goodIn_r _ [20, 7, 21, 22, 23, 24, 25, 26, 27, 28, 29, 30, 31, 32, 33, 34] (by decide +kernel) (by decide +kernel)
set_option maxRecDepth 20000 in
theorem gX4_add_X4_nothing : GoodIn wsX4_add (wsV RX4 60 RX4 yX4_nothing wsX4_nothing) := goodIn_app (goodIn_of _ (by decide +kernel)) ggX4_add_X4_nothing
set_option maxRecDepth 20000 in
theorem ggX4_multiplyBy_X4_set : GoodIn wsX4_multiplyBy wsX4_set := goodIn_r _ [5, 6, 7, 8, 13, 14, 15, 16, 17, 18, 19, 20, 21, 22, 23, 24, 25, 26] (by decide +kernel) (by decide +kernel)
set_option maxRecDepth 20000 in
theorem gX4_multiplyBy_X4_set : GoodIn wsX4_multiplyBy (wsV RX4 64 RX4 yX4_set wsX4_set) := goodIn_app (goodIn_of _ (by decide +kernel)) ggX4_multiplyBy_X4_set
set_option maxRecDepth 20000 in
theorem ggX4_multiplyBy_X4_multiply : GoodIn wsX4_multiplyBy wsX4_multiply := goodIn_r _ [12, 6, 7, 8, 13, 14, 15, 16, 17, 18, 19, 20, 21, 22, 23, 24, 25, 26] (by decide +kernel) (by decide +kernel)
set_option maxRecDepth 20000 in
theorem gX4_multiplyBy_X4_multiply : GoodIn wsX4_multiplyBy (wsV RX4 68 RX4 yX4_multiply wsX4_multiply) := goodIn_app (goodIn_of _ (by decide +kernel)) ggX4_multiplyBy_X4_multiply
set_option maxRecDepth 20000 in
theorem ggX4_halve_X4_nothing : GoodIn wsX4_halve wsX4_nothing := goodIn_r _ [7, 1, 8, 9, 10, 11, 12, 13, 14, 15, 16, 17, 18, 19, 20, 21] (by decide +kernel) (by decide +kernel)
set_option maxRecDepth 20000 in
theorem gX4_halve_X4_nothing : GoodIn wsX4_halve (wsV RX4 60 RX4 yX4_nothing wsX4_nothing) := goodIn_app (goodIn_of _ (by decide +kernel)) ggX4_halve_X4_nothing
set_option maxRecDepth 20000 in
theorem ggX4_divide_X4_copy : GoodIn wsX4_divide wsX4_copy := goodIn_r _ [7, 2, 1, 34, 35, 36, 37, 38, 39, 40, 41, 42, 43, 44, 45, 46, 47] (by decide +kernel) (by decide +kernel)
set_option maxRecDepth 20000 in
theorem gX4_divide_X4_copy : GoodIn wsX4_divide (wsV RX4 71 RX4 yX4_copy wsX4_copy) := goodIn_app (goodIn_of _ (by decide +kernel)) ggX4_divide_X4_copy
set_option maxRecDepth 20000 in
theorem ggX4_divide_X4_sizes : GoodIn wsX4_divide wsX4_sizes := goodIn_r _ [11, 2, 34, 35, 36, 37, 38, 39, 40, 41, 42, 43, 44, 45, 46, 47] (by decide +kernel) (by decide +kernel)
set_option maxRecDepth 20000 in
theorem gX4_divide_X4_sizes : GoodIn wsX4_divide (wsV RX4 53 RX4 yX4_sizes wsX4_sizes) := goodIn_app (goodIn_of _ (by decide +kernel)) ggX4_divide_X4_sizes
set_option maxRecDepth 20000 in
theorem ggX4_divide_X4_addSizes : GoodIn wsX4_divide wsX4_addSizes := goodIn_r _ [15, 2, 16, 34, 35, 36, 37, 38, 39, 40, 41, 42, 43, 44, 45, 46, 47] (by decide +kernel) (by decide +kernel)
set_option maxRecDepth 20000 in
theorem gX4_divide_X4_addSizes : GoodIn wsX4_divide (wsV RX4 49 RX4 yX4_addSizes wsX4_addSizes) := goodIn_app (goodIn_of _ (by decide +kernel)) ggX4_divide_X4_addSizes
set_option maxRecDepth 20000 in
theorem ggX4_divide_X4_set : GoodIn wsX4_divide wsX4_set := goodIn_r _ [20, 2, 21, 1, 34, 35, 36, 37, 38, 39, 40, 41, 42, 43, 44, 45, 46, 47] (by decide +kernel) (by decide +kernel)
set_option maxRecDepth 20000 in
theorem gX4_divide_X4_set : GoodIn wsX4_divide (wsV RX4 64 RX4 yX4_set wsX4_set) := goodIn_app (goodIn_of _ (by decide +kernel)) ggX4_divide_X4_set
set_option maxRecDepth 20000 in
theorem ggX4_divide_X4_halve : GoodIn wsX4_divide wsX4_halve := goodIn_r _ [25, 2, 1, 26, 27, 28, 6, 29, 34, 35, 36, 37, 38, 39, 40, 41, 42, 43, 44, 45, 46, 47] (by decide +kernel) (by decide +kernel)
set_option maxRecDepth 20000 in
theorem gX4_divide_X4_halve : GoodIn wsX4_divide (wsV RX4 75 RX4 yX4_halve wsX4_halve) := goodIn_app (goodIn_of _ (by decide +kernel)) ggX4_divide_X4_halve
set_option maxRecDepth 20000 in
theorem ggX4_divide_X4_lessSizes : GoodIn wsX4_divide wsX4_lessSizes := goodIn_r _ [33, 2, 16, 34, 35, 36, 37, 38, 39, 40, 41, 42, 43, 44, 45, 46, 47] (by decide +kernel) (by decide +kernel)
set_option maxRecDepth 20000 in
theorem gX4_divide_X4_lessSizes : GoodIn wsX4_divide (wsV RX4 57 RX4 yX4_lessSizes wsX4_lessSizes) := goodIn_app (goodIn_of _ (by decide +kernel)) ggX4_divide_X4_lessSizes
set_option maxRecDepth 20000 in
theorem ggX4_divide_X4_nothing : GoodIn wsX4_divide wsX4_nothing := goodIn_r _ [29, 2, 34, 35, 36, 37, 38, 39, 40, 41, 42, 43, 44, 45, 46, 47] (by decide +kernel) (by decide +kernel)
set_option maxRecDepth 20000 in
theorem gX4_divide_X4_nothing : GoodIn wsX4_divide (wsV RX4 60 RX4 yX4_nothing wsX4_nothing) := goodIn_app (goodIn_of _ (by decide +kernel)) ggX4_divide_X4_nothing
set_option maxRecDepth 20000 in
theorem ggX4_rule_X4_none : GoodIn wsX4_rule wsX4_none := goodIn_r _ [7, 8, 9, 10, 11, 12, 13, 14, 15, 16, 17, 18, 19, 20, 21, 22, 23] (by decide +kernel) (by decide +kernel)
set_option maxRecDepth 20000 in
theorem gX4_rule_X4_none : GoodIn wsX4_rule (wsV RX4 88 RX4 yX4_none wsX4_none) := goodIn_app (goodIn_of _ (by decide +kernel)) ggX4_rule_X4_none
set_option maxRecDepth 20000 in
theorem ggX4_bring_X4_unsigned : GoodIn wsX4_bring wsX4_unsigned := goodIn_r _ [7, 2, 8, 9, 10, 11, 12, 13, 14, 15, 16, 17, 18, 19, 20, 21] (by decide +kernel) (by decide +kernel)
set_option maxRecDepth 20000 in
theorem gX4_bring_X4_unsigned : GoodIn wsX4_bring (wsV RX4 91 RX4 yX4_unsigned wsX4_unsigned) := goodIn_app (goodIn_of _ (by decide +kernel)) ggX4_bring_X4_unsigned
set_option maxRecDepth 20000 in
theorem ggX4_value_X4_bring : GoodIn wsX4_value wsX4_bring := goodIn_r _ [8, 9, 10, 11, 12, 13, 7, 14, 51, 52, 53, 54, 55, 56, 57, 58, 59, 60, 61, 62, 63, 64] (by decide +kernel) (by decide +kernel)
set_option maxRecDepth 20000 in
theorem gX4_value_X4_bring : GoodIn wsX4_value (wsV RX4 99 RX4 yX4_bring wsX4_bring) := goodIn_app (goodIn_of _ (by decide +kernel)) ggX4_value_X4_bring
set_option maxRecDepth 20000 in
theorem ggX4_value_X4_set : GoodIn wsX4_value wsX4_set := goodIn_r _ [18, 19, 20, 21, 51, 52, 53, 54, 55, 56, 57, 58, 59, 60, 61, 62, 63, 64] (by decide +kernel) (by decide +kernel)
set_option maxRecDepth 20000 in
theorem gX4_value_X4_set : GoodIn wsX4_value (wsV RX4 64 RX4 yX4_set wsX4_set) := goodIn_app (goodIn_of _ (by decide +kernel)) ggX4_value_X4_set
set_option maxRecDepth 20000 in
theorem ggX4_value_X4_multiplyBy : GoodIn wsX4_value wsX4_multiplyBy := goodIn_r _ [25, 15, 16, 17, 7, 18, 19, 20, 21, 26, 27, 28, 29, 51, 52, 53, 54, 55, 56, 57, 58, 59, 60, 61, 62, 63, 64] (by decide +kernel) (by decide +kernel)
set_option maxRecDepth 20000 in
theorem gX4_value_X4_multiplyBy : GoodIn wsX4_value (wsV RX4 102 RX4 yX4_multiplyBy wsX4_multiplyBy) := goodIn_app (goodIn_of _ (by decide +kernel)) ggX4_value_X4_multiplyBy
set_option maxRecDepth 20000 in
theorem ggX4_value_X4_add : GoodIn wsX4_value wsX4_add := goodIn_r _ [33, 21, 34, 35, 36, 7, 37, 19, 38, 39, 40, 41, 42, 43, 44, 45, 46, 47, 48, 49, 50, 51, 52, 53, 54, 55, 56, 57, 58, 59, 60, 61, 62, 63, 64] (by decide +kernel) (by decide +kernel)
set_option maxRecDepth 20000 in
theorem gX4_value_X4_add : GoodIn wsX4_value (wsV RX4 106 RX4 yX4_add wsX4_add) := goodIn_app (goodIn_of _ (by decide +kernel)) ggX4_value_X4_add
set_option maxRecDepth 20000 in
theorem ggX4_round_X4_divide : GoodIn wsX4_round wsX4_divide := goodIn_r _ [8, 1, 3, 9, 10, 11, 7, 12, 13, 14, 15, 16, 17, 18, 19, 20, 21, 22, 23, 24, 25, 26, 27, 28, 29, 30, 31, 32, 33, 34, 35, 36, 37, 38, 43, 44, 45, 46, 47, 48, 49, 50, 51, 52, 53, 54, 55, 56] (by decide +kernel) (by decide +kernel)
set_option maxRecDepth 20000 in
theorem gX4_round_X4_divide : GoodIn wsX4_round (wsV RX4 110 RX4 yX4_divide wsX4_divide) := goodIn_app (goodIn_of _ (by decide +kernel)) ggX4_round_X4_divide
set_option maxRecDepth 20000 in
theorem ggX4_round_X4_addSizes : GoodIn wsX4_round wsX4_addSizes := goodIn_r _ [20, 3, 21, 43, 44, 45, 46, 47, 48, 49, 50, 51, 52, 53, 54, 55, 56] (by decide +kernel) (by decide +kernel)
set_option maxRecDepth 20000 in
theorem gX4_round_X4_addSizes : GoodIn wsX4_round (wsV RX4 49 RX4 yX4_addSizes wsX4_addSizes) := goodIn_app (goodIn_of _ (by decide +kernel)) ggX4_round_X4_addSizes
set_option maxRecDepth 20000 in
theorem ggX4_round_X4_sizes : GoodIn wsX4_round wsX4_sizes := goodIn_r _ [16, 3, 43, 44, 45, 46, 47, 48, 49, 50, 51, 52, 53, 54, 55, 56] (by decide +kernel) (by decide +kernel)
set_option maxRecDepth 20000 in
theorem gX4_round_X4_sizes : GoodIn wsX4_round (wsV RX4 53 RX4 yX4_sizes wsX4_sizes) := goodIn_app (goodIn_of _ (by decide +kernel)) ggX4_round_X4_sizes
set_option maxRecDepth 20000 in
theorem ggX4_round_X4_set : GoodIn wsX4_round wsX4_set := goodIn_r _ [25, 3, 26, 1, 43, 44, 45, 46, 47, 48, 49, 50, 51, 52, 53, 54, 55, 56] (by decide +kernel) (by decide +kernel)
set_option maxRecDepth 20000 in
theorem gX4_round_X4_set : GoodIn wsX4_round (wsV RX4 64 RX4 yX4_set wsX4_set) := goodIn_app (goodIn_of _ (by decide +kernel)) ggX4_round_X4_set
set_option maxRecDepth 20000 in
theorem ggX4_round_X4_add : GoodIn wsX4_round wsX4_add := goodIn_r _ [42, 1, 17, 18, 19, 7, 20, 3, 21, 13, 14, 15, 16, 35, 36, 37, 38, 31, 32, 33, 34, 43, 44, 45, 46, 47, 48, 49, 50, 51, 52, 53, 54, 55, 56] (by decide +kernel) (by decide +kernel)
set_option maxRecDepth 20000 in
theorem gX4_round_X4_add : GoodIn wsX4_round (wsV RX4 106 RX4 yX4_add wsX4_add) := goodIn_app (goodIn_of _ (by decide +kernel)) ggX4_round_X4_add
set_option maxRecDepth 20000 in
theorem ggX4_put_X4_multiplyBy : GoodIn wsX4_put wsX4_multiplyBy := goodIn_r _ [12, 13, 14, 15, 11, 16, 17, 18, 5, 19, 20, 21, 22, 84, 85, 86, 87, 88, 89, 90, 91, 92, 93, 94, 95, 96, 97] (by decide +kernel) (by decide +kernel)
set_option maxRecDepth 20000 in
theorem gX4_put_X4_multiplyBy : GoodIn wsX4_put (wsV RX4 102 RX4 yX4_multiplyBy wsX4_multiplyBy) := goodIn_app (goodIn_of _ (by decide +kernel)) ggX4_put_X4_multiplyBy
set_option maxRecDepth 20000 in
theorem ggX4_put_X4_add : GoodIn wsX4_put wsX4_add := goodIn_r _ [26, 5, 27, 28, 29, 11, 30, 17, 31, 32, 33, 34, 35, 36, 37, 38, 39, 40, 41, 42, 43, 84, 85, 86, 87, 88, 89, 90, 91, 92, 93, 94, 95, 96, 97] (by decide +kernel) (by decide +kernel)
set_option maxRecDepth 20000 in
theorem gX4_put_X4_add : GoodIn wsX4_put (wsV RX4 106 RX4 yX4_add wsX4_add) := goodIn_app (goodIn_of _ (by decide +kernel)) ggX4_put_X4_add
set_option maxRecDepth 20000 in
theorem ggX4_put_X4_round : GoodIn wsX4_put wsX4_round := goodIn_r _ [47, 5, 6, 17, 48, 49, 50, 11, 51, 52, 53, 54, 55, 32, 33, 34, 35, 27, 28, 29, 30, 31, 13, 14, 15, 16, 18, 56, 57, 58, 59, 40, 41, 42, 43, 36, 37, 38, 39, 23, 24, 25, 26, 84, 85, 86, 87, 88, 89, 90, 91, 92, 93, 94, 95, 96, 97] (by decide +kernel) (by decide +kernel)
set_option maxRecDepth 20000 in
theorem gX4_put_X4_round : GoodIn wsX4_put (wsV RX4 117 RX4 yX4_round wsX4_round) := goodIn_app (goodIn_of _ (by decide +kernel)) ggX4_put_X4_round
set_option maxRecDepth 20000 in
theorem ggX4_put_X4_least : GoodIn wsX4_put wsX4_least := goodIn_r _ [63, 64, 65, 66, 84, 85, 86, 87, 88, 89, 90, 91, 92, 93, 94, 95, 96, 97] (by decide +kernel) (by decide +kernel)
set_option maxRecDepth 20000 in
theorem gX4_put_X4_least : GoodIn wsX4_put (wsV RX4 120 RX4 yX4_least wsX4_least) := goodIn_app (goodIn_of _ (by decide +kernel)) ggX4_put_X4_least
set_option maxRecDepth 20000 in
theorem ggX4_put_X4_set : GoodIn wsX4_put wsX4_set := goodIn_r _ [16, 17, 18, 5, 84, 85, 86, 87, 88, 89, 90, 91, 92, 93, 94, 95, 96, 97] (by decide +kernel) (by decide +kernel)
set_option maxRecDepth 20000 in
theorem gX4_put_X4_set : GoodIn wsX4_put (wsV RX4 64 RX4 yX4_set wsX4_set) := goodIn_app (goodIn_of _ (by decide +kernel)) ggX4_put_X4_set
set_option maxRecDepth 20000 in
theorem ggX4_put_X4_most : GoodIn wsX4_put wsX4_most := goodIn_r _ [70, 64, 65, 71, 84, 85, 86, 87, 88, 89, 90, 91, 92, 93, 94, 95, 96, 97] (by decide +kernel) (by decide +kernel)
set_option maxRecDepth 20000 in
theorem gX4_put_X4_most : GoodIn wsX4_put (wsV RX4 124 RX4 yX4_most wsX4_most) := goodIn_app (goodIn_of _ (by decide +kernel)) ggX4_put_X4_most
set_option maxRecDepth 20000 in
theorem ggX4_put_X4_low : GoodIn wsX4_put wsX4_low := goodIn_r _ [75, 17, 5, 84, 85, 86, 87, 88, 89, 90, 91, 92, 93, 94, 95, 96, 97] (by decide +kernel) (by decide +kernel)
set_option maxRecDepth 20000 in
theorem gX4_put_X4_low : GoodIn wsX4_put (wsV RX4 127 RX4 yX4_low wsX4_low) := goodIn_app (goodIn_of _ (by decide +kernel)) ggX4_put_X4_low
set_option maxRecDepth 20000 in
theorem ggX4_put_X4_bring : GoodIn wsX4_put wsX4_bring := goodIn_r _ [79, 64, 65, 80, 81, 82, 11, 83, 84, 85, 86, 87, 88, 89, 90, 91, 92, 93, 94, 95, 96, 97] (by decide +kernel) (by decide +kernel)
set_option maxRecDepth 20000 in
theorem gX4_put_X4_bring : GoodIn wsX4_put (wsV RX4 99 RX4 yX4_bring wsX4_bring) := goodIn_app (goodIn_of _ (by decide +kernel)) ggX4_put_X4_bring
set_option maxRecDepth 20000 in
theorem ggX4_apply_X4_none : GoodIn wsX4_apply wsX4_none := goodIn_r _ [9, 3, 10, 98, 99, 100, 101, 102, 103, 104, 105, 106, 107, 108, 109, 110, 111] (by decide +kernel) (by decide +kernel)
set_option maxRecDepth 20000 in
theorem gX4_apply_X4_none : GoodIn wsX4_apply (wsV RX4 88 RX4 yX4_none wsX4_none) := goodIn_app (goodIn_of _ (by decide +kernel)) ggX4_apply_X4_none
set_option maxRecDepth 20000 in
theorem ggX4_apply_X4_value : GoodIn wsX4_apply wsX4_value := goodIn_r _ [14, 15, 16, 17, 18, 19, 20, 8, 21, 22, 23, 24, 25, 26, 27, 28, 29, 30, 31, 32, 33, 1, 34, 35, 36, 37, 38, 39, 40, 41, 42, 43, 44, 45, 46, 47, 48, 49, 50, 51, 52, 53, 54, 55, 56, 57, 58, 59, 60, 61, 62, 98, 99, 100, 101, 102, 103, 104, 105, 106, 107, 108, 109, 110, 111] (by decide +kernel) (by decide +kernel)
set_option maxRecDepth 20000 in
theorem gX4_apply_X4_value : GoodIn wsX4_apply (wsV RX4 130 RX4 yX4_value wsX4_value) := goodIn_app (goodIn_of _ (by decide +kernel)) ggX4_apply_X4_value
set_option maxRecDepth 20000 in
theorem ggX4_apply_X4_set : GoodIn wsX4_apply wsX4_set := goodIn_r _ [31, 32, 33, 1, 98, 99, 100, 101, 102, 103, 104, 105, 106, 107, 108, 109, 110, 111] (by decide +kernel) (by decide +kernel)
set_option maxRecDepth 20000 in
theorem gX4_apply_X4_set : GoodIn wsX4_apply (wsV RX4 64 RX4 yX4_set wsX4_set) := goodIn_app (goodIn_of _ (by decide +kernel)) ggX4_apply_X4_set
set_option maxRecDepth 20000 in
theorem ggX4_apply_X4_most : GoodIn wsX4_apply wsX4_most := goodIn_r _ [66, 22, 23, 67, 98, 99, 100, 101, 102, 103, 104, 105, 106, 107, 108, 109, 110, 111] (by decide +kernel) (by decide +kernel)
set_option maxRecDepth 20000 in
theorem gX4_apply_X4_most : GoodIn wsX4_apply (wsV RX4 124 RX4 yX4_most wsX4_most) := goodIn_app (goodIn_of _ (by decide +kernel)) ggX4_apply_X4_most
set_option maxRecDepth 20000 in
theorem ggX4_apply_X4_least : GoodIn wsX4_apply wsX4_least := goodIn_r _ [71, 22, 23, 72, 98, 99, 100, 101, 102, 103, 104, 105, 106, 107, 108, 109, 110, 111] (by decide +kernel) (by decide +kernel)
set_option maxRecDepth 20000 in
theorem gX4_apply_X4_least : GoodIn wsX4_apply (wsV RX4 120 RX4 yX4_least wsX4_least) := goodIn_app (goodIn_of _ (by decide +kernel)) ggX4_apply_X4_least
set_option maxRecDepth 20000 in
theorem ggX4_apply_X4_put : GoodIn wsX4_apply wsX4_put := goodIn_r _ [76, 16, 17, 15, 77, 1, 4, 2, 34, 35, 36, 8, 37, 28, 29, 30, 31, 32, 33, 38, 39, 40, 41, 42, 43, 44, 45, 46, 47, 48, 49, 50, 51, 52, 53, 54, 55, 56, 57, 58, 59, 60, 61, 62, 78, 79, 80, 81, 82, 83, 84, 85, 86, 87, 88, 89, 90, 91, 92, 93, 68, 69, 70, 71, 22, 23, 72, 63, 64, 65, 66, 67, 94, 95, 96, 97, 18, 19, 20, 21, 24, 25, 26, 27, 98, 99, 100, 101, 102, 103, 104, 105, 106, 107, 108, 109, 110, 111] (by decide +kernel) (by decide +kernel)
set_option maxRecDepth 20000 in
theorem gX4_apply_X4_put : GoodIn wsX4_apply (wsV RX4 133 RX4 yX4_put wsX4_put) := goodIn_app (goodIn_of _ (by decide +kernel)) ggX4_apply_X4_put
set_option maxRecDepth 20000 in
theorem ggX4_apply_X4_multiply : GoodIn wsX4_apply wsX4_multiply := goodIn_r _ [41, 32, 33, 1, 98, 99, 100, 101, 102, 103, 104, 105, 106, 107, 108, 109, 110, 111] (by decide +kernel) (by decide +kernel)
set_option maxRecDepth 20000 in
theorem gX4_apply_X4_multiply : GoodIn wsX4_apply (wsV RX4 68 RX4 yX4_multiply wsX4_multiply) := goodIn_app (goodIn_of _ (by decide +kernel)) ggX4_apply_X4_multiply
set_option maxRecDepth 20000 in
theorem ggX4_apply_X4_add : GoodIn wsX4_apply wsX4_add := goodIn_r _ [45, 1, 46, 47, 48, 8, 49, 32, 50, 51, 52, 53, 54, 55, 56, 57, 58, 59, 60, 61, 62, 98, 99, 100, 101, 102, 103, 104, 105, 106, 107, 108, 109, 110, 111] (by decide +kernel) (by decide +kernel)
set_option maxRecDepth 20000 in
theorem gX4_apply_X4_add : GoodIn wsX4_apply (wsV RX4 106 RX4 yX4_add wsX4_add) := goodIn_app (goodIn_of _ (by decide +kernel)) ggX4_apply_X4_add
set_option maxRecDepth 20000 in
theorem ggX4_convert_X4_none : GoodIn wsX4_convert wsX4_none := goodIn_r _ [5, 6, 7, 98, 99, 100, 101, 102, 103, 104, 105, 106, 107, 108, 109, 110, 111] (by decide +kernel) (by decide +kernel)
set_option maxRecDepth 20000 in
theorem gX4_convert_X4_none : GoodIn wsX4_convert (wsV RX4 88 RX4 yX4_none wsX4_none) := goodIn_app (goodIn_of _ (by decide +kernel)) ggX4_convert_X4_none
set_option maxRecDepth 20000 in
theorem ggX4_convert_X4_value : GoodIn wsX4_convert wsX4_value := goodIn_r _ [11, 12, 13, 14, 15, 16, 17, 4, 18, 19, 20, 21, 22, 23, 24, 25, 26, 27, 28, 29, 30, 31, 32, 33, 34, 35, 36, 37, 38, 39, 40, 41, 42, 43, 44, 45, 46, 47, 48, 49, 50, 51, 52, 53, 54, 55, 56, 57, 58, 59, 60, 98, 99, 100, 101, 102, 103, 104, 105, 106, 107, 108, 109, 110, 111] (by decide +kernel) (by decide +kernel)
set_option maxRecDepth 20000 in
theorem gX4_convert_X4_value : GoodIn wsX4_convert (wsV RX4 130 RX4 yX4_value wsX4_value) := goodIn_app (goodIn_of _ (by decide +kernel)) ggX4_convert_X4_value
set_option maxRecDepth 20000 in
theorem ggX4_convert_X4_put : GoodIn wsX4_convert wsX4_put := goodIn_r _ [64, 13, 14, 12, 65, 31, 66, 67, 32, 33, 34, 4, 35, 25, 26, 27, 28, 29, 30, 36, 37, 38, 39, 40, 41, 42, 43, 44, 45, 46, 47, 48, 49, 50, 51, 52, 53, 54, 55, 56, 57, 58, 59, 60, 68, 69, 70, 71, 72, 73, 74, 75, 76, 77, 78, 79, 80, 81, 82, 83, 84, 85, 86, 87, 19, 20, 88, 89, 90, 91, 92, 93, 94, 95, 96, 97, 15, 16, 17, 18, 21, 22, 23, 24, 98, 99, 100, 101, 102, 103, 104, 105, 106, 107, 108, 109, 110, 111] (by decide +kernel) (by decide +kernel)
set_option maxRecDepth 20000 in
theorem gX4_convert_X4_put : GoodIn wsX4_convert (wsV RX4 133 RX4 yX4_put wsX4_put) := goodIn_app (goodIn_of _ (by decide +kernel)) ggX4_convert_X4_put
set_option maxRecDepth 20000 in
theorem ggX4_common_X4_nothing : GoodIn wsX4_common wsX4_nothing := goodIn_r _ [7, 1, 29, 30, 31, 32, 33, 34, 35, 36, 37, 38, 39, 40, 41, 42] (by decide +kernel) (by decide +kernel)
set_option maxRecDepth 20000 in
theorem gX4_common_X4_nothing : GoodIn wsX4_common (wsV RX4 60 RX4 yX4_nothing wsX4_nothing) := goodIn_app (goodIn_of _ (by decide +kernel)) ggX4_common_X4_nothing
set_option maxRecDepth 20000 in
theorem ggX4_common_X4_copy : GoodIn wsX4_common wsX4_copy := goodIn_r _ [11, 1, 2, 29, 30, 31, 32, 33, 34, 35, 36, 37, 38, 39, 40, 41, 42] (by decide +kernel) (by decide +kernel)
set_option maxRecDepth 20000 in
theorem gX4_common_X4_copy : GoodIn wsX4_common (wsV RX4 71 RX4 yX4_copy wsX4_copy) := goodIn_app (goodIn_of _ (by decide +kernel)) ggX4_common_X4_copy
set_option maxRecDepth 20000 in
theorem ggX4_common_X4_halve : GoodIn wsX4_common wsX4_halve := goodIn_r _ [15, 1, 2, 3, 4, 5, 6, 7, 29, 30, 31, 32, 33, 34, 35, 36, 37, 38, 39, 40, 41, 42] (by decide +kernel) (by decide +kernel)
set_option maxRecDepth 20000 in
theorem gX4_common_X4_halve : GoodIn wsX4_common (wsV RX4 75 RX4 yX4_halve wsX4_halve) := goodIn_app (goodIn_of _ (by decide +kernel)) ggX4_common_X4_halve
set_option maxRecDepth 20000 in
theorem ggX4_common_X4_sizes : GoodIn wsX4_common wsX4_sizes := goodIn_r _ [19, 1, 29, 30, 31, 32, 33, 34, 35, 36, 37, 38, 39, 40, 41, 42] (by decide +kernel) (by decide +kernel)
set_option maxRecDepth 20000 in
theorem gX4_common_X4_sizes : GoodIn wsX4_common (wsV RX4 53 RX4 yX4_sizes wsX4_sizes) := goodIn_app (goodIn_of _ (by decide +kernel)) ggX4_common_X4_sizes
set_option maxRecDepth 20000 in
theorem ggX4_common_X4_lessSizes : GoodIn wsX4_common wsX4_lessSizes := goodIn_r _ [23, 1, 24, 29, 30, 31, 32, 33, 34, 35, 36, 37, 38, 39, 40, 41, 42] (by decide +kernel) (by decide +kernel)
set_option maxRecDepth 20000 in
theorem gX4_common_X4_lessSizes : GoodIn wsX4_common (wsV RX4 57 RX4 yX4_lessSizes wsX4_lessSizes) := goodIn_app (goodIn_of _ (by decide +kernel)) ggX4_common_X4_lessSizes
set_option maxRecDepth 20000 in
theorem ggX4_common_X4_addSizes : GoodIn wsX4_common wsX4_addSizes := goodIn_r _ [28, 1, 24, 29, 30, 31, 32, 33, 34, 35, 36, 37, 38, 39, 40, 41, 42] (by decide +kernel) (by decide +kernel)
set_option maxRecDepth 20000 in
theorem gX4_common_X4_addSizes : GoodIn wsX4_common (wsV RX4 49 RX4 yX4_addSizes wsX4_addSizes) := goodIn_app (goodIn_of _ (by decide +kernel)) ggX4_common_X4_addSizes
set_option maxRecDepth 20000 in
theorem ggX4_physical_X4_none : GoodIn wsX4_physical wsX4_none := goodIn_r _ [11, 12, 13, 83, 84, 85, 86, 87, 88, 89, 90, 91, 92, 93, 94, 95, 96] (by decide +kernel) (by decide +kernel)
set_option maxRecDepth 20000 in
theorem gX4_physical_X4_none : GoodIn wsX4_physical (wsV RX4 88 RX4 yX4_none wsX4_none) := goodIn_app (goodIn_of _ (by decide +kernel)) ggX4_physical_X4_none
set_option maxRecDepth 20000 in
theorem ggX4_physical_X4_value : GoodIn wsX4_physical wsX4_value := goodIn_r _ [17, 18, 19, 20, 21, 22, 23, 10, 24, 25, 26, 27, 28, 29, 30, 31, 32, 33, 34, 3, 4, 1, 35, 36, 37, 38, 39, 40, 41, 42, 43, 44, 45, 46, 47, 48, 49, 50, 2, 51, 52, 53, 54, 55, 56, 57, 58, 59, 60, 61, 62, 83, 84, 85, 86, 87, 88, 89, 90, 91, 92, 93, 94, 95, 96] (by decide +kernel) (by decide +kernel)
set_option maxRecDepth 20000 in
theorem gX4_physical_X4_value : GoodIn wsX4_physical (wsV RX4 130 RX4 yX4_value wsX4_value) := goodIn_app (goodIn_of _ (by decide +kernel)) ggX4_physical_X4_value
set_option maxRecDepth 20000 in
theorem ggX4_physical_X4_copy : GoodIn wsX4_physical wsX4_copy := goodIn_r _ [66, 3, 1, 83, 84, 85, 86, 87, 88, 89, 90, 91, 92, 93, 94, 95, 96] (by decide +kernel) (by decide +kernel)
set_option maxRecDepth 20000 in
theorem gX4_physical_X4_copy : GoodIn wsX4_physical (wsV RX4 71 RX4 yX4_copy wsX4_copy) := goodIn_app (goodIn_of _ (by decide +kernel)) ggX4_physical_X4_copy
set_option maxRecDepth 20000 in
theorem ggX4_physical_X4_common : GoodIn wsX4_physical wsX4_common := goodIn_r _ [70, 3, 1, 59, 60, 61, 10, 62, 63, 64, 65, 66, 71, 72, 73, 74, 51, 52, 53, 54, 55, 56, 57, 58, 2, 47, 48, 49, 50, 83, 84, 85, 86, 87, 88, 89, 90, 91, 92, 93, 94, 95, 96] (by decide +kernel) (by decide +kernel)
set_option maxRecDepth 20000 in
theorem gX4_physical_X4_common : GoodIn wsX4_physical (wsV RX4 136 RX4 yX4_common wsX4_common) := goodIn_app (goodIn_of _ (by decide +kernel)) ggX4_physical_X4_common
set_option maxRecDepth 20000 in
theorem ggX4_physical_X4_divide : GoodIn wsX4_physical wsX4_divide := goodIn_r _ [78, 1, 3, 63, 64, 65, 10, 66, 51, 52, 53, 54, 47, 48, 49, 50, 2, 31, 32, 33, 34, 4, 71, 72, 73, 74, 59, 60, 61, 62, 55, 56, 57, 58, 83, 84, 85, 86, 87, 88, 89, 90, 91, 92, 93, 94, 95, 96] (by decide +kernel) (by decide +kernel)
set_option maxRecDepth 20000 in
theorem gX4_physical_X4_divide : GoodIn wsX4_physical (wsV RX4 110 RX4 yX4_divide wsX4_divide) := goodIn_app (goodIn_of _ (by decide +kernel)) ggX4_physical_X4_divide
set_option maxRecDepth 20000 in
theorem ggX4_physical_X4_low : GoodIn wsX4_physical wsX4_low := goodIn_r _ [82, 3, 1, 83, 84, 85, 86, 87, 88, 89, 90, 91, 92, 93, 94, 95, 96] (by decide +kernel) (by decide +kernel)
set_option maxRecDepth 20000 in
theorem gX4_physical_X4_low : GoodIn wsX4_physical (wsV RX4 127 RX4 yX4_low wsX4_low) := goodIn_app (goodIn_of _ (by decide +kernel)) ggX4_physical_X4_low
set_option maxRecDepth 20000 in
theorem ggX4_text_X4_none : GoodIn wsX4_text wsX4_none := goodIn_r _ [12, 13, 14, 86, 87, 88, 89, 90, 91, 92, 93, 94, 95, 96, 97, 98, 99] (by decide +kernel) (by decide +kernel)
set_option maxRecDepth 20000 in
theorem gX4_text_X4_none : GoodIn wsX4_text (wsV RX4 88 RX4 yX4_none wsX4_none) := goodIn_app (goodIn_of _ (by decide +kernel)) ggX4_text_X4_none
set_option maxRecDepth 20000 in
theorem ggX4_text_X4_value : GoodIn wsX4_text wsX4_value := goodIn_r _ [18, 19, 20, 21, 22, 23, 24, 11, 25, 26, 27, 28, 29, 30, 31, 32, 33, 34, 35, 6, 36, 4, 37, 38, 39, 40, 41, 42, 43, 44, 45, 46, 47, 48, 49, 50, 51, 52, 53, 54, 55, 56, 57, 58, 59, 60, 61, 62, 63, 64, 65, 86, 87, 88, 89, 90, 91, 92, 93, 94, 95, 96, 97, 98, 99] (by decide +kernel) (by decide +kernel)
set_option maxRecDepth 20000 in
theorem gX4_text_X4_value : GoodIn wsX4_text (wsV RX4 130 RX4 yX4_value wsX4_value) := goodIn_app (goodIn_of _ (by decide +kernel)) ggX4_text_X4_value
set_option maxRecDepth 20000 in
theorem ggX4_text_X4_multiplyBy : GoodIn wsX4_text wsX4_multiplyBy := goodIn_r _ [40, 32, 33, 34, 11, 35, 6, 36, 4, 41, 42, 43, 44, 86, 87, 88, 89, 90, 91, 92, 93, 94, 95, 96, 97, 98, 99] (by decide +kernel) (by decide +kernel)
set_option maxRecDepth 20000 in
theorem gX4_text_X4_multiplyBy : GoodIn wsX4_text (wsV RX4 102 RX4 yX4_multiplyBy wsX4_multiplyBy) := goodIn_app (goodIn_of _ (by decide +kernel)) ggX4_text_X4_multiplyBy
set_option maxRecDepth 20000 in
theorem ggX4_text_X4_copy : GoodIn wsX4_text wsX4_copy := goodIn_r _ [69, 6, 4, 86, 87, 88, 89, 90, 91, 92, 93, 94, 95, 96, 97, 98, 99] (by decide +kernel) (by decide +kernel)
set_option maxRecDepth 20000 in
theorem gX4_text_X4_copy : GoodIn wsX4_text (wsV RX4 71 RX4 yX4_copy wsX4_copy) := goodIn_app (goodIn_of _ (by decide +kernel)) ggX4_text_X4_copy
set_option maxRecDepth 20000 in
theorem ggX4_text_X4_round : GoodIn wsX4_text wsX4_round := goodIn_r _ [73, 4, 1, 6, 74, 75, 76, 11, 77, 66, 67, 68, 69, 54, 55, 56, 57, 49, 50, 51, 52, 53, 32, 33, 34, 35, 36, 78, 79, 80, 81, 62, 63, 64, 65, 58, 59, 60, 61, 45, 46, 47, 48, 86, 87, 88, 89, 90, 91, 92, 93, 94, 95, 96, 97, 98, 99] (by decide +kernel) (by decide +kernel)
set_option maxRecDepth 20000 in
theorem gX4_text_X4_round : GoodIn wsX4_text (wsV RX4 117 RX4 yX4_round wsX4_round) := goodIn_app (goodIn_of _ (by decide +kernel)) ggX4_text_X4_round
set_option maxRecDepth 20000 in
theorem ggX4_text_X4_set : GoodIn wsX4_text wsX4_set := goodIn_r _ [35, 6, 36, 4, 86, 87, 88, 89, 90, 91, 92, 93, 94, 95, 96, 97, 98, 99] (by decide +kernel) (by decide +kernel)
set_option maxRecDepth 20000 in
theorem gX4_text_X4_set : GoodIn wsX4_text (wsV RX4 64 RX4 yX4_set wsX4_set) := goodIn_app (goodIn_of _ (by decide +kernel)) ggX4_text_X4_set
set_option maxRecDepth 20000 in
theorem ggX4_text_X4_divide : GoodIn wsX4_text wsX4_divide := goodIn_r _ [77, 4, 6, 66, 67, 68, 11, 69, 54, 55, 56, 57, 49, 50, 51, 52, 53, 32, 33, 34, 35, 36, 78, 79, 80, 81, 62, 63, 64, 65, 58, 59, 60, 61, 86, 87, 88, 89, 90, 91, 92, 93, 94, 95, 96, 97, 98, 99] (by decide +kernel) (by decide +kernel)
set_option maxRecDepth 20000 in
theorem gX4_text_X4_divide : GoodIn wsX4_text (wsV RX4 110 RX4 yX4_divide wsX4_divide) := goodIn_app (goodIn_of _ (by decide +kernel)) ggX4_text_X4_divide
set_option maxRecDepth 20000 in
theorem ggX4_text_X4_letter : GoodIn wsX4_text wsX4_letter := goodIn_r _ [85, 7, 3, 86, 87, 88, 89, 90, 91, 92, 93, 94, 95, 96, 97, 98, 99] (by decide +kernel) (by decide +kernel)
set_option maxRecDepth 20000 in
theorem gX4_text_X4_letter : GoodIn wsX4_text (wsV RX4 148 RX4 yX4_letter wsX4_letter) := goodIn_app (goodIn_of _ (by decide +kernel)) ggX4_text_X4_letter
set_option maxRecDepth 20000 in
theorem ggX4_bound_X4_none : GoodIn wsX4_bound wsX4_none := goodIn_r _ [5, 6, 7, 20, 21, 22, 23, 24, 25, 26, 27, 28, 29, 30, 31, 32, 33] (by decide +kernel) (by decide +kernel)
set_option maxRecDepth 20000 in
theorem gX4_bound_X4_none : GoodIn wsX4_bound (wsV RX4 88 RX4 yX4_none wsX4_none) := goodIn_app (goodIn_of _ (by decide +kernel)) ggX4_bound_X4_none
set_option maxRecDepth 20000 in
theorem ggX4_bound_X4_least : GoodIn wsX4_bound wsX4_least := goodIn_r _ [11, 12, 13, 14, 20, 21, 22, 23, 24, 25, 26, 27, 28, 29, 30, 31, 32, 33] (by decide +kernel) (by decide +kernel)
set_option maxRecDepth 20000 in
theorem gX4_bound_X4_least : GoodIn wsX4_bound (wsV RX4 120 RX4 yX4_least wsX4_least) := goodIn_app (goodIn_of _ (by decide +kernel)) ggX4_bound_X4_least
set_option maxRecDepth 20000 in
theorem ggX4_bound_X4_most : GoodIn wsX4_bound wsX4_most := goodIn_r _ [18, 12, 13, 19, 20, 21, 22, 23, 24, 25, 26, 27, 28, 29, 30, 31, 32, 33] (by decide +kernel) (by decide +kernel)
set_option maxRecDepth 20000 in
theorem gX4_bound_X4_most : GoodIn wsX4_bound (wsV RX4 124 RX4 yX4_most wsX4_most) := goodIn_app (goodIn_of _ (by decide +kernel)) ggX4_bound_X4_most
set_option maxRecDepth 20000 in
theorem ggX4_compare_X4_none : GoodIn wsX4_compare wsX4_none := goodIn_r _ [6, 7, 8, 61, 62, 63, 64, 65, 66, 67, 68, 69, 70, 71, 72, 73, 74] (by decide +kernel) (by decide +kernel)
set_option maxRecDepth 20000 in
theorem gX4_compare_X4_none : GoodIn wsX4_compare (wsV RX4 88 RX4 yX4_none wsX4_none) := goodIn_app (goodIn_of _ (by decide +kernel)) ggX4_compare_X4_none
set_option maxRecDepth 20000 in
theorem ggX4_compare_X4_value : GoodIn wsX4_compare wsX4_value := goodIn_r _ [12, 13, 14, 15, 16, 17, 18, 5, 19, 20, 21, 22, 23, 24, 25, 26, 27, 28, 29, 30, 31, 1, 32, 33, 34, 35, 36, 37, 38, 39, 40, 41, 42, 43, 44, 45, 46, 47, 48, 49, 50, 51, 52, 53, 54, 55, 56, 57, 58, 59, 60, 61, 62, 63, 64, 65, 66, 67, 68, 69, 70, 71, 72, 73, 74] (by decide +kernel) (by decide +kernel)
set_option maxRecDepth 20000 in
theorem gX4_compare_X4_value : GoodIn wsX4_compare (wsV RX4 130 RX4 yX4_value wsX4_value) := goodIn_app (goodIn_of _ (by decide +kernel)) ggX4_compare_X4_value
set_option maxRecDepth 20000 in
theorem ggX4_compare_X4_multiply : GoodIn wsX4_compare wsX4_multiply := goodIn_r _ [39, 30, 31, 1, 61, 62, 63, 64, 65, 66, 67, 68, 69, 70, 71, 72, 73, 74] (by decide +kernel) (by decide +kernel)
set_option maxRecDepth 20000 in
theorem gX4_compare_X4_multiply : GoodIn wsX4_compare (wsV RX4 68 RX4 yX4_multiply wsX4_multiply) := goodIn_app (goodIn_of _ (by decide +kernel)) ggX4_compare_X4_multiply
set_option maxRecDepth 20000 in
theorem ggX4_compare_X4_add : GoodIn wsX4_compare wsX4_add := goodIn_r _ [43, 1, 44, 45, 46, 5, 47, 30, 48, 49, 50, 51, 52, 53, 54, 55, 56, 57, 58, 59, 60, 61, 62, 63, 64, 65, 66, 67, 68, 69, 70, 71, 72, 73, 74] (by decide +kernel) (by decide +kernel)
set_option maxRecDepth 20000 in
theorem gX4_compare_X4_add : GoodIn wsX4_compare (wsV RX4 106 RX4 yX4_add wsX4_add) := goodIn_app (goodIn_of _ (by decide +kernel)) ggX4_compare_X4_add
set_option maxRecDepth 20000 in
theorem ggX4_octet_X4_none : GoodIn wsX4_octet wsX4_none := goodIn_r _ [7, 8, 9, 14, 15, 16, 17, 18, 19, 20, 21, 22, 23, 24, 25, 26, 27] (by decide +kernel) (by decide +kernel)
set_option maxRecDepth 20000 in
theorem gX4_octet_X4_none : GoodIn wsX4_octet (wsV RX4 88 RX4 yX4_none wsX4_none) := goodIn_app (goodIn_of _ (by decide +kernel)) ggX4_octet_X4_none
set_option maxRecDepth 20000 in
theorem ggX4_octet_X4_unsigned : GoodIn wsX4_octet wsX4_unsigned := goodIn_r _ [13, 1, 14, 15, 16, 17, 18, 19, 20, 21, 22, 23, 24, 25, 26, 27] (by decide +kernel) (by decide +kernel)
set_option maxRecDepth 20000 in
theorem gX4_octet_X4_unsigned : GoodIn wsX4_octet (wsV RX4 91 RX4 yX4_unsigned wsX4_unsigned) := goodIn_app (goodIn_of _ (by decide +kernel)) ggX4_octet_X4_unsigned
set_option maxRecDepth 20000 in
theorem ggX4_half_X4_none : GoodIn wsX4_half wsX4_none := goodIn_r _ [7, 8, 9, 14, 15, 16, 17, 18, 19, 20, 21, 22, 23, 24, 25, 26, 27] (by decide +kernel) (by decide +kernel)
set_option maxRecDepth 20000 in
theorem gX4_half_X4_none : GoodIn wsX4_half (wsV RX4 88 RX4 yX4_none wsX4_none) := goodIn_app (goodIn_of _ (by decide +kernel)) ggX4_half_X4_none
set_option maxRecDepth 20000 in
theorem ggX4_half_X4_unsigned : GoodIn wsX4_half wsX4_unsigned := goodIn_r _ [13, 1, 14, 15, 16, 17, 18, 19, 20, 21, 22, 23, 24, 25, 26, 27] (by decide +kernel) (by decide +kernel)
set_option maxRecDepth 20000 in
theorem gX4_half_X4_unsigned : GoodIn wsX4_half (wsV RX4 91 RX4 yX4_unsigned wsX4_unsigned) := goodIn_app (goodIn_of _ (by decide +kernel)) ggX4_half_X4_unsigned
