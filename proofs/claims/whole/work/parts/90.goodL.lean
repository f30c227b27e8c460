set_option maxRecDepth 20000 in
theorem ggL_apply_X3_apply : GoodIn wsL_apply wsX3_apply := goodIn_ca (goodIn_r _ [6, 7, 8, 9, 10, 11, 12, 13, 5, 14, 15, 16, 17, 18, 19, 20, 21, 22, 23, 24, 25, 26, 27, 28, 29, 30, 31, 32, 33, 34, 35, 36, 37, 38, 39, 40, 41, 42, 43, 44, 45, 46, 47, 48, 49, 50, 51, 52, 53, 54, 55, 56, 57, 58, 59, 60, 61, 62, 63, 64, 65, 66, 67, 68, 69, 70, 71, 72, 73, 74, 75, 76, 77, 78, 79, 80, 81, 82, 83, 84, 85, 86, 87, 88, 89, 90, 91, 92, 93, 94, 95, 96, 97, 98, 99, 100, 101, 102, 103, 104, 105, 106, 107, 108, 109, 110, 111, 112, 113, 114, 115, 116, 117, 118, 119, 120, 121, 122, 123, 124, 125, 126, 127, 128, 129, 130, 131, 132, 133, 134, 135, 136, 137, 138, 139, 140, 141, 142, 143, 144, 145, 146, 147, 148, 149, 150, 151, 152, 153, 154, 155, 156] (by decide +kernel) (by decide +kernel)) (goodIn_sub (fun _ h => List.mem_cons_of_mem _ (List.mem_append_right _ h)) (by decide +kernel))
set_option maxRecDepth 20000 in
theorem gL_apply_X3_apply : GoodIn wsL_apply (wsV RL 7 RX3 yX3_apply wsX3_apply) := goodIn_app (goodIn_of _ (by decide +kernel)) ggL_apply_X3_apply
set_option maxRecDepth 20000 in
theorem ggL_at_X3_at : GoodIn wsL_at wsX3_at := goodIn_r _ [5, 6, 7, 8, 9, 10, 11, 12, 13, 14, 15, 16, 17, 18, 19, 20, 21, 22, 23, 24] (by decide +kernel) (by decide +kernel)
set_option maxRecDepth 20000 in
theorem gL_at_X3_at : GoodIn wsL_at (wsV RL 15 RX3 yX3_at wsX3_at) := goodIn_app (goodIn_of _ (by decide +kernel)) ggL_at_X3_at
set_option maxRecDepth 20000 in
theorem ggL_law_X3_init : GoodIn wsL_law wsX3_init := goodIn_r _ [10, 11, 12, 13, 14, 15, 16, 17, 18, 19, 20, 21, 22, 23, 24, 25, 26, 27, 28, 29, 30, 31, 32, 33, 34, 35, 36, 37, 38, 6, 39, 453, 454, 455, 456, 457, 458, 459, 460, 475, 476, 477] (by decide +kernel) (by decide +kernel)
set_option maxRecDepth 20000 in
theorem gL_law_X3_init : GoodIn wsL_law (wsX3_init) := ggL_law_X3_init
set_option maxRecDepth 20000 in
theorem ggL_law_X4_init : GoodIn wsL_law wsX4_init := goodIn_r _ [42, 43, 12, 13, 44, 45, 46, 47, 6, 48, 49, 50, 51, 52, 53, 54, 55, 461, 462, 463, 464, 465, 466, 467, 468, 469, 470, 471, 472, 473, 474] (by decide +kernel) (by decide +kernel)
set_option maxRecDepth 20000 in
theorem gL_law_X4_init : GoodIn wsL_law (wsX4_init) := ggL_law_X4_init
set_option maxRecDepth 20000 in
theorem ggL_law_X3_kind : GoodIn wsL_law wsX3_kind := goodIn_r _ [59, 16, 15, 14, 60, 61, 62, 63, 2, 64, 65, 66, 67, 68, 69, 70, 71, 72, 73, 74, 75, 76, 12, 13, 77, 78, 79, 80, 81, 82, 83, 453, 454, 455, 456, 457, 458, 459, 460, 478, 479, 480, 481, 482, 483, 484] (by decide +kernel) (by decide +kernel)
set_option maxRecDepth 20000 in
theorem gL_law_X3_kind : GoodIn wsL_law (wsV RL 27 RX3 yX3_kind wsX3_kind) := goodIn_app (goodIn_of _ (by decide +kernel)) ggL_law_X3_kind
set_option maxRecDepth 20000 in
theorem ggL_law_X4_kind : GoodIn wsL_law wsX4_kind := goodIn_r _ [87, 88, 89, 90, 91, 92, 45, 47, 48, 49, 50, 461, 462, 463, 464, 465, 466, 467, 468, 469, 470, 471, 472, 473, 474] (by decide +kernel) (by decide +kernel)
set_option maxRecDepth 20000 in
theorem gL_law_X4_kind : GoodIn wsL_law (wsV RL 31 RX4 yX4_kind wsX4_kind) := goodIn_app (goodIn_of _ (by decide +kernel)) ggL_law_X4_kind
set_option maxRecDepth 20000 in
theorem ggL_law_X3_rule : GoodIn wsL_law wsX3_rule := goodIn_r _ [96, 97, 98, 99, 2, 100, 16, 15, 478, 479, 480, 481, 482, 483, 484, 453, 454, 455, 456, 457, 458, 459, 460] (by decide +kernel) (by decide +kernel)
set_option maxRecDepth 20000 in
theorem gL_law_X3_rule : GoodIn wsL_law (wsV RL 32 RX3 yX3_rule wsX3_rule) := goodIn_app (goodIn_of _ (by decide +kernel)) ggL_law_X3_rule
set_option maxRecDepth 20000 in
theorem ggL_law_X4_rule : GoodIn wsL_law wsX4_rule := goodIn_r _ [104, 51, 52, 105, 106, 107, 5, 108, 88, 92, 461, 462, 463, 464, 465, 466, 467, 468, 469, 470, 471, 472, 473, 474] (by decide +kernel) (by decide +kernel)
set_option maxRecDepth 20000 in
theorem gL_law_X4_rule : GoodIn wsL_law (wsV RL 36 RX4 yX4_rule wsX4_rule) := goodIn_app (goodIn_of _ (by decide +kernel)) ggL_law_X4_rule
set_option maxRecDepth 20000 in
theorem ggL_law_L_apply : GoodIn wsL_law wsL_apply := goodIn_ca (goodIn_r _ [112, 113, 114, 115, 116, 2, 117, 118, 119, 24, 25, 97, 98, 99, 100, 16, 15, 120, 23, 121, 122, 34, 35, 123, 61, 124, 125, 77, 78, 126, 28, 127, 128, 39, 129, 130, 131, 132, 133, 134, 135, 136, 137, 138, 139, 140, 141, 142, 143, 144, 145, 146, 147, 148, 149, 150, 151, 152, 17, 153, 154, 155, 156, 157, 158, 159, 160, 161, 162, 163, 164, 29, 165, 166, 167, 168, 169, 170, 171, 172, 173, 174, 175, 176, 177, 178, 179, 180, 181, 182, 183, 184, 185, 186, 187, 188, 189, 190, 191, 192, 193, 194, 195, 196, 197, 198, 199, 200, 201, 202, 203, 204, 205, 206, 207, 208, 209, 210, 211, 212, 213, 214, 215, 216, 217, 218, 219, 220, 221, 222, 223, 224, 225, 226, 227, 228, 229, 230, 231, 453, 454, 455, 456, 457, 458, 459, 460, 478, 479, 480, 481, 482, 483, 484, 475, 476, 477] (by decide +kernel) (by decide +kernel)) (goodIn_sub (fun _ h => List.mem_append_right _ h) (by decide +kernel))
set_option maxRecDepth 20000 in
theorem gL_law_L_apply : GoodIn wsL_law (va_wsS RL 37 yL_apply wsL_apply) := goodIn_app (goodIn_of _ (by decide +kernel)) ggL_law_L_apply
set_option maxRecDepth 20000 in
theorem ggL_law_X4_apply : GoodIn wsL_law wsX4_apply := goodIn_r _ [235, 55, 51, 88, 236, 105, 106, 107, 5, 108, 92, 237, 238, 239, 240, 48, 50, 49, 241, 242, 243, 244, 47, 45, 245, 246, 247, 248, 249, 250, 251, 252, 54, 253, 254, 255, 256, 257, 258, 259, 260, 261, 262, 263, 264, 265, 266, 267, 268, 269, 270, 271, 272, 273, 274, 275, 276, 277, 278, 279, 280, 281, 282, 283, 284, 285, 286, 287, 288, 289, 290, 291, 292, 293, 294, 295, 296, 52, 297, 298, 299, 300, 301, 302, 303, 304, 305, 306, 307, 308, 309, 310, 311, 312, 313, 314, 315, 316, 461, 462, 463, 464, 465, 466, 467, 468, 469, 470, 471, 472, 473, 474] (by decide +kernel) (by decide +kernel)
set_option maxRecDepth 20000 in
theorem gL_law_X4_apply : GoodIn wsL_law (wsV RL 42 RX4 yX4_apply wsX4_apply) := goodIn_app (goodIn_of _ (by decide +kernel)) ggL_law_X4_apply
set_option maxRecDepth 20000 in
theorem ggL_law_X4_thrown : GoodIn wsL_law wsX4_thrown := goodIn_r _ [320, 88, 461, 462, 463, 464, 465, 466, 467, 468, 469, 470, 471, 472, 473, 474] (by decide +kernel) (by decide +kernel)
set_option maxRecDepth 20000 in
theorem gL_law_X4_thrown : GoodIn wsL_law (wsV RL 43 RX4 yX4_thrown wsX4_thrown) := goodIn_app (goodIn_of _ (by decide +kernel)) ggL_law_X4_thrown
set_option maxRecDepth 20000 in
theorem ggL_law_X3_convert : GoodIn wsL_law wsX3_convert := goodIn_r _ [324, 24, 97, 98, 99, 2, 100, 16, 15, 120, 23, 121, 122, 34, 35, 123, 61, 124, 125, 77, 78, 126, 28, 127, 128, 39, 129, 130, 131, 132, 133, 134, 135, 161, 162, 163, 164, 29, 17, 165, 166, 167, 168, 169, 170, 171, 172, 173, 174, 175, 176, 177, 178, 179, 180, 181, 182, 146, 147, 148, 183, 184, 185, 186, 142, 143, 144, 145, 187, 188, 189, 190, 139, 140, 141, 191, 192, 193, 194, 195, 196, 197, 198, 199, 200, 201, 202, 203, 204, 205, 206, 207, 208, 157, 158, 159, 160, 156, 209, 153, 154, 155, 210, 211, 212, 213, 453, 454, 455, 456, 457, 458, 459, 460, 475, 476, 478, 479, 480, 481, 482, 483, 484, 477] (by decide +kernel) (by decide +kernel)
set_option maxRecDepth 20000 in
theorem gL_law_X3_convert : GoodIn wsL_law (wsV RL 47 RX3 yX3_convert wsX3_convert) := goodIn_app (goodIn_of _ (by decide +kernel)) ggL_law_X3_convert
set_option maxRecDepth 20000 in
theorem ggL_law_X4_convert : GoodIn wsL_law wsX4_convert := goodIn_r _ [328, 105, 106, 107, 5, 108, 88, 92, 237, 238, 239, 240, 48, 50, 49, 241, 242, 243, 244, 47, 45, 245, 246, 247, 248, 249, 250, 251, 252, 54, 253, 55, 254, 255, 256, 257, 258, 259, 260, 261, 262, 263, 264, 265, 266, 267, 268, 269, 270, 271, 272, 273, 274, 275, 276, 277, 278, 279, 280, 281, 282, 293, 294, 295, 296, 52, 236, 51, 297, 298, 299, 300, 301, 302, 303, 304, 305, 306, 307, 308, 309, 310, 311, 312, 288, 289, 290, 291, 292, 283, 284, 285, 286, 287, 313, 314, 315, 316, 461, 462, 463, 464, 465, 466, 467, 468, 469, 470, 471, 472, 473, 474] (by decide +kernel) (by decide +kernel)
set_option maxRecDepth 20000 in
theorem gL_law_X4_convert : GoodIn wsL_law (wsV RL 51 RX4 yX4_convert wsX4_convert) := goodIn_app (goodIn_of _ (by decide +kernel)) ggL_law_X4_convert
set_option maxRecDepth 20000 in
theorem ggL_law_X3_lost : GoodIn wsL_law wsX3_lost := goodIn_r _ [332, 17, 453, 454, 455, 456, 457, 458, 459, 460] (by decide +kernel) (by decide +kernel)
set_option maxRecDepth 20000 in
theorem gL_law_X3_lost : GoodIn wsL_law (wsV RL 52 RX3 yX3_lost wsX3_lost) := goodIn_app (goodIn_of _ (by decide +kernel)) ggL_law_X3_lost
set_option maxRecDepth 20000 in
theorem ggL_law_X4_lost : GoodIn wsL_law wsX4_lost := goodIn_r _ [336, 88, 236, 461, 462, 463, 464, 465, 466, 467, 468, 469, 470, 471, 472, 473, 474] (by decide +kernel) (by decide +kernel)
set_option maxRecDepth 20000 in
theorem gL_law_X4_lost : GoodIn wsL_law (wsV RL 56 RX4 yX4_lost wsX4_lost) := goodIn_app (goodIn_of _ (by decide +kernel)) ggL_law_X4_lost
set_option maxRecDepth 20000 in
theorem ggL_law_X3_physical : GoodIn wsL_law wsX3_physical := goodIn_r _ [340, 24, 25, 341, 97, 98, 99, 2, 100, 16, 15, 120, 23, 121, 122, 34, 35, 123, 61, 124, 125, 77, 78, 126, 28, 127, 128, 39, 129, 130, 131, 132, 133, 134, 135, 342, 343, 344, 182, 146, 147, 148, 203, 204, 205, 175, 176, 177, 178, 345, 346, 347, 348, 349, 350, 351, 352, 353, 453, 454, 455, 456, 457, 458, 459, 460, 475, 476, 478, 479, 480, 481, 482, 483, 484, 477] (by decide +kernel) (by decide +kernel)
set_option maxRecDepth 20000 in
theorem gL_law_X3_physical : GoodIn wsL_law (wsV RL 57 RX3 yX3_physical wsX3_physical) := goodIn_app (goodIn_of _ (by decide +kernel)) ggL_law_X3_physical
set_option maxRecDepth 20000 in
theorem ggL_law_X4_physical : GoodIn wsL_law wsX4_physical := goodIn_r _ [357, 55, 270, 54, 253, 358, 359, 105, 106, 107, 5, 108, 88, 92, 237, 238, 239, 240, 48, 50, 49, 241, 242, 243, 244, 47, 45, 245, 246, 247, 248, 249, 250, 251, 252, 254, 255, 256, 257, 258, 259, 260, 261, 262, 263, 264, 265, 266, 267, 268, 269, 271, 272, 273, 274, 275, 276, 277, 278, 279, 280, 281, 282, 305, 306, 307, 308, 360, 361, 362, 363, 309, 310, 311, 312, 301, 302, 303, 304, 313, 314, 315, 316, 461, 462, 463, 464, 465, 466, 467, 468, 469, 470, 471, 472, 473, 474] (by decide +kernel) (by decide +kernel)
set_option maxRecDepth 20000 in
theorem gL_law_X4_physical : GoodIn wsL_law (wsV RL 60 RX4 yX4_physical wsX4_physical) := goodIn_app (goodIn_of _ (by decide +kernel)) ggL_law_X4_physical
set_option maxRecDepth 20000 in
theorem ggL_law_X3_text : GoodIn wsL_law wsX3_text := goodIn_r _ [367, 24, 20, 97, 98, 99, 2, 100, 16, 15, 120, 23, 121, 122, 34, 35, 123, 61, 124, 125, 77, 78, 126, 28, 127, 128, 39, 129, 130, 131, 132, 133, 134, 135, 146, 147, 148, 368, 369, 370, 182, 371, 198, 203, 204, 205, 175, 176, 177, 178, 348, 349, 350, 139, 140, 141, 142, 143, 144, 145, 372, 373, 374, 375, 376, 377, 378, 379, 380, 381, 382, 383, 384, 385, 19, 386, 387, 388, 389, 453, 454, 455, 456, 457, 458, 459, 460, 475, 476, 478, 479, 480, 481, 482, 483, 484, 477] (by decide +kernel) (by decide +kernel)
set_option maxRecDepth 20000 in
theorem gL_law_X3_text : GoodIn wsL_law (wsV RL 61 RX3 yX3_text wsX3_text) := goodIn_app (goodIn_of _ (by decide +kernel)) ggL_law_X3_text
set_option maxRecDepth 20000 in
theorem ggL_law_X4_text : GoodIn wsL_law wsX4_text := goodIn_r _ [393, 236, 91, 394, 55, 395, 54, 53, 105, 106, 107, 5, 108, 88, 92, 237, 238, 239, 240, 48, 50, 49, 241, 242, 243, 244, 47, 45, 245, 246, 247, 248, 249, 250, 251, 252, 253, 254, 255, 256, 257, 258, 259, 260, 261, 262, 263, 264, 265, 266, 267, 268, 269, 270, 271, 272, 273, 274, 275, 276, 277, 278, 279, 280, 281, 282, 305, 306, 307, 308, 297, 298, 299, 300, 301, 302, 303, 304, 309, 310, 311, 312, 396, 397, 398, 399, 461, 462, 463, 464, 465, 466, 467, 468, 469, 470, 471, 472, 473, 474] (by decide +kernel) (by decide +kernel)
set_option maxRecDepth 20000 in
theorem gL_law_X4_text : GoodIn wsL_law (wsV RL 65 RX4 yX4_text wsX4_text) := goodIn_app (goodIn_of _ (by decide +kernel)) ggL_law_X4_text
set_option maxRecDepth 20000 in
theorem ggL_law_L_at : GoodIn wsL_law wsL_at := goodIn_r _ [402, 403, 404, 405, 2, 406, 20, 407, 408, 409, 19, 453, 454, 455, 456, 457, 458, 459, 460, 485, 486, 487, 488, 489, 490] (by decide +kernel) (by decide +kernel)
set_option maxRecDepth 20000 in
theorem gL_law_L_at : GoodIn wsL_law (va_wsS RL 66 yL_at wsL_at) := goodIn_app (goodIn_of _ (by decide +kernel)) ggL_law_L_at
set_option maxRecDepth 20000 in
theorem ggL_law_X4_at : GoodIn wsL_law wsX4_at := goodIn_r _ [413, 394, 88, 53, 461, 462, 463, 464, 465, 466, 467, 468, 469, 470, 471, 472, 473, 474] (by decide +kernel) (by decide +kernel)
set_option maxRecDepth 20000 in
theorem gL_law_X4_at : GoodIn wsL_law (wsV RL 69 RX4 yX4_at wsX4_at) := goodIn_app (goodIn_of _ (by decide +kernel)) ggL_law_X4_at
set_option maxRecDepth 20000 in
theorem ggL_law_X3_bound : GoodIn wsL_law wsX3_bound := goodIn_r _ [417, 97, 98, 99, 2, 100, 16, 15, 158, 61, 159, 160, 78, 156, 77, 153, 154, 155, 157, 453, 454, 455, 456, 457, 458, 459, 460, 478, 479, 480, 481, 482, 483, 484] (by decide +kernel) (by decide +kernel)
set_option maxRecDepth 20000 in
theorem gL_law_X3_bound : GoodIn wsL_law (wsV RL 70 RX3 yX3_bound wsX3_bound) := goodIn_app (goodIn_of _ (by decide +kernel)) ggL_law_X3_bound
set_option maxRecDepth 20000 in
theorem ggL_law_X4_bound : GoodIn wsL_law wsX4_bound := goodIn_r _ [421, 105, 106, 107, 5, 108, 88, 92, 288, 289, 290, 291, 47, 45, 292, 283, 284, 285, 286, 287, 461, 462, 463, 464, 465, 466, 467, 468, 469, 470, 471, 472, 473, 474] (by decide +kernel) (by decide +kernel)
set_option maxRecDepth 20000 in
theorem gL_law_X4_bound : GoodIn wsL_law (wsV RL 74 RX4 yX4_bound wsX4_bound) := goodIn_app (goodIn_of _ (by decide +kernel)) ggL_law_X4_bound
set_option maxRecDepth 20000 in
theorem ggL_law_X3_compare : GoodIn wsL_law wsX3_compare := goodIn_r _ [425, 24, 25, 218, 97, 98, 99, 2, 100, 16, 15, 120, 23, 121, 122, 34, 35, 123, 61, 124, 125, 77, 78, 126, 28, 127, 128, 39, 129, 130, 131, 132, 133, 134, 135, 219, 220, 221, 222, 223, 224, 225, 168, 169, 170, 171, 172, 173, 174, 175, 176, 177, 178, 136, 137, 138, 139, 140, 141, 142, 143, 144, 145, 146, 147, 148, 453, 454, 455, 456, 457, 458, 459, 460, 475, 476, 478, 479, 480, 481, 482, 483, 484, 477] (by decide +kernel) (by decide +kernel)
set_option maxRecDepth 20000 in
theorem gL_law_X3_compare : GoodIn wsL_law (wsV RL 75 RX3 yX3_compare wsX3_compare) := goodIn_app (goodIn_of _ (by decide +kernel)) ggL_law_X3_compare
set_option maxRecDepth 20000 in
theorem ggL_law_X4_compare : GoodIn wsL_law wsX4_compare := goodIn_r _ [429, 55, 105, 106, 107, 5, 108, 88, 92, 237, 238, 239, 240, 48, 50, 49, 241, 242, 243, 244, 47, 45, 245, 246, 247, 248, 249, 250, 251, 252, 54, 253, 254, 255, 256, 257, 258, 259, 260, 261, 262, 263, 264, 265, 266, 267, 268, 269, 270, 271, 272, 273, 274, 275, 276, 277, 278, 279, 280, 281, 282, 461, 462, 463, 464, 465, 466, 467, 468, 469, 470, 471, 472, 473, 474] (by decide +kernel) (by decide +kernel)
set_option maxRecDepth 20000 in
theorem gL_law_X4_compare : GoodIn wsL_law (wsV RL 79 RX4 yX4_compare wsX4_compare) := goodIn_app (goodIn_of _ (by decide +kernel)) ggL_law_X4_compare
set_option maxRecDepth 20000 in
theorem ggL_law_X3_octet : GoodIn wsL_law wsX3_octet := goodIn_r _ [433, 97, 98, 99, 2, 100, 16, 15, 434, 61, 435, 436, 77, 437, 438, 439, 453, 454, 455, 456, 457, 458, 459, 460, 478, 479, 480, 481, 482, 483, 484] (by decide +kernel) (by decide +kernel)
set_option maxRecDepth 20000 in
theorem gL_law_X3_octet : GoodIn wsL_law (wsV RL 80 RX3 yX3_octet wsX3_octet) := goodIn_app (goodIn_of _ (by decide +kernel)) ggL_law_X3_octet
set_option maxRecDepth 20000 in
theorem ggL_law_X4_octet : GoodIn wsL_law wsX4_octet := goodIn_r _ [443, 45, 444, 105, 106, 107, 5, 108, 88, 92, 245, 246, 247, 248, 461, 462, 463, 464, 465, 466, 467, 468, 469, 470, 471, 472, 473, 474] (by decide +kernel) (by decide +kernel)
set_option maxRecDepth 20000 in
theorem gL_law_X4_octet : GoodIn wsL_law (wsV RL 84 RX4 yX4_octet wsX4_octet) := goodIn_app (goodIn_of _ (by decide +kernel)) ggL_law_X4_octet
set_option maxRecDepth 20000 in
theorem ggL_law_X3_half : GoodIn wsL_law wsX3_half := goodIn_r _ [448, 97, 98, 99, 2, 100, 16, 15, 437, 61, 438, 439, 77, 478, 479, 480, 481, 482, 483, 484, 453, 454, 455, 456, 457, 458, 459, 460] (by decide +kernel) (by decide +kernel)
set_option maxRecDepth 20000 in
theorem gL_law_X3_half : GoodIn wsL_law (wsV RL 85 RX3 yX3_half wsX3_half) := goodIn_app (goodIn_of _ (by decide +kernel)) ggL_law_X3_half
set_option maxRecDepth 20000 in
theorem ggL_law_X4_half : GoodIn wsL_law wsX4_half := goodIn_r _ [452, 45, 253, 105, 106, 107, 5, 108, 88, 92, 245, 246, 247, 248, 461, 462, 463, 464, 465, 466, 467, 468, 469, 470, 471, 472, 473, 474] (by decide +kernel) (by decide +kernel)
set_option maxRecDepth 20000 in
theorem gL_law_X4_half : GoodIn wsL_law (wsV RL 89 RX4 yX4_half wsX4_half) := goodIn_app (goodIn_of _ (by decide +kernel)) ggL_law_X4_half
