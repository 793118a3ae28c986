set_option maxRecDepth 20000 in
theorem ggL_law_X6_merge : GoodIn wsL_law wsX6_merge := goodIn_r _ [351, 118, 124, 122, 215, 216, 217, 5, 218, 219, 220, 221, 222, 223, 224, 225, 243, 244, 245, 246, 247, 248, 249, 250, 251, 252, 253, 254, 352, 353, 354, 355, 125, 356, 357, 358, 359, 302, 303, 304, 305, 259, 260, 261, 262, 263, 119, 231, 232, 233, 234, 264, 265, 266, 267, 268, 269, 270, 271, 272, 273, 274, 275, 276, 277, 278, 279, 744, 745, 746, 747, 748, 749, 750, 751, 752, 753, 754, 755, 756] rfl (by decide +kernel)
set_option maxRecDepth 20000 in
theorem gL_law_X6_merge : GoodIn wsL_law (wsV RL 30 RX6 yX6_merge wsX6_merge) := goodIn_app (goodIn_of _ (by decide +kernel)) ggL_law_X6_merge
set_option maxRecDepth 20000 in
theorem ggL_law_X5_drop : GoodIn wsL_law wsX5_drop := goodIn_r _ [363, 17, 15, 21, 285, 286, 287, 38, 288, 48, 87, 88, 89, 90, 54, 364, 365, 366, 14, 367, 41, 368, 162, 163, 164, 40, 165, 134, 135, 136, 184, 185, 186, 20, 187, 60, 59, 58, 13, 61, 188, 189, 190, 191, 33, 34, 35, 10, 11, 36, 37, 39, 30, 42, 43, 44, 45, 46, 47, 49, 50, 51, 52, 53, 192, 193, 194, 195, 196, 80, 81, 82, 197, 198, 199, 200, 79, 369, 370, 371, 372, 373, 374, 375, 376, 377, 378, 379, 380, 381, 382, 383, 384, 385, 83, 84, 85, 86, 99, 100, 101, 102, 737, 738, 739, 740, 741, 742, 743, 772, 773, 774, 775, 776, 777, 778, 757, 758, 759, 760, 761, 762, 763, 764, 765] rfl (by decide +kernel)
set_option maxRecDepth 20000 in
theorem gL_law_X5_drop : GoodIn wsL_law (wsV RL 31 RX5 yX5_drop wsX5_drop) := goodIn_app (goodIn_of _ (by decide +kernel)) ggL_law_X5_drop
set_option maxRecDepth 20000 in
theorem ggL_law_X6_drop : GoodIn wsL_law wsX6_drop := goodIn_r _ [389, 298, 299, 300, 5, 301, 302, 303, 304, 305, 118, 219, 220, 221, 251, 252, 253, 254, 390, 391, 392, 393, 222, 223, 224, 225, 259, 260, 261, 262, 263, 119, 394, 395, 396, 397, 268, 269, 270, 271, 398, 399, 400, 401, 402, 403, 404, 405, 744, 745, 746, 747, 748, 749, 750, 751, 752, 753, 754, 755, 756] rfl (by decide +kernel)
set_option maxRecDepth 20000 in
theorem gL_law_X6_drop : GoodIn wsL_law (wsV RL 34 RX6 yX6_drop wsX6_drop) := goodIn_app (goodIn_of _ (by decide +kernel)) ggL_law_X6_drop
set_option maxRecDepth 20000 in
theorem ggL_law_X5_storeWhole : GoodIn wsL_law wsX5_storeWhole := goodIn_r _ [409, 17, 21, 15, 410, 84, 85, 38, 86, 48, 87, 88, 89, 90, 54, 166, 167, 168, 169, 170, 171, 172, 173, 174, 175, 176, 177, 52, 99, 100, 101, 102, 51, 411, 184, 185, 186, 20, 187, 60, 59, 58, 13, 14, 61, 188, 189, 190, 191, 33, 34, 35, 10, 11, 36, 37, 39, 30, 40, 41, 42, 43, 44, 45, 46, 47, 49, 50, 53, 192, 193, 194, 195, 196, 80, 81, 82, 197, 198, 199, 200, 79, 412, 413, 414, 415, 416, 417, 418, 419, 83, 420, 421, 422, 423, 111, 112, 113, 424, 425, 426, 427, 374, 375, 376, 377, 378, 379, 380, 381, 382, 383, 384, 385, 737, 738, 739, 740, 741, 742, 743, 772, 773, 774, 775, 776, 777, 778, 763, 764, 765, 757, 758, 759, 760, 761, 762] rfl (by decide +kernel)
set_option maxRecDepth 20000 in
theorem gL_law_X5_storeWhole : GoodIn wsL_law (wsV RL 35 RX5 yX5_storeWhole wsX5_storeWhole) := goodIn_app (goodIn_of _ (by decide +kernel)) ggL_law_X5_storeWhole
set_option maxRecDepth 20000 in
theorem ggL_law_X6_storeWhole : GoodIn wsL_law wsX6_storeWhole := goodIn_r _ [431, 432, 433, 434, 5, 435, 302, 303, 304, 305, 118, 219, 220, 221, 251, 252, 253, 254, 243, 244, 245, 246, 247, 248, 249, 250, 259, 260, 261, 262, 263, 119, 436, 437, 438, 439, 440, 441, 442, 443, 276, 277, 278, 279, 231, 232, 233, 234, 268, 269, 270, 271, 402, 403, 404, 405, 394, 395, 396, 397, 398, 399, 400, 401, 744, 745, 746, 747, 748, 749, 750, 751, 752, 753, 754, 755, 756] rfl (by decide +kernel)
set_option maxRecDepth 20000 in
theorem gL_law_X6_storeWhole : GoodIn wsL_law (wsV RL 38 RX6 yX6_storeWhole wsX6_storeWhole) := goodIn_app (goodIn_of _ (by decide +kernel)) ggL_law_X6_storeWhole
set_option maxRecDepth 20000 in
theorem ggL_law_X5_rebase : GoodIn wsL_law wsX5_rebase := goodIn_r _ [447, 17, 15, 205, 21, 410, 84, 85, 38, 86, 48, 87, 88, 89, 90, 54, 166, 167, 168, 169, 170, 171, 172, 173, 174, 175, 176, 177, 52, 99, 100, 101, 102, 51, 448, 449, 450, 451, 452, 453, 454, 455, 456, 457, 458, 459, 460, 461, 190, 462, 83, 463, 92, 93, 94, 95, 96, 97, 98, 411, 184, 185, 186, 20, 187, 60, 59, 58, 13, 14, 61, 188, 189, 191, 33, 34, 35, 10, 11, 36, 37, 39, 30, 40, 41, 42, 43, 44, 45, 46, 47, 49, 50, 53, 192, 193, 194, 195, 196, 80, 81, 82, 197, 198, 199, 200, 79, 424, 425, 426, 427, 374, 375, 376, 377, 378, 379, 380, 381, 382, 383, 384, 385, 464, 417, 418, 419, 420, 421, 422, 423, 111, 112, 113, 737, 738, 739, 740, 741, 742, 743, 757, 758, 759, 760, 761, 762, 772, 773, 774, 775, 776, 777, 778, 763, 764, 765] rfl (by decide +kernel)
set_option maxRecDepth 20000 in
theorem gL_law_X5_rebase : GoodIn wsL_law (wsV RL 39 RX5 yX5_rebase wsX5_rebase) := goodIn_app (goodIn_of _ (by decide +kernel)) ggL_law_X5_rebase
set_option maxRecDepth 20000 in
theorem ggL_law_X6_rebase : GoodIn wsL_law wsX6_rebase := goodIn_r _ [468, 432, 433, 434, 5, 435, 302, 303, 304, 305, 118, 219, 220, 221, 251, 252, 253, 254, 243, 244, 245, 246, 247, 248, 249, 250, 469, 470, 471, 472, 473, 474, 475, 476, 268, 269, 270, 271, 477, 478, 479, 480, 272, 273, 274, 275, 259, 260, 261, 262, 263, 119, 402, 403, 404, 405, 394, 395, 396, 397, 398, 399, 400, 401, 440, 441, 442, 443, 276, 277, 278, 279, 231, 232, 233, 234, 744, 745, 746, 747, 748, 749, 750, 751, 752, 753, 754, 755, 756] rfl (by decide +kernel)
set_option maxRecDepth 20000 in
theorem gL_law_X6_rebase : GoodIn wsL_law (wsV RL 42 RX6 yX6_rebase wsX6_rebase) := goodIn_app (goodIn_of _ (by decide +kernel)) ggL_law_X6_rebase
set_option maxRecDepth 20000 in
theorem ggL_law_X5_setLimit : GoodIn wsL_law wsX5_setLimit := goodIn_r _ [484, 17, 15, 205, 21, 485, 486, 487, 38, 488, 54, 460, 461, 190, 462, 83, 84, 85, 86, 48, 87, 88, 89, 90, 95, 96, 97, 98, 99, 100, 101, 102, 51, 184, 185, 186, 20, 187, 60, 59, 58, 13, 14, 61, 188, 189, 191, 33, 34, 35, 10, 11, 36, 37, 39, 30, 40, 41, 42, 43, 44, 45, 46, 47, 49, 50, 52, 53, 192, 193, 194, 195, 196, 80, 81, 82, 197, 198, 199, 200, 79, 737, 738, 739, 740, 741, 742, 743, 757, 758, 759, 760, 761, 762, 772, 773, 774, 775, 776, 777, 778, 763, 764, 765] rfl (by decide +kernel)
set_option maxRecDepth 20000 in
theorem gL_law_X5_setLimit : GoodIn wsL_law (wsV RL 43 RX5 yX5_setLimit wsX5_setLimit) := goodIn_app (goodIn_of _ (by decide +kernel)) ggL_law_X5_setLimit
set_option maxRecDepth 20000 in
theorem ggL_law_X6_setLimit : GoodIn wsL_law wsX6_setLimit := goodIn_r _ [492, 118, 219, 220, 5, 221, 477, 478, 479, 480, 302, 303, 304, 305, 251, 252, 253, 254, 272, 273, 274, 275, 259, 260, 261, 262, 263, 119, 744, 745, 746, 747, 748, 749, 750, 751, 752, 753, 754, 755, 756] rfl (by decide +kernel)
set_option maxRecDepth 20000 in
theorem gL_law_X6_setLimit : GoodIn wsL_law (wsV RL 46 RX6 yX6_setLimit wsX6_setLimit) := goodIn_app (goodIn_of _ (by decide +kernel)) ggL_law_X6_setLimit
