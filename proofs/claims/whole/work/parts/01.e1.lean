set_option maxRecDepth 20000 in
theorem ggL_law_X6_merge : GoodIn wsL_law wsX6_merge := goodIn_r _ [351, 119, 125, 123, 215, 216, 217, 5, 218, 219, 220, 221, 222, 223, 224, 225, 243, 244, 245, 246, 247, 248, 249, 250, 251, 252, 253, 254, 352, 353, 354, 355, 126, 356, 357, 358, 359, 302, 303, 304, 305, 259, 260, 261, 262, 263, 120, 231, 232, 233, 234, 264, 265, 266, 267, 268, 269, 270, 271, 272, 273, 274, 275, 276, 277, 278, 279, 744, 745, 746, 747, 748, 749, 750, 751, 752, 753, 754, 755, 756] rfl (by decide +kernel)
set_option maxRecDepth 20000 in
theorem gL_law_X6_merge : GoodIn wsL_law (wsV RL 30 RX6 yX6_merge wsX6_merge) := goodIn_app (goodIn_of _ (by decide +kernel)) ggL_law_X6_merge
set_option maxRecDepth 20000 in
theorem ggL_law_X5_drop : GoodIn wsL_law wsX5_drop := goodIn_r _ [363, 17, 15, 21, 285, 286, 287, 39, 288, 49, 88, 89, 90, 91, 55, 364, 365, 366, 14, 367, 42, 368, 163, 164, 165, 41, 166, 135, 136, 137, 185, 186, 187, 20, 188, 61, 60, 59, 13, 62, 189, 190, 191, 192, 34, 35, 36, 10, 11, 37, 38, 40, 30, 43, 44, 45, 46, 47, 48, 50, 51, 52, 53, 54, 193, 194, 195, 196, 197, 81, 82, 83, 198, 199, 200, 201, 80, 369, 370, 371, 372, 373, 374, 375, 376, 377, 378, 379, 380, 381, 382, 383, 384, 385, 84, 85, 86, 87, 100, 101, 102, 103, 737, 738, 739, 740, 741, 742, 743, 772, 773, 774, 775, 776, 777, 778, 757, 758, 759, 760, 761, 762, 763, 764, 765] rfl (by decide +kernel)
set_option maxRecDepth 20000 in
theorem gL_law_X5_drop : GoodIn wsL_law (wsV RL 31 RX5 yX5_drop wsX5_drop) := goodIn_app (goodIn_of _ (by decide +kernel)) ggL_law_X5_drop
set_option maxRecDepth 20000 in
theorem ggL_law_X6_drop : GoodIn wsL_law wsX6_drop := goodIn_r _ [389, 298, 299, 300, 5, 301, 302, 303, 304, 305, 119, 219, 220, 221, 251, 252, 253, 254, 390, 391, 392, 393, 222, 223, 224, 225, 259, 260, 261, 262, 263, 120, 394, 395, 396, 397, 268, 269, 270, 271, 398, 399, 400, 401, 402, 403, 404, 405, 744, 745, 746, 747, 748, 749, 750, 751, 752, 753, 754, 755, 756] rfl (by decide +kernel)
set_option maxRecDepth 20000 in
theorem gL_law_X6_drop : GoodIn wsL_law (wsV RL 34 RX6 yX6_drop wsX6_drop) := goodIn_app (goodIn_of _ (by decide +kernel)) ggL_law_X6_drop
set_option maxRecDepth 20000 in
theorem ggL_law_X5_storeWhole : GoodIn wsL_law wsX5_storeWhole := goodIn_r _ [409, 17, 21, 15, 410, 85, 86, 39, 87, 49, 88, 89, 90, 91, 55, 167, 168, 169, 170, 171, 172, 173, 174, 175, 176, 177, 178, 53, 100, 101, 102, 103, 52, 411, 185, 186, 187, 20, 188, 61, 60, 59, 13, 14, 62, 189, 190, 191, 192, 34, 35, 36, 10, 11, 37, 38, 40, 30, 41, 42, 43, 44, 45, 46, 47, 48, 50, 51, 54, 193, 194, 195, 196, 197, 81, 82, 83, 198, 199, 200, 201, 80, 412, 413, 414, 415, 416, 417, 418, 419, 84, 420, 421, 422, 423, 112, 113, 114, 424, 425, 426, 427, 374, 375, 376, 377, 378, 379, 380, 381, 382, 383, 384, 385, 737, 738, 739, 740, 741, 742, 743, 772, 773, 774, 775, 776, 777, 778, 763, 764, 765, 757, 758, 759, 760, 761, 762] rfl (by decide +kernel)
set_option maxRecDepth 20000 in
theorem gL_law_X5_storeWhole : GoodIn wsL_law (wsV RL 35 RX5 yX5_storeWhole wsX5_storeWhole) := goodIn_app (goodIn_of _ (by decide +kernel)) ggL_law_X5_storeWhole
set_option maxRecDepth 20000 in
theorem ggL_law_X6_storeWhole : GoodIn wsL_law wsX6_storeWhole := goodIn_r _ [431, 432, 433, 434, 5, 435, 302, 303, 304, 305, 119, 219, 220, 221, 251, 252, 253, 254, 243, 244, 245, 246, 247, 248, 249, 250, 259, 260, 261, 262, 263, 120, 436, 437, 438, 439, 440, 441, 442, 443, 276, 277, 278, 279, 231, 232, 233, 234, 268, 269, 270, 271, 402, 403, 404, 405, 394, 395, 396, 397, 398, 399, 400, 401, 744, 745, 746, 747, 748, 749, 750, 751, 752, 753, 754, 755, 756] rfl (by decide +kernel)
set_option maxRecDepth 20000 in
theorem gL_law_X6_storeWhole : GoodIn wsL_law (wsV RL 38 RX6 yX6_storeWhole wsX6_storeWhole) := goodIn_app (goodIn_of _ (by decide +kernel)) ggL_law_X6_storeWhole
set_option maxRecDepth 20000 in
theorem ggL_law_X5_rebase : GoodIn wsL_law wsX5_rebase := goodIn_r _ [447, 17, 15, 33, 21, 410, 85, 86, 39, 87, 49, 88, 89, 90, 91, 55, 167, 168, 169, 170, 171, 172, 173, 174, 175, 176, 177, 178, 53, 100, 101, 102, 103, 52, 448, 449, 450, 451, 452, 453, 454, 455, 456, 457, 458, 459, 460, 461, 191, 462, 84, 463, 93, 94, 95, 96, 97, 98, 99, 411, 185, 186, 187, 20, 188, 61, 60, 59, 13, 14, 62, 189, 190, 192, 34, 35, 36, 10, 11, 37, 38, 40, 30, 41, 42, 43, 44, 45, 46, 47, 48, 50, 51, 54, 193, 194, 195, 196, 197, 81, 82, 83, 198, 199, 200, 201, 80, 424, 425, 426, 427, 374, 375, 376, 377, 378, 379, 380, 381, 382, 383, 384, 385, 464, 417, 418, 419, 420, 421, 422, 423, 112, 113, 114, 737, 738, 739, 740, 741, 742, 743, 757, 758, 759, 760, 761, 762, 772, 773, 774, 775, 776, 777, 778, 763, 764, 765] rfl (by decide +kernel)
set_option maxRecDepth 20000 in
theorem gL_law_X5_rebase : GoodIn wsL_law (wsV RL 39 RX5 yX5_rebase wsX5_rebase) := goodIn_app (goodIn_of _ (by decide +kernel)) ggL_law_X5_rebase
set_option maxRecDepth 20000 in
theorem ggL_law_X6_rebase : GoodIn wsL_law wsX6_rebase := goodIn_r _ [468, 432, 433, 434, 5, 435, 302, 303, 304, 305, 119, 219, 220, 221, 251, 252, 253, 254, 243, 244, 245, 246, 247, 248, 249, 250, 469, 470, 471, 472, 473, 474, 475, 476, 268, 269, 270, 271, 477, 478, 479, 480, 272, 273, 274, 275, 259, 260, 261, 262, 263, 120, 402, 403, 404, 405, 394, 395, 396, 397, 398, 399, 400, 401, 440, 441, 442, 443, 276, 277, 278, 279, 231, 232, 233, 234, 744, 745, 746, 747, 748, 749, 750, 751, 752, 753, 754, 755, 756] rfl (by decide +kernel)
set_option maxRecDepth 20000 in
theorem gL_law_X6_rebase : GoodIn wsL_law (wsV RL 42 RX6 yX6_rebase wsX6_rebase) := goodIn_app (goodIn_of _ (by decide +kernel)) ggL_law_X6_rebase
set_option maxRecDepth 20000 in
theorem ggL_law_X5_setLimit : GoodIn wsL_law wsX5_setLimit := goodIn_r _ [484, 17, 15, 33, 21, 485, 486, 487, 39, 488, 55, 460, 461, 191, 462, 84, 85, 86, 87, 49, 88, 89, 90, 91, 96, 97, 98, 99, 100, 101, 102, 103, 52, 185, 186, 187, 20, 188, 61, 60, 59, 13, 14, 62, 189, 190, 192, 34, 35, 36, 10, 11, 37, 38, 40, 30, 41, 42, 43, 44, 45, 46, 47, 48, 50, 51, 53, 54, 193, 194, 195, 196, 197, 81, 82, 83, 198, 199, 200, 201, 80, 737, 738, 739, 740, 741, 742, 743, 757, 758, 759, 760, 761, 762, 772, 773, 774, 775, 776, 777, 778, 763, 764, 765] rfl (by decide +kernel)
set_option maxRecDepth 20000 in
theorem gL_law_X5_setLimit : GoodIn wsL_law (wsV RL 43 RX5 yX5_setLimit wsX5_setLimit) := goodIn_app (goodIn_of _ (by decide +kernel)) ggL_law_X5_setLimit
set_option maxRecDepth 20000 in
theorem ggL_law_X6_setLimit : GoodIn wsL_law wsX6_setLimit := goodIn_r _ [492, 119, 219, 220, 5, 221, 477, 478, 479, 480, 302, 303, 304, 305, 251, 252, 253, 254, 272, 273, 274, 275, 259, 260, 261, 262, 263, 120, 744, 745, 746, 747, 748, 749, 750, 751, 752, 753, 754, 755, 756] rfl (by decide +kernel)
set_option maxRecDepth 20000 in
theorem gL_law_X6_setLimit : GoodIn wsL_law (wsV RL 46 RX6 yX6_setLimit wsX6_setLimit) := goodIn_app (goodIn_of _ (by decide +kernel)) ggL_law_X6_setLimit
