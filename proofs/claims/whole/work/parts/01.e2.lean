set_option maxRecDepth 20000 in
theorem ggL_law_X5_optimize : GoodIn wsL_law wsX5_optimize := goodIn_r _ [496, 17, 29, 15, 205, 21, 497, 498, 499, 500, 38, 501, 54, 83, 84, 85, 86, 48, 87, 88, 89, 90, 339, 167, 168, 169, 170, 171, 172, 173, 174, 175, 176, 177, 52, 99, 100, 101, 102, 51, 502, 503, 504, 28, 505, 506, 73, 74, 507, 508, 509, 510, 511, 512, 421, 422, 423, 53, 513, 112, 113, 514, 515, 516, 517, 518, 184, 185, 186, 20, 187, 60, 59, 58, 13, 14, 61, 188, 189, 190, 191, 33, 34, 35, 10, 11, 36, 37, 39, 30, 40, 41, 42, 43, 44, 45, 46, 47, 49, 50, 192, 193, 194, 195, 196, 80, 81, 82, 197, 198, 199, 200, 79, 412, 413, 414, 415, 416, 417, 418, 419, 420, 111, 519, 520, 521, 522, 374, 375, 376, 377, 378, 379, 380, 381, 382, 383, 384, 385, 737, 738, 739, 740, 741, 742, 743, 757, 758, 759, 760, 761, 762, 770, 771, 772, 773, 774, 775, 776, 777, 778, 763, 764, 765] rfl (by decide +kernel)
set_option maxRecDepth 20000 in
theorem gL_law_X5_optimize : GoodIn wsL_law (wsV RL 47 RX5 yX5_optimize wsX5_optimize) := goodIn_app (goodIn_of _ (by decide +kernel)) ggL_law_X5_optimize
set_option maxRecDepth 20000 in
theorem ggL_law_X6_optimize : GoodIn wsL_law wsX6_optimize := goodIn_r _ [526, 118, 126, 527, 528, 529, 5, 530, 302, 303, 304, 305, 219, 220, 221, 251, 252, 253, 254, 243, 244, 245, 246, 247, 248, 249, 250, 531, 532, 533, 534, 127, 276, 277, 278, 279, 231, 232, 233, 234, 259, 260, 261, 262, 263, 119, 436, 437, 438, 439, 440, 441, 442, 443, 268, 269, 270, 271, 402, 403, 404, 405, 394, 395, 396, 397, 398, 399, 400, 401, 744, 745, 746, 747, 748, 749, 750, 751, 752, 753, 754, 755, 756] rfl (by decide +kernel)
set_option maxRecDepth 20000 in
theorem gL_law_X6_optimize : GoodIn wsL_law (wsV RL 51 RX6 yX6_optimize wsX6_optimize) := goodIn_app (goodIn_of _ (by decide +kernel)) ggL_law_X6_optimize
set_option maxRecDepth 20000 in
theorem ggL_law_X5_spoil : GoodIn wsL_law wsX5_spoil := goodIn_r _ [538, 17, 21, 15, 410, 84, 85, 38, 86, 48, 87, 88, 89, 90, 54, 539, 175, 176, 177, 52, 184, 185, 186, 20, 187, 60, 59, 58, 13, 14, 61, 188, 189, 190, 191, 33, 34, 35, 10, 11, 36, 37, 39, 30, 40, 41, 42, 43, 44, 45, 46, 47, 49, 50, 51, 53, 192, 193, 194, 195, 196, 80, 81, 82, 197, 198, 199, 200, 79, 540, 541, 542, 543, 83, 498, 499, 500, 501, 339, 167, 168, 169, 170, 171, 172, 173, 174, 99, 100, 101, 102, 737, 738, 739, 740, 741, 742, 743, 772, 773, 774, 775, 776, 777, 778, 763, 764, 765, 757, 758, 759, 760, 761, 762] rfl (by decide +kernel)
set_option maxRecDepth 20000 in
theorem gL_law_X5_spoil : GoodIn wsL_law (wsV RL 52 RX5 yX5_spoil wsX5_spoil) := goodIn_app (goodIn_of _ (by decide +kernel)) ggL_law_X5_spoil
set_option maxRecDepth 20000 in
theorem ggL_law_X6_spoil : GoodIn wsL_law wsX6_spoil := goodIn_r _ [547, 432, 433, 434, 5, 435, 302, 303, 304, 305, 118, 219, 220, 221, 251, 252, 253, 254, 259, 260, 261, 262, 263, 119, 268, 269, 270, 271, 527, 528, 529, 530, 243, 244, 245, 246, 247, 248, 249, 250, 744, 745, 746, 747, 748, 749, 750, 751, 752, 753, 754, 755, 756] rfl (by decide +kernel)
set_option maxRecDepth 20000 in
theorem gL_law_X6_spoil : GoodIn wsL_law (wsV RL 55 RX6 yX6_spoil wsX6_spoil) := goodIn_app (goodIn_of _ (by decide +kernel)) ggL_law_X6_spoil
set_option maxRecDepth 20000 in
theorem ggL_law_X5_mend : GoodIn wsL_law wsX5_mend := goodIn_r _ [551, 17, 25, 31, 21, 15, 410, 84, 85, 38, 86, 48, 87, 88, 89, 90, 54, 137, 138, 139, 24, 140, 67, 68, 69, 141, 142, 143, 144, 145, 146, 147, 148, 149, 150, 151, 152, 153, 154, 155, 156, 66, 157, 158, 159, 160, 166, 167, 168, 169, 170, 171, 172, 173, 174, 175, 176, 177, 52, 99, 100, 101, 102, 51, 178, 179, 180, 181, 182, 108, 109, 110, 53, 183, 104, 105, 106, 107, 539, 184, 185, 186, 20, 187, 60, 59, 58, 13, 14, 61, 188, 189, 190, 191, 33, 34, 35, 10, 11, 36, 37, 39, 30, 40, 41, 42, 43, 44, 45, 46, 47, 49, 50, 192, 193, 194, 195, 196, 80, 81, 82, 197, 198, 199, 200, 79, 424, 425, 426, 427, 83, 374, 375, 376, 377, 378, 379, 380, 381, 382, 383, 384, 385, 498, 499, 500, 501, 339, 737, 738, 739, 740, 741, 742, 743, 772, 773, 774, 775, 776, 777, 778, 766, 767, 768, 769, 763, 764, 765, 757, 758, 759, 760, 761, 762] rfl (by decide +kernel)
set_option maxRecDepth 20000 in
theorem gL_law_X5_mend : GoodIn wsL_law (wsV RL 56 RX5 yX5_mend wsX5_mend) := goodIn_app (goodIn_of _ (by decide +kernel)) ggL_law_X5_mend
set_option maxRecDepth 20000 in
theorem ggL_law_X6_mend : GoodIn wsL_law wsX6_mend := goodIn_r _ [555, 214, 432, 433, 434, 5, 435, 302, 303, 304, 305, 118, 219, 220, 221, 251, 252, 253, 254, 226, 227, 228, 229, 122, 121, 230, 231, 232, 233, 234, 235, 236, 237, 238, 239, 240, 241, 242, 243, 244, 245, 246, 247, 248, 249, 250, 255, 256, 257, 258, 259, 260, 261, 262, 263, 119, 268, 269, 270, 271, 402, 403, 404, 405, 394, 395, 396, 397, 398, 399, 400, 401, 527, 528, 529, 530, 744, 745, 746, 747, 748, 749, 750, 751, 752, 753, 754, 755, 756] rfl (by decide +kernel)
set_option maxRecDepth 20000 in
theorem gL_law_X6_mend : GoodIn wsL_law (wsV RL 59 RX6 yX6_mend wsX6_mend) := goodIn_app (goodIn_of _ (by decide +kernel)) ggL_law_X6_mend
set_option maxRecDepth 20000 in
theorem ggL_law_X5_type : GoodIn wsL_law wsX5_type := goodIn_r _ [559, 25, 560, 561, 562, 563, 24, 564, 69, 66, 737, 738, 739, 740, 741, 742, 743, 766, 767, 768, 769] rfl (by decide +kernel)
set_option maxRecDepth 20000 in
theorem gL_law_X5_type : GoodIn wsL_law (wsV RL 60 RX5 yX5_type wsX5_type) := goodIn_app (goodIn_of _ (by decide +kernel)) ggL_law_X5_type
set_option maxRecDepth 20000 in
theorem ggL_law_X6_type : GoodIn wsL_law wsX6_type := goodIn_r _ [568, 230, 121, 744, 745, 746, 747, 748, 749, 750, 751, 752, 753, 754, 755, 756] rfl (by decide +kernel)
set_option maxRecDepth 20000 in
theorem gL_law_X6_type : GoodIn wsL_law (wsV RL 64 RX6 yX6_type wsX6_type) := goodIn_app (goodIn_of _ (by decide +kernel)) ggL_law_X6_type
set_option maxRecDepth 20000 in
theorem ggL_law_X5_clearText : GoodIn wsL_law wsX5_clearText := goodIn_r _ [572, 25, 573, 574, 575, 24, 576, 69, 737, 738, 739, 740, 741, 742, 743, 766, 767, 768, 769] rfl (by decide +kernel)
set_option maxRecDepth 20000 in
theorem gL_law_X5_clearText : GoodIn wsL_law (wsV RL 65 RX5 yX5_clearText wsX5_clearText) := goodIn_app (goodIn_of _ (by decide +kernel)) ggL_law_X5_clearText
