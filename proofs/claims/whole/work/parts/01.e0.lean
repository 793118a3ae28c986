set_option maxRecDepth 20000 in
theorem ggL_law_X5_init : GoodIn wsL_law wsX5_init := goodIn_r _ [8, 9, 10, 11, 12, 13, 14, 15, 16, 17, 18, 19, 20, 21, 22, 23, 24, 25, 26, 27, 28, 29, 30, 31, 32, 33, 34, 35, 36, 37, 38, 39, 40, 41, 42, 43, 44, 45, 46, 47, 48, 49, 50, 51, 52, 53, 54, 55, 56, 57, 58, 59, 60, 61, 62, 63, 64, 65, 66, 67, 68, 69, 70, 71, 72, 73, 74, 75, 76, 77, 78, 79, 80, 81, 82, 83, 84, 85, 86, 87, 88, 89, 90, 91, 92, 93, 94, 95, 96, 97, 98, 99, 100, 101, 102, 103, 104, 105, 106, 107, 108, 109, 110, 111, 112, 113, 757, 758, 759, 760, 761, 762, 737, 738, 739, 740, 741, 742, 743, 763, 764, 765, 766, 767, 768, 769, 770, 771, 772, 773, 774, 775, 776, 777, 778] rfl (by decide +kernel)
set_option maxRecDepth 20000 in
theorem gL_law_X5_init : GoodIn wsL_law (wsX5_init) := ggL_law_X5_init
set_option maxRecDepth 20000 in
theorem ggL_law_X6_init : GoodIn wsL_law wsX6_init := goodIn_r _ [116, 117, 10, 11, 30, 118, 119, 120, 65, 121, 122, 123, 124, 125, 126, 127, 744, 745, 746, 747, 748, 749, 750, 751, 752, 753, 754, 755, 756] rfl (by decide +kernel)
set_option maxRecDepth 20000 in
theorem gL_law_X6_init : GoodIn wsL_law (wsX6_init) := ggL_law_X6_init
set_option maxRecDepth 20000 in
theorem ggL_law_X5_commit : GoodIn wsL_law wsX5_commit := goodIn_r _ [131, 15, 25, 17, 132, 31, 21, 133, 134, 135, 14, 136, 41, 137, 138, 139, 24, 140, 67, 68, 69, 141, 142, 143, 144, 145, 146, 147, 148, 149, 150, 151, 152, 153, 154, 155, 156, 66, 157, 158, 159, 160, 161, 162, 163, 164, 40, 165, 166, 167, 168, 38, 169, 170, 171, 172, 173, 174, 175, 176, 177, 52, 87, 88, 89, 90, 54, 99, 100, 101, 102, 51, 178, 179, 180, 181, 182, 108, 109, 110, 53, 183, 104, 105, 106, 107, 184, 185, 186, 20, 187, 60, 59, 58, 13, 61, 188, 189, 190, 191, 33, 34, 35, 10, 11, 36, 37, 39, 30, 42, 43, 44, 45, 46, 47, 48, 49, 50, 192, 193, 194, 195, 196, 80, 81, 82, 197, 198, 199, 200, 79, 201, 202, 203, 2, 204, 205, 75, 76, 77, 78, 83, 84, 85, 86, 91, 92, 93, 94, 95, 96, 97, 98, 103, 111, 112, 113, 206, 207, 208, 209, 737, 738, 739, 740, 741, 742, 743, 772, 773, 774, 775, 776, 777, 778, 757, 758, 759, 760, 761, 762, 766, 767, 768, 769, 763, 764, 765] rfl (by decide +kernel)
set_option maxRecDepth 20000 in
theorem gL_law_X5_commit : GoodIn wsL_law (wsV RL 13 RX5 yX5_commit wsX5_commit) := goodIn_app (goodIn_of _ (by decide +kernel)) ggL_law_X5_commit
set_option maxRecDepth 20000 in
theorem ggL_law_X6_commit : GoodIn wsL_law wsX6_commit := goodIn_r _ [213, 214, 118, 215, 216, 217, 5, 218, 219, 220, 221, 222, 223, 224, 225, 226, 227, 228, 229, 122, 121, 230, 231, 232, 233, 234, 235, 236, 237, 238, 239, 240, 241, 242, 243, 244, 245, 246, 247, 248, 249, 250, 251, 252, 253, 254, 255, 256, 257, 258, 259, 260, 261, 262, 263, 119, 264, 265, 266, 267, 268, 269, 270, 271, 272, 273, 274, 275, 276, 277, 278, 279, 744, 745, 746, 747, 748, 749, 750, 751, 752, 753, 754, 755, 756] rfl (by decide +kernel)
set_option maxRecDepth 20000 in
theorem gL_law_X6_commit : GoodIn wsL_law (wsV RL 17 RX6 yX6_commit wsX6_commit) := goodIn_app (goodIn_of _ (by decide +kernel)) ggL_law_X6_commit
set_option maxRecDepth 20000 in
theorem ggL_law_X5_fork : GoodIn wsL_law wsX5_fork := goodIn_r _ [283, 17, 15, 284, 21, 285, 286, 287, 38, 288, 48, 87, 88, 89, 90, 54, 184, 185, 186, 20, 187, 60, 59, 58, 13, 14, 61, 188, 189, 190, 191, 33, 34, 35, 10, 11, 36, 37, 39, 30, 40, 41, 42, 43, 44, 45, 46, 47, 49, 50, 51, 52, 53, 192, 193, 194, 195, 196, 80, 81, 82, 197, 198, 199, 200, 79, 289, 290, 291, 292, 293, 207, 208, 209, 165, 134, 135, 136, 737, 738, 739, 740, 741, 742, 743, 757, 758, 759, 760, 761, 762, 772, 773, 774, 775, 776, 777, 778, 763, 764, 765] rfl (by decide +kernel)
set_option maxRecDepth 20000 in
theorem gL_law_X5_fork : GoodIn wsL_law (wsV RL 18 RX5 yX5_fork wsX5_fork) := goodIn_app (goodIn_of _ (by decide +kernel)) ggL_law_X5_fork
set_option maxRecDepth 20000 in
theorem ggL_law_X6_fork : GoodIn wsL_law wsX6_fork := goodIn_r _ [297, 118, 298, 299, 300, 5, 301, 302, 303, 304, 305, 219, 220, 221, 251, 252, 253, 254, 259, 260, 261, 262, 263, 119, 744, 745, 746, 747, 748, 749, 750, 751, 752, 753, 754, 755, 756] rfl (by decide +kernel)
set_option maxRecDepth 20000 in
theorem gL_law_X6_fork : GoodIn wsL_law (wsV RL 21 RX6 yX6_fork wsX6_fork) := goodIn_app (goodIn_of _ (by decide +kernel)) ggL_law_X6_fork
set_option maxRecDepth 20000 in
theorem ggL_law_X5_moveHead : GoodIn wsL_law wsX5_moveHead := goodIn_r _ [309, 15, 17, 21, 133, 134, 135, 14, 136, 41, 285, 286, 287, 38, 288, 48, 87, 88, 89, 90, 54, 161, 162, 163, 164, 40, 165, 184, 185, 186, 20, 187, 60, 59, 58, 13, 61, 188, 189, 190, 191, 33, 34, 35, 10, 11, 36, 37, 39, 30, 42, 43, 44, 45, 46, 47, 49, 50, 51, 52, 53, 192, 193, 194, 195, 196, 80, 81, 82, 197, 198, 199, 200, 79, 206, 207, 208, 209, 737, 738, 739, 740, 741, 742, 743, 757, 758, 759, 760, 761, 762, 772, 773, 774, 775, 776, 777, 778, 763, 764, 765] rfl (by decide +kernel)
set_option maxRecDepth 20000 in
theorem gL_law_X5_moveHead : GoodIn wsL_law (wsV RL 22 RX5 yX5_moveHead wsX5_moveHead) := goodIn_app (goodIn_of _ (by decide +kernel)) ggL_law_X5_moveHead
set_option maxRecDepth 20000 in
theorem ggL_law_X6_moveHead : GoodIn wsL_law wsX6_moveHead := goodIn_r _ [313, 118, 215, 216, 217, 5, 218, 219, 220, 221, 298, 299, 300, 301, 302, 303, 304, 305, 251, 252, 253, 254, 222, 223, 224, 225, 259, 260, 261, 262, 263, 119, 744, 745, 746, 747, 748, 749, 750, 751, 752, 753, 754, 755, 756] rfl (by decide +kernel)
set_option maxRecDepth 20000 in
theorem gL_law_X6_moveHead : GoodIn wsL_law (wsV RL 26 RX6 yX6_moveHead wsX6_moveHead) := goodIn_app (goodIn_of _ (by decide +kernel)) ggL_law_X6_moveHead
set_option maxRecDepth 20000 in
theorem ggL_law_X5_merge : GoodIn wsL_law wsX5_merge := goodIn_r _ [317, 15, 17, 132, 21, 31, 318, 319, 133, 134, 135, 14, 136, 41, 161, 162, 163, 164, 40, 165, 166, 167, 168, 38, 169, 170, 171, 172, 173, 174, 175, 176, 177, 52, 87, 88, 89, 90, 54, 99, 100, 101, 102, 51, 320, 321, 322, 323, 324, 325, 326, 327, 328, 329, 330, 331, 332, 333, 334, 49, 335, 336, 337, 338, 50, 83, 84, 85, 86, 48, 339, 340, 341, 342, 343, 184, 185, 186, 20, 187, 60, 59, 58, 13, 61, 188, 189, 190, 191, 33, 34, 35, 10, 11, 36, 37, 39, 30, 42, 43, 44, 45, 46, 47, 53, 192, 193, 194, 195, 196, 80, 81, 82, 197, 198, 199, 200, 79, 344, 345, 346, 347, 107, 108, 109, 110, 201, 202, 203, 2, 204, 205, 75, 76, 77, 78, 91, 92, 93, 94, 95, 96, 97, 98, 103, 104, 105, 106, 111, 112, 113, 206, 207, 208, 209, 737, 738, 739, 740, 741, 742, 743, 772, 773, 774, 775, 776, 777, 778, 757, 758, 759, 760, 761, 762, 763, 764, 765] rfl (by decide +kernel)
set_option maxRecDepth 20000 in
theorem gL_law_X5_merge : GoodIn wsL_law (wsV RL 27 RX5 yX5_merge wsX5_merge) := goodIn_app (goodIn_of _ (by decide +kernel)) ggL_law_X5_merge
