set_option maxRecDepth 20000 in
theorem ggL_law_X5_version : GoodIn wsL_law wsX5_version := goodIn_r _ [644, 17, 645, 88, 89, 38, 90, 54, 646, 608, 609, 610, 48, 87, 647, 332, 333, 334, 49, 648, 336, 337, 338, 50, 411, 100, 101, 102, 51, 410, 84, 85, 86, 649, 96, 97, 98, 99, 464, 417, 418, 419, 83, 420, 421, 422, 423, 53, 111, 112, 113, 650, 383, 384, 385, 539, 175, 176, 177, 52, 737, 738, 739, 740, 741, 742, 743, 772, 773, 774, 775, 776, 777, 778] rfl (by decide +kernel)
set_option maxRecDepth 20000 in
theorem gL_law_X5_version : GoodIn wsL_law (wsV RL 85 RX5 yX5_version wsX5_version) := goodIn_app (goodIn_of _ (by decide +kernel)) ggL_law_X5_version
set_option maxRecDepth 20000 in
theorem ggL_law_X6_version : GoodIn wsL_law wsX6_version := goodIn_r _ [654, 118, 219, 220, 5, 221, 251, 252, 253, 254, 302, 303, 304, 305, 272, 273, 274, 275, 440, 441, 442, 443, 276, 277, 278, 279, 231, 232, 233, 234, 394, 395, 396, 397, 744, 745, 746, 747, 748, 749, 750, 751, 752, 753, 754, 755, 756] rfl (by decide +kernel)
set_option maxRecDepth 20000 in
theorem gL_law_X6_version : GoodIn wsL_law (wsV RL 88 RX6 yX6_version wsX6_version) := goodIn_app (goodIn_of _ (by decide +kernel)) ggL_law_X6_version
set_option maxRecDepth 20000 in
theorem ggL_law_X5_why : GoodIn wsL_law wsX5_why := goodIn_r _ [658, 17, 410, 84, 85, 38, 86, 48, 87, 88, 89, 90, 54, 659, 171, 172, 173, 174, 175, 176, 177, 52, 99, 100, 101, 102, 51, 660, 453, 454, 455, 661, 662, 663, 664, 737, 738, 739, 740, 741, 742, 743, 772, 773, 774, 775, 776, 777, 778] rfl (by decide +kernel)
set_option maxRecDepth 20000 in
theorem gL_law_X5_why : GoodIn wsL_law (wsV RL 89 RX5 yX5_why wsX5_why) := goodIn_app (goodIn_of _ (by decide +kernel)) ggL_law_X5_why
set_option maxRecDepth 20000 in
theorem ggL_law_X6_why : GoodIn wsL_law wsX6_why := goodIn_r _ [668, 432, 433, 434, 5, 435, 302, 303, 304, 305, 118, 219, 220, 221, 251, 252, 253, 254, 247, 248, 249, 250, 744, 745, 746, 747, 748, 749, 750, 751, 752, 753, 754, 755, 756] rfl (by decide +kernel)
set_option maxRecDepth 20000 in
theorem gL_law_X6_why : GoodIn wsL_law (wsV RL 92 RX6 yX6_why wsX6_why) := goodIn_app (goodIn_of _ (by decide +kernel)) ggL_law_X6_why
set_option maxRecDepth 20000 in
theorem ggL_law_X5_way : GoodIn wsL_law wsX5_way := goodIn_r _ [672, 17, 410, 84, 85, 38, 86, 48, 87, 88, 89, 90, 54, 673, 674, 675, 676, 99, 100, 101, 102, 51, 737, 738, 739, 740, 741, 742, 743, 772, 773, 774, 775, 776, 777, 778] rfl (by decide +kernel)
set_option maxRecDepth 20000 in
theorem gL_law_X5_way : GoodIn wsL_law (wsV RL 93 RX5 yX5_way wsX5_way) := goodIn_app (goodIn_of _ (by decide +kernel)) ggL_law_X5_way
set_option maxRecDepth 20000 in
theorem ggL_law_X6_way : GoodIn wsL_law wsX6_way := goodIn_r _ [680, 432, 433, 434, 5, 435, 302, 303, 304, 305, 118, 219, 220, 221, 251, 252, 253, 254, 744, 745, 746, 747, 748, 749, 750, 751, 752, 753, 754, 755, 756] rfl (by decide +kernel)
set_option maxRecDepth 20000 in
theorem gL_law_X6_way : GoodIn wsL_law (wsV RL 96 RX6 yX6_way wsX6_way) := goodIn_app (goodIn_of _ (by decide +kernel)) ggL_law_X6_way
set_option maxRecDepth 20000 in
theorem ggL_law_X5_differ : GoodIn wsL_law wsX5_differ := goodIn_r _ [684, 17, 410, 84, 85, 38, 86, 48, 87, 88, 89, 90, 54, 166, 167, 168, 169, 170, 171, 172, 173, 174, 175, 176, 177, 52, 99, 100, 101, 102, 51, 685, 421, 422, 423, 53, 737, 738, 739, 740, 741, 742, 743, 772, 773, 774, 775, 776, 777, 778] rfl (by decide +kernel)
set_option maxRecDepth 20000 in
theorem gL_law_X5_differ : GoodIn wsL_law (wsV RL 97 RX5 yX5_differ wsX5_differ) := goodIn_app (goodIn_of _ (by decide +kernel)) ggL_law_X5_differ
set_option maxRecDepth 20000 in
theorem ggL_law_X6_differ : GoodIn wsL_law wsX6_differ := goodIn_r _ [689, 432, 433, 434, 5, 435, 302, 303, 304, 305, 118, 219, 220, 221, 251, 252, 253, 254, 243, 244, 245, 246, 247, 248, 249, 250, 276, 277, 278, 279, 231, 232, 233, 234, 744, 745, 746, 747, 748, 749, 750, 751, 752, 753, 754, 755, 756] rfl (by decide +kernel)
set_option maxRecDepth 20000 in
theorem gL_law_X6_differ : GoodIn wsL_law (wsV RL 100 RX6 yX6_differ wsX6_differ) := goodIn_app (goodIn_of _ (by decide +kernel)) ggL_law_X6_differ
set_option maxRecDepth 20000 in
theorem ggL_law_X5_bestBase : GoodIn wsL_law wsX5_bestBase := goodIn_r _ [693, 17, 15, 205, 410, 84, 85, 38, 86, 48, 87, 88, 89, 90, 54, 166, 167, 168, 169, 170, 171, 172, 173, 174, 175, 176, 177, 52, 99, 100, 101, 102, 51, 694, 695, 696, 697, 698, 457, 458, 459, 460, 461, 190, 462, 83, 452, 453, 454, 455, 339, 699, 449, 450, 451, 91, 92, 93, 94, 95, 96, 97, 98, 420, 421, 422, 423, 53, 111, 112, 113, 737, 738, 739, 740, 741, 742, 743, 757, 758, 759, 760, 761, 762, 772, 773, 774, 775, 776, 777, 778] rfl (by decide +kernel)
set_option maxRecDepth 20000 in
theorem gL_law_X5_bestBase : GoodIn wsL_law (wsV RL 101 RX5 yX5_bestBase wsX5_bestBase) := goodIn_app (goodIn_of _ (by decide +kernel)) ggL_law_X5_bestBase
