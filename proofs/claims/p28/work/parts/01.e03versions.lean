set_option maxRecDepth 20000 in
theorem ggL_versions_X5_count : GoodIn wsL_versions wsX5_count := goodIn_r _ [5, 6, 7, 8, 9, 10, 11, 12, 13, 14, 15, 16, 17, 18, 19, 20, 21, 22, 23, 24, 25, 26, 27, 28, 29, 30, 31, 32, 33, 34, 35, 36, 37, 38, 39, 40, 41, 42, 43, 44, 45, 46, 47, 48, 49, 50, 51, 52, 53, 54, 55, 56, 57, 58, 59, 60, 61, 62, 63, 64, 65, 66, 67, 68, 69, 70, 71, 72, 73, 74, 75, 76, 77, 78, 79, 80, 81, 82, 83, 84, 85, 86, 87, 88, 89, 254, 255, 256, 257, 258, 259, 260, 261, 262, 263, 264, 265, 266, 267, 268, 269, 270, 271, 272, 273, 274, 275, 276, 277, 278, 279, 280] rfl (by decide +kernel)
set_option maxRecDepth 20000 in
theorem gL_versions_X5_count : GoodIn wsL_versions (wsV RL 13 RX5 yX5_count wsX5_count) := goodIn_app (goodIn_of _ (by decide +kernel)) ggL_versions_X5_count
set_option maxRecDepth 20000 in
theorem ggL_versions_X5_version : GoodIn wsL_versions wsX5_version := goodIn_r _ [93, 6, 94, 29, 30, 20, 31, 22, 95, 24, 25, 26, 27, 28, 96, 97, 98, 99, 100, 101, 102, 103, 104, 105, 106, 45, 46, 47, 48, 107, 41, 42, 43, 108, 70, 71, 72, 44, 109, 37, 38, 39, 40, 49, 50, 51, 52, 53, 54, 55, 56, 110, 111, 112, 113, 114, 86, 87, 88, 89, 254, 255, 256, 257, 258, 259, 260, 261, 262, 263, 264, 265, 266, 267] rfl (by decide +kernel)
set_option maxRecDepth 20000 in
theorem gL_versions_X5_version : GoodIn wsL_versions (wsV RL 19 RX5 yX5_version wsX5_version) := goodIn_app (goodIn_of _ (by decide +kernel)) ggL_versions_X5_version
set_option maxRecDepth 20000 in
theorem ggL_versions_X5_way : GoodIn wsL_versions wsX5_way := goodIn_r _ [118, 6, 107, 41, 42, 20, 43, 27, 28, 29, 30, 31, 22, 119, 120, 121, 122, 44, 45, 46, 47, 48, 254, 255, 256, 257, 258, 259, 260, 261, 262, 263, 264, 265, 266, 267] rfl (by decide +kernel)
set_option maxRecDepth 20000 in
theorem gL_versions_X5_way : GoodIn wsL_versions (wsV RL 29 RX5 yX5_way wsX5_way) := goodIn_app (goodIn_of _ (by decide +kernel)) ggL_versions_X5_way
set_option maxRecDepth 20000 in
theorem ggL_versions_X5_why : GoodIn wsL_versions wsX5_why := goodIn_r _ [126, 6, 107, 41, 42, 20, 43, 27, 28, 29, 30, 31, 22, 127, 82, 83, 84, 85, 86, 87, 88, 89, 44, 45, 46, 47, 48, 128, 129, 130, 131, 132, 133, 134, 135, 254, 255, 256, 257, 258, 259, 260, 261, 262, 263, 264, 265, 266, 267] rfl (by decide +kernel)
set_option maxRecDepth 20000 in
theorem gL_versions_X5_why : GoodIn wsL_versions (wsV RL 32 RX5 yX5_why wsX5_why) := goodIn_app (goodIn_of _ (by decide +kernel)) ggL_versions_X5_why
set_option maxRecDepth 20000 in
theorem ggL_versions_X5_read : GoodIn wsL_versions wsX5_read := goodIn_r _ [139, 6, 140, 141, 142, 20, 143, 27, 28, 29, 30, 31, 22, 144, 78, 79, 80, 81, 82, 83, 84, 85, 86, 87, 88, 89, 44, 45, 46, 47, 48, 145, 146, 147, 148, 53, 254, 255, 256, 257, 258, 259, 260, 261, 262, 263, 264, 265, 266, 267] rfl (by decide +kernel)
set_option maxRecDepth 20000 in
theorem gL_versions_X5_read : GoodIn wsL_versions (wsV RL 23 RX5 yX5_read wsX5_read) := goodIn_app (goodIn_of _ (by decide +kernel)) ggL_versions_X5_read
set_option maxRecDepth 20000 in
theorem ggL_versions_X5_storeWhole : GoodIn wsL_versions wsX5_storeWhole := goodIn_r _ [152, 6, 13, 8, 107, 41, 42, 20, 43, 27, 28, 29, 30, 31, 22, 144, 78, 79, 80, 81, 82, 83, 84, 85, 86, 87, 88, 89, 44, 45, 46, 47, 48, 106, 153, 154, 155, 156, 157, 158, 159, 160, 161, 162, 163, 164, 165, 67, 166, 167, 168, 169, 170, 171, 172, 173, 174, 175, 176, 177, 178, 179, 180, 181, 182, 183, 100, 105, 53, 184, 185, 186, 187, 188, 189, 190, 191, 192, 193, 194, 195, 196, 32, 33, 34, 35, 36, 37, 38, 39, 40, 49, 50, 51, 52, 54, 55, 56, 197, 198, 199, 200, 201, 202, 203, 204, 205, 206, 207, 208, 209, 111, 112, 113, 254, 255, 256, 257, 258, 259, 260, 261, 262, 263, 264, 265, 266, 267, 274, 275, 276, 268, 269, 270, 271, 272, 273] rfl (by decide +kernel)
set_option maxRecDepth 20000 in
theorem gL_versions_X5_storeWhole : GoodIn wsL_versions (wsV RL 35 RX5 yX5_storeWhole wsX5_storeWhole) := goodIn_app (goodIn_of _ (by decide +kernel)) ggL_versions_X5_storeWhole
set_option maxRecDepth 20000 in
theorem ggL_versions_X5_differ : GoodIn wsL_versions wsX5_differ := goodIn_r _ [213, 6, 107, 41, 42, 20, 43, 27, 28, 29, 30, 31, 22, 144, 78, 79, 80, 81, 82, 83, 84, 85, 86, 87, 88, 89, 44, 45, 46, 47, 48, 214, 50, 51, 52, 53, 254, 255, 256, 257, 258, 259, 260, 261, 262, 263, 264, 265, 266, 267] rfl (by decide +kernel)
set_option maxRecDepth 20000 in
theorem gL_versions_X5_differ : GoodIn wsL_versions (wsV RL 38 RX5 yX5_differ wsX5_differ) := goodIn_app (goodIn_of _ (by decide +kernel)) ggL_versions_X5_differ
set_option maxRecDepth 20000 in
theorem ggL_versions_X5_drop : GoodIn wsL_versions wsX5_drop := goodIn_r _ [218, 6, 8, 13, 140, 141, 142, 20, 143, 27, 28, 29, 30, 31, 22, 219, 220, 221, 162, 222, 177, 223, 224, 225, 226, 176, 227, 228, 229, 230, 153, 154, 155, 156, 157, 158, 159, 160, 161, 163, 164, 165, 67, 166, 167, 168, 169, 170, 171, 172, 173, 174, 175, 178, 179, 180, 181, 182, 183, 100, 105, 48, 89, 53, 184, 185, 186, 187, 188, 189, 190, 191, 192, 193, 194, 195, 196, 231, 232, 233, 234, 235, 201, 202, 203, 204, 205, 206, 207, 208, 209, 111, 112, 113, 40, 41, 42, 43, 44, 45, 46, 47, 254, 255, 256, 257, 258, 259, 260, 261, 262, 263, 264, 265, 266, 267, 268, 269, 270, 271, 272, 273, 274, 275, 276] rfl (by decide +kernel)
set_option maxRecDepth 20000 in
theorem gL_versions_X5_drop : GoodIn wsL_versions (wsV RL 41 RX5 yX5_drop wsX5_drop) := goodIn_app (goodIn_of _ (by decide +kernel)) ggL_versions_X5_drop
set_option maxRecDepth 20000 in
theorem ggL_versions_X5_fork : GoodIn wsL_versions wsX5_fork := goodIn_r _ [239, 6, 8, 9, 13, 140, 141, 142, 20, 143, 27, 28, 29, 30, 31, 22, 153, 154, 155, 156, 157, 158, 159, 160, 161, 162, 163, 164, 165, 67, 166, 167, 168, 169, 170, 171, 172, 173, 174, 175, 176, 177, 178, 179, 180, 181, 182, 183, 100, 105, 48, 89, 53, 184, 185, 186, 187, 188, 189, 190, 191, 192, 193, 194, 195, 196, 240, 241, 242, 243, 244, 245, 246, 247, 227, 228, 229, 230, 254, 255, 256, 257, 258, 259, 260, 268, 269, 270, 271, 272, 273, 261, 262, 263, 264, 265, 266, 267, 274, 275, 276] rfl (by decide +kernel)
set_option maxRecDepth 20000 in
theorem gL_versions_X5_fork : GoodIn wsL_versions (wsV RL 44 RX5 yX5_fork wsX5_fork) := goodIn_app (goodIn_of _ (by decide +kernel)) ggL_versions_X5_fork
