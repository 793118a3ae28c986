set_option maxRecDepth 20000 in
theorem ggL_stores_X5_count : GoodIn wsL_stores wsX5_count := goodIn_r _ [5, 6, 7, 8, 9, 10, 11, 12, 13, 14, 15, 16, 17, 18, 19, 20, 21, 22, 23, 24, 25, 26, 27, 28, 29, 30, 31, 32, 33, 34, 35, 36, 37, 38, 39, 40, 41, 42, 43, 44, 45, 46, 47, 48, 49, 50, 51, 52, 53, 54, 55, 56, 57, 58, 59, 60, 61, 62, 63, 64, 65, 66, 67, 68, 69, 70, 71, 72, 73, 74, 75, 76, 77, 78, 79, 80, 81, 82, 83, 84, 85, 86, 87, 88, 89, 270, 271, 272, 273, 274, 275, 276, 277, 278, 279, 280, 281, 282, 283, 284, 285, 286, 287, 288, 289, 290, 291, 292, 293, 294, 295, 296] rfl (by decide +kernel)
set_option maxRecDepth 20000 in
theorem gL_stores_X5_count : GoodIn wsL_stores (wsV RL 13 RX5 yX5_count wsX5_count) := goodIn_app (goodIn_of _ (by decide +kernel)) ggL_stores_X5_count
set_option maxRecDepth 20000 in
theorem ggL_stores_L_low : GoodIn wsL_stores wsL_low := goodIn_r _ [93, 94] rfl (by decide +kernel)
set_option maxRecDepth 20000 in
theorem gL_stores_L_low : GoodIn wsL_stores (va_wsS RL 51 yL_low wsL_low) := goodIn_app (goodIn_of _ (by decide +kernel)) ggL_stores_L_low
set_option maxRecDepth 20000 in
theorem ggL_stores_X5_version : GoodIn wsL_stores wsX5_version := goodIn_r _ [98, 6, 99, 29, 30, 20, 31, 22, 100, 24, 25, 26, 27, 28, 101, 102, 103, 104, 105, 106, 107, 108, 109, 110, 111, 45, 46, 47, 48, 112, 41, 42, 43, 113, 70, 71, 72, 44, 114, 37, 38, 39, 40, 49, 50, 51, 52, 53, 54, 55, 56, 115, 116, 117, 118, 119, 86, 87, 88, 89, 270, 271, 272, 273, 274, 275, 276, 277, 278, 279, 280, 281, 282, 283] rfl (by decide +kernel)
set_option maxRecDepth 20000 in
theorem gL_stores_X5_version : GoodIn wsL_stores (wsV RL 19 RX5 yX5_version wsX5_version) := goodIn_app (goodIn_of _ (by decide +kernel)) ggL_stores_X5_version
set_option maxRecDepth 20000 in
theorem ggL_stores_X5_why : GoodIn wsL_stores wsX5_why := goodIn_r _ [123, 6, 112, 41, 42, 20, 43, 27, 28, 29, 30, 31, 22, 124, 82, 83, 84, 85, 86, 87, 88, 89, 44, 45, 46, 47, 48, 125, 126, 127, 128, 129, 130, 131, 132, 270, 271, 272, 273, 274, 275, 276, 277, 278, 279, 280, 281, 282, 283] rfl (by decide +kernel)
set_option maxRecDepth 20000 in
theorem gL_stores_X5_why : GoodIn wsL_stores (wsV RL 32 RX5 yX5_why wsX5_why) := goodIn_app (goodIn_of _ (by decide +kernel)) ggL_stores_X5_why
set_option maxRecDepth 20000 in
theorem ggL_stores_X5_storeWhole : GoodIn wsL_stores wsX5_storeWhole := goodIn_r _ [136, 6, 13, 8, 112, 41, 42, 20, 43, 27, 28, 29, 30, 31, 22, 137, 78, 79, 80, 81, 82, 83, 84, 85, 86, 87, 88, 89, 44, 45, 46, 47, 48, 111, 138, 139, 140, 141, 142, 143, 144, 145, 146, 147, 148, 149, 150, 67, 151, 152, 153, 154, 155, 156, 157, 158, 159, 160, 161, 162, 163, 164, 165, 166, 167, 168, 105, 110, 53, 169, 170, 171, 172, 173, 174, 175, 176, 177, 178, 179, 180, 181, 32, 33, 34, 35, 36, 37, 38, 39, 40, 49, 50, 51, 52, 54, 55, 56, 182, 183, 184, 185, 186, 187, 188, 189, 190, 191, 192, 193, 194, 116, 117, 118, 270, 271, 272, 273, 274, 275, 276, 277, 278, 279, 280, 281, 282, 283, 290, 291, 292, 284, 285, 286, 287, 288, 289] rfl (by decide +kernel)
set_option maxRecDepth 20000 in
theorem gL_stores_X5_storeWhole : GoodIn wsL_stores (wsV RL 35 RX5 yX5_storeWhole wsX5_storeWhole) := goodIn_app (goodIn_of _ (by decide +kernel)) ggL_stores_X5_storeWhole
set_option maxRecDepth 20000 in
theorem ggL_stores_X5_way : GoodIn wsL_stores wsX5_way := goodIn_r _ [198, 6, 112, 41, 42, 20, 43, 27, 28, 29, 30, 31, 22, 199, 200, 201, 202, 44, 45, 46, 47, 48, 270, 271, 272, 273, 274, 275, 276, 277, 278, 279, 280, 281, 282, 283] rfl (by decide +kernel)
set_option maxRecDepth 20000 in
theorem gL_stores_X5_way : GoodIn wsL_stores (wsV RL 29 RX5 yX5_way wsX5_way) := goodIn_app (goodIn_of _ (by decide +kernel)) ggL_stores_X5_way
set_option maxRecDepth 20000 in
theorem ggL_stores_X5_bestBase : GoodIn wsL_stores wsX5_bestBase := goodIn_r _ [206, 6, 8, 10, 112, 41, 42, 20, 43, 27, 28, 29, 30, 31, 22, 137, 78, 79, 80, 81, 82, 83, 84, 85, 86, 87, 88, 89, 44, 45, 46, 47, 48, 207, 208, 209, 210, 211, 212, 213, 214, 65, 66, 67, 68, 40, 215, 126, 127, 128, 77, 216, 217, 218, 219, 220, 221, 222, 223, 69, 70, 71, 72, 49, 50, 51, 52, 53, 54, 55, 56, 270, 271, 272, 273, 274, 275, 276, 284, 285, 286, 287, 288, 289, 277, 278, 279, 280, 281, 282, 283] rfl (by decide +kernel)
set_option maxRecDepth 20000 in
theorem gL_stores_X5_bestBase : GoodIn wsL_stores (wsV RL 73 RX5 yX5_bestBase wsX5_bestBase) := goodIn_app (goodIn_of _ (by decide +kernel)) ggL_stores_X5_bestBase
set_option maxRecDepth 20000 in
theorem ggL_stores_X5_rebase : GoodIn wsL_stores wsX5_rebase := goodIn_r _ [227, 6, 8, 10, 13, 112, 41, 42, 20, 43, 27, 28, 29, 30, 31, 22, 137, 78, 79, 80, 81, 82, 83, 84, 85, 86, 87, 88, 89, 44, 45, 46, 47, 48, 228, 217, 218, 219, 215, 126, 127, 128, 229, 212, 213, 214, 65, 66, 67, 68, 40, 230, 221, 222, 223, 69, 70, 71, 72, 111, 138, 139, 140, 141, 142, 143, 144, 145, 146, 147, 148, 149, 150, 151, 152, 153, 154, 155, 156, 157, 158, 159, 160, 161, 162, 163, 164, 165, 166, 167, 168, 105, 110, 53, 169, 170, 171, 172, 173, 174, 175, 176, 177, 178, 179, 180, 181, 182, 183, 184, 185, 186, 187, 188, 189, 190, 191, 192, 193, 194, 116, 117, 118, 114, 37, 38, 39, 49, 50, 51, 52, 54, 55, 56, 270, 271, 272, 273, 274, 275, 276, 284, 285, 286, 287, 288, 289, 277, 278, 279, 280, 281, 282, 283, 290, 291, 292] rfl (by decide +kernel)
set_option maxRecDepth 20000 in
theorem gL_stores_X5_rebase : GoodIn wsL_stores (wsV RL 76 RX5 yX5_rebase wsX5_rebase) := goodIn_app (goodIn_of _ (by decide +kernel)) ggL_stores_X5_rebase
set_option maxRecDepth 20000 in
theorem ggL_stores_X5_differ : GoodIn wsL_stores wsX5_differ := goodIn_r _ [234, 6, 112, 41, 42, 20, 43, 27, 28, 29, 30, 31, 22, 137, 78, 79, 80, 81, 82, 83, 84, 85, 86, 87, 88, 89, 44, 45, 46, 47, 48, 235, 50, 51, 52, 53, 270, 271, 272, 273, 274, 275, 276, 277, 278, 279, 280, 281, 282, 283] rfl (by decide +kernel)
set_option maxRecDepth 20000 in
theorem gL_stores_X5_differ : GoodIn wsL_stores (wsV RL 38 RX5 yX5_differ wsX5_differ) := goodIn_app (goodIn_of _ (by decide +kernel)) ggL_stores_X5_differ
