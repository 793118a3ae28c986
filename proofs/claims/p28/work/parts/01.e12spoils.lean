set_option maxRecDepth 20000 in
theorem ggL_spoils_X5_count : GoodIn wsL_spoils wsX5_count := goodIn_r _ [5, 6, 7, 8, 9, 10, 11, 12, 13, 14, 15, 16, 17, 18, 19, 20, 21, 22, 23, 24, 25, 26, 27, 28, 29, 30, 31, 32, 33, 34, 35, 36, 37, 38, 39, 40, 41, 42, 43, 44, 45, 46, 47, 48, 49, 50, 51, 52, 53, 54, 55, 56, 57, 58, 59, 60, 61, 62, 63, 64, 65, 66, 67, 68, 69, 70, 71, 72, 73, 74, 75, 76, 77, 78, 79, 80, 81, 82, 83, 84, 85, 86, 87, 88, 89, 242, 243, 244, 245, 246, 247, 248, 249, 250, 251, 252, 253, 254, 255, 256, 257, 258, 259, 260, 261, 262, 263, 264, 265, 266, 267, 268] rfl (by decide +kernel)
set_option maxRecDepth 20000 in
theorem gL_spoils_X5_count : GoodIn wsL_spoils (wsV RL 13 RX5 yX5_count wsX5_count) := goodIn_app (goodIn_of _ (by decide +kernel)) ggL_spoils_X5_count
set_option maxRecDepth 20000 in
theorem ggL_spoils_L_low : GoodIn wsL_spoils wsL_low := goodIn_r _ [93, 94] rfl (by decide +kernel)
set_option maxRecDepth 20000 in
theorem gL_spoils_L_low : GoodIn wsL_spoils (va_wsS RL 51 yL_low wsL_low) := goodIn_app (goodIn_of _ (by decide +kernel)) ggL_spoils_L_low
set_option maxRecDepth 20000 in
theorem ggL_spoils_X5_version : GoodIn wsL_spoils wsX5_version := goodIn_r _ [98, 6, 99, 29, 30, 20, 31, 22, 100, 24, 25, 26, 27, 28, 101, 102, 103, 104, 105, 106, 107, 108, 109, 110, 111, 45, 46, 47, 48, 112, 41, 42, 43, 113, 70, 71, 72, 44, 114, 37, 38, 39, 40, 49, 50, 51, 52, 53, 54, 55, 56, 115, 116, 117, 118, 119, 86, 87, 88, 89, 242, 243, 244, 245, 246, 247, 248, 249, 250, 251, 252, 253, 254, 255] rfl (by decide +kernel)
set_option maxRecDepth 20000 in
theorem gL_spoils_X5_version : GoodIn wsL_spoils (wsV RL 19 RX5 yX5_version wsX5_version) := goodIn_app (goodIn_of _ (by decide +kernel)) ggL_spoils_X5_version
set_option maxRecDepth 20000 in
theorem ggL_spoils_X5_spoil : GoodIn wsL_spoils wsX5_spoil := goodIn_r _ [123, 6, 13, 8, 112, 41, 42, 20, 43, 27, 28, 29, 30, 31, 22, 119, 86, 87, 88, 89, 124, 125, 126, 127, 128, 129, 130, 131, 132, 133, 134, 135, 136, 67, 137, 138, 139, 140, 141, 142, 143, 144, 145, 146, 147, 148, 149, 150, 151, 152, 153, 154, 105, 110, 48, 53, 155, 156, 157, 158, 159, 160, 161, 162, 163, 164, 165, 166, 167, 168, 169, 170, 171, 40, 73, 74, 75, 76, 77, 78, 79, 80, 81, 82, 83, 84, 85, 44, 45, 46, 47, 242, 243, 244, 245, 246, 247, 248, 249, 250, 251, 252, 253, 254, 255, 262, 263, 264, 256, 257, 258, 259, 260, 261] rfl (by decide +kernel)
set_option maxRecDepth 20000 in
theorem gL_spoils_X5_spoil : GoodIn wsL_spoils (wsV RL 85 RX5 yX5_spoil wsX5_spoil) := goodIn_app (goodIn_of _ (by decide +kernel)) ggL_spoils_X5_spoil
set_option maxRecDepth 20000 in
theorem ggL_spoils_X5_why : GoodIn wsL_spoils wsX5_why := goodIn_r _ [175, 6, 112, 41, 42, 20, 43, 27, 28, 29, 30, 31, 22, 176, 82, 83, 84, 85, 86, 87, 88, 89, 44, 45, 46, 47, 48, 177, 178, 179, 180, 181, 182, 183, 184, 242, 243, 244, 245, 246, 247, 248, 249, 250, 251, 252, 253, 254, 255] rfl (by decide +kernel)
set_option maxRecDepth 20000 in
theorem gL_spoils_X5_why : GoodIn wsL_spoils (wsV RL 32 RX5 yX5_why wsX5_why) := goodIn_app (goodIn_of _ (by decide +kernel)) ggL_spoils_X5_why
set_option maxRecDepth 20000 in
theorem ggL_spoils_X5_fork : GoodIn wsL_spoils wsX5_fork := goodIn_r _ [188, 6, 8, 9, 13, 189, 190, 191, 20, 192, 27, 28, 29, 30, 31, 22, 124, 125, 126, 127, 128, 129, 130, 131, 132, 133, 134, 135, 136, 67, 137, 138, 139, 140, 141, 142, 143, 144, 145, 146, 147, 148, 149, 150, 151, 152, 153, 154, 105, 110, 48, 89, 53, 155, 156, 157, 158, 159, 160, 161, 162, 163, 164, 165, 166, 167, 193, 194, 195, 196, 197, 198, 199, 200, 201, 202, 203, 204, 242, 243, 244, 245, 246, 247, 248, 256, 257, 258, 259, 260, 261, 249, 250, 251, 252, 253, 254, 255, 262, 263, 264] rfl (by decide +kernel)
set_option maxRecDepth 20000 in
theorem gL_spoils_X5_fork : GoodIn wsL_spoils (wsV RL 44 RX5 yX5_fork wsX5_fork) := goodIn_app (goodIn_of _ (by decide +kernel)) ggL_spoils_X5_fork
set_option maxRecDepth 20000 in
theorem ggL_spoils_X5_head : GoodIn wsL_spoils wsX5_head := goodIn_r _ [208, 8, 209, 202, 203, 133, 204, 148, 210, 211, 212, 213, 147, 201, 242, 243, 244, 245, 246, 247, 248, 256, 257, 258, 259, 260, 261] rfl (by decide +kernel)
set_option maxRecDepth 20000 in
theorem gL_spoils_X5_head : GoodIn wsL_spoils (wsV RL 26 RX5 yX5_head wsX5_head) := goodIn_app (goodIn_of _ (by decide +kernel)) ggL_spoils_X5_head
set_option maxRecDepth 20000 in
theorem ggL_spoils_X5_moveHead : GoodIn wsL_spoils wsX5_moveHead := goodIn_r _ [217, 8, 6, 13, 209, 202, 203, 133, 204, 148, 189, 190, 191, 20, 192, 27, 28, 29, 30, 31, 22, 210, 211, 212, 213, 147, 201, 124, 125, 126, 127, 128, 129, 130, 131, 132, 134, 135, 136, 67, 137, 138, 139, 140, 141, 142, 143, 144, 145, 146, 149, 150, 151, 152, 153, 154, 105, 110, 48, 89, 53, 155, 156, 157, 158, 159, 160, 161, 162, 163, 164, 165, 166, 167, 218, 198, 199, 200, 242, 243, 244, 245, 246, 247, 248, 256, 257, 258, 259, 260, 261, 249, 250, 251, 252, 253, 254, 255, 262, 263, 264] rfl (by decide +kernel)
set_option maxRecDepth 20000 in
theorem gL_spoils_X5_moveHead : GoodIn wsL_spoils (wsV RL 88 RX5 yX5_moveHead wsX5_moveHead) := goodIn_app (goodIn_of _ (by decide +kernel)) ggL_spoils_X5_moveHead
set_option maxRecDepth 20000 in
theorem ggL_spoils_X5_drop : GoodIn wsL_spoils wsX5_drop := goodIn_r _ [222, 6, 8, 13, 189, 190, 191, 20, 192, 27, 28, 29, 30, 31, 22, 223, 224, 225, 133, 226, 148, 227, 211, 212, 213, 147, 201, 202, 203, 204, 124, 125, 126, 127, 128, 129, 130, 131, 132, 134, 135, 136, 67, 137, 138, 139, 140, 141, 142, 143, 144, 145, 146, 149, 150, 151, 152, 153, 154, 105, 110, 48, 89, 53, 155, 156, 157, 158, 159, 160, 161, 162, 163, 164, 165, 166, 167, 228, 229, 230, 231, 232, 233, 234, 235, 236, 237, 238, 239, 240, 241, 116, 117, 118, 40, 41, 42, 43, 44, 45, 46, 47, 242, 243, 244, 245, 246, 247, 248, 249, 250, 251, 252, 253, 254, 255, 256, 257, 258, 259, 260, 261, 262, 263, 264] rfl (by decide +kernel)
set_option maxRecDepth 20000 in
theorem gL_spoils_X5_drop : GoodIn wsL_spoils (wsV RL 41 RX5 yX5_drop wsX5_drop) := goodIn_app (goodIn_of _ (by decide +kernel)) ggL_spoils_X5_drop
