set_option maxRecDepth 20000 in
theorem ggX9_layText_X7_tellItem : GoodIn wsX9_layText wsX7_tellItem := goodIn_r _ [34, 30, 35, 36, 37, 28, 38, 39, 40, 41, 42, 43, 44, 45, 46, 16, 47, 18, 48, 49, 50, 51, 52, 53, 9, 54, 11, 55, 56, 57, 58, 19, 59, 60, 61, 62, 12, 63, 64, 65, 66, 67, 68, 69, 70, 71, 72, 73, 74, 75, 76, 77, 78, 79, 80, 81, 82, 83, 84, 85, 86, 87, 88, 89, 90, 91, 92, 93, 94, 95, 96, 97, 98, 99, 100, 101, 102, 103, 104, 105, 106, 107, 108, 109, 110, 111, 112, 113, 114, 115, 116, 117, 118, 119, 120, 121, 122, 123, 124, 125, 126, 127, 128, 129, 130, 131, 20, 132, 133, 134, 135, 136, 137, 138, 139, 140, 272, 273, 274, 275, 268, 269, 270, 271, 260, 261, 262, 263, 264, 265, 266, 267, 276, 277, 278, 279] (by decide +kernel) (by decide +kernel)
set_option maxRecDepth 20000 in
theorem gX9_layText_X7_tellItem : GoodIn wsX9_layText (wsV RX9 264 RX7 yX7_tellItem wsX7_tellItem) := goodIn_app (goodIn_of _ (by decide +kernel)) ggX9_layText_X7_tellItem
set_option maxRecDepth 20000 in
theorem ggX9_layText_X0_forget : GoodIn wsX9_layText wsX0_forget := goodIn_r _ [145, 146, 280, 281, 282, 283] (by decide +kernel) (by decide +kernel)
set_option maxRecDepth 20000 in
theorem gX9_layText_X0_forget : GoodIn wsX9_layText (wsV RX9 253 RX0 yX0_forget wsX0_forget) := goodIn_app (goodIn_of _ (by decide +kernel)) ggX9_layText_X0_forget
set_option maxRecDepth 20000 in
theorem ggX9_layText_X9_rulesHaveChanged : GoodIn wsX9_layText wsX9_rulesHaveChanged := goodIn_r _ [150, 151, 1, 2, 152, 153, 154, 155, 156, 157, 158, 159, 160, 161, 162, 163, 164, 165, 166, 22, 23, 24, 167, 168, 169, 9, 170, 12, 171, 172, 173, 174, 87, 175, 176, 177, 178, 179, 52, 53, 54, 11, 180, 181, 182, 183, 65, 184, 185, 186, 187, 188, 189, 190, 16, 191, 19, 192, 193, 194, 195, 64, 196, 197, 198, 199, 66, 200, 201, 202, 203, 204, 205, 206, 207, 88, 208, 209, 210, 211, 212, 213, 214, 215, 216, 49, 217, 218, 219, 220, 221, 222, 223, 224, 225, 226, 227, 133, 134, 135, 20, 228, 229, 230, 231, 232, 233, 234, 235, 140, 236, 237, 238, 239, 18, 48, 50, 240, 241, 242, 243, 74, 75, 244, 245, 246, 247, 248, 249, 250, 251, 252, 253, 254, 255, 256, 257, 258, 259, 284, 285, 286, 287, 260, 261, 262, 263, 264, 265, 266, 267, 268, 269, 270, 271, 288, 289, 290, 291, 292, 293, 294, 295, 296, 297, 298, 299, 300, 301] (by decide +kernel) (by decide +kernel)
set_option maxRecDepth 20000 in
theorem gX9_layText_X9_rulesHaveChanged : GoodIn wsX9_layText (wsV RX9 164 RX9 yX9_rulesHaveChanged wsX9_rulesHaveChanged) := goodIn_app (goodIn_of _ (by decide +kernel)) ggX9_layText_X9_rulesHaveChanged
set_option maxRecDepth 20000 in
theorem ggX9_rulesHaveChanged_X5_make : GoodIn wsX9_rulesHaveChanged wsX5_make := goodIn_r _ [9, 10, 11, 12, 13, 14, 15, 8, 16, 17, 18, 19, 20, 21, 22, 23, 24, 25, 26, 27, 28, 29, 30, 31, 32, 33, 34, 35, 36, 37, 38, 39, 40, 41, 42, 43, 44, 45, 46, 47, 48, 49, 50, 51, 52, 53, 54, 55, 56, 57, 58, 59, 60, 61, 62, 63, 64, 65, 66, 67, 68, 69, 70, 71, 72, 73, 74, 75, 139, 140, 141, 142, 143, 144, 145, 146, 147, 148, 149, 150, 151, 152, 153, 154] (by decide +kernel) (by decide +kernel)
set_option maxRecDepth 20000 in
theorem gX9_rulesHaveChanged_X5_make : GoodIn wsX9_rulesHaveChanged (wsV RX9 268 RX5 yX5_make wsX5_make) := goodIn_app (goodIn_of _ (by decide +kernel)) ggX9_rulesHaveChanged_X5_make
set_option maxRecDepth 20000 in
theorem ggX9_rulesHaveChanged_X8_forget : GoodIn wsX9_rulesHaveChanged wsX8_forget := goodIn_r _ [80, 81, 155, 156, 157, 158, 159, 160, 161, 162, 163, 164, 165] (by decide +kernel) (by decide +kernel)
set_option maxRecDepth 20000 in
theorem gX9_rulesHaveChanged_X8_forget : GoodIn wsX9_rulesHaveChanged (wsV RX9 272 RX8 yX8_forget wsX8_forget) := goodIn_app (goodIn_of _ (by decide +kernel)) ggX9_rulesHaveChanged_X8_forget
set_option maxRecDepth 20000 in
theorem ggX9_rulesHaveChanged_X9_lineHasChanged : GoodIn wsX9_rulesHaveChanged wsX9_lineHasChanged := goodIn_r _ [86, 87, 3, 1, 88, 89, 90, 91, 92, 93, 94, 95, 96, 97, 98, 54, 99, 100, 101, 102, 103, 104, 105, 106, 107, 108, 109, 110, 111, 112, 113, 114, 115, 85, 116, 117, 118, 119, 8, 120, 12, 10, 17, 121, 122, 123, 124, 125, 126, 11, 127, 128, 129, 130, 131, 132, 133, 134, 135, 136, 137, 138, 166, 167, 168, 151, 152, 153, 154, 139, 140, 141, 142] (by decide +kernel) (by decide +kernel)
set_option maxRecDepth 20000 in
theorem gX9_rulesHaveChanged_X9_lineHasChanged : GoodIn wsX9_rulesHaveChanged (wsV RX9 149 RX9 yX9_lineHasChanged wsX9_lineHasChanged) := goodIn_app (goodIn_of _ (by decide +kernel)) ggX9_rulesHaveChanged_X9_lineHasChanged
set_option maxRecDepth 20000 in
theorem ggX9_lineHasChanged_X3_read : GoodIn wsX9_lineHasChanged wsX3_read := goodIn_r _ [8, 9, 10, 11, 12, 13, 14, 15, 16, 17, 18, 19, 20, 21, 22, 23, 24, 25, 26, 27, 28, 29, 30, 31, 32, 33, 34, 35, 36, 37, 38, 39, 40, 41, 42, 43, 44, 45, 46, 47, 48, 49, 62, 63, 64, 65, 66, 67, 68, 69, 70, 71, 72] (by decide +kernel) (by decide +kernel)
set_option maxRecDepth 20000 in
theorem gX9_lineHasChanged_X3_read : GoodIn wsX9_lineHasChanged (wsV RX9 221 RX3 yX3_read wsX3_read) := goodIn_app (goodIn_of _ (by decide +kernel)) ggX9_lineHasChanged_X3_read
set_option maxRecDepth 20000 in
theorem ggX9_backFrom_X6_classAt : GoodIn wsX9_backFrom wsX6_classAt := goodIn_r _ [7, 8, 9, 10, 6, 11, 12, 13, 14, 15, 16, 17, 18, 19, 20, 21, 42, 43, 44, 45] (by decide +kernel) (by decide +kernel)
set_option maxRecDepth 20000 in
theorem gX9_backFrom_X6_classAt : GoodIn wsX9_backFrom (wsV RX9 273 RX6 yX6_classAt wsX6_classAt) := goodIn_app (goodIn_of _ (by decide +kernel)) ggX9_backFrom_X6_classAt
set_option maxRecDepth 20000 in
theorem ggX9_backFrom_X8_isKnown : GoodIn wsX9_backFrom wsX8_isKnown := goodIn_r _ [26, 27, 28, 20, 29, 46, 47, 48, 49, 50, 51, 52, 53, 54, 55, 56] (by decide +kernel) (by decide +kernel)
set_option maxRecDepth 20000 in
theorem gX9_backFrom_X8_isKnown : GoodIn wsX9_backFrom (wsV RX9 215 RX8 yX8_isKnown wsX8_isKnown) := goodIn_app (goodIn_of _ (by decide +kernel)) ggX9_backFrom_X8_isKnown
set_option maxRecDepth 20000 in
theorem ggX9_farthestBack_X6_length : GoodIn wsX9_farthestBack wsX6_length := goodIn_r _ [10, 11, 54, 55, 56, 57] (by decide +kernel) (by decide +kernel)
set_option maxRecDepth 20000 in
theorem gX9_farthestBack_X6_length : GoodIn wsX9_farthestBack (wsV RX9 137 RX6 yX6_length wsX6_length) := goodIn_app (goodIn_of _ (by decide +kernel)) ggX9_farthestBack_X6_length
set_option maxRecDepth 20000 in
theorem ggX9_farthestBack_X9_backFrom : GoodIn wsX9_farthestBack wsX9_backFrom := goodIn_r _ [16, 17, 1, 18, 19, 20, 9, 21, 22, 23, 24, 25, 11, 26, 27, 28, 29, 30, 31, 32, 15, 33, 34, 35, 36, 37, 38, 39, 40, 41, 42, 43, 44, 45, 46, 47, 48, 49, 50, 51, 52, 53, 54, 55, 56, 57, 58, 59, 60, 61, 62, 63, 64, 65, 66, 67, 68] (by decide +kernel) (by decide +kernel)
set_option maxRecDepth 20000 in
theorem gX9_farthestBack_X9_backFrom : GoodIn wsX9_farthestBack (wsV RX9 218 RX9 yX9_backFrom wsX9_backFrom) := goodIn_app (goodIn_of _ (by decide +kernel)) ggX9_farthestBack_X9_backFrom
