set_option maxRecDepth 20000 in
theorem ggX9_init_X7_init : GoodIn wsX9_init wsX7_init := goodIn_r _ [37, 38, 2, 3, 39, 40, 378, 379, 380, 381] (by decide +kernel) (by decide +kernel)
set_option maxRecDepth 20000 in
theorem gX9_init_X7_init_n11 : GoodIn wsX9_init (wsX7_init) := ggX9_init_X7_init
set_option maxRecDepth 20000 in
theorem ggX9_init_X4_init : GoodIn wsX9_init wsX4_init := goodIn_r _ [42, 43, 2, 3, 39, 44, 45, 46, 47, 48, 49, 50, 51, 52, 53, 54, 55, 56, 57, 58, 59, 394, 395, 396, 397, 398, 399, 400, 401, 428, 429, 430, 431] (by decide +kernel) (by decide +kernel)
set_option maxRecDepth 20000 in
theorem gX9_init_X4_init_n18 : GoodIn wsX9_init (wsX4_init) := ggX9_init_X4_init
set_option maxRecDepth 20000 in
theorem ggX9_init_X6_init : GoodIn wsX9_init wsX6_init := goodIn_r _ [61, 62, 2, 3, 39, 63, 64, 65, 402, 403, 404, 405] (by decide +kernel) (by decide +kernel)
set_option maxRecDepth 20000 in
theorem gX9_init_X6_init_n25 : GoodIn wsX9_init (wsX6_init) := ggX9_init_X6_init
set_option maxRecDepth 20000 in
theorem ggX9_init_X0_init : GoodIn wsX9_init wsX0_init := goodIn_r _ [67, 68, 2, 3, 39, 69, 70, 71, 406, 407, 408, 409] (by decide +kernel) (by decide +kernel)
set_option maxRecDepth 20000 in
theorem gX9_init_X0_init_n38 : GoodIn wsX9_init (wsX0_init) := ggX9_init_X0_init
set_option maxRecDepth 20000 in
theorem ggX9_init_X5_init : GoodIn wsX9_init wsX5_init := goodIn_r _ [73, 74, 2, 3, 39, 75, 76, 410, 411, 412, 413] (by decide +kernel) (by decide +kernel)
set_option maxRecDepth 20000 in
theorem gX9_init_X5_init_n45 : GoodIn wsX9_init (wsX5_init) := ggX9_init_X5_init
set_option maxRecDepth 20000 in
theorem ggX9_init_X3_init : GoodIn wsX9_init wsX3_init := goodIn_r _ [78, 79, 2, 3, 39, 80, 414, 415, 416] (by decide +kernel) (by decide +kernel)
set_option maxRecDepth 20000 in
theorem gX9_init_X3_init_n52 : GoodIn wsX9_init (wsX3_init) := ggX9_init_X3_init
set_option maxRecDepth 20000 in
theorem ggX9_init_X8_init : GoodIn wsX9_init wsX8_init := goodIn_r _ [82, 83, 2, 3, 39, 84, 85, 86, 87, 88, 58, 89, 90, 91, 92, 93, 94, 95, 96, 97, 98, 99, 100, 417, 418, 419, 420, 421, 422, 423, 424, 425, 426, 427, 432, 433, 434, 435] (by decide +kernel) (by decide +kernel)
set_option maxRecDepth 20000 in
theorem gX9_init_X8_init_n59 : GoodIn wsX9_init (wsX8_init) := ggX9_init_X8_init
set_option maxRecDepth 20000 in
theorem ggX9_init_J0_length_8abf5 : GoodIn wsX9_init wsJ0_length_8abf5 := goodIn_r _ [105, 106, 107, 108, 109, 104, 110, 111, 112] (by decide +kernel) (by decide +kernel)
set_option maxRecDepth 20000 in
theorem gX9_init_J0_length_8abf5 : GoodIn wsX9_init (wsV RX9 72 RJ0 yJ0_length_8abf5 wsJ0_length_8abf5) := goodIn_app (goodIn_of _ (by decide +kernel)) ggX9_init_J0_length_8abf5
set_option maxRecDepth 20000 in
theorem ggX9_init_J0_charAt_5068e : GoodIn wsX9_init wsJ0_charAt_5068e := goodIn_r _ [116, 106, 117, 118, 119, 104, 120, 111, 112, 121, 122, 123, 124, 125, 126, 127, 128, 129, 130, 131, 132, 133, 134, 135, 136, 137, 138, 139, 140, 141, 142, 143, 144, 145, 146, 147, 148, 149] (by decide +kernel) (by decide +kernel)
set_option maxRecDepth 20000 in
theorem gX9_init_J0_charAt_5068e : GoodIn wsX9_init (wsV RX9 78 RJ0 yJ0_charAt_5068e wsJ0_charAt_5068e) := goodIn_app (goodIn_of _ (by decide +kernel)) ggX9_init_J0_charAt_5068e
set_option maxRecDepth 20000 in
theorem ggX9_init_X7_add : GoodIn wsX9_init wsX7_add := goodIn_r _ [153, 154, 40, 378, 379, 380, 381] (by decide +kernel) (by decide +kernel)
set_option maxRecDepth 20000 in
theorem gX9_init_X7_add : GoodIn wsX9_init (wsV RX9 82 RX7 yX7_add wsX7_add) := goodIn_app (goodIn_of _ (by decide +kernel)) ggX9_init_X7_add
set_option maxRecDepth 20000 in
theorem ggX9_init_X9_layText : GoodIn wsX9_init wsX9_layText := goodIn_r _ [159, 11, 15, 7, 21, 160, 161, 162, 163, 10, 164, 165, 166, 167, 168, 169, 14, 170, 63, 64, 171, 172, 173, 174, 175, 176, 177, 178, 6, 179, 154, 180, 181, 182, 183, 184, 185, 186, 187, 188, 189, 190, 191, 40, 192, 193, 194, 195, 196, 158, 197, 198, 199, 200, 201, 202, 203, 204, 205, 206, 207, 208, 209, 52, 44, 45, 46, 210, 211, 212, 213, 214, 215, 216, 217, 218, 219, 220, 221, 51, 222, 223, 224, 225, 226, 227, 228, 47, 48, 229, 230, 231, 232, 56, 57, 59, 233, 234, 235, 236, 237, 238, 239, 240, 241, 242, 243, 244, 245, 246, 247, 248, 249, 250, 251, 252, 253, 254, 255, 256, 257, 258, 259, 260, 261, 262, 263, 264, 265, 266, 267, 268, 269, 270, 271, 272, 273, 274, 275, 276, 65, 277, 278, 279, 20, 280, 281, 282, 283, 284, 285, 25, 33, 286, 287, 288, 24, 289, 75, 290, 291, 292, 293, 294, 295, 76, 296, 297, 298, 299, 300, 301, 302, 303, 304, 305, 306, 307, 308, 309, 310, 311, 312, 313, 314, 315, 316, 317, 318, 319, 320, 321, 322, 323, 324, 325, 326, 327, 328, 329, 330, 331, 332, 333, 334, 335, 336, 337, 338, 339, 340, 32, 341, 342, 343, 344, 345, 346, 29, 347, 348, 349, 28, 350, 351, 352, 80, 353, 354, 355, 356, 357, 358, 359, 360, 361, 362, 363, 364, 365, 366, 367, 368, 369, 370, 371, 372, 373, 382, 383, 384, 385, 386, 387, 388, 389, 390, 391, 392, 393, 394, 395, 396, 397, 398, 399, 400, 401, 402, 403, 404, 405, 378, 379, 380, 381, 428, 429, 430, 431, 406, 407, 408, 409, 410, 411, 412, 413, 417, 418, 419, 420, 421, 422, 423, 424, 425, 426, 427, 414, 415, 416] (by decide +kernel) (by decide +kernel)
set_option maxRecDepth 20000 in
theorem gX9_init_X9_layText : GoodIn wsX9_init (wsV RX9 86 RX9 yX9_layText wsX9_layText) := goodIn_app (goodIn_of _ (by decide +kernel)) ggX9_init_X9_layText
set_option maxRecDepth 20000 in
theorem ggX9_init_X7_clear : GoodIn wsX9_init wsX7_clear := goodIn_r _ [377, 154, 378, 379, 380, 381] (by decide +kernel) (by decide +kernel)
set_option maxRecDepth 20000 in
theorem gX9_init_X7_clear : GoodIn wsX9_init (wsV RX9 89 RX7 yX7_clear wsX7_clear) := goodIn_app (goodIn_of _ (by decide +kernel)) ggX9_init_X7_clear
set_option maxRecDepth 20000 in
theorem ggX9_write_X7_length : GoodIn wsX9_write wsX7_length := goodIn_r _ [6, 7, 25, 26, 27, 28] (by decide +kernel) (by decide +kernel)
set_option maxRecDepth 20000 in
theorem gX9_write_X7_length : GoodIn wsX9_write (wsV RX9 92 RX7 yX7_length wsX7_length) := goodIn_app (goodIn_of _ (by decide +kernel)) ggX9_write_X7_length
set_option maxRecDepth 20000 in
theorem ggX9_write_X7_add : GoodIn wsX9_write wsX7_add := goodIn_r _ [11, 7, 12, 25, 26, 27, 28] (by decide +kernel) (by decide +kernel)
set_option maxRecDepth 20000 in
theorem gX9_write_X7_add : GoodIn wsX9_write (wsV RX9 82 RX7 yX7_add wsX7_add) := goodIn_app (goodIn_of _ (by decide +kernel)) ggX9_write_X7_add
set_option maxRecDepth 20000 in
theorem ggX9_wipe_X7_length : GoodIn wsX9_wipe wsX7_length := goodIn_r _ [6, 7, 24, 25, 26, 27] (by decide +kernel) (by decide +kernel)
set_option maxRecDepth 20000 in
theorem gX9_wipe_X7_length : GoodIn wsX9_wipe (wsV RX9 92 RX7 yX7_length wsX7_length) := goodIn_app (goodIn_of _ (by decide +kernel)) ggX9_wipe_X7_length
set_option maxRecDepth 20000 in
theorem ggX9_wipe_X7_clear : GoodIn wsX9_wipe wsX7_clear := goodIn_r _ [11, 7, 24, 25, 26, 27] (by decide +kernel) (by decide +kernel)
set_option maxRecDepth 20000 in
theorem gX9_wipe_X7_clear : GoodIn wsX9_wipe (wsV RX9 89 RX7 yX7_clear wsX7_clear) := goodIn_app (goodIn_of _ (by decide +kernel)) ggX9_wipe_X7_clear
set_option maxRecDepth 20000 in
theorem ggX9_lay_X7_firstFault : GoodIn wsX9_lay wsX7_firstFault := goodIn_r _ [7, 8, 9, 10, 11, 12, 13, 6, 14, 15, 16, 17, 18, 19, 20, 21, 22, 23, 24, 25, 26, 27, 28, 29, 30, 31, 32, 33, 34, 35, 36, 37, 38, 39, 40, 41, 42, 43, 44, 45, 46, 47, 48, 49, 50, 51, 296, 297, 298, 299] (by decide +kernel) (by decide +kernel)
set_option maxRecDepth 20000 in
theorem gX9_lay_X7_firstFault : GoodIn wsX9_lay (wsV RX9 93 RX7 yX7_firstFault wsX7_firstFault) := goodIn_app (goodIn_of _ (by decide +kernel)) ggX9_lay_X7_firstFault
set_option maxRecDepth 20000 in
theorem ggX9_lay_X7_rulesSeen : GoodIn wsX9_lay wsX7_rulesSeen := goodIn_r _ [55, 8, 296, 297, 298, 299] (by decide +kernel) (by decide +kernel)
set_option maxRecDepth 20000 in
theorem gX9_lay_X7_rulesSeen : GoodIn wsX9_lay (wsV RX9 96 RX7 yX7_rulesSeen wsX7_rulesSeen) := goodIn_app (goodIn_of _ (by decide +kernel)) ggX9_lay_X7_rulesSeen
set_option maxRecDepth 20000 in
theorem ggX9_lay_X9_layText : GoodIn wsX9_lay wsX9_layText := goodIn_r _ [59, 2, 60, 1, 61, 62, 63, 64, 65, 66, 67, 68, 69, 70, 71, 72, 73, 74, 75, 76, 77, 78, 79, 80, 81, 82, 83, 84, 6, 85, 10, 86, 87, 88, 89, 11, 12, 13, 14, 15, 16, 17, 18, 19, 90, 91, 92, 93, 32, 33, 34, 94, 95, 96, 97, 98, 99, 100, 101, 102, 103, 104, 105, 106, 107, 108, 109, 110, 49, 50, 51, 43, 44, 45, 46, 47, 111, 112, 113, 114, 115, 116, 117, 118, 119, 120, 121, 122, 123, 124, 125, 126, 127, 128, 129, 130, 131, 132, 133, 134, 135, 136, 137, 138, 139, 140, 141, 142, 143, 144, 145, 146, 147, 148, 149, 150, 151, 152, 153, 154, 155, 156, 157, 158, 159, 160, 161, 162, 163, 164, 165, 166, 167, 168, 169, 170, 171, 172, 173, 174, 175, 176, 177, 178, 179, 180, 181, 182, 183, 184, 185, 186, 187, 188, 189, 190, 191, 192, 193, 194, 195, 196, 197, 198, 199, 200, 201, 202, 203, 204, 205, 206, 207, 208, 209, 210, 211, 212, 213, 214, 215, 216, 217, 218, 219, 220, 221, 222, 223, 224, 225, 226, 227, 228, 229, 230, 231, 232, 233, 234, 235, 236, 237, 238, 239, 240, 241, 242, 243, 244, 245, 246, 247, 248, 249, 250, 251, 252, 253, 254, 255, 256, 257, 258, 259, 260, 261, 262, 263, 264, 265, 266, 267, 268, 269, 270, 271, 272, 273, 274, 275, 276, 277, 278, 279, 280, 281, 282, 284, 285, 286, 287, 288, 289, 290, 291, 292, 293, 294, 295, 300, 301, 302, 303, 304, 305, 306, 307, 308, 309, 310, 311, 296, 297, 298, 299, 312, 313, 314, 315, 316, 317, 318, 319, 320, 321, 322, 323, 324, 325, 326, 327, 328, 329, 330, 331, 332, 333, 334, 335, 336, 337] (by decide +kernel) (by decide +kernel)
set_option maxRecDepth 20000 in
theorem gX9_lay_X9_layText : GoodIn wsX9_lay (wsV RX9 86 RX9 yX9_layText wsX9_layText) := goodIn_app (goodIn_of _ (by decide +kernel)) ggX9_lay_X9_layText
set_option maxRecDepth 20000 in
theorem ggX9_lay_X4_number : GoodIn wsX9_lay wsX4_number := goodIn_r _ [97, 68, 300, 301, 302, 303, 304, 305, 306, 307] (by decide +kernel) (by decide +kernel)
set_option maxRecDepth 20000 in
theorem gX9_lay_X4_number : GoodIn wsX9_lay (wsV RX9 99 RX4 yX4_number wsX4_number) := goodIn_app (goodIn_of _ (by decide +kernel)) ggX9_lay_X4_number
set_option maxRecDepth 20000 in
theorem ggX9_rule_X9_isRule : GoodIn wsX9_rule wsX9_isRule := goodIn_r _ [7, 2, 8, 9, 10, 11, 12, 13, 39, 40, 41, 42, 43, 44, 45, 46, 47, 48, 49, 50, 51, 52, 53, 54, 55, 56, 57, 58] (by decide +kernel) (by decide +kernel)
set_option maxRecDepth 20000 in
theorem gX9_rule_X9_isRule : GoodIn wsX9_rule (wsV RX9 102 RX9 yX9_isRule wsX9_isRule) := goodIn_app (goodIn_of _ (by decide +kernel)) ggX9_rule_X9_isRule
set_option maxRecDepth 20000 in
theorem ggX9_rule_X6_kindOf : GoodIn wsX9_rule wsX6_kindOf := goodIn_r _ [18, 19, 59, 60, 61, 62] (by decide +kernel) (by decide +kernel)
set_option maxRecDepth 20000 in
theorem gX9_rule_X6_kindOf : GoodIn wsX9_rule (wsV RX9 106 RX6 yX6_kindOf wsX6_kindOf) := goodIn_app (goodIn_of _ (by decide +kernel)) ggX9_rule_X6_kindOf
set_option maxRecDepth 20000 in
theorem ggX9_rule_X4_placesOf : GoodIn wsX9_rule wsX4_placesOf := goodIn_r _ [23, 24, 25, 26, 27, 11, 28, 13, 51, 52, 53, 54, 55, 56, 57, 58] (by decide +kernel) (by decide +kernel)
set_option maxRecDepth 20000 in
theorem gX9_rule_X4_placesOf : GoodIn wsX9_rule (wsV RX9 110 RX4 yX4_placesOf wsX4_placesOf) := goodIn_app (goodIn_of _ (by decide +kernel)) ggX9_rule_X4_placesOf
set_option maxRecDepth 20000 in
theorem ggX9_rule_X4_firstOf : GoodIn wsX9_rule wsX4_firstOf := goodIn_r _ [32, 33, 25, 26, 27, 11, 28, 13, 51, 52, 53, 54, 55, 56, 57, 58] (by decide +kernel) (by decide +kernel)
set_option maxRecDepth 20000 in
theorem gX9_rule_X4_firstOf : GoodIn wsX9_rule (wsV RX9 113 RX4 yX4_firstOf wsX4_firstOf) := goodIn_app (goodIn_of _ (by decide +kernel)) ggX9_rule_X4_firstOf
set_option maxRecDepth 20000 in
theorem ggX9_rule_X4_wholeOf : GoodIn wsX9_rule wsX4_wholeOf := goodIn_r _ [37, 38, 25, 26, 27, 11, 28, 13, 51, 52, 53, 54, 55, 56, 57, 58] (by decide +kernel) (by decide +kernel)
set_option maxRecDepth 20000 in
theorem gX9_rule_X4_wholeOf : GoodIn wsX9_rule (wsV RX9 116 RX4 yX4_wholeOf wsX4_wholeOf) := goodIn_app (goodIn_of _ (by decide +kernel)) ggX9_rule_X4_wholeOf
set_option maxRecDepth 20000 in
theorem ggX9_kind_X9_isLetter : GoodIn wsX9_kind wsX9_isLetter := goodIn_r _ [5] (by decide +kernel) (by decide +kernel)
set_option maxRecDepth 20000 in
theorem gX9_kind_X9_isLetter : GoodIn wsX9_kind (va_wsS RX9 128 yX9_isLetter wsX9_isLetter) := goodIn_app (goodIn_of _ (by decide +kernel)) ggX9_kind_X9_isLetter
set_option maxRecDepth 20000 in
theorem ggX9_kind_X6_classOf : GoodIn wsX9_kind wsX6_classOf := goodIn_r _ [10, 11, 3, 4, 5, 24, 25, 26, 27] (by decide +kernel) (by decide +kernel)
set_option maxRecDepth 20000 in
theorem gX9_kind_X6_classOf : GoodIn wsX9_kind (wsV RX9 131 RX6 yX6_classOf wsX6_classOf) := goodIn_app (goodIn_of _ (by decide +kernel)) ggX9_kind_X6_classOf
set_option maxRecDepth 20000 in
theorem ggX9_letter_X9_isPlaceOfLine : GoodIn wsX9_letter wsX9_isPlaceOfLine := goodIn_r _ [6, 1, 7, 8, 9, 10, 11, 12, 18, 19, 20, 21, 22, 23, 24, 25, 26, 27, 28, 29, 30, 31, 32, 33] (by decide +kernel) (by decide +kernel)
set_option maxRecDepth 20000 in
theorem gX9_letter_X9_isPlaceOfLine : GoodIn wsX9_letter (wsV RX9 134 RX9 yX9_isPlaceOfLine wsX9_isPlaceOfLine) := goodIn_app (goodIn_of _ (by decide +kernel)) ggX9_letter_X9_isPlaceOfLine
set_option maxRecDepth 20000 in
theorem ggX9_letter_X6_length : GoodIn wsX9_letter wsX6_length := goodIn_r _ [11, 12, 30, 31, 32, 33] (by decide +kernel) (by decide +kernel)
set_option maxRecDepth 20000 in
theorem gX9_letter_X6_length : GoodIn wsX9_letter (wsV RX9 137 RX6 yX6_length wsX6_length) := goodIn_app (goodIn_of _ (by decide +kernel)) ggX9_letter_X6_length
set_option maxRecDepth 20000 in
theorem ggX9_letter_X6_letterAt : GoodIn wsX9_letter wsX6_letterAt := goodIn_r _ [16, 12, 17, 30, 31, 32, 33] (by decide +kernel) (by decide +kernel)
set_option maxRecDepth 20000 in
theorem gX9_letter_X6_letterAt : GoodIn wsX9_letter (wsV RX9 138 RX6 yX6_letterAt wsX6_letterAt) := goodIn_app (goodIn_of _ (by decide +kernel)) ggX9_letter_X6_letterAt
set_option maxRecDepth 20000 in
theorem ggX9_insert_X9_isPlaceOfLine : GoodIn wsX9_insert wsX9_isPlaceOfLine := goodIn_r _ [7, 1, 8, 9, 10, 11, 12, 13, 82, 83, 84, 85, 86, 87, 88, 89, 90, 91, 92, 93, 94, 95, 96, 97] (by decide +kernel) (by decide +kernel)
set_option maxRecDepth 20000 in
theorem gX9_insert_X9_isPlaceOfLine : GoodIn wsX9_insert (wsV RX9 134 RX9 yX9_isPlaceOfLine wsX9_isPlaceOfLine) := goodIn_app (goodIn_of _ (by decide +kernel)) ggX9_insert_X9_isPlaceOfLine
set_option maxRecDepth 20000 in
theorem ggX9_insert_X9_isLetter : GoodIn wsX9_insert wsX9_isLetter := goodIn_r _ [16] (by decide +kernel) (by decide +kernel)
set_option maxRecDepth 20000 in
theorem gX9_insert_X9_isLetter : GoodIn wsX9_insert (va_wsS RX9 128 yX9_isLetter wsX9_isLetter) := goodIn_app (goodIn_of _ (by decide +kernel)) ggX9_insert_X9_isLetter
set_option maxRecDepth 20000 in
theorem ggX9_insert_X6_length : GoodIn wsX9_insert wsX6_length := goodIn_r _ [12, 13, 94, 95, 96, 97] (by decide +kernel) (by decide +kernel)
set_option maxRecDepth 20000 in
theorem gX9_insert_X6_length : GoodIn wsX9_insert (wsV RX9 137 RX6 yX6_length wsX6_length) := goodIn_app (goodIn_of _ (by decide +kernel)) ggX9_insert_X6_length
set_option maxRecDepth 20000 in
theorem ggX9_insert_X6_putIn : GoodIn wsX9_insert wsX6_putIn := goodIn_r _ [20, 13, 21, 94, 95, 96, 97] (by decide +kernel) (by decide +kernel)
set_option maxRecDepth 20000 in
theorem gX9_insert_X6_putIn : GoodIn wsX9_insert (wsV RX9 141 RX6 yX6_putIn wsX6_putIn) := goodIn_app (goodIn_of _ (by decide +kernel)) ggX9_insert_X6_putIn
set_option maxRecDepth 20000 in
theorem ggX9_insert_X0_note : GoodIn wsX9_insert wsX0_note := goodIn_r _ [26, 27, 28, 29, 30, 31, 32, 33, 25, 34, 35, 36, 37, 38, 98, 99, 100, 101] (by decide +kernel) (by decide +kernel)
set_option maxRecDepth 20000 in
theorem gX9_insert_X0_note : GoodIn wsX9_insert (wsV RX9 145 RX0 yX0_note wsX0_note) := goodIn_app (goodIn_of _ (by decide +kernel)) ggX9_insert_X0_note
set_option maxRecDepth 20000 in
theorem ggX9_insert_X9_lineHasChanged : GoodIn wsX9_insert wsX9_lineHasChanged := goodIn_r _ [42, 43, 1, 44, 45, 46, 47, 48, 49, 50, 51, 52, 53, 9, 10, 11, 12, 13, 54, 55, 56, 57, 58, 59, 60, 61, 21, 62, 63, 64, 65, 66, 15, 6, 16, 67, 68, 69, 70, 71, 72, 73, 74, 75, 76, 77, 78, 79, 80, 81, 82, 83, 84, 85, 86, 87, 88, 89, 90, 91, 92, 93, 102, 103, 104, 94, 95, 96, 97, 105, 106, 107, 108] (by decide +kernel) (by decide +kernel)
set_option maxRecDepth 20000 in
theorem gX9_insert_X9_lineHasChanged : GoodIn wsX9_insert (wsV RX9 149 RX9 yX9_lineHasChanged wsX9_lineHasChanged) := goodIn_app (goodIn_of _ (by decide +kernel)) ggX9_insert_X9_lineHasChanged
set_option maxRecDepth 20000 in
theorem ggX9_erase_X6_length : GoodIn wsX9_erase wsX6_length := goodIn_r _ [7, 8, 90, 91, 92, 93] (by decide +kernel) (by decide +kernel)
set_option maxRecDepth 20000 in
theorem gX9_erase_X6_length : GoodIn wsX9_erase (wsV RX9 137 RX6 yX6_length wsX6_length) := goodIn_app (goodIn_of _ (by decide +kernel)) ggX9_erase_X6_length
set_option maxRecDepth 20000 in
theorem ggX9_erase_X6_letterAt : GoodIn wsX9_erase wsX6_letterAt := goodIn_r _ [12, 8, 13, 90, 91, 92, 93] (by decide +kernel) (by decide +kernel)
set_option maxRecDepth 20000 in
theorem gX9_erase_X6_letterAt : GoodIn wsX9_erase (wsV RX9 138 RX6 yX6_letterAt wsX6_letterAt) := goodIn_app (goodIn_of _ (by decide +kernel)) ggX9_erase_X6_letterAt
set_option maxRecDepth 20000 in
theorem ggX9_erase_X6_takeOut : GoodIn wsX9_erase wsX6_takeOut := goodIn_r _ [17, 8, 13, 90, 91, 92, 93] (by decide +kernel) (by decide +kernel)
set_option maxRecDepth 20000 in
theorem gX9_erase_X6_takeOut : GoodIn wsX9_erase (wsV RX9 152 RX6 yX6_takeOut wsX6_takeOut) := goodIn_app (goodIn_of _ (by decide +kernel)) ggX9_erase_X6_takeOut
set_option maxRecDepth 20000 in
theorem ggX9_erase_X0_note : GoodIn wsX9_erase wsX0_note := goodIn_r _ [22, 23, 24, 25, 26, 27, 28, 29, 21, 30, 31, 32, 33, 34, 94, 95, 96, 97] (by decide +kernel) (by decide +kernel)
set_option maxRecDepth 20000 in
theorem gX9_erase_X0_note : GoodIn wsX9_erase (wsV RX9 145 RX0 yX0_note wsX0_note) := goodIn_app (goodIn_of _ (by decide +kernel)) ggX9_erase_X0_note
