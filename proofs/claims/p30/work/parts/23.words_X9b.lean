set_option maxRecDepth 20000 in
theorem ggX9_erase_X9_lineHasChanged : GoodIn wsX9_erase wsX9_lineHasChanged := goodIn_r _ [39, 40, 1, 41, 42, 43, 44, 45, 46, 47, 48, 49, 50, 4, 5, 6, 7, 8, 51, 52, 53, 54, 55, 10, 11, 12, 13, 56, 57, 58, 59, 60, 61, 38, 62, 63, 64, 65, 66, 67, 68, 69, 70, 71, 72, 73, 74, 75, 76, 77, 78, 79, 80, 81, 82, 83, 84, 85, 86, 87, 88, 89, 98, 99, 100, 90, 91, 92, 93, 101, 102, 103, 104] (by decide +kernel) (by decide +kernel)
set_option maxRecDepth 20000 in
theorem gX9_erase_X9_lineHasChanged : GoodIn wsX9_erase (wsV RX9 149 RX9 yX9_lineHasChanged wsX9_lineHasChanged) := goodIn_app (goodIn_of _ (by decide +kernel)) ggX9_erase_X9_lineHasChanged
set_option maxRecDepth 20000 in
theorem ggX9_tell_X9_isLetter : GoodIn wsX9_tell wsX9_isLetter := goodIn_r _ [6] (by decide +kernel) (by decide +kernel)
set_option maxRecDepth 20000 in
theorem gX9_tell_X9_isLetter : GoodIn wsX9_tell (va_wsS RX9 128 yX9_isLetter wsX9_isLetter) := goodIn_app (goodIn_of _ (by decide +kernel)) ggX9_tell_X9_isLetter
set_option maxRecDepth 20000 in
theorem ggX9_tell_X9_isClass : GoodIn wsX9_tell wsX9_isClass := goodIn_r _ [9] (by decide +kernel) (by decide +kernel)
set_option maxRecDepth 20000 in
theorem gX9_tell_X9_isClass : GoodIn wsX9_tell (va_wsS RX9 155 yX9_isClass wsX9_isClass) := goodIn_app (goodIn_of _ (by decide +kernel)) ggX9_tell_X9_isClass
set_option maxRecDepth 20000 in
theorem ggX9_tell_X6_classOf : GoodIn wsX9_tell wsX6_classOf := goodIn_r _ [14, 15, 4, 5, 6, 91, 92, 93, 94] (by decide +kernel) (by decide +kernel)
set_option maxRecDepth 20000 in
theorem gX9_tell_X6_classOf : GoodIn wsX9_tell (wsV RX9 131 RX6 yX6_classOf wsX6_classOf) := goodIn_app (goodIn_of _ (by decide +kernel)) ggX9_tell_X6_classOf
set_option maxRecDepth 20000 in
theorem ggX9_tell_X6_setClass : GoodIn wsX9_tell wsX6_setClass := goodIn_r _ [19, 15, 4, 5, 6, 91, 92, 93, 94] (by decide +kernel) (by decide +kernel)
set_option maxRecDepth 20000 in
theorem gX9_tell_X6_setClass : GoodIn wsX9_tell (wsV RX9 158 RX6 yX6_setClass wsX6_setClass) := goodIn_app (goodIn_of _ (by decide +kernel)) ggX9_tell_X6_setClass
set_option maxRecDepth 20000 in
theorem ggX9_tell_X0_note : GoodIn wsX9_tell wsX0_note := goodIn_r _ [24, 25, 26, 27, 28, 29, 30, 31, 23, 32, 33, 34, 35, 36, 95, 96, 97, 98] (by decide +kernel) (by decide +kernel)
set_option maxRecDepth 20000 in
theorem gX9_tell_X0_note : GoodIn wsX9_tell (wsV RX9 145 RX0 yX0_note wsX0_note) := goodIn_app (goodIn_of _ (by decide +kernel)) ggX9_tell_X0_note
set_option maxRecDepth 20000 in
theorem ggX9_tell_X9_lineHasChanged : GoodIn wsX9_tell wsX9_lineHasChanged := goodIn_r _ [40, 41, 1, 42, 43, 44, 45, 46, 47, 48, 49, 50, 51, 52, 53, 13, 54, 55, 56, 57, 58, 59, 60, 61, 62, 63, 64, 65, 11, 12, 14, 15, 4, 5, 6, 66, 67, 68, 69, 70, 71, 72, 73, 8, 9, 74, 75, 76, 77, 78, 79, 80, 81, 82, 83, 84, 85, 86, 87, 88, 89, 90, 99, 100, 101, 91, 92, 93, 94, 102, 103, 104, 105] (by decide +kernel) (by decide +kernel)
set_option maxRecDepth 20000 in
theorem gX9_tell_X9_lineHasChanged : GoodIn wsX9_tell (wsV RX9 149 RX9 yX9_lineHasChanged wsX9_lineHasChanged) := goodIn_app (goodIn_of _ (by decide +kernel)) ggX9_tell_X9_lineHasChanged
set_option maxRecDepth 20000 in
theorem ggX9_rename_X9_isRule : GoodIn wsX9_rename wsX9_isRule := goodIn_r _ [7, 8, 9, 10, 11, 12, 13, 14, 159, 160, 161, 162, 163, 164, 165, 166, 167, 168, 169, 170, 171, 172, 173, 174, 175, 176, 177, 178] (by decide +kernel) (by decide +kernel)
set_option maxRecDepth 20000 in
theorem gX9_rename_X9_isRule : GoodIn wsX9_rename (wsV RX9 102 RX9 yX9_isRule wsX9_isRule) := goodIn_app (goodIn_of _ (by decide +kernel)) ggX9_rename_X9_isRule
set_option maxRecDepth 20000 in
theorem ggX9_rename_X6_kindOf : GoodIn wsX9_rename wsX6_kindOf := goodIn_r _ [19, 20, 179, 180, 181, 182] (by decide +kernel) (by decide +kernel)
set_option maxRecDepth 20000 in
theorem gX9_rename_X6_kindOf : GoodIn wsX9_rename (wsV RX9 106 RX6 yX6_kindOf wsX6_kindOf) := goodIn_app (goodIn_of _ (by decide +kernel)) ggX9_rename_X6_kindOf
set_option maxRecDepth 20000 in
theorem ggX9_rename_X6_setKind : GoodIn wsX9_rename wsX6_setKind := goodIn_r _ [24, 20, 179, 180, 181, 182] (by decide +kernel) (by decide +kernel)
set_option maxRecDepth 20000 in
theorem gX9_rename_X6_setKind : GoodIn wsX9_rename (wsV RX9 161 RX6 yX6_setKind wsX6_setKind) := goodIn_app (goodIn_of _ (by decide +kernel)) ggX9_rename_X6_setKind
set_option maxRecDepth 20000 in
theorem ggX9_rename_X0_note : GoodIn wsX9_rename wsX0_note := goodIn_r _ [29, 30, 31, 32, 33, 34, 35, 36, 28, 37, 38, 39, 40, 41, 183, 184, 185, 186] (by decide +kernel) (by decide +kernel)
set_option maxRecDepth 20000 in
theorem gX9_rename_X0_note : GoodIn wsX9_rename (wsV RX9 145 RX0 yX0_note wsX0_note) := goodIn_app (goodIn_of _ (by decide +kernel)) ggX9_rename_X0_note
set_option maxRecDepth 20000 in
theorem ggX9_rename_X9_rulesHaveChanged : GoodIn wsX9_rename wsX9_rulesHaveChanged := goodIn_r _ [45, 46, 8, 1, 47, 48, 49, 50, 51, 52, 53, 54, 55, 56, 57, 58, 59, 60, 61, 62, 63, 64, 65, 66, 67, 12, 68, 69, 70, 71, 72, 73, 74, 75, 76, 77, 78, 79, 10, 11, 13, 14, 80, 81, 82, 83, 84, 85, 86, 87, 88, 89, 16, 17, 18, 19, 20, 90, 91, 92, 93, 94, 95, 96, 97, 98, 99, 100, 101, 102, 103, 104, 105, 106, 107, 108, 109, 110, 111, 112, 113, 114, 115, 116, 117, 6, 118, 119, 120, 121, 122, 123, 124, 125, 126, 127, 128, 129, 130, 131, 132, 133, 134, 135, 136, 137, 138, 139, 140, 141, 142, 143, 144, 145, 146, 147, 148, 149, 150, 151, 152, 153, 154, 155, 156, 157, 158, 159, 160, 161, 162, 163, 164, 165, 166, 167, 168, 169, 170, 187, 188, 189, 190, 171, 172, 173, 174, 175, 176, 177, 178, 179, 180, 181, 182, 191, 192, 193, 194, 195, 196, 197, 198, 199, 200, 201, 202, 203, 204] (by decide +kernel) (by decide +kernel)
set_option maxRecDepth 20000 in
theorem gX9_rename_X9_rulesHaveChanged : GoodIn wsX9_rename (wsV RX9 164 RX9 yX9_rulesHaveChanged wsX9_rulesHaveChanged) := goodIn_app (goodIn_of _ (by decide +kernel)) ggX9_rename_X9_rulesHaveChanged
set_option maxRecDepth 20000 in
theorem ggX9_undo_X0_number : GoodIn wsX9_undo wsX0_number := goodIn_r _ [7, 8, 173, 174, 175, 176] (by decide +kernel) (by decide +kernel)
set_option maxRecDepth 20000 in
theorem gX9_undo_X0_number : GoodIn wsX9_undo (wsV RX9 167 RX0 yX0_number wsX0_number) := goodIn_app (goodIn_of _ (by decide +kernel)) ggX9_undo_X0_number
set_option maxRecDepth 20000 in
theorem ggX9_undo_X0_takeBackFrom : GoodIn wsX9_undo wsX0_takeBackFrom := goodIn_r _ [12, 8, 13, 14, 15, 16, 17, 18, 19, 20, 21, 22, 23, 24, 25, 26, 27, 28, 29, 30, 31, 32, 33, 34, 35, 36, 37, 38, 39, 173, 174, 175, 176, 177, 178, 179, 180] (by decide +kernel) (by decide +kernel)
set_option maxRecDepth 20000 in
theorem gX9_undo_X0_takeBackFrom : GoodIn wsX9_undo (wsV RX9 168 RX0 yX0_takeBackFrom wsX0_takeBackFrom) := goodIn_app (goodIn_of _ (by decide +kernel)) ggX9_undo_X0_takeBackFrom
set_option maxRecDepth 20000 in
theorem ggX9_undo_X9_rulesHaveChanged : GoodIn wsX9_undo wsX9_rulesHaveChanged := goodIn_r _ [43, 44, 45, 2, 46, 47, 48, 49, 50, 51, 52, 53, 54, 55, 56, 57, 58, 59, 60, 61, 62, 63, 64, 65, 66, 67, 68, 69, 70, 71, 72, 73, 74, 75, 76, 77, 78, 79, 80, 81, 82, 83, 84, 85, 86, 87, 88, 89, 90, 91, 92, 93, 94, 95, 19, 96, 39, 97, 98, 99, 100, 101, 102, 103, 104, 105, 106, 107, 108, 109, 110, 111, 112, 113, 114, 115, 116, 117, 118, 119, 120, 121, 122, 123, 124, 33, 125, 126, 127, 128, 129, 130, 131, 132, 133, 134, 135, 136, 137, 138, 21, 139, 140, 141, 142, 143, 144, 145, 146, 22, 147, 148, 149, 150, 31, 32, 34, 151, 152, 153, 154, 155, 156, 157, 158, 159, 160, 161, 162, 163, 164, 165, 166, 167, 168, 169, 170, 171, 172, 181, 182, 183, 184, 185, 186, 187, 188, 189, 190, 191, 192, 177, 178, 179, 180, 193, 194, 195, 196, 197, 198, 199, 200, 201, 202, 203, 204, 205, 206] (by decide +kernel) (by decide +kernel)
set_option maxRecDepth 20000 in
theorem gX9_undo_X9_rulesHaveChanged : GoodIn wsX9_undo (wsV RX9 164 RX9 yX9_rulesHaveChanged wsX9_rulesHaveChanged) := goodIn_app (goodIn_of _ (by decide +kernel)) ggX9_undo_X9_rulesHaveChanged
set_option maxRecDepth 20000 in
theorem ggX9_undo_X9_lineHasChanged : GoodIn wsX9_undo wsX9_lineHasChanged := goodIn_r _ [125, 126, 2, 44, 127, 128, 129, 130, 131, 132, 133, 134, 135, 136, 137, 19, 138, 21, 139, 140, 141, 142, 143, 144, 145, 146, 22, 147, 148, 149, 150, 31, 32, 33, 34, 151, 152, 153, 50, 154, 54, 52, 59, 155, 156, 157, 158, 159, 160, 53, 161, 162, 163, 164, 165, 166, 167, 168, 169, 170, 171, 172, 204, 205, 206, 177, 178, 179, 180, 181, 182, 183, 184] (by decide +kernel) (by decide +kernel)
set_option maxRecDepth 20000 in
theorem gX9_undo_X9_lineHasChanged : GoodIn wsX9_undo (wsV RX9 149 RX9 yX9_lineHasChanged wsX9_lineHasChanged) := goodIn_app (goodIn_of _ (by decide +kernel)) ggX9_undo_X9_lineHasChanged
set_option maxRecDepth 20000 in
theorem ggX9_isBoundary_X9_isPlaceOfLine : GoodIn wsX9_isBoundary wsX9_isPlaceOfLine := goodIn_r _ [6, 7, 8, 9, 10, 11, 12, 13, 20, 21, 22, 23, 24, 25, 26, 27, 28, 29, 30, 31, 32, 33, 34, 35] (by decide +kernel) (by decide +kernel)
set_option maxRecDepth 20000 in
theorem gX9_isBoundary_X9_isPlaceOfLine : GoodIn wsX9_isBoundary (wsV RX9 134 RX9 yX9_isPlaceOfLine wsX9_isPlaceOfLine) := goodIn_app (goodIn_of _ (by decide +kernel)) ggX9_isBoundary_X9_isPlaceOfLine
set_option maxRecDepth 20000 in
theorem ggX9_isBoundary_X3_hasBound : GoodIn wsX9_isBoundary wsX3_hasBound := goodIn_r _ [18, 19, 36, 37, 38] (by decide +kernel) (by decide +kernel)
set_option maxRecDepth 20000 in
theorem gX9_isBoundary_X3_hasBound : GoodIn wsX9_isBoundary (wsV RX9 172 RX3 yX3_hasBound wsX3_hasBound) := goodIn_app (goodIn_of _ (by decide +kernel)) ggX9_isBoundary_X3_hasBound
set_option maxRecDepth 20000 in
theorem ggX9_stand_X9_isPlaceOfLine : GoodIn wsX9_stand wsX9_isPlaceOfLine := goodIn_r _ [6, 7, 8, 9, 10, 11, 12, 13, 21, 22, 23, 24, 25, 26, 27, 28, 29, 30, 31, 32, 33, 34, 35, 36] (by decide +kernel) (by decide +kernel)
set_option maxRecDepth 20000 in
theorem gX9_stand_X9_isPlaceOfLine : GoodIn wsX9_stand (wsV RX9 134 RX9 yX9_isPlaceOfLine wsX9_isPlaceOfLine) := goodIn_app (goodIn_of _ (by decide +kernel)) ggX9_stand_X9_isPlaceOfLine
set_option maxRecDepth 20000 in
theorem ggX9_stand_X3_standAt : GoodIn wsX9_stand wsX3_standAt := goodIn_r _ [18, 19, 20, 37, 38, 39] (by decide +kernel) (by decide +kernel)
set_option maxRecDepth 20000 in
theorem gX9_stand_X3_standAt : GoodIn wsX9_stand (wsV RX9 181 RX3 yX3_standAt wsX3_standAt) := goodIn_app (goodIn_of _ (by decide +kernel)) ggX9_stand_X3_standAt
set_option maxRecDepth 20000 in
theorem ggX9_count_X4_number : GoodIn wsX9_count wsX4_number := goodIn_r _ [11, 12, 61, 62, 63, 64, 65, 66, 67, 68] (by decide +kernel) (by decide +kernel)
set_option maxRecDepth 20000 in
theorem gX9_count_X4_number : GoodIn wsX9_count (wsV RX9 99 RX4 yX4_number wsX4_number) := goodIn_app (goodIn_of _ (by decide +kernel)) ggX9_count_X4_number
set_option maxRecDepth 20000 in
theorem ggX9_count_X4_placeNumber : GoodIn wsX9_count wsX4_placeNumber := goodIn_r _ [16, 17, 61, 62, 63, 64, 65, 66, 67, 68] (by decide +kernel) (by decide +kernel)
set_option maxRecDepth 20000 in
theorem gX9_count_X4_placeNumber : GoodIn wsX9_count (wsV RX9 119 RX4 yX4_placeNumber wsX4_placeNumber) := goodIn_app (goodIn_of _ (by decide +kernel)) ggX9_count_X4_placeNumber
set_option maxRecDepth 20000 in
theorem ggX9_count_X6_length : GoodIn wsX9_count wsX6_length := goodIn_r _ [22, 23, 69, 70, 71, 72] (by decide +kernel) (by decide +kernel)
set_option maxRecDepth 20000 in
theorem gX9_count_X6_length : GoodIn wsX9_count (wsV RX9 137 RX6 yX6_length wsX6_length) := goodIn_app (goodIn_of _ (by decide +kernel)) ggX9_count_X6_length
set_option maxRecDepth 20000 in
theorem ggX9_count_X3_number : GoodIn wsX9_count wsX3_number := goodIn_r _ [28, 29, 30, 31, 32, 33, 34, 35, 36, 73, 74, 75] (by decide +kernel) (by decide +kernel)
set_option maxRecDepth 20000 in
theorem gX9_count_X3_number : GoodIn wsX9_count (wsV RX9 184 RX3 yX3_number wsX3_number) := goodIn_app (goodIn_of _ (by decide +kernel)) ggX9_count_X3_number
set_option maxRecDepth 20000 in
theorem ggX9_count_X0_number : GoodIn wsX9_count wsX0_number := goodIn_r _ [41, 42, 76, 77, 78, 79] (by decide +kernel) (by decide +kernel)
set_option maxRecDepth 20000 in
theorem gX9_count_X0_number : GoodIn wsX9_count (wsV RX9 167 RX0 yX0_number wsX0_number) := goodIn_app (goodIn_of _ (by decide +kernel)) ggX9_count_X0_number
set_option maxRecDepth 20000 in
theorem ggX9_count_X7_length : GoodIn wsX9_count wsX7_length := goodIn_r _ [47, 48, 80, 81, 82, 83] (by decide +kernel) (by decide +kernel)
set_option maxRecDepth 20000 in
theorem gX9_count_X7_length : GoodIn wsX9_count (wsV RX9 92 RX7 yX7_length wsX7_length) := goodIn_app (goodIn_of _ (by decide +kernel)) ggX9_count_X7_length
set_option maxRecDepth 20000 in
theorem ggX9_isRule_X4_number : GoodIn wsX9_isRule wsX4_number := goodIn_r _ [6, 7, 20, 21, 22, 23, 24, 25, 26, 27] (by decide +kernel) (by decide +kernel)
set_option maxRecDepth 20000 in
theorem gX9_isRule_X4_number : GoodIn wsX9_isRule (wsV RX9 99 RX4 yX4_number wsX4_number) := goodIn_app (goodIn_of _ (by decide +kernel)) ggX9_isRule_X4_number
set_option maxRecDepth 20000 in
theorem ggX9_isPlaceOfLine_X6_length : GoodIn wsX9_isPlaceOfLine wsX6_length := goodIn_r _ [6, 7, 20, 21, 22, 23] (by decide +kernel) (by decide +kernel)
set_option maxRecDepth 20000 in
theorem gX9_isPlaceOfLine_X6_length : GoodIn wsX9_isPlaceOfLine (wsV RX9 137 RX6 yX6_length wsX6_length) := goodIn_app (goodIn_of _ (by decide +kernel)) ggX9_isPlaceOfLine_X6_length
set_option maxRecDepth 20000 in
theorem ggX9_layText_X4_clear : GoodIn wsX9_layText wsX4_clear := goodIn_r _ [10, 11, 12, 260, 261, 262, 263, 264, 265, 266, 267] (by decide +kernel) (by decide +kernel)
set_option maxRecDepth 20000 in
theorem gX9_layText_X4_clear : GoodIn wsX9_layText (wsV RX9 262 RX4 yX4_clear wsX4_clear) := goodIn_app (goodIn_of _ (by decide +kernel)) ggX9_layText_X4_clear
set_option maxRecDepth 20000 in
theorem ggX9_layText_X6_clear : GoodIn wsX9_layText wsX6_clear := goodIn_r _ [17, 18, 19, 20, 21, 22, 23, 24, 268, 269, 270, 271] (by decide +kernel) (by decide +kernel)
set_option maxRecDepth 20000 in
theorem gX9_layText_X6_clear : GoodIn wsX9_layText (wsV RX9 263 RX6 yX6_clear wsX6_clear) := goodIn_app (goodIn_of _ (by decide +kernel)) ggX9_layText_X6_clear
set_option maxRecDepth 20000 in
theorem ggX9_layText_X7_length : GoodIn wsX9_layText wsX7_length := goodIn_r _ [29, 30, 272, 273, 274, 275] (by decide +kernel) (by decide +kernel)
set_option maxRecDepth 20000 in
theorem gX9_layText_X7_length : GoodIn wsX9_layText (wsV RX9 92 RX7 yX7_length wsX7_length) := goodIn_app (goodIn_of _ (by decide +kernel)) ggX9_layText_X7_length
set_option maxRecDepth 20000 in
theorem ggX9_layText_X7_tellItem : GoodIn wsX9_layText wsX7_tellItem := goodIn_r _ [34, 30, 35, 36, 37, 28, 38, 39, 40, 41, 42, 43, 44, 45, 46, 16, 47, 18, 48, 49, 50, 51, 52, 53, 9, 54, 11, 55, 56, 57, 58, 19, 59, 60, 61, 62, 12, 63, 64, 65, 66, 67, 68, 69, 70, 71, 72, 73, 74, 75, 76, 77, 78, 79, 80, 81, 82, 83, 84, 85, 86, 87, 88, 89, 90, 91, 92, 93, 94, 95, 96, 97, 98, 99, 100, 101, 102, 103, 104, 105, 106, 107, 108, 109, 110, 111, 112, 113, 114, 115, 116, 117, 118, 119, 120, 121, 122, 123, 124, 125, 126, 127, 128, 129, 130, 131, 20, 132, 133, 134, 135, 136, 137, 138, 139, 140, 272, 273, 274, 275, 268, 269, 270, 271, 260, 261, 262, 263, 264, 265, 266, 267, 276, 277, 278, 279] (by decide +kernel) (by decide +kernel)
set_option maxRecDepth 20000 in
theorem gX9_layText_X7_tellItem : GoodIn wsX9_layText (wsV RX9 264 RX7 yX7_tellItem wsX7_tellItem) := goodIn_app (goodIn_of _ (by decide +kernel)) ggX9_layText_X7_tellItem
set_option maxRecDepth 20000 in
theorem ggX9_layText_X0_forget : GoodIn wsX9_layText wsX0_forget := goodIn_r _ [145, 146, 280, 281, 282, 283] (by decide +kernel) (by decide +kernel)
set_option maxRecDepth 20000 in
theorem gX9_layText_X0_forget : GoodIn wsX9_layText (wsV RX9 253 RX0 yX0_forget wsX0_forget) := goodIn_app (goodIn_of _ (by decide +kernel)) ggX9_layText_X0_forget
set_option maxRecDepth 20000 in
theorem ggX9_layText_X9_rulesHaveChanged : GoodIn wsX9_layText wsX9_rulesHaveChanged := goodIn_r _ [150, 151, 1, 2, 152, 153, 154, 155, 156, 157, 158, 159, 160, 161, 162, 163, 164, 165, 166, 22, 23, 24, 167, 168, 169, 9, 170, 12, 171, 172, 173, 174, 87, 175, 176, 177, 178, 179, 52, 53, 54, 11, 180, 181, 182, 183, 65, 184, 185, 186, 187, 188, 189, 190, 16, 191, 19, 192, 193, 194, 195, 64, 196, 197, 198, 199, 66, 200, 201, 202, 203, 204, 205, 206, 207, 88, 208, 209, 210, 211, 212, 213, 214, 215, 216, 49, 217, 218, 219, 220, 221, 222, 223, 224, 225, 226, 227, 133, 134, 135, 20, 228, 229, 230, 231, 232, 233, 234, 235, 140, 236, 237, 238, 239, 18, 48, 50, 240, 241, 242, 243, 74, 75, 244, 245, 246, 247, 248, 249, 250, 251, 252, 253, 254, 255, 256, 257, 258, 259, 284, 285, 286, 287, 260, 261, 262, 263, 264, 265, 266, 267, 268, 269, 270, 271, 288, 289, 290, 291, 292, 293, 294, 295, 296, 297, 298, 299, 300, 301] (by decide +kernel) (by decide +kernel)
set_option maxRecDepth 20000 in
theorem gX9_layText_X9_rulesHaveChanged : GoodIn wsX9_layText (wsV RX9 164 RX9 yX9_rulesHaveChanged wsX9_rulesHaveChanged) := goodIn_app (goodIn_of _ (by decide +kernel)) ggX9_layText_X9_rulesHaveChanged
set_option maxRecDepth 20000 in
theorem ggX9_rulesHaveChanged_X5_make : GoodIn wsX9_rulesHaveChanged wsX5_make := goodIn_r _ [9, 10, 11, 12, 13, 14, 15, 8, 16, 17, 18, 19, 20, 21, 22, 23, 24, 25, 26, 27, 28, 29, 30, 31, 32, 33, 34, 35, 36, 37, 38, 39, 40, 41, 42, 43, 44, 45, 46, 47, 48, 49, 50, 51, 52, 53, 54, 55, 56, 57, 58, 59, 60, 61, 62, 63, 64, 65, 66, 67, 68, 69, 70, 71, 72, 73, 74, 75, 139, 140, 141, 142, 143, 144, 145, 146, 147, 148, 149, 150, 151, 152, 153, 154] (by decide +kernel) (by decide +kernel)
set_option maxRecDepth 20000 in
theorem gX9_rulesHaveChanged_X5_make : GoodIn wsX9_rulesHaveChanged (wsV RX9 268 RX5 yX5_make wsX5_make) := goodIn_app (goodIn_of _ (by decide +kernel)) ggX9_rulesHaveChanged_X5_make
set_option maxRecDepth 20000 in
theorem ggX9_rulesHaveChanged_X8_forget : GoodIn wsX9_rulesHaveChanged wsX8_forget := goodIn_r _ [80, 81, 155, 156, 157, 158, 159, 160, 161, 162, 163, 164, 165] (by decide +kernel) (by decide +kernel)
set_option maxRecDepth 20000 in
theorem gX9_rulesHaveChanged_X8_forget : GoodIn wsX9_rulesHaveChanged (wsV RX9 272 RX8 yX8_forget wsX8_forget) := goodIn_app (goodIn_of _ (by decide +kernel)) ggX9_rulesHaveChanged_X8_forget
set_option maxRecDepth 20000 in
theorem ggX9_rulesHaveChanged_X9_lineHasChanged : GoodIn wsX9_rulesHaveChanged wsX9_lineHasChanged := goodIn_r _ [86, 87, 3, 1, 88, 89, 90, 91, 92, 93, 94, 95, 96, 97, 98, 54, 99, 100, 101, 102, 103, 104, 105, 106, 107, 108, 109, 110, 111, 112, 113, 114, 115, 85, 116, 117, 118, 119, 8, 120, 12, 10, 17, 121, 122, 123, 124, 125, 126, 11, 127, 128, 129, 130, 131, 132, 133, 134, 135, 136, 137, 138, 166, 167, 168, 151, 152, 153, 154, 139, 140, 141, 142] (by decide +kernel) (by decide +kernel)
set_option maxRecDepth 20000 in
theorem gX9_rulesHaveChanged_X9_lineHasChanged : GoodIn wsX9_rulesHaveChanged (wsV RX9 149 RX9 yX9_lineHasChanged wsX9_lineHasChanged) := goodIn_app (goodIn_of _ (by decide +kernel)) ggX9_rulesHaveChanged_X9_lineHasChanged
set_option maxRecDepth 20000 in
theorem ggX9_lineHasChanged_X3_read : GoodIn wsX9_lineHasChanged wsX3_read := goodIn_r _ [8, 9, 10, 11, 12, 13, 14, 15, 16, 17, 18, 19, 20, 21, 22, 23, 24, 25, 26, 27, 28, 29, 30, 31, 32, 33, 34, 35, 36, 37, 38, 39, 40, 41, 42, 43, 44, 45, 46, 47, 48, 49, 62, 63, 64, 65, 66, 67, 68, 69, 70, 71, 72] (by decide +kernel) (by decide +kernel)
set_option maxRecDepth 20000 in
theorem gX9_lineHasChanged_X3_read : GoodIn wsX9_lineHasChanged (wsV RX9 221 RX3 yX3_read wsX3_read) := goodIn_app (goodIn_of _ (by decide +kernel)) ggX9_lineHasChanged_X3_read
