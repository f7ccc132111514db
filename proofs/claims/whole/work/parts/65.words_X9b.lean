set_option maxRecDepth 20000 in
theorem ggX9_erase_X6_length : GoodIn wsX9_erase wsX6_length := goodIn_r _ [7, 8, 90, 91, 92, 93] (by decide +kernel) (by decide +kernel)
set_option maxRecDepth 20000 in
theorem gX9_erase_X6_length : GoodIn wsX9_erase (wsV RX9 137 RX6 yX6_length wsX6_length) := goodIn_app (goodIn_of _ (by decide +kernel)) ggX9_erase_X6_length
set_option maxRecDepth 20000 in
theorem ggX9_erase_X6_letterAt : GoodIn wsX9_erase wsX6_letterAt := goodIn_r _ [12, 8, 13, 90, 91, 92, 93] (by decide +kernel) (by decide +kernel)
set_option maxRecDepth 20000 in
theorem gX9_erase_X6_letterAt : GoodIn wsX9_erase (wsV RX9 138 RX6 yX6_letterAt wsX6_letterAt) := goodIn_app (goodIn_of _ (by decide +kernel)) ggX9_erase_X6_letterAt
set_option maxRecDepth 20000 in
theorem ggX9_erase_X6_takeOut : GoodIn wsX9_erase wsX6_takeOut := goodIn_r _ [17, 8, 13, 90, 91, 92, 93] (by decide +kernel) (by decide +kernel)
set_option maxRecDepth 20000 in
theorem gX9_erase_X6_takeOut : GoodIn wsX9_erase (wsV RX9 152 RX6 yX6_takeOut wsX6_takeOut) := goodIn_app (goodIn_of _ (by decide +kernel)) ggX9_erase_X6_takeOut
set_option maxRecDepth 20000 in
theorem ggX9_erase_X0_note : GoodIn wsX9_erase wsX0_note := goodIn_r _ [22, 23, 24, 25, 26, 27, 28, 29, 21, 30, 31, 32, 33, 34, 94, 95, 96, 97] (by decide +kernel) (by decide +kernel)
set_option maxRecDepth 20000 in
theorem gX9_erase_X0_note : GoodIn wsX9_erase (wsV RX9 145 RX0 yX0_note wsX0_note) := goodIn_app (goodIn_of _ (by decide +kernel)) ggX9_erase_X0_note
set_option maxRecDepth 20000 in
theorem ggX9_erase_X9_lineHasChanged : GoodIn wsX9_erase wsX9_lineHasChanged := goodIn_r _ [39, 40, 1, 41, 42, 43, 44, 45, 46, 47, 48, 49, 50, 4, 5, 6, 7, 8, 51, 52, 53, 54, 55, 10, 11, 12, 13, 56, 57, 58, 59, 60, 61, 38, 62, 63, 64, 65, 66, 67, 68, 69, 70, 71, 72, 73, 74, 75, 76, 77, 78, 79, 80, 81, 82, 83, 84, 85, 86, 87, 88, 89, 98, 99, 100, 90, 91, 92, 93, 101, 102, 103, 104] (by decide +kernel) (by decide +kernel)
set_option maxRecDepth 20000 in
theorem gX9_erase_X9_lineHasChanged : GoodIn wsX9_erase (wsV RX9 149 RX9 yX9_lineHasChanged wsX9_lineHasChanged) := goodIn_app (goodIn_of _ (by decide +kernel)) ggX9_erase_X9_lineHasChanged
set_option maxRecDepth 20000 in
theorem ggX9_tell_X9_isLetter : GoodIn wsX9_tell wsX9_isLetter := goodIn_r _ [6] (by decide +kernel) (by decide +kernel)
set_option maxRecDepth 20000 in
theorem gX9_tell_X9_isLetter : GoodIn wsX9_tell (va_wsS RX9 128 yX9_isLetter wsX9_isLetter) := goodIn_app (goodIn_of _ (by decide +kernel)) ggX9_tell_X9_isLetter
set_option maxRecDepth 20000 in
theorem ggX9_tell_X9_isClass : GoodIn wsX9_tell wsX9_isClass := goodIn_r _ [9] (by decide +kernel) (by decide +kernel)
set_option maxRecDepth 20000 in
theorem gX9_tell_X9_isClass : GoodIn wsX9_tell (va_wsS RX9 155 yX9_isClass wsX9_isClass) := goodIn_app (goodIn_of _ (by decide +kernel)) ggX9_tell_X9_isClass
set_option maxRecDepth 20000 in
theorem ggX9_tell_X6_classOf : GoodIn wsX9_tell wsX6_classOf := goodIn_r _ [14, 15, 4, 5, 6, 91, 92, 93, 94] (by decide +kernel) (by decide +kernel)
set_option maxRecDepth 20000 in
theorem gX9_tell_X6_classOf : GoodIn wsX9_tell (wsV RX9 131 RX6 yX6_classOf wsX6_classOf) := goodIn_app (goodIn_of _ (by decide +kernel)) ggX9_tell_X6_classOf
set_option maxRecDepth 20000 in
theorem ggX9_tell_X6_setClass : GoodIn wsX9_tell wsX6_setClass := goodIn_r _ [19, 15, 4, 5, 6, 91, 92, 93, 94] (by decide +kernel) (by decide +kernel)
set_option maxRecDepth 20000 in
theorem gX9_tell_X6_setClass : GoodIn wsX9_tell (wsV RX9 158 RX6 yX6_setClass wsX6_setClass) := goodIn_app (goodIn_of _ (by decide +kernel)) ggX9_tell_X6_setClass
set_option maxRecDepth 20000 in
theorem ggX9_tell_X0_note : GoodIn wsX9_tell wsX0_note := goodIn_r _ [24, 25, 26, 27, 28, 29, 30, 31, 23, 32, 33, 34, 35, 36, 95, 96, 97, 98] (by decide +kernel) (by decide +kernel)
set_option maxRecDepth 20000 in
theorem gX9_tell_X0_note : GoodIn wsX9_tell (wsV RX9 145 RX0 yX0_note wsX0_note) := goodIn_app (goodIn_of _ (by decide +kernel)) ggX9_tell_X0_note
set_option maxRecDepth 20000 in
theorem ggX9_tell_X9_lineHasChanged : GoodIn wsX9_tell wsX9_lineHasChanged := goodIn_r _ [40, 41, 1, 42, 43, 44, 45, 46, 47, 48, 49, 50, 51, 52, 53, 13, 54, 55, 56, 57, 58, 59, 60, 61, 62, 63, 64, 65, 11, 12, 14, 15, 4, 5, 6, 66, 67, 68, 69, 70, 71, 72, 73, 8, 9, 74, 75, 76, 77, 78, 79, 80, 81, 82, 83, 84, 85, 86, 87, 88, 89, 90, 99, 100, 101, 91, 92, 93, 94, 102, 103, 104, 105] (by decide +kernel) (by decide +kernel)
set_option maxRecDepth 20000 in
theorem gX9_tell_X9_lineHasChanged : GoodIn wsX9_tell (wsV RX9 149 RX9 yX9_lineHasChanged wsX9_lineHasChanged) := goodIn_app (goodIn_of _ (by decide +kernel)) ggX9_tell_X9_lineHasChanged
set_option maxRecDepth 20000 in
theorem ggX9_rename_X9_isRule : GoodIn wsX9_rename wsX9_isRule := goodIn_r _ [7, 8, 9, 10, 11, 12, 13, 14, 159, 160, 161, 162, 163, 164, 165, 166, 167, 168, 169, 170, 171, 172, 173, 174, 175, 176, 177, 178] (by decide +kernel) (by decide +kernel)
set_option maxRecDepth 20000 in
theorem gX9_rename_X9_isRule : GoodIn wsX9_rename (wsV RX9 102 RX9 yX9_isRule wsX9_isRule) := goodIn_app (goodIn_of _ (by decide +kernel)) ggX9_rename_X9_isRule
set_option maxRecDepth 20000 in
theorem ggX9_rename_X6_kindOf : GoodIn wsX9_rename wsX6_kindOf := goodIn_r _ [19, 20, 179, 180, 181, 182] (by decide +kernel) (by decide +kernel)
set_option maxRecDepth 20000 in
theorem gX9_rename_X6_kindOf : GoodIn wsX9_rename (wsV RX9 106 RX6 yX6_kindOf wsX6_kindOf) := goodIn_app (goodIn_of _ (by decide +kernel)) ggX9_rename_X6_kindOf
set_option maxRecDepth 20000 in
theorem ggX9_rename_X6_setKind : GoodIn wsX9_rename wsX6_setKind := goodIn_r _ [24, 20, 179, 180, 181, 182] (by decide +kernel) (by decide +kernel)
set_option maxRecDepth 20000 in
theorem gX9_rename_X6_setKind : GoodIn wsX9_rename (wsV RX9 161 RX6 yX6_setKind wsX6_setKind) := goodIn_app (goodIn_of _ (by decide +kernel)) ggX9_rename_X6_setKind
set_option maxRecDepth 20000 in
theorem ggX9_rename_X0_note : GoodIn wsX9_rename wsX0_note := goodIn_r _ [29, 30, 31, 32, 33, 34, 35, 36, 28, 37, 38, 39, 40, 41, 183, 184, 185, 186] (by decide +kernel) (by decide +kernel)
set_option maxRecDepth 20000 in
theorem gX9_rename_X0_note : GoodIn wsX9_rename (wsV RX9 145 RX0 yX0_note wsX0_note) := goodIn_app (goodIn_of _ (by decide +kernel)) ggX9_rename_X0_note
set_option maxRecDepth 20000 in
theorem ggX9_rename_X9_rulesHaveChanged : GoodIn wsX9_rename wsX9_rulesHaveChanged := goodIn_r _ [45, 46, 8, 1, 47, 48, 49, 50, 51, 52, 53, 54, 55, 56, 57, 58, 59, 60, 61, 62, 63, 64, 65, 66, 67, 12, 68, 69, 70, 71, 72, 73, 74, 75, 76, 77, 78, 79, 10, 11, 13, 14, 80, 81, 82, 83, 84, 85, 86, 87, 88, 89, 16, 17, 18, 19, 20, 90, 91, 92, 93, 94, 95, 96, 97, 98, 99, 100, 101, 102, 103, 104, 105, 106, 107, 108, 109, 110, 111, 112, 113, 114, 115, 116, 117, 6, 118, 119, 120, 121, 122, 123, 124, 125, 126, 127, 128, 129, 130, 131, 132, 133, 134, 135, 136, 137, 138, 139, 140, 141, 142, 143, 144, 145, 146, 147, 148, 149, 150, 151, 152, 153, 154, 155, 156, 157, 158, 159, 160, 161, 162, 163, 164, 165, 166, 167, 168, 169, 170, 187, 188, 189, 190, 171, 172, 173, 174, 175, 176, 177, 178, 179, 180, 181, 182, 191, 192, 193, 194, 195, 196, 197, 198, 199, 200, 201, 202, 203, 204] (by decide +kernel) (by decide +kernel)
set_option maxRecDepth 20000 in
theorem gX9_rename_X9_rulesHaveChanged : GoodIn wsX9_rename (wsV RX9 164 RX9 yX9_rulesHaveChanged wsX9_rulesHaveChanged) := goodIn_app (goodIn_of _ (by decide +kernel)) ggX9_rename_X9_rulesHaveChanged
set_option maxRecDepth 20000 in
theorem ggX9_undo_X0_number : GoodIn wsX9_undo wsX0_number := goodIn_r _ [7, 8, 173, 174, 175, 176] (by decide +kernel) (by decide +kernel)
set_option maxRecDepth 20000 in
theorem gX9_undo_X0_number : GoodIn wsX9_undo (wsV RX9 167 RX0 yX0_number wsX0_number) := goodIn_app (goodIn_of _ (by decide +kernel)) ggX9_undo_X0_number
set_option maxRecDepth 20000 in
theorem ggX9_undo_X0_takeBackFrom : GoodIn wsX9_undo wsX0_takeBackFrom := goodIn_r _ [12, 8, 13, 14, 15, 16, 17, 18, 19, 20, 21, 22, 23, 24, 25, 26, 27, 28, 29, 30, 31, 32, 33, 34, 35, 36, 37, 38, 39, 173, 174, 175, 176, 177, 178, 179, 180] (by decide +kernel) (by decide +kernel)
set_option maxRecDepth 20000 in
theorem gX9_undo_X0_takeBackFrom : GoodIn wsX9_undo (wsV RX9 168 RX0 yX0_takeBackFrom wsX0_takeBackFrom) := goodIn_app (goodIn_of _ (by decide +kernel)) ggX9_undo_X0_takeBackFrom
set_option maxRecDepth 20000 in
theorem ggX9_undo_X9_rulesHaveChanged : GoodIn wsX9_undo wsX9_rulesHaveChanged := goodIn_r _ [43, 44, 45, 2, 46, 47, 48, 49, 50, 51, 52, 53, 54, 55, 56, 57, 58, 59, 60, 61, 62, 63, 64, 65, 66, 67, 68, 69, 70, 71, 72, 73, 74, 75, 76, 77, 78, 79, 80, 81, 82, 83, 84, 85, 86, 87, 88, 89, 90, 91, 92, 93, 94, 95, 19, 96, 39, 97, 98, 99, 100, 101, 102, 103, 104, 105, 106, 107, 108, 109, 110, 111, 112, 113, 114, 115, 116, 117, 118, 119, 120, 121, 122, 123, 124, 33, 125, 126, 127, 128, 129, 130, 131, 132, 133, 134, 135, 136, 137, 138, 21, 139, 140, 141, 142, 143, 144, 145, 146, 22, 147, 148, 149, 150, 31, 32, 34, 151, 152, 153, 154, 155, 156, 157, 158, 159, 160, 161, 162, 163, 164, 165, 166, 167, 168, 169, 170, 171, 172, 181, 182, 183, 184, 185, 186, 187, 188, 189, 190, 191, 192, 177, 178, 179, 180, 193, 194, 195, 196, 197, 198, 199, 200, 201, 202, 203, 204, 205, 206] (by decide +kernel) (by decide +kernel)
set_option maxRecDepth 20000 in
theorem gX9_undo_X9_rulesHaveChanged : GoodIn wsX9_undo (wsV RX9 164 RX9 yX9_rulesHaveChanged wsX9_rulesHaveChanged) := goodIn_app (goodIn_of _ (by decide +kernel)) ggX9_undo_X9_rulesHaveChanged
set_option maxRecDepth 20000 in
theorem ggX9_undo_X9_lineHasChanged : GoodIn wsX9_undo wsX9_lineHasChanged := goodIn_r _ [125, 126, 2, 44, 127, 128, 129, 130, 131, 132, 133, 134, 135, 136, 137, 19, 138, 21, 139, 140, 141, 142, 143, 144, 145, 146, 22, 147, 148, 149, 150, 31, 32, 33, 34, 151, 152, 153, 50, 154, 54, 52, 59, 155, 156, 157, 158, 159, 160, 53, 161, 162, 163, 164, 165, 166, 167, 168, 169, 170, 171, 172, 204, 205, 206, 177, 178, 179, 180, 181, 182, 183, 184] (by decide +kernel) (by decide +kernel)
set_option maxRecDepth 20000 in
theorem gX9_undo_X9_lineHasChanged : GoodIn wsX9_undo (wsV RX9 149 RX9 yX9_lineHasChanged wsX9_lineHasChanged) := goodIn_app (goodIn_of _ (by decide +kernel)) ggX9_undo_X9_lineHasChanged
set_option maxRecDepth 20000 in
theorem ggX9_isBoundary_X9_isPlaceOfLine : GoodIn wsX9_isBoundary wsX9_isPlaceOfLine := goodIn_r _ [6, 7, 8, 9, 10, 11, 12, 13, 20, 21, 22, 23, 24, 25, 26, 27, 28, 29, 30, 31, 32, 33, 34, 35] (by decide +kernel) (by decide +kernel)
set_option maxRecDepth 20000 in
theorem gX9_isBoundary_X9_isPlaceOfLine : GoodIn wsX9_isBoundary (wsV RX9 134 RX9 yX9_isPlaceOfLine wsX9_isPlaceOfLine) := goodIn_app (goodIn_of _ (by decide +kernel)) ggX9_isBoundary_X9_isPlaceOfLine
set_option maxRecDepth 20000 in
theorem ggX9_isBoundary_X3_hasBound : GoodIn wsX9_isBoundary wsX3_hasBound := goodIn_r _ [18, 19, 36, 37, 38] (by decide +kernel) (by decide +kernel)
set_option maxRecDepth 20000 in
theorem gX9_isBoundary_X3_hasBound : GoodIn wsX9_isBoundary (wsV RX9 172 RX3 yX3_hasBound wsX3_hasBound) := goodIn_app (goodIn_of _ (by decide +kernel)) ggX9_isBoundary_X3_hasBound
set_option maxRecDepth 20000 in
theorem ggX9_boundary_X9_isPlaceOfLine : GoodIn wsX9_boundary wsX9_isPlaceOfLine := goodIn_r _ [6, 7, 8, 9, 10, 11, 12, 13, 29, 30, 31, 32, 33, 34, 35, 36, 37, 38, 39, 40, 41, 42, 43, 44] (by decide +kernel) (by decide +kernel)
set_option maxRecDepth 20000 in
theorem gX9_boundary_X9_isPlaceOfLine : GoodIn wsX9_boundary (wsV RX9 134 RX9 yX9_isPlaceOfLine wsX9_isPlaceOfLine) := goodIn_app (goodIn_of _ (by decide +kernel)) ggX9_boundary_X9_isPlaceOfLine
set_option maxRecDepth 20000 in
theorem ggX9_boundary_X3_boundBehind : GoodIn wsX9_boundary wsX3_boundBehind := goodIn_r _ [18, 19, 20, 21, 22, 17, 23, 24, 45, 46, 47] (by decide +kernel) (by decide +kernel)
set_option maxRecDepth 20000 in
theorem gX9_boundary_X3_boundBehind : GoodIn wsX9_boundary (wsV RX9 175 RX3 yX3_boundBehind wsX3_boundBehind) := goodIn_app (goodIn_of _ (by decide +kernel)) ggX9_boundary_X3_boundBehind
set_option maxRecDepth 20000 in
theorem ggX9_boundary_X3_boundAhead : GoodIn wsX9_boundary wsX3_boundAhead := goodIn_r _ [28, 20, 21, 22, 17, 23, 24, 45, 46, 47] (by decide +kernel) (by decide +kernel)
set_option maxRecDepth 20000 in
theorem gX9_boundary_X3_boundAhead : GoodIn wsX9_boundary (wsV RX9 178 RX3 yX3_boundAhead wsX3_boundAhead) := goodIn_app (goodIn_of _ (by decide +kernel)) ggX9_boundary_X3_boundAhead
set_option maxRecDepth 20000 in
theorem ggX9_stand_X9_isPlaceOfLine : GoodIn wsX9_stand wsX9_isPlaceOfLine := goodIn_r _ [6, 7, 8, 9, 10, 11, 12, 13, 21, 22, 23, 24, 25, 26, 27, 28, 29, 30, 31, 32, 33, 34, 35, 36] (by decide +kernel) (by decide +kernel)
set_option maxRecDepth 20000 in
theorem gX9_stand_X9_isPlaceOfLine : GoodIn wsX9_stand (wsV RX9 134 RX9 yX9_isPlaceOfLine wsX9_isPlaceOfLine) := goodIn_app (goodIn_of _ (by decide +kernel)) ggX9_stand_X9_isPlaceOfLine
set_option maxRecDepth 20000 in
theorem ggX9_stand_X3_standAt : GoodIn wsX9_stand wsX3_standAt := goodIn_r _ [18, 19, 20, 37, 38, 39] (by decide +kernel) (by decide +kernel)
set_option maxRecDepth 20000 in
theorem gX9_stand_X3_standAt : GoodIn wsX9_stand (wsV RX9 181 RX3 yX3_standAt wsX3_standAt) := goodIn_app (goodIn_of _ (by decide +kernel)) ggX9_stand_X3_standAt
set_option maxRecDepth 20000 in
theorem ggX9_piece_X3_number : GoodIn wsX9_piece wsX3_number := goodIn_r _ [7, 8, 9, 10, 11, 12, 13, 14, 15, 59, 60, 61] (by decide +kernel) (by decide +kernel)
set_option maxRecDepth 20000 in
theorem gX9_piece_X3_number : GoodIn wsX9_piece (wsV RX9 184 RX3 yX3_number wsX3_number) := goodIn_app (goodIn_of _ (by decide +kernel)) ggX9_piece_X3_number
set_option maxRecDepth 20000 in
theorem ggX9_piece_X3_beginning : GoodIn wsX9_piece wsX3_beginning := goodIn_r _ [19, 20, 21, 22, 6, 23, 24, 25, 26, 27, 28, 8, 59, 60, 61] (by decide +kernel) (by decide +kernel)
set_option maxRecDepth 20000 in
theorem gX9_piece_X3_beginning : GoodIn wsX9_piece (wsV RX9 185 RX3 yX3_beginning wsX3_beginning) := goodIn_app (goodIn_of _ (by decide +kernel)) ggX9_piece_X3_beginning
set_option maxRecDepth 20000 in
theorem ggX9_piece_X3_boundBehind : GoodIn wsX9_piece wsX3_boundBehind := goodIn_r _ [23, 24, 25, 26, 27, 6, 28, 8, 59, 60, 61] (by decide +kernel) (by decide +kernel)
set_option maxRecDepth 20000 in
theorem gX9_piece_X3_boundBehind : GoodIn wsX9_piece (wsV RX9 175 RX3 yX3_boundBehind wsX3_boundBehind) := goodIn_app (goodIn_of _ (by decide +kernel)) ggX9_piece_X3_boundBehind
set_option maxRecDepth 20000 in
theorem ggX9_piece_X3_standAt : GoodIn wsX9_piece wsX3_standAt := goodIn_r _ [33, 24, 34, 59, 60, 61] (by decide +kernel) (by decide +kernel)
set_option maxRecDepth 20000 in
theorem gX9_piece_X3_standAt : GoodIn wsX9_piece (wsV RX9 181 RX3 yX3_standAt wsX3_standAt) := goodIn_app (goodIn_of _ (by decide +kernel)) ggX9_piece_X3_standAt
set_option maxRecDepth 20000 in
theorem ggX9_piece_X4_wholeIn : GoodIn wsX9_piece wsX4_wholeIn := goodIn_r _ [39, 40, 41, 62, 63, 64, 65, 66, 67, 68, 69] (by decide +kernel) (by decide +kernel)
set_option maxRecDepth 20000 in
theorem gX9_piece_X4_wholeIn : GoodIn wsX9_piece (wsV RX9 188 RX4 yX4_wholeIn wsX4_wholeIn) := goodIn_app (goodIn_of _ (by decide +kernel)) ggX9_piece_X4_wholeIn
set_option maxRecDepth 20000 in
theorem ggX9_piece_X4_withPlaceIn : GoodIn wsX9_piece wsX4_withPlaceIn := goodIn_r _ [45, 40, 46, 62, 63, 64, 65, 66, 67, 68, 69] (by decide +kernel) (by decide +kernel)
set_option maxRecDepth 20000 in
theorem gX9_piece_X4_withPlaceIn : GoodIn wsX9_piece (wsV RX9 191 RX4 yX4_withPlaceIn wsX4_withPlaceIn) := goodIn_app (goodIn_of _ (by decide +kernel)) ggX9_piece_X4_withPlaceIn
set_option maxRecDepth 20000 in
theorem ggX9_machine_X8_find : GoodIn wsX9_machine wsX8_find := goodIn_r _ [8, 9, 10, 11, 12, 13, 14, 15, 16, 17, 18, 19, 20, 21, 22, 23, 24, 25, 26, 27, 28, 29, 30, 31, 32, 33, 34, 7, 35, 36, 37, 38, 39, 40, 41, 42, 43, 44, 45, 46, 47, 48, 49, 50, 51, 52, 53, 54, 55, 56, 57, 58, 59, 60, 61, 62, 63, 64, 65, 66, 67, 68, 69, 70, 71, 72, 73, 74, 75, 76, 77, 78, 79, 80, 81, 82, 83, 84, 85, 86, 87, 88, 89, 90, 91, 92, 93, 164, 165, 166, 167, 168, 169, 170, 171, 172, 173, 174, 175, 176, 177, 178, 179, 180, 181, 182] (by decide +kernel) (by decide +kernel)
set_option maxRecDepth 20000 in
theorem gX9_machine_X8_find : GoodIn wsX9_machine (wsV RX9 194 RX8 yX8_find wsX8_find) := goodIn_app (goodIn_of _ (by decide +kernel)) ggX9_machine_X8_find
set_option maxRecDepth 20000 in
theorem ggX9_machine_X8_number : GoodIn wsX9_machine wsX8_number := goodIn_r _ [97, 10, 164, 165, 166, 167, 168, 169, 170, 171, 172, 173, 174] (by decide +kernel) (by decide +kernel)
set_option maxRecDepth 20000 in
theorem gX9_machine_X8_number : GoodIn wsX9_machine (wsV RX9 198 RX8 yX8_number wsX8_number) := goodIn_app (goodIn_of _ (by decide +kernel)) ggX9_machine_X8_number
set_option maxRecDepth 20000 in
theorem ggX9_machine_X8_unlikeNumber : GoodIn wsX9_machine wsX8_unlikeNumber := goodIn_r _ [101, 17, 164, 165, 166, 167, 168, 169, 170, 171, 172, 173, 174] (by decide +kernel) (by decide +kernel)
set_option maxRecDepth 20000 in
theorem gX9_machine_X8_unlikeNumber : GoodIn wsX9_machine (wsV RX9 199 RX8 yX8_unlikeNumber wsX8_unlikeNumber) := goodIn_app (goodIn_of _ (by decide +kernel)) ggX9_machine_X8_unlikeNumber
set_option maxRecDepth 20000 in
theorem ggX9_machine_X8_knownNumber : GoodIn wsX9_machine wsX8_knownNumber := goodIn_r _ [105, 80, 164, 165, 166, 167, 168, 169, 170, 171, 172, 173, 174] (by decide +kernel) (by decide +kernel)
set_option maxRecDepth 20000 in
theorem gX9_machine_X8_knownNumber : GoodIn wsX9_machine (wsV RX9 202 RX8 yX8_knownNumber wsX8_knownNumber) := goodIn_app (goodIn_of _ (by decide +kernel)) ggX9_machine_X8_knownNumber
set_option maxRecDepth 20000 in
theorem ggX9_machine_X6_unlikeFours : GoodIn wsX9_machine wsX6_unlikeFours := goodIn_r _ [110, 111, 112, 113, 109, 114, 115, 183, 184, 185, 186] (by decide +kernel) (by decide +kernel)
set_option maxRecDepth 20000 in
theorem gX9_machine_X6_unlikeFours : GoodIn wsX9_machine (wsV RX9 205 RX6 yX6_unlikeFours wsX6_unlikeFours) := goodIn_app (goodIn_of _ (by decide +kernel)) ggX9_machine_X6_unlikeFours
set_option maxRecDepth 20000 in
theorem ggX9_machine_X9_farthestBack : GoodIn wsX9_machine wsX9_farthestBack := goodIn_r _ [119, 3, 120, 121, 122, 123, 124, 125, 126, 109, 127, 128, 129, 130, 131, 30, 132, 1, 133, 134, 135, 136, 137, 138, 139, 140, 141, 142, 143, 144, 145, 115, 146, 147, 148, 149, 150, 7, 151, 81, 29, 31, 152, 153, 154, 155, 156, 157, 158, 159, 160, 161, 162, 163, 183, 184, 185, 186, 164, 165, 166, 167, 168, 169, 170, 171, 172, 173, 174] (by decide +kernel) (by decide +kernel)
set_option maxRecDepth 20000 in
theorem gX9_machine_X9_farthestBack : GoodIn wsX9_machine (wsV RX9 208 RX9 yX9_farthestBack wsX9_farthestBack) := goodIn_app (goodIn_of _ (by decide +kernel)) ggX9_machine_X9_farthestBack
set_option maxRecDepth 20000 in
theorem ggX9_alike_X9_isClass : GoodIn wsX9_alike wsX9_isClass := goodIn_r _ [6] (by decide +kernel) (by decide +kernel)
set_option maxRecDepth 20000 in
theorem gX9_alike_X9_isClass : GoodIn wsX9_alike (va_wsS RX9 155 yX9_isClass wsX9_isClass) := goodIn_app (goodIn_of _ (by decide +kernel)) ggX9_alike_X9_isClass
