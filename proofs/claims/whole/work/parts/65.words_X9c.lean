set_option maxRecDepth 20000 in
theorem ggX9_alike_X8_find : GoodIn wsX9_alike wsX8_find := goodIn_r _ [11, 12, 13, 14, 15, 16, 17, 18, 19, 20, 21, 22, 23, 24, 25, 26, 27, 28, 29, 30, 31, 4, 5, 6, 32, 33, 34, 10, 35, 36, 37, 38, 39, 40, 41, 42, 43, 44, 45, 46, 47, 48, 49, 50, 51, 52, 53, 54, 55, 56, 57, 58, 59, 60, 61, 62, 63, 64, 65, 66, 67, 68, 69, 70, 71, 72, 73, 74, 75, 76, 77, 78, 79, 80, 81, 82, 83, 84, 85, 86, 87, 88, 89, 90, 91, 92, 93, 110, 111, 112, 113, 114, 115, 116, 117, 118, 119, 120, 121, 122, 123, 124, 125, 126, 127, 128] (by decide +kernel) (by decide +kernel)
set_option maxRecDepth 20000 in
theorem gX9_alike_X8_find : GoodIn wsX9_alike (wsV RX9 194 RX8 yX8_find wsX8_find) := goodIn_app (goodIn_of _ (by decide +kernel)) ggX9_alike_X8_find
set_option maxRecDepth 20000 in
theorem ggX9_alike_X8_areAlike : GoodIn wsX9_alike wsX8_areAlike := goodIn_r _ [97, 15, 13, 4, 5, 6, 90, 91, 92, 10, 93, 17, 110, 111, 112, 113, 114, 115, 116, 117, 118, 119, 120] (by decide +kernel) (by decide +kernel)
set_option maxRecDepth 20000 in
theorem gX9_alike_X8_areAlike : GoodIn wsX9_alike (wsV RX9 211 RX8 yX8_areAlike wsX8_areAlike) := goodIn_app (goodIn_of _ (by decide +kernel)) ggX9_alike_X8_areAlike
set_option maxRecDepth 20000 in
theorem ggX9_known_X9_isClass : GoodIn wsX9_known wsX9_isClass := goodIn_r _ [6] (by decide +kernel) (by decide +kernel)
set_option maxRecDepth 20000 in
theorem gX9_known_X9_isClass : GoodIn wsX9_known (va_wsS RX9 155 yX9_isClass wsX9_isClass) := goodIn_app (goodIn_of _ (by decide +kernel)) ggX9_known_X9_isClass
set_option maxRecDepth 20000 in
theorem ggX9_known_X8_find : GoodIn wsX9_known wsX8_find := goodIn_r _ [11, 12, 13, 14, 15, 16, 17, 18, 19, 20, 21, 22, 23, 24, 25, 26, 27, 28, 29, 30, 31, 4, 5, 6, 32, 33, 34, 10, 35, 36, 37, 38, 39, 40, 41, 42, 43, 44, 45, 46, 47, 48, 49, 50, 51, 52, 53, 54, 55, 56, 57, 58, 59, 60, 61, 62, 63, 64, 65, 66, 67, 68, 69, 70, 71, 72, 73, 74, 75, 76, 77, 78, 79, 80, 81, 82, 83, 84, 85, 86, 87, 88, 89, 90, 91, 92, 93, 110, 111, 112, 113, 114, 115, 116, 117, 118, 119, 120, 121, 122, 123, 124, 125, 126, 127, 128] (by decide +kernel) (by decide +kernel)
set_option maxRecDepth 20000 in
theorem gX9_known_X8_find : GoodIn wsX9_known (wsV RX9 194 RX8 yX8_find wsX8_find) := goodIn_app (goodIn_of _ (by decide +kernel)) ggX9_known_X8_find
set_option maxRecDepth 20000 in
theorem ggX9_known_X8_isKnown : GoodIn wsX9_known wsX8_isKnown := goodIn_r _ [97, 81, 4, 5, 6, 110, 111, 112, 113, 114, 115, 116, 117, 118, 119, 120] (by decide +kernel) (by decide +kernel)
set_option maxRecDepth 20000 in
theorem gX9_known_X8_isKnown : GoodIn wsX9_known (wsV RX9 215 RX8 yX8_isKnown wsX8_isKnown) := goodIn_app (goodIn_of _ (by decide +kernel)) ggX9_known_X8_isKnown
set_option maxRecDepth 20000 in
theorem ggX9_back_X9_isPlaceOfLine : GoodIn wsX9_back wsX9_isPlaceOfLine := goodIn_r _ [7, 8, 9, 10, 11, 12, 13, 14, 128, 129, 130, 131, 132, 133, 134, 135, 136, 137, 138, 139, 140, 141, 142, 143] (by decide +kernel) (by decide +kernel)
set_option maxRecDepth 20000 in
theorem gX9_back_X9_isPlaceOfLine : GoodIn wsX9_back (wsV RX9 134 RX9 yX9_isPlaceOfLine wsX9_isPlaceOfLine) := goodIn_app (goodIn_of _ (by decide +kernel)) ggX9_back_X9_isPlaceOfLine
set_option maxRecDepth 20000 in
theorem ggX9_back_X8_find : GoodIn wsX9_back wsX8_find := goodIn_r _ [19, 20, 21, 22, 23, 24, 25, 26, 27, 28, 29, 30, 31, 32, 33, 34, 35, 36, 37, 38, 39, 40, 6, 41, 42, 43, 44, 18, 45, 46, 47, 48, 49, 50, 51, 52, 53, 54, 55, 56, 57, 58, 59, 60, 61, 62, 63, 64, 65, 66, 67, 68, 69, 70, 71, 72, 73, 74, 75, 76, 77, 78, 79, 80, 81, 82, 83, 84, 85, 86, 87, 88, 89, 90, 91, 92, 93, 94, 95, 96, 97, 98, 99, 100, 101, 102, 103, 144, 145, 146, 147, 148, 149, 150, 151, 152, 153, 154, 155, 156, 157, 158, 159, 160, 161, 162] (by decide +kernel) (by decide +kernel)
set_option maxRecDepth 20000 in
theorem gX9_back_X8_find : GoodIn wsX9_back (wsV RX9 194 RX8 yX8_find wsX8_find) := goodIn_app (goodIn_of _ (by decide +kernel)) ggX9_back_X8_find
set_option maxRecDepth 20000 in
theorem ggX9_back_X9_backFrom : GoodIn wsX9_back wsX9_backFrom := goodIn_r _ [107, 1, 8, 108, 109, 110, 12, 111, 112, 113, 114, 115, 14, 116, 117, 118, 119, 120, 121, 122, 6, 123, 124, 125, 126, 18, 127, 91, 40, 41, 128, 129, 130, 131, 132, 133, 134, 135, 136, 137, 138, 139, 140, 141, 142, 143, 144, 145, 146, 147, 148, 149, 150, 151, 152, 153, 154] (by decide +kernel) (by decide +kernel)
set_option maxRecDepth 20000 in
theorem gX9_back_X9_backFrom : GoodIn wsX9_back (wsV RX9 218 RX9 yX9_backFrom wsX9_backFrom) := goodIn_app (goodIn_of _ (by decide +kernel)) ggX9_back_X9_backFrom
set_option maxRecDepth 20000 in
theorem ggX9_idle_X4_number : GoodIn wsX9_idle wsX4_number := goodIn_r _ [10, 11, 83, 84, 85, 86, 87, 88, 89, 90] (by decide +kernel) (by decide +kernel)
set_option maxRecDepth 20000 in
theorem gX9_idle_X4_number : GoodIn wsX9_idle (wsV RX9 99 RX4 yX4_number wsX4_number) := goodIn_app (goodIn_of _ (by decide +kernel)) ggX9_idle_X4_number
set_option maxRecDepth 20000 in
theorem ggX9_idle_X4_placesOf : GoodIn wsX9_idle wsX4_placesOf := goodIn_r _ [15, 16, 17, 18, 19, 9, 20, 11, 83, 84, 85, 86, 87, 88, 89, 90] (by decide +kernel) (by decide +kernel)
set_option maxRecDepth 20000 in
theorem gX9_idle_X4_placesOf : GoodIn wsX9_idle (wsV RX9 110 RX4 yX4_placesOf wsX4_placesOf) := goodIn_app (goodIn_of _ (by decide +kernel)) ggX9_idle_X4_placesOf
set_option maxRecDepth 20000 in
theorem ggX9_idle_X3_read : GoodIn wsX9_idle wsX3_read := goodIn_r _ [25, 26, 27, 28, 29, 30, 31, 32, 33, 34, 35, 36, 37, 38, 39, 40, 41, 42, 43, 44, 45, 46, 47, 48, 49, 50, 51, 52, 53, 54, 55, 56, 57, 58, 59, 60, 61, 62, 63, 64, 65, 66, 91, 92, 93, 94, 95, 96, 97, 98, 99, 100, 101] (by decide +kernel) (by decide +kernel)
set_option maxRecDepth 20000 in
theorem gX9_idle_X3_read : GoodIn wsX9_idle (wsV RX9 221 RX3 yX3_read wsX3_read) := goodIn_app (goodIn_of _ (by decide +kernel)) ggX9_idle_X3_read
set_option maxRecDepth 20000 in
theorem ggX9_idle_X3_bounds : GoodIn wsX9_idle wsX3_bounds := goodIn_r _ [70, 27, 91, 92, 93] (by decide +kernel) (by decide +kernel)
set_option maxRecDepth 20000 in
theorem gX9_idle_X3_bounds : GoodIn wsX9_idle (wsV RX9 225 RX3 yX3_bounds wsX3_bounds) := goodIn_app (goodIn_of _ (by decide +kernel)) ggX9_idle_X3_bounds
set_option maxRecDepth 20000 in
theorem ggX9_least_X9_isRule : GoodIn wsX9_least wsX9_isRule := goodIn_r _ [8, 3, 9, 10, 11, 12, 13, 14, 117, 118, 119, 120, 121, 122, 123, 124, 125, 126, 127, 128, 129, 130, 131, 132, 133, 134, 135, 136] (by decide +kernel) (by decide +kernel)
set_option maxRecDepth 20000 in
theorem gX9_least_X9_isRule : GoodIn wsX9_least (wsV RX9 102 RX9 yX9_isRule wsX9_isRule) := goodIn_app (goodIn_of _ (by decide +kernel)) ggX9_least_X9_isRule
set_option maxRecDepth 20000 in
theorem ggX9_least_X8_find : GoodIn wsX9_least wsX8_find := goodIn_r _ [19, 20, 21, 22, 23, 24, 25, 26, 27, 28, 29, 30, 31, 32, 33, 34, 35, 36, 37, 38, 39, 40, 7, 41, 42, 43, 44, 18, 45, 46, 47, 48, 49, 50, 51, 52, 53, 54, 55, 56, 57, 58, 59, 60, 61, 62, 63, 64, 65, 66, 67, 68, 69, 70, 71, 72, 73, 74, 75, 76, 77, 78, 79, 80, 81, 82, 83, 84, 85, 86, 87, 88, 89, 90, 91, 92, 93, 94, 95, 96, 97, 98, 99, 100, 101, 102, 103, 137, 138, 139, 140, 141, 142, 143, 144, 145, 146, 147, 148, 149, 150, 151, 152, 153, 154, 155] (by decide +kernel) (by decide +kernel)
set_option maxRecDepth 20000 in
theorem gX9_least_X8_find : GoodIn wsX9_least (wsV RX9 194 RX8 yX8_find wsX8_find) := goodIn_app (goodIn_of _ (by decide +kernel)) ggX9_least_X8_find
set_option maxRecDepth 20000 in
theorem ggX9_least_X4_wholeOf : GoodIn wsX9_least wsX4_wholeOf := goodIn_r _ [107, 108, 109, 110, 111, 12, 112, 14, 129, 130, 131, 132, 133, 134, 135, 136] (by decide +kernel) (by decide +kernel)
set_option maxRecDepth 20000 in
theorem gX9_least_X4_wholeOf : GoodIn wsX9_least (wsV RX9 116 RX4 yX4_wholeOf wsX4_wholeOf) := goodIn_app (goodIn_of _ (by decide +kernel)) ggX9_least_X4_wholeOf
set_option maxRecDepth 20000 in
theorem ggX9_least_X8_fewestLettersTo : GoodIn wsX9_least wsX8_fewestLettersTo := goodIn_r _ [116, 21, 24, 26, 137, 138, 139, 140, 141, 142, 143, 144, 145, 146, 147] (by decide +kernel) (by decide +kernel)
set_option maxRecDepth 20000 in
theorem gX9_least_X8_fewestLettersTo : GoodIn wsX9_least (wsV RX9 228 RX8 yX8_fewestLettersTo wsX8_fewestLettersTo) := goodIn_app (goodIn_of _ (by decide +kernel)) ggX9_least_X8_fewestLettersTo
set_option maxRecDepth 20000 in
theorem ggX9_day_X6_become : GoodIn wsX9_day wsX6_become := goodIn_r _ [9, 10, 11, 12, 13, 14, 15, 16, 17, 123, 124, 125, 126] (by decide +kernel) (by decide +kernel)
set_option maxRecDepth 20000 in
theorem gX9_day_X6_become : GoodIn wsX9_day (wsV RX9 231 RX6 yX6_become wsX6_become) := goodIn_app (goodIn_of _ (by decide +kernel)) ggX9_day_X6_become
set_option maxRecDepth 20000 in
theorem ggX9_day_X9_draw : GoodIn wsX9_day wsX9_draw := goodIn_r _ [21, 22, 23, 24] (by decide +kernel) (by decide +kernel)
set_option maxRecDepth 20000 in
theorem gX9_day_X9_draw : GoodIn wsX9_day (va_wsS RX9 235 yX9_draw wsX9_draw) := goodIn_app (goodIn_of _ (by decide +kernel)) ggX9_day_X9_draw
set_option maxRecDepth 20000 in
theorem ggX9_day_X6_goOnBy : GoodIn wsX9_day wsX6_goOnBy := goodIn_r _ [28, 17, 29, 30, 31, 8, 32, 16, 33, 34, 35, 36, 10, 37, 20, 38, 39, 40, 41, 42, 123, 124, 125, 126] (by decide +kernel) (by decide +kernel)
set_option maxRecDepth 20000 in
theorem gX9_day_X6_goOnBy : GoodIn wsX9_day (wsV RX9 239 RX6 yX6_goOnBy wsX6_goOnBy) := goodIn_app (goodIn_of _ (by decide +kernel)) ggX9_day_X6_goOnBy
set_option maxRecDepth 20000 in
theorem ggX9_day_X3_read : GoodIn wsX9_day wsX3_read := goodIn_r _ [47, 48, 49, 50, 51, 52, 53, 8, 54, 17, 55, 56, 57, 58, 59, 60, 61, 62, 16, 63, 64, 65, 66, 10, 37, 20, 38, 67, 68, 69, 70, 71, 72, 73, 74, 75, 76, 77, 78, 79, 80, 81, 127, 128, 129, 123, 124, 125, 126, 130, 131, 132, 133] (by decide +kernel) (by decide +kernel)
set_option maxRecDepth 20000 in
theorem gX9_day_X3_read : GoodIn wsX9_day (wsV RX9 221 RX3 yX3_read wsX3_read) := goodIn_app (goodIn_of _ (by decide +kernel)) ggX9_day_X3_read
set_option maxRecDepth 20000 in
theorem ggX9_day_X6_length : GoodIn wsX9_day wsX6_length := goodIn_r _ [54, 17, 123, 124, 125, 126] (by decide +kernel) (by decide +kernel)
set_option maxRecDepth 20000 in
theorem gX9_day_X6_length : GoodIn wsX9_day (wsV RX9 137 RX6 yX6_length wsX6_length) := goodIn_app (goodIn_of _ (by decide +kernel)) ggX9_day_X6_length
set_option maxRecDepth 20000 in
theorem ggX9_day_X3_number : GoodIn wsX9_day wsX3_number := goodIn_r _ [86, 49, 87, 88, 89, 90, 91, 92, 93, 127, 128, 129] (by decide +kernel) (by decide +kernel)
set_option maxRecDepth 20000 in
theorem gX9_day_X3_number : GoodIn wsX9_day (wsV RX9 184 RX3 yX3_number wsX3_number) := goodIn_app (goodIn_of _ (by decide +kernel)) ggX9_day_X3_number
set_option maxRecDepth 20000 in
theorem ggX9_day_X3_longest : GoodIn wsX9_day wsX3_longest := goodIn_r _ [97, 98, 99, 100, 101, 102, 84, 85, 46, 86, 49, 87, 88, 89, 90, 91, 92, 93, 103, 104, 105, 106, 48, 107, 108, 109, 110, 127, 128, 129] (by decide +kernel) (by decide +kernel)
set_option maxRecDepth 20000 in
theorem gX9_day_X3_longest : GoodIn wsX9_day (wsV RX9 242 RX3 yX3_longest wsX3_longest) := goodIn_app (goodIn_of _ (by decide +kernel)) ggX9_day_X3_longest
set_option maxRecDepth 20000 in
theorem ggX9_keep_X9_keptAt : GoodIn wsX9_keep wsX9_keptAt := goodIn_r _ [7, 8, 9, 23, 24, 25, 26, 27, 28, 29, 30, 31, 32, 33, 34] (by decide +kernel) (by decide +kernel)
set_option maxRecDepth 20000 in
theorem gX9_keep_X9_keptAt : GoodIn wsX9_keep (wsV RX9 249 RX9 yX9_keptAt wsX9_keptAt) := goodIn_app (goodIn_of _ (by decide +kernel)) ggX9_keep_X9_keptAt
set_option maxRecDepth 20000 in
theorem ggX9_keep_X6_become : GoodIn wsX9_keep wsX6_become := goodIn_r _ [14, 15, 16, 17, 18, 19, 20, 21, 22, 35, 36, 37, 38] (by decide +kernel) (by decide +kernel)
set_option maxRecDepth 20000 in
theorem gX9_keep_X6_become : GoodIn wsX9_keep (wsV RX9 231 RX6 yX6_become wsX6_become) := goodIn_app (goodIn_of _ (by decide +kernel)) ggX9_keep_X6_become
set_option maxRecDepth 20000 in
theorem ggX9_restore_X9_keptAt : GoodIn wsX9_restore wsX9_keptAt := goodIn_r _ [8, 9, 10, 153, 154, 155, 156, 157, 158, 159, 160, 161, 162, 163, 164] (by decide +kernel) (by decide +kernel)
set_option maxRecDepth 20000 in
theorem gX9_restore_X9_keptAt : GoodIn wsX9_restore (wsV RX9 249 RX9 yX9_keptAt wsX9_keptAt) := goodIn_app (goodIn_of _ (by decide +kernel)) ggX9_restore_X9_keptAt
set_option maxRecDepth 20000 in
theorem ggX9_restore_X6_become : GoodIn wsX9_restore wsX6_become := goodIn_r _ [15, 16, 17, 18, 19, 20, 21, 22, 23, 165, 166, 167, 168] (by decide +kernel) (by decide +kernel)
set_option maxRecDepth 20000 in
theorem gX9_restore_X6_become : GoodIn wsX9_restore (wsV RX9 231 RX6 yX6_become wsX6_become) := goodIn_app (goodIn_of _ (by decide +kernel)) ggX9_restore_X6_become
set_option maxRecDepth 20000 in
theorem ggX9_restore_X0_forget : GoodIn wsX9_restore wsX0_forget := goodIn_r _ [28, 29, 169, 170, 171, 172] (by decide +kernel) (by decide +kernel)
set_option maxRecDepth 20000 in
theorem gX9_restore_X0_forget : GoodIn wsX9_restore (wsV RX9 253 RX0 yX0_forget wsX0_forget) := goodIn_app (goodIn_of _ (by decide +kernel)) ggX9_restore_X0_forget
set_option maxRecDepth 20000 in
theorem ggX9_restore_X9_rulesHaveChanged : GoodIn wsX9_restore wsX9_rulesHaveChanged := goodIn_r _ [33, 34, 35, 2, 36, 37, 38, 39, 40, 41, 42, 43, 44, 45, 46, 47, 48, 49, 50, 51, 52, 53, 54, 55, 56, 57, 58, 59, 60, 61, 62, 63, 64, 65, 66, 67, 68, 69, 70, 71, 72, 73, 74, 75, 76, 77, 78, 79, 80, 81, 82, 83, 84, 85, 14, 86, 21, 87, 88, 89, 90, 91, 92, 93, 94, 95, 96, 97, 98, 99, 100, 101, 102, 103, 104, 105, 106, 107, 108, 109, 110, 111, 112, 113, 114, 7, 115, 116, 117, 118, 119, 120, 121, 122, 123, 124, 125, 126, 127, 128, 23, 129, 130, 131, 132, 133, 134, 135, 136, 22, 137, 138, 139, 140, 16, 141, 142, 143, 144, 145, 146, 147, 148, 149, 150, 151, 152, 153, 154, 155, 156, 157, 158, 159, 160, 161, 162, 163, 164, 173, 174, 175, 176, 177, 178, 179, 180, 181, 182, 183, 184, 165, 166, 167, 168, 185, 186, 187, 188, 189, 190, 191, 192, 193, 194, 195, 196, 197, 198] (by decide +kernel) (by decide +kernel)
set_option maxRecDepth 20000 in
theorem gX9_restore_X9_rulesHaveChanged : GoodIn wsX9_restore (wsV RX9 164 RX9 yX9_rulesHaveChanged wsX9_rulesHaveChanged) := goodIn_app (goodIn_of _ (by decide +kernel)) ggX9_restore_X9_rulesHaveChanged
set_option maxRecDepth 20000 in
theorem ggX9_count_X4_number : GoodIn wsX9_count wsX4_number := goodIn_r _ [11, 12, 61, 62, 63, 64, 65, 66, 67, 68] (by decide +kernel) (by decide +kernel)
set_option maxRecDepth 20000 in
theorem gX9_count_X4_number : GoodIn wsX9_count (wsV RX9 99 RX4 yX4_number wsX4_number) := goodIn_app (goodIn_of _ (by decide +kernel)) ggX9_count_X4_number
set_option maxRecDepth 20000 in
theorem ggX9_count_X4_placeNumber : GoodIn wsX9_count wsX4_placeNumber := goodIn_r _ [16, 17, 61, 62, 63, 64, 65, 66, 67, 68] (by decide +kernel) (by decide +kernel)
set_option maxRecDepth 20000 in
theorem gX9_count_X4_placeNumber : GoodIn wsX9_count (wsV RX9 119 RX4 yX4_placeNumber wsX4_placeNumber) := goodIn_app (goodIn_of _ (by decide +kernel)) ggX9_count_X4_placeNumber
set_option maxRecDepth 20000 in
theorem ggX9_count_X6_length : GoodIn wsX9_count wsX6_length := goodIn_r _ [22, 23, 69, 70, 71, 72] (by decide +kernel) (by decide +kernel)
set_option maxRecDepth 20000 in
theorem gX9_count_X6_length : GoodIn wsX9_count (wsV RX9 137 RX6 yX6_length wsX6_length) := goodIn_app (goodIn_of _ (by decide +kernel)) ggX9_count_X6_length
set_option maxRecDepth 20000 in
theorem ggX9_count_X3_number : GoodIn wsX9_count wsX3_number := goodIn_r _ [28, 29, 30, 31, 32, 33, 34, 35, 36, 73, 74, 75] (by decide +kernel) (by decide +kernel)
set_option maxRecDepth 20000 in
theorem gX9_count_X3_number : GoodIn wsX9_count (wsV RX9 184 RX3 yX3_number wsX3_number) := goodIn_app (goodIn_of _ (by decide +kernel)) ggX9_count_X3_number
set_option maxRecDepth 20000 in
theorem ggX9_count_X0_number : GoodIn wsX9_count wsX0_number := goodIn_r _ [41, 42, 76, 77, 78, 79] (by decide +kernel) (by decide +kernel)
set_option maxRecDepth 20000 in
theorem gX9_count_X0_number : GoodIn wsX9_count (wsV RX9 167 RX0 yX0_number wsX0_number) := goodIn_app (goodIn_of _ (by decide +kernel)) ggX9_count_X0_number
set_option maxRecDepth 20000 in
theorem ggX9_count_X7_length : GoodIn wsX9_count wsX7_length := goodIn_r _ [47, 48, 80, 81, 82, 83] (by decide +kernel) (by decide +kernel)
set_option maxRecDepth 20000 in
theorem gX9_count_X7_length : GoodIn wsX9_count (wsV RX9 92 RX7 yX7_length wsX7_length) := goodIn_app (goodIn_of _ (by decide +kernel)) ggX9_count_X7_length
set_option maxRecDepth 20000 in
theorem ggX9_isRule_X4_number : GoodIn wsX9_isRule wsX4_number := goodIn_r _ [6, 7, 20, 21, 22, 23, 24, 25, 26, 27] (by decide +kernel) (by decide +kernel)
set_option maxRecDepth 20000 in
theorem gX9_isRule_X4_number : GoodIn wsX9_isRule (wsV RX9 99 RX4 yX4_number wsX4_number) := goodIn_app (goodIn_of _ (by decide +kernel)) ggX9_isRule_X4_number
set_option maxRecDepth 20000 in
theorem ggX9_isPlaceOfLine_X6_length : GoodIn wsX9_isPlaceOfLine wsX6_length := goodIn_r _ [6, 7, 20, 21, 22, 23] (by decide +kernel) (by decide +kernel)
set_option maxRecDepth 20000 in
theorem gX9_isPlaceOfLine_X6_length : GoodIn wsX9_isPlaceOfLine (wsV RX9 137 RX6 yX6_length wsX6_length) := goodIn_app (goodIn_of _ (by decide +kernel)) ggX9_isPlaceOfLine_X6_length
set_option maxRecDepth 20000 in
theorem ggX9_layText_X4_clear : GoodIn wsX9_layText wsX4_clear := goodIn_r _ [10, 11, 12, 260, 261, 262, 263, 264, 265, 266, 267] (by decide +kernel) (by decide +kernel)
set_option maxRecDepth 20000 in
theorem gX9_layText_X4_clear : GoodIn wsX9_layText (wsV RX9 262 RX4 yX4_clear wsX4_clear) := goodIn_app (goodIn_of _ (by decide +kernel)) ggX9_layText_X4_clear
set_option maxRecDepth 20000 in
theorem ggX9_layText_X6_clear : GoodIn wsX9_layText wsX6_clear := goodIn_r _ [17, 18, 19, 20, 21, 22, 23, 24, 268, 269, 270, 271] (by decide +kernel) (by decide +kernel)
set_option maxRecDepth 20000 in
theorem gX9_layText_X6_clear : GoodIn wsX9_layText (wsV RX9 263 RX6 yX6_clear wsX6_clear) := goodIn_app (goodIn_of _ (by decide +kernel)) ggX9_layText_X6_clear
set_option maxRecDepth 20000 in
theorem ggX9_layText_X7_length : GoodIn wsX9_layText wsX7_length := goodIn_r _ [29, 30, 272, 273, 274, 275] (by decide +kernel) (by decide +kernel)
set_option maxRecDepth 20000 in
theorem gX9_layText_X7_length : GoodIn wsX9_layText (wsV RX9 92 RX7 yX7_length wsX7_length) := goodIn_app (goodIn_of _ (by decide +kernel)) ggX9_layText_X7_length
