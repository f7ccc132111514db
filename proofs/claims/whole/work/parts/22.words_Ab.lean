set_option maxRecDepth 20000 in
theorem ggX7_isNextRule_X7_placesIn : GoodIn wsX7_isNextRule wsX7_placesIn := goodIn_r _ [23, 8, 9, 10, 6, 11, 12, 13, 14, 15, 16, 17, 18, 19, 24, 25, 26, 27] (by decide +kernel) (by decide +kernel)
set_option maxRecDepth 20000 in
theorem gX7_isNextRule_X7_placesIn : GoodIn wsX7_isNextRule (wsV RX7 81 RX7 yX7_placesIn wsX7_placesIn) := goodIn_app (goodIn_of _ (by decide +kernel)) ggX7_isNextRule_X7_placesIn
set_option maxRecDepth 20000 in
theorem ggX7_isRow_X7_signAt : GoodIn wsX7_isRow wsX7_signAt := goodIn_r _ [5, 6, 7, 14, 15, 16, 17] (by decide +kernel) (by decide +kernel)
set_option maxRecDepth 20000 in
theorem gX7_isRow_X7_signAt : GoodIn wsX7_isRow (wsV RX7 33 RX7 yX7_signAt wsX7_signAt) := goodIn_app (goodIn_of _ (by decide +kernel)) ggX7_isRow_X7_signAt
set_option maxRecDepth 20000 in
theorem ggX7_isRow_X7_partsOf : GoodIn wsX7_isRow wsX7_partsOf := goodIn_r _ [10, 11, 12, 13] (by decide +kernel) (by decide +kernel)
set_option maxRecDepth 20000 in
theorem gX7_isRow_X7_partsOf : GoodIn wsX7_isRow (va_wsS RX7 85 yX7_partsOf wsX7_partsOf) := goodIn_app (goodIn_of _ (by decide +kernel)) ggX7_isRow_X7_partsOf
set_option maxRecDepth 20000 in
theorem ggX7_placesIn_X7_signAt : GoodIn wsX7_placesIn wsX7_signAt := goodIn_r _ [5, 6, 7, 14, 15, 16, 17] (by decide +kernel) (by decide +kernel)
set_option maxRecDepth 20000 in
theorem gX7_placesIn_X7_signAt : GoodIn wsX7_placesIn (wsV RX7 33 RX7 yX7_signAt wsX7_signAt) := goodIn_app (goodIn_of _ (by decide +kernel)) ggX7_placesIn_X7_signAt
set_option maxRecDepth 20000 in
theorem ggX7_placesIn_X7_partsOf : GoodIn wsX7_placesIn wsX7_partsOf := goodIn_r _ [10, 11, 12, 13] (by decide +kernel) (by decide +kernel)
set_option maxRecDepth 20000 in
theorem gX7_placesIn_X7_partsOf : GoodIn wsX7_placesIn (va_wsS RX7 85 yX7_partsOf wsX7_partsOf) := goodIn_app (goodIn_of _ (by decide +kernel)) ggX7_placesIn_X7_partsOf
set_option maxRecDepth 20000 in
theorem ggX7_partsOf_X9_isClass : GoodIn wsX7_partsOf wsX9_isClass := goodIn_r _ [3] (by decide +kernel) (by decide +kernel)
set_option maxRecDepth 20000 in
theorem gX7_partsOf_X9_isClass_n88 : GoodIn wsX7_partsOf (wsX9_isClass) := ggX7_partsOf_X9_isClass
set_option maxRecDepth 20000 in
theorem ggX8_init_X1_init : GoodIn wsX8_init wsX1_init := goodIn_r _ [17, 18, 2, 3, 4, 19, 20, 21, 22, 34, 35, 36, 37] (by decide +kernel) (by decide +kernel)
set_option maxRecDepth 20000 in
theorem gX8_init_X1_init_n33 : GoodIn wsX8_init (wsX1_init) := ggX8_init_X1_init
set_option maxRecDepth 20000 in
theorem ggX8_find_J7_fill_53178 : GoodIn wsX8_find wsJ7_fill_53178 := goodIn_r _ [13] (by decide +kernel) (by decide +kernel)
set_option maxRecDepth 20000 in
theorem gX8_find_J7_fill_53178 : GoodIn wsX8_find (va_wsS RX8 46 yJ7_fill_53178 wsJ7_fill_53178) := goodIn_app (goodIn_of _ (by decide +kernel)) ggX8_find_J7_fill_53178
set_option maxRecDepth 20000 in
theorem ggX8_find_X5_begunBy : GoodIn wsX8_find wsX5_begunBy := goodIn_r _ [18, 19, 20, 21, 22, 23, 98, 99, 100, 101] (by decide +kernel) (by decide +kernel)
set_option maxRecDepth 20000 in
theorem gX8_find_X5_begunBy : GoodIn wsX8_find (wsV RX8 52 RX5 yX5_begunBy wsX5_begunBy) := goodIn_app (goodIn_of _ (by decide +kernel)) ggX8_find_X5_begunBy
set_option maxRecDepth 20000 in
theorem ggX8_find_X8_numberFor : GoodIn wsX8_find wsX8_numberFor := goodIn_r _ [28, 3, 2, 5, 7, 87, 88, 89, 90, 91, 92, 93, 94, 95, 96, 97] (by decide +kernel) (by decide +kernel)
set_option maxRecDepth 20000 in
theorem gX8_find_X8_numberFor : GoodIn wsX8_find (wsV RX8 58 RX8 yX8_numberFor wsX8_numberFor) := goodIn_app (goodIn_of _ (by decide +kernel)) ggX8_find_X8_numberFor
set_option maxRecDepth 20000 in
theorem ggX8_find_X5_goOn : GoodIn wsX8_find wsX5_goOn := goodIn_r _ [32, 33, 34, 20, 21, 22, 23, 98, 99, 100, 101] (by decide +kernel) (by decide +kernel)
set_option maxRecDepth 20000 in
theorem gX8_find_X5_goOn : GoodIn wsX8_find (wsV RX8 62 RX5 yX5_goOn wsX5_goOn) := goodIn_app (goodIn_of _ (by decide +kernel)) ggX8_find_X5_goOn
set_option maxRecDepth 20000 in
theorem ggX8_find_X1_part : GoodIn wsX8_find wsX1_part := goodIn_r _ [39, 40, 41, 11, 12, 13, 42, 43, 44, 38, 45, 46, 47, 48, 49, 50, 51, 52, 53, 54, 55, 56, 57, 58, 59, 60, 61, 62, 63, 64, 65, 66, 67, 68, 102, 103, 104, 105] (by decide +kernel) (by decide +kernel)
set_option maxRecDepth 20000 in
theorem gX8_find_X1_part : GoodIn wsX8_find (wsV RX8 65 RX1 yX1_part wsX1_part) := goodIn_app (goodIn_of _ (by decide +kernel)) ggX8_find_X1_part
set_option maxRecDepth 20000 in
theorem ggX8_find_X8_findKnown : GoodIn wsX8_find wsX8_findKnown := goodIn_r _ [72, 73, 74, 75, 76, 77, 27, 78, 4, 2, 79, 80, 81, 82, 83, 84, 85, 86, 6, 21, 22, 23, 87, 88, 89, 90, 91, 92, 93, 94, 95, 96, 97] (by decide +kernel) (by decide +kernel)
set_option maxRecDepth 20000 in
theorem gX8_find_X8_findKnown : GoodIn wsX8_find (wsV RX8 72 RX8 yX8_findKnown wsX8_findKnown) := goodIn_app (goodIn_of _ (by decide +kernel)) ggX8_find_X8_findKnown
set_option maxRecDepth 20000 in
theorem ggX8_findKnown_X8_leadTogether : GoodIn wsX8_findKnown wsX8_leadTogether := goodIn_r _ [7, 8, 9, 10, 11, 12, 6, 13, 14, 15, 16, 17, 18, 19, 20, 21, 22, 23, 24, 25, 26, 27, 28, 29, 30, 31, 32] (by decide +kernel) (by decide +kernel)
set_option maxRecDepth 20000 in
theorem gX8_findKnown_X8_leadTogether : GoodIn wsX8_findKnown (wsV RX8 78 RX8 yX8_leadTogether wsX8_leadTogether) := goodIn_app (goodIn_of _ (by decide +kernel)) ggX8_findKnown_X8_leadTogether
set_option maxRecDepth 20000 in
theorem ggX8_leadTogether_X8_behind : GoodIn wsX8_leadTogether wsX8_behind := goodIn_r _ [7, 1, 8, 9, 10, 6, 11, 2, 12, 13, 14, 15, 16, 17, 18, 19, 20, 21, 22, 23, 24, 25, 26] (by decide +kernel) (by decide +kernel)
set_option maxRecDepth 20000 in
theorem gX8_leadTogether_X8_behind : GoodIn wsX8_leadTogether (wsV RX8 82 RX8 yX8_behind wsX8_behind) := goodIn_app (goodIn_of _ (by decide +kernel)) ggX8_leadTogether_X8_behind
set_option maxRecDepth 20000 in
theorem ggX8_behind_X8_within : GoodIn wsX8_behind wsX8_within := goodIn_r _ [6, 7, 8, 9, 10, 11, 12, 13, 14, 15, 16, 17, 18, 19, 20, 21, 22] (by decide +kernel) (by decide +kernel)
set_option maxRecDepth 20000 in
theorem gX8_behind_X8_within : GoodIn wsX8_behind (wsV RX8 85 RX8 yX8_within wsX8_within) := goodIn_app (goodIn_of _ (by decide +kernel)) ggX8_behind_X8_within
set_option maxRecDepth 20000 in
theorem ggX8_within_X9_isClass : GoodIn wsX8_within wsX9_isClass := goodIn_r _ [5] (by decide +kernel) (by decide +kernel)
set_option maxRecDepth 20000 in
theorem gX8_within_X9_isClass_n88 : GoodIn wsX8_within (wsX9_isClass) := ggX8_within_X9_isClass
set_option maxRecDepth 20000 in
theorem ggX8_isKnown_X9_isClass : GoodIn wsX8_isKnown wsX9_isClass := goodIn_r _ [4] (by decide +kernel) (by decide +kernel)
set_option maxRecDepth 20000 in
theorem gX8_isKnown_X9_isClass_n88 : GoodIn wsX8_isKnown (wsX9_isClass) := ggX8_isKnown_X9_isClass
set_option maxRecDepth 20000 in
theorem ggX8_areAlike_X9_isClass : GoodIn wsX8_areAlike wsX9_isClass := goodIn_r _ [5] (by decide +kernel) (by decide +kernel)
set_option maxRecDepth 20000 in
theorem gX8_areAlike_X9_isClass_n88 : GoodIn wsX8_areAlike (wsX9_isClass) := ggX8_areAlike_X9_isClass
set_option maxRecDepth 20000 in
theorem ggX8_areAlike_X8_within : GoodIn wsX8_areAlike wsX8_within := goodIn_r _ [10, 2, 11, 3, 4, 5, 12, 13, 14, 15, 16, 17, 18, 19, 20, 21, 22] (by decide +kernel) (by decide +kernel)
set_option maxRecDepth 20000 in
theorem gX8_areAlike_X8_within : GoodIn wsX8_areAlike (wsV RX8 85 RX8 yX8_within wsX8_within) := goodIn_app (goodIn_of _ (by decide +kernel)) ggX8_areAlike_X8_within
