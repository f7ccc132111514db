set_option maxRecDepth 20000 in
theorem ggX0_note_X0_dropOldest : GoodIn wsX0_note wsX0_dropOldest := goodIn_r _ [9, 1, 2, 10, 11, 12, 13, 3, 4, 14, 15, 16, 17] (by decide +kernel) (by decide +kernel)
set_option maxRecDepth 20000 in
theorem gX0_note_X0_dropOldest : GoodIn wsX0_note (wsV RX0 25 RX0 yX0_dropOldest wsX0_dropOldest) := goodIn_app (goodIn_of _ (by decide +kernel)) ggX0_note_X0_dropOldest
set_option maxRecDepth 20000 in
theorem ggX0_takeBackFrom_X6_takeOut : GoodIn wsX0_takeBackFrom wsX6_takeOut := goodIn_r _ [9, 10, 11, 33, 34, 35, 36] (by decide +kernel) (by decide +kernel)
set_option maxRecDepth 20000 in
theorem gX0_takeBackFrom_X6_takeOut : GoodIn wsX0_takeBackFrom (wsV RX0 34 RX6 yX6_takeOut wsX6_takeOut) := goodIn_app (goodIn_of _ (by decide +kernel)) ggX0_takeBackFrom_X6_takeOut
set_option maxRecDepth 20000 in
theorem ggX0_takeBackFrom_X6_putIn : GoodIn wsX0_takeBackFrom wsX6_putIn := goodIn_r _ [15, 10, 11, 33, 34, 35, 36] (by decide +kernel) (by decide +kernel)
set_option maxRecDepth 20000 in
theorem gX0_takeBackFrom_X6_putIn : GoodIn wsX0_takeBackFrom (wsV RX0 40 RX6 yX6_putIn wsX6_putIn) := goodIn_app (goodIn_of _ (by decide +kernel)) ggX0_takeBackFrom_X6_putIn
set_option maxRecDepth 20000 in
theorem ggX0_takeBackFrom_X6_setClass : GoodIn wsX0_takeBackFrom wsX6_setClass := goodIn_r _ [19, 20, 21, 22, 23, 33, 34, 35, 36] (by decide +kernel) (by decide +kernel)
set_option maxRecDepth 20000 in
theorem gX0_takeBackFrom_X6_setClass : GoodIn wsX0_takeBackFrom (wsV RX0 44 RX6 yX6_setClass wsX6_setClass) := goodIn_app (goodIn_of _ (by decide +kernel)) ggX0_takeBackFrom_X6_setClass
set_option maxRecDepth 20000 in
theorem ggX0_takeBackFrom_X6_setKind : GoodIn wsX0_takeBackFrom wsX6_setKind := goodIn_r _ [27, 28, 33, 34, 35, 36] (by decide +kernel) (by decide +kernel)
set_option maxRecDepth 20000 in
theorem gX0_takeBackFrom_X6_setKind : GoodIn wsX0_takeBackFrom (wsV RX0 47 RX6 yX6_setKind wsX6_setKind) := goodIn_app (goodIn_of _ (by decide +kernel)) ggX0_takeBackFrom_X6_setKind
set_option maxRecDepth 20000 in
theorem ggX3_read_X6_length : GoodIn wsX3_read wsX6_length := goodIn_r _ [8, 9, 45, 46, 47, 48] (by decide +kernel) (by decide +kernel)
set_option maxRecDepth 20000 in
theorem gX3_read_X6_length : GoodIn wsX3_read (wsV RX3 15 RX6 yX6_length wsX6_length) := goodIn_app (goodIn_of _ (by decide +kernel)) ggX3_read_X6_length
set_option maxRecDepth 20000 in
theorem ggX3_read_X6_classAt : GoodIn wsX3_read wsX6_classAt := goodIn_r _ [13, 14, 15, 16, 7, 17, 9, 18, 19, 20, 21, 22, 23, 24, 25, 26, 45, 46, 47, 48] (by decide +kernel) (by decide +kernel)
set_option maxRecDepth 20000 in
theorem gX3_read_X6_classAt : GoodIn wsX3_read (wsV RX3 27 RX6 yX6_classAt wsX6_classAt) := goodIn_app (goodIn_of _ (by decide +kernel)) ggX3_read_X6_classAt
set_option maxRecDepth 20000 in
theorem ggX3_read_X5_goOn : GoodIn wsX3_read wsX5_goOn := goodIn_r _ [31, 32, 33, 34, 35, 25, 36, 49, 50, 51, 52] (by decide +kernel) (by decide +kernel)
set_option maxRecDepth 20000 in
theorem gX3_read_X5_goOn : GoodIn wsX3_read (wsV RX3 31 RX5 yX5_goOn wsX5_goOn) := goodIn_app (goodIn_of _ (by decide +kernel)) ggX3_read_X5_goOn
set_option maxRecDepth 20000 in
theorem ggX3_read_X5_begunBy : GoodIn wsX3_read wsX5_begunBy := goodIn_r _ [40, 41, 34, 35, 25, 36, 49, 50, 51, 52] (by decide +kernel) (by decide +kernel)
set_option maxRecDepth 20000 in
theorem gX3_read_X5_begunBy : GoodIn wsX3_read (wsV RX3 37 RX5 yX5_begunBy wsX5_begunBy) := goodIn_app (goodIn_of _ (by decide +kernel)) ggX3_read_X5_begunBy
set_option maxRecDepth 20000 in
theorem ggX3_number_J6_bitCount_0f7a4 : GoodIn wsX3_number wsJ6_bitCount_0f7a4 := goodIn_r _ [5, 6, 7, 8] (by decide +kernel) (by decide +kernel)
set_option maxRecDepth 20000 in
theorem gX3_number_J6_bitCount_0f7a4 : GoodIn wsX3_number (va_wsS RX3 40 yJ6_bitCount_0f7a4 wsJ6_bitCount_0f7a4) := goodIn_app (goodIn_of _ (by decide +kernel)) ggX3_number_J6_bitCount_0f7a4
set_option maxRecDepth 20000 in
theorem ggX4_init_X2_init : GoodIn wsX4_init wsX2_init := goodIn_r _ [15, 16, 2, 3, 4, 17, 18, 19, 20, 29, 30, 31, 32] (by decide +kernel) (by decide +kernel)
set_option maxRecDepth 20000 in
theorem gX4_init_X2_init_n29 : GoodIn wsX4_init (wsX2_init) := ggX4_init_X2_init
set_option maxRecDepth 20000 in
theorem ggX4_placesOf_X4_has : GoodIn wsX4_placesOf wsX4_has := goodIn_r _ [6, 7, 8, 9, 10, 11, 12, 13, 14, 15] (by decide +kernel) (by decide +kernel)
set_option maxRecDepth 20000 in
theorem gX4_placesOf_X4_has : GoodIn wsX4_placesOf (wsV RX4 41 RX4 yX4_has wsX4_has) := goodIn_app (goodIn_of _ (by decide +kernel)) ggX4_placesOf_X4_has
set_option maxRecDepth 20000 in
theorem ggX4_firstOf_X4_has : GoodIn wsX4_firstOf wsX4_has := goodIn_r _ [6, 7, 8, 9, 10, 11, 12, 13, 14, 15] (by decide +kernel) (by decide +kernel)
set_option maxRecDepth 20000 in
theorem gX4_firstOf_X4_has : GoodIn wsX4_firstOf (wsV RX4 41 RX4 yX4_has wsX4_has) := goodIn_app (goodIn_of _ (by decide +kernel)) ggX4_firstOf_X4_has
set_option maxRecDepth 20000 in
theorem ggX4_wholeOf_X4_has : GoodIn wsX4_wholeOf wsX4_has := goodIn_r _ [6, 7, 8, 9, 10, 11, 12, 13, 14, 15] (by decide +kernel) (by decide +kernel)
set_option maxRecDepth 20000 in
theorem gX4_wholeOf_X4_has : GoodIn wsX4_wholeOf (wsV RX4 41 RX4 yX4_has wsX4_has) := goodIn_app (goodIn_of _ (by decide +kernel)) ggX4_wholeOf_X4_has
set_option maxRecDepth 20000 in
theorem ggX4_takenAt_X4_hasPlace : GoodIn wsX4_takenAt wsX4_hasPlace := goodIn_r _ [6, 7, 8, 9, 10, 11, 12, 13, 14, 15] (by decide +kernel) (by decide +kernel)
set_option maxRecDepth 20000 in
theorem gX4_takenAt_X4_hasPlace : GoodIn wsX4_takenAt (wsV RX4 45 RX4 yX4_hasPlace wsX4_hasPlace) := goodIn_app (goodIn_of _ (by decide +kernel)) ggX4_takenAt_X4_hasPlace
set_option maxRecDepth 20000 in
theorem ggX4_behind_X4_hasPlace : GoodIn wsX4_behind wsX4_hasPlace := goodIn_r _ [6, 7, 8, 9, 10, 11, 12, 13, 14, 15] (by decide +kernel) (by decide +kernel)
set_option maxRecDepth 20000 in
theorem gX4_behind_X4_hasPlace : GoodIn wsX4_behind (wsV RX4 45 RX4 yX4_hasPlace wsX4_hasPlace) := goodIn_app (goodIn_of _ (by decide +kernel)) ggX4_behind_X4_hasPlace
set_option maxRecDepth 20000 in
theorem ggX4_add_X7_placesIn : GoodIn wsX4_add wsX7_placesIn := goodIn_r _ [11, 12, 13, 14, 10, 15, 16, 17, 18, 19, 20, 21, 22, 23, 85, 86, 87, 88] (by decide +kernel) (by decide +kernel)
set_option maxRecDepth 20000 in
theorem gX4_add_X7_placesIn : GoodIn wsX4_add (wsV RX4 48 RX7 yX7_placesIn wsX7_placesIn) := goodIn_app (goodIn_of _ (by decide +kernel)) ggX4_add_X7_placesIn
set_option maxRecDepth 20000 in
theorem ggX4_add_X2_clear : GoodIn wsX4_add wsX2_clear := goodIn_r _ [28, 29, 89, 90, 91, 92] (by decide +kernel) (by decide +kernel)
set_option maxRecDepth 20000 in
theorem gX4_add_X2_clear : GoodIn wsX4_add (wsV RX4 54 RX2 yX2_clear wsX2_clear) := goodIn_app (goodIn_of _ (by decide +kernel)) ggX4_add_X2_clear
set_option maxRecDepth 20000 in
theorem ggX4_add_X7_signAt : GoodIn wsX4_add wsX7_signAt := goodIn_r _ [15, 16, 17, 85, 86, 87, 88] (by decide +kernel) (by decide +kernel)
set_option maxRecDepth 20000 in
theorem gX4_add_X7_signAt : GoodIn wsX4_add (wsV RX4 57 RX7 yX7_signAt wsX7_signAt) := goodIn_app (goodIn_of _ (by decide +kernel)) ggX4_add_X7_signAt
set_option maxRecDepth 20000 in
theorem ggX4_add_X9_isClass : GoodIn wsX4_add wsX9_isClass := goodIn_r _ [23] (by decide +kernel) (by decide +kernel)
set_option maxRecDepth 20000 in
theorem gX4_add_X9_isClass_n61 : GoodIn wsX4_add (wsX9_isClass) := ggX4_add_X9_isClass
set_option maxRecDepth 20000 in
theorem ggX4_add_X4_addPlace : GoodIn wsX4_add wsX4_addPlace := goodIn_r _ [35, 36, 37, 3, 38, 39, 40, 27, 41, 29, 42, 43, 44, 77, 78, 79, 80, 81, 82, 83, 84, 89, 90, 91, 92] (by decide +kernel) (by decide +kernel)
set_option maxRecDepth 20000 in
theorem gX4_add_X4_addPlace : GoodIn wsX4_add (wsV RX4 64 RX4 yX4_addPlace wsX4_addPlace) := goodIn_app (goodIn_of _ (by decide +kernel)) ggX4_add_X4_addPlace
set_option maxRecDepth 20000 in
theorem ggX4_add_X4_join : GoodIn wsX4_add wsX4_join := goodIn_r _ [48, 3, 49, 50, 51, 27, 52, 29, 42, 53, 54, 55, 56, 43, 57, 58, 59, 60, 44, 61, 62, 63, 64, 65, 66, 67, 34, 68, 69, 70, 71, 72, 37, 38, 39, 40, 41, 73, 74, 75, 76, 77, 78, 79, 80, 81, 82, 83, 84, 89, 90, 91, 92] (by decide +kernel) (by decide +kernel)
set_option maxRecDepth 20000 in
theorem gX4_add_X4_join : GoodIn wsX4_add (wsV RX4 68 RX4 yX4_join wsX4_join) := goodIn_app (goodIn_of _ (by decide +kernel)) ggX4_add_X4_join
set_option maxRecDepth 20000 in
theorem ggX4_add_X2_first : GoodIn wsX4_add wsX2_first := goodIn_r _ [52, 29, 42, 89, 90, 91, 92] (by decide +kernel) (by decide +kernel)
set_option maxRecDepth 20000 in
theorem gX4_add_X2_first : GoodIn wsX4_add (wsV RX4 72 RX2 yX2_first wsX2_first) := goodIn_app (goodIn_of _ (by decide +kernel)) ggX4_add_X2_first
set_option maxRecDepth 20000 in
theorem ggX4_add_X2_last : GoodIn wsX4_add wsX2_last := goodIn_r _ [56, 29, 43, 89, 90, 91, 92] (by decide +kernel) (by decide +kernel)
set_option maxRecDepth 20000 in
theorem gX4_add_X2_last : GoodIn wsX4_add (wsV RX4 76 RX2 yX2_last wsX2_last) := goodIn_app (goodIn_of _ (by decide +kernel)) ggX4_add_X2_last
set_option maxRecDepth 20000 in
theorem ggX4_addPlace_X2_push : GoodIn wsX4_addPlace wsX2_push := goodIn_r _ [8, 9, 10, 11, 12, 21, 22, 23, 24] (by decide +kernel) (by decide +kernel)
set_option maxRecDepth 20000 in
theorem gX4_addPlace_X2_push : GoodIn wsX4_addPlace (wsV RX4 79 RX2 yX2_push wsX2_push) := goodIn_app (goodIn_of _ (by decide +kernel)) ggX4_addPlace_X2_push
set_option maxRecDepth 20000 in
theorem ggX4_join_X2_first : GoodIn wsX4_join wsX2_first := goodIn_r _ [6, 7, 8, 49, 50, 51, 52] (by decide +kernel) (by decide +kernel)
set_option maxRecDepth 20000 in
theorem gX4_join_X2_first : GoodIn wsX4_join (wsV RX4 72 RX2 yX2_first wsX2_first) := goodIn_app (goodIn_of _ (by decide +kernel)) ggX4_join_X2_first
set_option maxRecDepth 20000 in
theorem ggX4_join_X2_last : GoodIn wsX4_join wsX2_last := goodIn_r _ [12, 7, 13, 49, 50, 51, 52] (by decide +kernel) (by decide +kernel)
set_option maxRecDepth 20000 in
theorem gX4_join_X2_last : GoodIn wsX4_join (wsV RX4 76 RX2 yX2_last wsX2_last) := goodIn_app (goodIn_of _ (by decide +kernel)) ggX4_join_X2_last
set_option maxRecDepth 20000 in
theorem ggX4_join_X2_mayLack : GoodIn wsX4_join wsX2_mayLack := goodIn_r _ [17, 7, 18, 49, 50, 51, 52] (by decide +kernel) (by decide +kernel)
set_option maxRecDepth 20000 in
theorem gX4_join_X2_mayLack : GoodIn wsX4_join (wsV RX4 83 RX2 yX2_mayLack wsX2_mayLack) := goodIn_app (goodIn_of _ (by decide +kernel)) ggX4_join_X2_mayLack
set_option maxRecDepth 20000 in
theorem ggX4_join_X2_pop : GoodIn wsX4_join wsX2_pop := goodIn_r _ [22, 7, 49, 50, 51, 52] (by decide +kernel) (by decide +kernel)
set_option maxRecDepth 20000 in
theorem gX4_join_X2_pop : GoodIn wsX4_join (wsV RX4 87 RX2 yX2_pop wsX2_pop) := goodIn_app (goodIn_of _ (by decide +kernel)) ggX4_join_X2_pop
set_option maxRecDepth 20000 in
theorem ggX4_join_X4_joinNext : GoodIn wsX4_join wsX4_joinNext := goodIn_r _ [27, 1, 2, 3, 4, 5, 6, 7, 8, 9, 10, 11, 12, 13, 14, 15, 16, 17, 18, 19, 20, 21, 22, 28, 29, 30, 26, 31, 32, 33, 34, 35, 36, 41, 42, 43, 44, 45, 46, 47, 48, 49, 50, 51, 52] (by decide +kernel) (by decide +kernel)
set_option maxRecDepth 20000 in
theorem gX4_join_X4_joinNext : GoodIn wsX4_join (wsV RX4 90 RX4 yX4_joinNext wsX4_joinNext) := goodIn_app (goodIn_of _ (by decide +kernel)) ggX4_join_X4_joinNext
set_option maxRecDepth 20000 in
theorem ggX4_join_X4_joinOther : GoodIn wsX4_join wsX4_joinOther := goodIn_r _ [40, 1, 2, 3, 4, 5, 6, 7, 8, 9, 10, 11, 12, 13, 14, 15, 16, 17, 18, 19, 20, 21, 22, 33, 34, 35, 36, 41, 42, 43, 44, 45, 46, 47, 48, 49, 50, 51, 52] (by decide +kernel) (by decide +kernel)
set_option maxRecDepth 20000 in
theorem gX4_join_X4_joinOther : GoodIn wsX4_join (wsV RX4 93 RX4 yX4_joinOther wsX4_joinOther) := goodIn_app (goodIn_of _ (by decide +kernel)) ggX4_join_X4_joinOther
set_option maxRecDepth 20000 in
theorem ggX4_join_X2_push : GoodIn wsX4_join wsX2_push := goodIn_r _ [36, 7, 8, 13, 18, 49, 50, 51, 52] (by decide +kernel) (by decide +kernel)
set_option maxRecDepth 20000 in
theorem gX4_join_X2_push : GoodIn wsX4_join (wsV RX4 79 RX2 yX2_push wsX2_push) := goodIn_app (goodIn_of _ (by decide +kernel)) ggX4_join_X2_push
set_option maxRecDepth 20000 in
theorem ggX4_join_X4_goOn : GoodIn wsX4_join wsX4_goOn := goodIn_r _ [31, 32, 41, 42, 43, 44, 45, 46, 47, 48] (by decide +kernel) (by decide +kernel)
set_option maxRecDepth 20000 in
theorem gX4_join_X4_goOn : GoodIn wsX4_join (wsV RX4 96 RX4 yX4_goOn wsX4_goOn) := goodIn_app (goodIn_of _ (by decide +kernel)) ggX4_join_X4_goOn
set_option maxRecDepth 20000 in
theorem ggX4_joinNext_X2_first : GoodIn wsX4_joinNext wsX2_first := goodIn_r _ [6, 7, 8, 41, 42, 43, 44] (by decide +kernel) (by decide +kernel)
set_option maxRecDepth 20000 in
theorem gX4_joinNext_X2_first : GoodIn wsX4_joinNext (wsV RX4 72 RX2 yX2_first wsX2_first) := goodIn_app (goodIn_of _ (by decide +kernel)) ggX4_joinNext_X2_first
set_option maxRecDepth 20000 in
theorem ggX4_joinNext_X2_last : GoodIn wsX4_joinNext wsX2_last := goodIn_r _ [12, 7, 13, 41, 42, 43, 44] (by decide +kernel) (by decide +kernel)
set_option maxRecDepth 20000 in
theorem gX4_joinNext_X2_last : GoodIn wsX4_joinNext (wsV RX4 76 RX2 yX2_last wsX2_last) := goodIn_app (goodIn_of _ (by decide +kernel)) ggX4_joinNext_X2_last
set_option maxRecDepth 20000 in
theorem ggX4_joinNext_X2_mayLack : GoodIn wsX4_joinNext wsX2_mayLack := goodIn_r _ [17, 7, 18, 41, 42, 43, 44] (by decide +kernel) (by decide +kernel)
set_option maxRecDepth 20000 in
theorem gX4_joinNext_X2_mayLack : GoodIn wsX4_joinNext (wsV RX4 83 RX2 yX2_mayLack wsX2_mayLack) := goodIn_app (goodIn_of _ (by decide +kernel)) ggX4_joinNext_X2_mayLack
set_option maxRecDepth 20000 in
theorem ggX4_joinNext_X2_pop : GoodIn wsX4_joinNext wsX2_pop := goodIn_r _ [22, 7, 41, 42, 43, 44] (by decide +kernel) (by decide +kernel)
set_option maxRecDepth 20000 in
theorem gX4_joinNext_X2_pop : GoodIn wsX4_joinNext (wsV RX4 87 RX2 yX2_pop wsX2_pop) := goodIn_app (goodIn_of _ (by decide +kernel)) ggX4_joinNext_X2_pop
set_option maxRecDepth 20000 in
theorem ggX4_joinNext_X4_goOn : GoodIn wsX4_joinNext wsX4_goOn := goodIn_r _ [27, 28, 33, 34, 35, 36, 37, 38, 39, 40] (by decide +kernel) (by decide +kernel)
set_option maxRecDepth 20000 in
theorem gX4_joinNext_X4_goOn : GoodIn wsX4_joinNext (wsV RX4 96 RX4 yX4_goOn wsX4_goOn) := goodIn_app (goodIn_of _ (by decide +kernel)) ggX4_joinNext_X4_goOn
set_option maxRecDepth 20000 in
theorem ggX4_joinNext_X2_push : GoodIn wsX4_joinNext wsX2_push := goodIn_r _ [32, 7, 8, 13, 18, 41, 42, 43, 44] (by decide +kernel) (by decide +kernel)
set_option maxRecDepth 20000 in
theorem gX4_joinNext_X2_push : GoodIn wsX4_joinNext (wsV RX4 79 RX2 yX2_push wsX2_push) := goodIn_app (goodIn_of _ (by decide +kernel)) ggX4_joinNext_X2_push
set_option maxRecDepth 20000 in
theorem ggX4_joinOther_X2_first : GoodIn wsX4_joinOther wsX2_first := goodIn_r _ [6, 7, 8, 35, 36, 37, 38] (by decide +kernel) (by decide +kernel)
set_option maxRecDepth 20000 in
theorem gX4_joinOther_X2_first : GoodIn wsX4_joinOther (wsV RX4 72 RX2 yX2_first wsX2_first) := goodIn_app (goodIn_of _ (by decide +kernel)) ggX4_joinOther_X2_first
set_option maxRecDepth 20000 in
theorem ggX4_joinOther_X2_last : GoodIn wsX4_joinOther wsX2_last := goodIn_r _ [12, 7, 13, 35, 36, 37, 38] (by decide +kernel) (by decide +kernel)
set_option maxRecDepth 20000 in
theorem gX4_joinOther_X2_last : GoodIn wsX4_joinOther (wsV RX4 76 RX2 yX2_last wsX2_last) := goodIn_app (goodIn_of _ (by decide +kernel)) ggX4_joinOther_X2_last
set_option maxRecDepth 20000 in
theorem ggX4_joinOther_X2_mayLack : GoodIn wsX4_joinOther wsX2_mayLack := goodIn_r _ [17, 7, 18, 35, 36, 37, 38] (by decide +kernel) (by decide +kernel)
set_option maxRecDepth 20000 in
theorem gX4_joinOther_X2_mayLack : GoodIn wsX4_joinOther (wsV RX4 83 RX2 yX2_mayLack wsX2_mayLack) := goodIn_app (goodIn_of _ (by decide +kernel)) ggX4_joinOther_X2_mayLack
set_option maxRecDepth 20000 in
theorem ggX4_joinOther_X2_pop : GoodIn wsX4_joinOther wsX2_pop := goodIn_r _ [22, 7, 35, 36, 37, 38] (by decide +kernel) (by decide +kernel)
set_option maxRecDepth 20000 in
theorem gX4_joinOther_X2_pop : GoodIn wsX4_joinOther (wsV RX4 87 RX2 yX2_pop wsX2_pop) := goodIn_app (goodIn_of _ (by decide +kernel)) ggX4_joinOther_X2_pop
set_option maxRecDepth 20000 in
theorem ggX4_joinOther_X2_push : GoodIn wsX4_joinOther wsX2_push := goodIn_r _ [26, 7, 8, 13, 18, 35, 36, 37, 38] (by decide +kernel) (by decide +kernel)
set_option maxRecDepth 20000 in
theorem gX4_joinOther_X2_push : GoodIn wsX4_joinOther (wsV RX4 79 RX2 yX2_push wsX2_push) := goodIn_app (goodIn_of _ (by decide +kernel)) ggX4_joinOther_X2_push
set_option maxRecDepth 20000 in
theorem ggX5_make_X5_makeTakers : GoodIn wsX5_make wsX5_makeTakers := goodIn_r _ [8, 9, 10, 11, 12, 13, 14, 15, 16, 17, 18, 19, 20, 21, 22, 23, 24, 25, 26, 27, 28, 68, 69, 70, 71, 72, 73, 74, 75, 76, 77, 78, 79] (by decide +kernel) (by decide +kernel)
set_option maxRecDepth 20000 in
theorem gX5_make_X5_makeTakers : GoodIn wsX5_make (wsV RX5 18 RX5 yX5_makeTakers wsX5_makeTakers) := goodIn_app (goodIn_of _ (by decide +kernel)) ggX5_make_X5_makeTakers
set_option maxRecDepth 20000 in
theorem ggX5_make_J7_fill_53178 : GoodIn wsX5_make wsJ7_fill_53178 := goodIn_r _ [13] (by decide +kernel) (by decide +kernel)
set_option maxRecDepth 20000 in
theorem gX5_make_J7_fill_53178 : GoodIn wsX5_make (va_wsS RX5 22 yJ7_fill_53178 wsJ7_fill_53178) := goodIn_app (goodIn_of _ (by decide +kernel)) ggX5_make_J7_fill_53178
set_option maxRecDepth 20000 in
theorem ggX5_make_X4_number : GoodIn wsX5_make wsX4_number := goodIn_r _ [32, 33, 72, 73, 74, 75, 76, 77, 78, 79] (by decide +kernel) (by decide +kernel)
set_option maxRecDepth 20000 in
theorem gX5_make_X4_number : GoodIn wsX5_make (wsV RX5 35 RX4 yX4_number wsX4_number) := goodIn_app (goodIn_of _ (by decide +kernel)) ggX5_make_X4_number
set_option maxRecDepth 20000 in
theorem ggX5_make_X4_firstOf : GoodIn wsX5_make wsX4_firstOf := goodIn_r _ [37, 38, 39, 40, 41, 17, 42, 33, 72, 73, 74, 75, 76, 77, 78, 79] (by decide +kernel) (by decide +kernel)
set_option maxRecDepth 20000 in
theorem gX5_make_X4_firstOf : GoodIn wsX5_make (wsV RX5 41 RX4 yX4_firstOf wsX4_firstOf) := goodIn_app (goodIn_of _ (by decide +kernel)) ggX5_make_X4_firstOf
set_option maxRecDepth 20000 in
theorem ggX5_make_X6_kindOf : GoodIn wsX5_make wsX6_kindOf := goodIn_r _ [47, 48, 80, 81, 82, 83] (by decide +kernel) (by decide +kernel)
set_option maxRecDepth 20000 in
theorem gX5_make_X6_kindOf : GoodIn wsX5_make (wsV RX5 45 RX6 yX6_kindOf wsX6_kindOf) := goodIn_app (goodIn_of _ (by decide +kernel)) ggX5_make_X6_kindOf
set_option maxRecDepth 20000 in
theorem ggX5_make_X4_placesOf : GoodIn wsX5_make wsX4_placesOf := goodIn_r _ [52, 53, 39, 40, 41, 17, 42, 33, 72, 73, 74, 75, 76, 77, 78, 79] (by decide +kernel) (by decide +kernel)
set_option maxRecDepth 20000 in
theorem gX5_make_X4_placesOf : GoodIn wsX5_make (wsV RX5 50 RX4 yX4_placesOf wsX4_placesOf) := goodIn_app (goodIn_of _ (by decide +kernel)) ggX5_make_X4_placesOf
set_option maxRecDepth 20000 in
theorem ggX5_make_X4_wholeOf : GoodIn wsX5_make wsX4_wholeOf := goodIn_r _ [57, 58, 39, 40, 41, 17, 42, 33, 72, 73, 74, 75, 76, 77, 78, 79] (by decide +kernel) (by decide +kernel)
set_option maxRecDepth 20000 in
theorem gX5_make_X4_wholeOf : GoodIn wsX5_make (wsV RX5 53 RX4 yX4_wholeOf wsX4_wholeOf) := goodIn_app (goodIn_of _ (by decide +kernel)) ggX5_make_X4_wholeOf
set_option maxRecDepth 20000 in
theorem ggX5_make_X5_letGoOn : GoodIn wsX5_make wsX5_letGoOn := goodIn_r _ [62, 1, 63, 64, 65, 17, 66, 67, 25, 26, 27, 28, 19, 68, 69, 70, 71, 72, 73, 74, 75, 76, 77, 78, 79] (by decide +kernel) (by decide +kernel)
set_option maxRecDepth 20000 in
theorem gX5_make_X5_letGoOn : GoodIn wsX5_make (wsV RX5 56 RX5 yX5_letGoOn wsX5_letGoOn) := goodIn_app (goodIn_of _ (by decide +kernel)) ggX5_make_X5_letGoOn
set_option maxRecDepth 20000 in
theorem ggX5_makeTakers_J7_fill_53178 : GoodIn wsX5_makeTakers wsJ7_fill_53178 := goodIn_r _ [5] (by decide +kernel) (by decide +kernel)
set_option maxRecDepth 20000 in
theorem gX5_makeTakers_J7_fill_53178 : GoodIn wsX5_makeTakers (va_wsS RX5 22 yJ7_fill_53178 wsJ7_fill_53178) := goodIn_app (goodIn_of _ (by decide +kernel)) ggX5_makeTakers_J7_fill_53178
set_option maxRecDepth 20000 in
theorem ggX5_makeTakers_X4_placeNumber : GoodIn wsX5_makeTakers wsX4_placeNumber := goodIn_r _ [10, 11, 25, 26, 27, 28, 29, 30, 31, 32] (by decide +kernel) (by decide +kernel)
set_option maxRecDepth 20000 in
theorem gX5_makeTakers_X4_placeNumber : GoodIn wsX5_makeTakers (wsV RX5 60 RX4 yX4_placeNumber wsX4_placeNumber) := goodIn_app (goodIn_of _ (by decide +kernel)) ggX5_makeTakers_X4_placeNumber
set_option maxRecDepth 20000 in
theorem ggX5_makeTakers_X4_takenAt : GoodIn wsX5_makeTakers wsX4_takenAt := goodIn_r _ [15, 16, 17, 18, 19, 9, 20, 11, 25, 26, 27, 28, 29, 30, 31, 32] (by decide +kernel) (by decide +kernel)
set_option maxRecDepth 20000 in
theorem gX5_makeTakers_X4_takenAt : GoodIn wsX5_makeTakers (wsV RX5 63 RX4 yX4_takenAt wsX4_takenAt) := goodIn_app (goodIn_of _ (by decide +kernel)) ggX5_makeTakers_X4_takenAt
set_option maxRecDepth 20000 in
theorem ggX5_letGoOn_X4_behind : GoodIn wsX5_letGoOn wsX4_behind := goodIn_r _ [6, 7, 8, 9, 10, 5, 11, 12, 17, 18, 19, 20, 21, 22, 23, 24] (by decide +kernel) (by decide +kernel)
set_option maxRecDepth 20000 in
theorem gX5_letGoOn_X4_behind : GoodIn wsX5_letGoOn (wsV RX5 66 RX4 yX4_behind wsX4_behind) := goodIn_app (goodIn_of _ (by decide +kernel)) ggX5_letGoOn_X4_behind
set_option maxRecDepth 20000 in
theorem ggX5_begunBy_X9_isClass : GoodIn wsX5_begunBy wsX9_isClass := goodIn_r _ [5] (by decide +kernel) (by decide +kernel)
set_option maxRecDepth 20000 in
theorem gX5_begunBy_X9_isClass_n69 : GoodIn wsX5_begunBy (wsX9_isClass) := ggX5_begunBy_X9_isClass
set_option maxRecDepth 20000 in
theorem ggX5_goOn_X9_isClass : GoodIn wsX5_goOn wsX9_isClass := goodIn_r _ [6] (by decide +kernel) (by decide +kernel)
set_option maxRecDepth 20000 in
theorem gX5_goOn_X9_isClass_n69 : GoodIn wsX5_goOn (wsX9_isClass) := ggX5_goOn_X9_isClass
set_option maxRecDepth 20000 in
theorem ggX6_classOf_X9_isLetter : GoodIn wsX6_classOf wsX9_isLetter := goodIn_r _ [4] (by decide +kernel) (by decide +kernel)
set_option maxRecDepth 20000 in
theorem gX6_classOf_X9_isLetter_n25 : GoodIn wsX6_classOf (wsX9_isLetter) := ggX6_classOf_X9_isLetter
set_option maxRecDepth 20000 in
theorem ggX6_classAt_X6_letterAt : GoodIn wsX6_classAt wsX6_letterAt := goodIn_r _ [5, 6, 7, 16, 17, 18, 19] (by decide +kernel) (by decide +kernel)
set_option maxRecDepth 20000 in
theorem gX6_classAt_X6_letterAt : GoodIn wsX6_classAt (wsV RX6 29 RX6 yX6_letterAt wsX6_letterAt) := goodIn_app (goodIn_of _ (by decide +kernel)) ggX6_classAt_X6_letterAt
set_option maxRecDepth 20000 in
theorem ggX6_classAt_X6_classOf : GoodIn wsX6_classAt wsX6_classOf := goodIn_r _ [11, 12, 13, 14, 15, 16, 17, 18, 19] (by decide +kernel) (by decide +kernel)
set_option maxRecDepth 20000 in
theorem gX6_classAt_X6_classOf : GoodIn wsX6_classAt (wsV RX6 33 RX6 yX6_classOf wsX6_classOf) := goodIn_app (goodIn_of _ (by decide +kernel)) ggX6_classAt_X6_classOf
set_option maxRecDepth 20000 in
theorem ggX6_setClass_X9_isLetter : GoodIn wsX6_setClass wsX9_isLetter := goodIn_r _ [4] (by decide +kernel) (by decide +kernel)
set_option maxRecDepth 20000 in
theorem gX6_setClass_X9_isLetter_n25 : GoodIn wsX6_setClass (wsX9_isLetter) := ggX6_setClass_X9_isLetter
set_option maxRecDepth 20000 in
theorem ggX6_clear_J7_fill_53178 : GoodIn wsX6_clear wsJ7_fill_53178 := goodIn_r _ [7] (by decide +kernel) (by decide +kernel)
set_option maxRecDepth 20000 in
theorem gX6_clear_J7_fill_53178 : GoodIn wsX6_clear (va_wsS RX6 36 yJ7_fill_53178 wsJ7_fill_53178) := goodIn_app (goodIn_of _ (by decide +kernel)) ggX6_clear_J7_fill_53178
set_option maxRecDepth 20000 in
theorem ggX7_firstFault_X7_endOfItem : GoodIn wsX7_firstFault wsX7_endOfItem := goodIn_r _ [8, 3, 9, 10, 11, 7, 12, 13, 46, 47, 48, 49] (by decide +kernel) (by decide +kernel)
set_option maxRecDepth 20000 in
theorem gX7_firstFault_X7_endOfItem : GoodIn wsX7_firstFault (wsV RX7 25 RX7 yX7_endOfItem wsX7_endOfItem) := goodIn_app (goodIn_of _ (by decide +kernel)) ggX7_firstFault_X7_endOfItem
set_option maxRecDepth 20000 in
theorem ggX7_firstFault_X7_isItem : GoodIn wsX7_firstFault wsX7_isItem := goodIn_r _ [17, 9, 10, 11, 7, 12, 3, 13, 18, 19, 20, 21, 22, 23, 24, 25, 26, 27, 28, 29, 30, 31, 32, 1, 2, 33, 34, 35, 36, 37, 38, 39, 40, 41, 42, 43, 44, 45, 46, 47, 48, 49] (by decide +kernel) (by decide +kernel)
set_option maxRecDepth 20000 in
theorem gX7_firstFault_X7_isItem : GoodIn wsX7_firstFault (wsV RX7 29 RX7 yX7_isItem wsX7_isItem) := goodIn_app (goodIn_of _ (by decide +kernel)) ggX7_firstFault_X7_isItem
set_option maxRecDepth 20000 in
theorem ggX7_tellItem_X7_endOfItem : GoodIn wsX7_tellItem wsX7_endOfItem := goodIn_r _ [6, 1, 7, 8, 9, 5, 10, 11, 116, 117, 118, 119] (by decide +kernel) (by decide +kernel)
set_option maxRecDepth 20000 in
theorem gX7_tellItem_X7_endOfItem : GoodIn wsX7_tellItem (wsV RX7 25 RX7 yX7_endOfItem wsX7_endOfItem) := goodIn_app (goodIn_of _ (by decide +kernel)) ggX7_tellItem_X7_endOfItem
set_option maxRecDepth 20000 in
theorem ggX7_tellItem_X7_signAt : GoodIn wsX7_tellItem wsX7_signAt := goodIn_r _ [10, 1, 11, 116, 117, 118, 119] (by decide +kernel) (by decide +kernel)
set_option maxRecDepth 20000 in
theorem gX7_tellItem_X7_signAt : GoodIn wsX7_tellItem (wsV RX7 33 RX7 yX7_signAt wsX7_signAt) := goodIn_app (goodIn_of _ (by decide +kernel)) ggX7_tellItem_X7_signAt
set_option maxRecDepth 20000 in
theorem ggX7_tellItem_X6_setClass : GoodIn wsX7_tellItem wsX6_setClass := goodIn_r _ [16, 17, 18, 19, 20, 120, 121, 122, 123] (by decide +kernel) (by decide +kernel)
set_option maxRecDepth 20000 in
theorem gX7_tellItem_X6_setClass : GoodIn wsX7_tellItem (wsV RX7 36 RX6 yX6_setClass wsX6_setClass) := goodIn_app (goodIn_of _ (by decide +kernel)) ggX7_tellItem_X6_setClass
set_option maxRecDepth 20000 in
theorem ggX7_tellItem_X4_number : GoodIn wsX7_tellItem wsX4_number := goodIn_r _ [25, 26, 124, 125, 126, 127, 128, 129, 130, 131] (by decide +kernel) (by decide +kernel)
set_option maxRecDepth 20000 in
theorem gX7_tellItem_X4_number : GoodIn wsX7_tellItem (wsV RX7 42 RX4 yX4_number wsX4_number) := goodIn_app (goodIn_of _ (by decide +kernel)) ggX7_tellItem_X4_number
set_option maxRecDepth 20000 in
theorem ggX7_tellItem_X6_setKind : GoodIn wsX7_tellItem wsX6_setKind := goodIn_r _ [30, 31, 120, 121, 122, 123] (by decide +kernel) (by decide +kernel)
set_option maxRecDepth 20000 in
theorem gX7_tellItem_X6_setKind : GoodIn wsX7_tellItem (wsV RX7 48 RX6 yX6_setKind wsX6_setKind) := goodIn_app (goodIn_of _ (by decide +kernel)) ggX7_tellItem_X6_setKind
set_option maxRecDepth 20000 in
theorem ggX7_tellItem_X4_add : GoodIn wsX7_tellItem wsX4_add := goodIn_r _ [35, 26, 36, 37, 38, 39, 40, 41, 42, 43, 5, 44, 7, 8, 9, 10, 1, 11, 45, 46, 47, 48, 19, 49, 50, 51, 52, 53, 54, 55, 56, 57, 58, 59, 24, 60, 61, 62, 63, 64, 65, 66, 67, 68, 69, 70, 71, 72, 73, 74, 75, 76, 77, 78, 79, 80, 81, 82, 83, 84, 85, 86, 87, 88, 89, 90, 91, 92, 93, 94, 95, 96, 97, 98, 99, 100, 101, 124, 125, 126, 127, 128, 129, 130, 131, 116, 117, 118, 119, 132, 133, 134, 135] (by decide +kernel) (by decide +kernel)
set_option maxRecDepth 20000 in
theorem gX7_tellItem_X4_add : GoodIn wsX7_tellItem (wsV RX7 51 RX4 yX4_add wsX4_add) := goodIn_app (goodIn_of _ (by decide +kernel)) ggX7_tellItem_X4_add
set_option maxRecDepth 20000 in
theorem ggX7_tellItem_X6_clearLine : GoodIn wsX7_tellItem wsX6_clearLine := goodIn_r _ [105, 106, 120, 121, 122, 123] (by decide +kernel) (by decide +kernel)
set_option maxRecDepth 20000 in
theorem gX7_tellItem_X6_clearLine : GoodIn wsX7_tellItem (wsV RX7 55 RX6 yX6_clearLine wsX6_clearLine) := goodIn_app (goodIn_of _ (by decide +kernel)) ggX7_tellItem_X6_clearLine
set_option maxRecDepth 20000 in
theorem ggX7_tellItem_X6_length : GoodIn wsX7_tellItem wsX6_length := goodIn_r _ [110, 106, 120, 121, 122, 123] (by decide +kernel) (by decide +kernel)
set_option maxRecDepth 20000 in
theorem gX7_tellItem_X6_length : GoodIn wsX7_tellItem (wsV RX7 58 RX6 yX6_length wsX6_length) := goodIn_app (goodIn_of _ (by decide +kernel)) ggX7_tellItem_X6_length
set_option maxRecDepth 20000 in
theorem ggX7_tellItem_X6_putIn : GoodIn wsX7_tellItem wsX6_putIn := goodIn_r _ [114, 106, 115, 120, 121, 122, 123] (by decide +kernel) (by decide +kernel)
set_option maxRecDepth 20000 in
theorem gX7_tellItem_X6_putIn : GoodIn wsX7_tellItem (wsV RX7 60 RX6 yX6_putIn wsX6_putIn) := goodIn_app (goodIn_of _ (by decide +kernel)) ggX7_tellItem_X6_putIn
set_option maxRecDepth 20000 in
theorem ggX7_endOfItem_X7_signAt : GoodIn wsX7_endOfItem wsX7_signAt := goodIn_r _ [6, 1, 7, 8, 9, 10, 11] (by decide +kernel) (by decide +kernel)
set_option maxRecDepth 20000 in
theorem gX7_endOfItem_X7_signAt : GoodIn wsX7_endOfItem (wsV RX7 33 RX7 yX7_signAt wsX7_signAt) := goodIn_app (goodIn_of _ (by decide +kernel)) ggX7_endOfItem_X7_signAt
set_option maxRecDepth 20000 in
theorem ggX7_isItem_X7_signAt : GoodIn wsX7_isItem wsX7_signAt := goodIn_r _ [5, 6, 7, 38, 39, 40, 41] (by decide +kernel) (by decide +kernel)
set_option maxRecDepth 20000 in
theorem gX7_isItem_X7_signAt : GoodIn wsX7_isItem (wsV RX7 33 RX7 yX7_signAt wsX7_signAt) := goodIn_app (goodIn_of _ (by decide +kernel)) ggX7_isItem_X7_signAt
set_option maxRecDepth 20000 in
theorem ggX7_isItem_X7_hasFigure : GoodIn wsX7_isItem wsX7_hasFigure := goodIn_r _ [11, 1, 2, 3, 4, 5, 6, 7, 38, 39, 40, 41] (by decide +kernel) (by decide +kernel)
set_option maxRecDepth 20000 in
theorem gX7_isItem_X7_hasFigure : GoodIn wsX7_isItem (wsV RX7 63 RX7 yX7_hasFigure wsX7_hasFigure) := goodIn_app (goodIn_of _ (by decide +kernel)) ggX7_isItem_X7_hasFigure
set_option maxRecDepth 20000 in
theorem ggX7_isItem_X7_areLetters : GoodIn wsX7_isItem wsX7_areLetters := goodIn_r _ [15, 1, 2, 3, 4, 5, 6, 7, 16, 17, 18, 38, 39, 40, 41] (by decide +kernel) (by decide +kernel)
set_option maxRecDepth 20000 in
theorem gX7_isItem_X7_areLetters : GoodIn wsX7_isItem (wsV RX7 67 RX7 yX7_areLetters wsX7_areLetters) := goodIn_app (goodIn_of _ (by decide +kernel)) ggX7_isItem_X7_areLetters
set_option maxRecDepth 20000 in
theorem ggX7_isItem_X7_isNextRule : GoodIn wsX7_isItem wsX7_isNextRule := goodIn_r _ [22, 23, 24, 25, 26, 27, 4, 28, 1, 2, 3, 5, 6, 7, 29, 30, 31, 32, 17, 33, 34, 35, 36, 37, 38, 39, 40, 41] (by decide +kernel) (by decide +kernel)
set_option maxRecDepth 20000 in
theorem gX7_isItem_X7_isNextRule : GoodIn wsX7_isItem (wsV RX7 71 RX7 yX7_isNextRule wsX7_isNextRule) := goodIn_app (goodIn_of _ (by decide +kernel)) ggX7_isItem_X7_isNextRule
set_option maxRecDepth 20000 in
theorem ggX7_hasFigure_X7_signAt : GoodIn wsX7_hasFigure wsX7_signAt := goodIn_r _ [5, 6, 7, 8, 9, 10, 11] (by decide +kernel) (by decide +kernel)
set_option maxRecDepth 20000 in
theorem gX7_hasFigure_X7_signAt : GoodIn wsX7_hasFigure (wsV RX7 33 RX7 yX7_signAt wsX7_signAt) := goodIn_app (goodIn_of _ (by decide +kernel)) ggX7_hasFigure_X7_signAt
set_option maxRecDepth 20000 in
theorem ggX7_areLetters_X7_signAt : GoodIn wsX7_areLetters wsX7_signAt := goodIn_r _ [5, 6, 7, 11, 12, 13, 14] (by decide +kernel) (by decide +kernel)
set_option maxRecDepth 20000 in
theorem gX7_areLetters_X7_signAt : GoodIn wsX7_areLetters (wsV RX7 33 RX7 yX7_signAt wsX7_signAt) := goodIn_app (goodIn_of _ (by decide +kernel)) ggX7_areLetters_X7_signAt
set_option maxRecDepth 20000 in
theorem ggX7_areLetters_X9_isLetter : GoodIn wsX7_areLetters wsX9_isLetter := goodIn_r _ [10] (by decide +kernel) (by decide +kernel)
set_option maxRecDepth 20000 in
theorem gX7_areLetters_X9_isLetter_n74 : GoodIn wsX7_areLetters (wsX9_isLetter) := ggX7_areLetters_X9_isLetter
set_option maxRecDepth 20000 in
theorem ggX7_isNextRule_X7_isRow : GoodIn wsX7_isNextRule wsX7_isRow := goodIn_r _ [7, 8, 9, 10, 6, 11, 12, 13, 14, 15, 16, 17, 18, 19, 24, 25, 26, 27] (by decide +kernel) (by decide +kernel)
set_option maxRecDepth 20000 in
theorem gX7_isNextRule_X7_isRow : GoodIn wsX7_isNextRule (wsV RX7 78 RX7 yX7_isRow wsX7_isRow) := goodIn_app (goodIn_of _ (by decide +kernel)) ggX7_isNextRule_X7_isRow
set_option maxRecDepth 20000 in
theorem ggX7_isNextRule_X7_placesIn : GoodIn wsX7_isNextRule wsX7_placesIn := goodIn_r _ [23, 8, 9, 10, 6, 11, 12, 13, 14, 15, 16, 17, 18, 19, 24, 25, 26, 27] (by decide +kernel) (by decide +kernel)
set_option maxRecDepth 20000 in
theorem gX7_isNextRule_X7_placesIn : GoodIn wsX7_isNextRule (wsV RX7 81 RX7 yX7_placesIn wsX7_placesIn) := goodIn_app (goodIn_of _ (by decide +kernel)) ggX7_isNextRule_X7_placesIn
set_option maxRecDepth 20000 in
theorem ggX7_isRow_X7_signAt : GoodIn wsX7_isRow wsX7_signAt := goodIn_r _ [5, 6, 7, 14, 15, 16, 17] (by decide +kernel) (by decide +kernel)
set_option maxRecDepth 20000 in
theorem gX7_isRow_X7_signAt : GoodIn wsX7_isRow (wsV RX7 33 RX7 yX7_signAt wsX7_signAt) := goodIn_app (goodIn_of _ (by decide +kernel)) ggX7_isRow_X7_signAt
set_option maxRecDepth 20000 in
theorem ggX7_isRow_X7_partsOf : GoodIn wsX7_isRow wsX7_partsOf := goodIn_r _ [10, 11, 12, 13] (by decide +kernel) (by decide +kernel)
set_option maxRecDepth 20000 in
theorem gX7_isRow_X7_partsOf : GoodIn wsX7_isRow (va_wsS RX7 85 yX7_partsOf wsX7_partsOf) := goodIn_app (goodIn_of _ (by decide +kernel)) ggX7_isRow_X7_partsOf
set_option maxRecDepth 20000 in
theorem ggX7_placesIn_X7_signAt : GoodIn wsX7_placesIn wsX7_signAt := goodIn_r _ [5, 6, 7, 14, 15, 16, 17] (by decide +kernel) (by decide +kernel)
set_option maxRecDepth 20000 in
theorem gX7_placesIn_X7_signAt : GoodIn wsX7_placesIn (wsV RX7 33 RX7 yX7_signAt wsX7_signAt) := goodIn_app (goodIn_of _ (by decide +kernel)) ggX7_placesIn_X7_signAt
set_option maxRecDepth 20000 in
theorem ggX7_placesIn_X7_partsOf : GoodIn wsX7_placesIn wsX7_partsOf := goodIn_r _ [10, 11, 12, 13] (by decide +kernel) (by decide +kernel)
set_option maxRecDepth 20000 in
theorem gX7_placesIn_X7_partsOf : GoodIn wsX7_placesIn (va_wsS RX7 85 yX7_partsOf wsX7_partsOf) := goodIn_app (goodIn_of _ (by decide +kernel)) ggX7_placesIn_X7_partsOf
set_option maxRecDepth 20000 in
theorem ggX7_partsOf_X9_isClass : GoodIn wsX7_partsOf wsX9_isClass := goodIn_r _ [3] (by decide +kernel) (by decide +kernel)
set_option maxRecDepth 20000 in
theorem gX7_partsOf_X9_isClass_n88 : GoodIn wsX7_partsOf (wsX9_isClass) := ggX7_partsOf_X9_isClass
set_option maxRecDepth 20000 in
theorem ggX8_init_X1_init : GoodIn wsX8_init wsX1_init := goodIn_r _ [17, 18, 2, 3, 4, 19, 20, 21, 22, 34, 35, 36, 37] (by decide +kernel) (by decide +kernel)
set_option maxRecDepth 20000 in
theorem gX8_init_X1_init_n33 : GoodIn wsX8_init (wsX1_init) := ggX8_init_X1_init
