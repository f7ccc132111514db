set_option maxRecDepth 20000 in
theorem ggX10_init_X10_begins : GoodIn wsX10_init wsX10_begins := goodIn_r _ [31, 32, 33, 11, 90, 91, 92, 93, 94, 95, 96, 97, 98, 99, 100, 101, 102, 103, 104, 105, 106, 107, 108, 109, 110, 111, 112, 113, 114, 115, 116, 117, 118, 119, 120, 121, 122] (by decide +kernel) (by decide +kernel)
set_option maxRecDepth 20000 in
theorem gX10_init_X10_begins : GoodIn wsX10_init (wsV RX10 72 RX10 yX10_begins wsX10_begins) := goodIn_app (goodIn_of _ (by decide +kernel)) ggX10_init_X10_begins
set_option maxRecDepth 20000 in
theorem ggX10_init_X10_rowBegins : GoodIn wsX10_init wsX10_rowBegins := goodIn_r _ [37, 38, 90, 91, 92, 93, 94, 95, 96, 97, 98, 99, 100, 101, 102, 103, 104, 105, 106, 107, 108, 109, 110, 111, 112, 113, 114, 115, 116, 117, 118, 119, 120, 121, 122] (by decide +kernel) (by decide +kernel)
set_option maxRecDepth 20000 in
theorem gX10_init_X10_rowBegins : GoodIn wsX10_init (wsV RX10 75 RX10 yX10_rowBegins wsX10_rowBegins) := goodIn_app (goodIn_of _ (by decide +kernel)) ggX10_init_X10_rowBegins
set_option maxRecDepth 20000 in
theorem ggX10_init_X10_atom : GoodIn wsX10_init wsX10_atom := goodIn_r _ [42, 33, 9, 10, 15, 38, 16, 18, 90, 91, 92, 93, 94, 95, 96, 97, 98, 99, 100, 101, 102, 103, 104, 105, 106, 107, 108, 109, 110, 111, 112, 113, 114, 115, 116, 117, 118, 119, 120, 121, 122] (by decide +kernel) (by decide +kernel)
set_option maxRecDepth 20000 in
theorem gX10_init_X10_atom : GoodIn wsX10_init (wsV RX10 78 RX10 yX10_atom wsX10_atom) := goodIn_app (goodIn_of _ (by decide +kernel)) ggX10_init_X10_atom
set_option maxRecDepth 20000 in
theorem ggX10_init_X10_maybe : GoodIn wsX10_init wsX10_maybe := goodIn_r _ [46, 18, 38, 90, 91, 92, 93, 94, 95, 96, 97, 98, 99, 100, 101, 102, 103, 104, 105, 106, 107, 108, 109, 110, 111, 112, 113, 114, 115, 116, 117, 118, 119, 120, 121, 122] (by decide +kernel) (by decide +kernel)
set_option maxRecDepth 20000 in
theorem gX10_init_X10_maybe : GoodIn wsX10_init (wsV RX10 82 RX10 yX10_maybe wsX10_maybe) := goodIn_app (goodIn_of _ (by decide +kernel)) ggX10_init_X10_maybe
set_option maxRecDepth 20000 in
theorem ggX10_init_X10_again : GoodIn wsX10_init wsX10_again := goodIn_r _ [50, 16, 38, 15, 51, 52, 53, 30, 54, 10, 55, 56, 57, 90, 91, 92, 93, 94, 95, 96, 97, 98, 99, 100, 101, 102, 103, 104, 105, 106, 107, 108, 109, 110, 111, 112, 113, 114, 115, 116, 117, 118, 119, 120, 121, 122] (by decide +kernel) (by decide +kernel)
set_option maxRecDepth 20000 in
theorem gX10_init_X10_again : GoodIn wsX10_init (wsV RX10 85 RX10 yX10_again wsX10_again) := goodIn_app (goodIn_of _ (by decide +kernel)) ggX10_init_X10_again
set_option maxRecDepth 20000 in
theorem ggX10_init_X10_both : GoodIn wsX10_init wsX10_both := goodIn_r _ [61, 38, 16, 15, 18, 51, 52, 53, 30, 54, 10, 55, 56, 57, 90, 91, 92, 93, 94, 95, 96, 97, 98, 99, 100, 101, 102, 103, 104, 105, 106, 107, 108, 109, 110, 111, 112, 113, 114, 115, 116, 117, 118, 119, 120, 121, 122] (by decide +kernel) (by decide +kernel)
set_option maxRecDepth 20000 in
theorem gX10_init_X10_both : GoodIn wsX10_init (wsV RX10 88 RX10 yX10_both wsX10_both) := goodIn_app (goodIn_of _ (by decide +kernel)) ggX10_init_X10_both
set_option maxRecDepth 20000 in
theorem ggX10_init_X10_ends : GoodIn wsX10_init wsX10_ends := goodIn_r _ [65, 8, 32, 15, 16, 33, 11, 90, 91, 92, 93, 94, 95, 96, 97, 98, 99, 100, 101, 102, 103, 104, 105, 106, 107, 108, 109, 110, 111, 112, 113, 114, 115, 116, 117, 118, 119, 120, 121, 122] (by decide +kernel) (by decide +kernel)
set_option maxRecDepth 20000 in
theorem gX10_init_X10_ends : GoodIn wsX10_init (wsV RX10 91 RX10 yX10_ends wsX10_ends) := goodIn_app (goodIn_of _ (by decide +kernel)) ggX10_init_X10_ends
set_option maxRecDepth 20000 in
theorem ggX10_init_X10_either : GoodIn wsX10_init wsX10_either := goodIn_r _ [69, 38, 15, 16, 18, 90, 91, 92, 93, 94, 95, 96, 97, 98, 99, 100, 101, 102, 103, 104, 105, 106, 107, 108, 109, 110, 111, 112, 113, 114, 115, 116, 117, 118, 119, 120, 121, 122] (by decide +kernel) (by decide +kernel)
set_option maxRecDepth 20000 in
theorem gX10_init_X10_either : GoodIn wsX10_init (wsV RX10 94 RX10 yX10_either wsX10_either) := goodIn_app (goodIn_of _ (by decide +kernel)) ggX10_init_X10_either
set_option maxRecDepth 20000 in
theorem ggX10_init_X10_any : GoodIn wsX10_init wsX10_any := goodIn_r _ [73, 47, 48, 49, 30, 50, 16, 38, 15, 51, 52, 53, 54, 10, 55, 56, 57, 43, 44, 45, 46, 18, 90, 91, 92, 93, 94, 95, 96, 97, 98, 99, 100, 101, 102, 103, 104, 105, 106, 107, 108, 109, 110, 111, 112, 113, 114, 115, 116, 117, 118, 119, 120, 121, 122] (by decide +kernel) (by decide +kernel)
set_option maxRecDepth 20000 in
theorem gX10_init_X10_any : GoodIn wsX10_init (wsV RX10 97 RX10 yX10_any wsX10_any) := goodIn_app (goodIn_of _ (by decide +kernel)) ggX10_init_X10_any
set_option maxRecDepth 20000 in
theorem ggX10_init_X10_letters : GoodIn wsX10_init wsX10_letters := goodIn_r _ [77, 78, 79, 80, 30, 81, 11, 90, 91, 92, 93, 94, 95, 96, 97, 98, 99, 100, 101, 102, 103, 104, 105, 106, 107, 108, 109, 110, 111, 112, 113, 114, 115, 116, 117, 118, 119, 120, 121, 122] (by decide +kernel) (by decide +kernel)
set_option maxRecDepth 20000 in
theorem gX10_init_X10_letters : GoodIn wsX10_init (wsV RX10 100 RX10 yX10_letters wsX10_letters) := goodIn_app (goodIn_of _ (by decide +kernel)) ggX10_init_X10_letters
set_option maxRecDepth 20000 in
theorem ggX10_init_X10_settles : GoodIn wsX10_init wsX10_settles := goodIn_r _ [85, 32, 86, 33, 87, 5, 8, 6, 9, 7, 10, 12, 11, 88, 89, 90, 91, 92, 93, 94, 95, 96, 97, 98, 99, 100, 101, 102, 103, 104, 105, 106, 107, 108, 109, 110, 111, 112, 113, 114, 115, 116, 117, 118, 119, 120, 121, 122] (by decide +kernel) (by decide +kernel)
set_option maxRecDepth 20000 in
theorem gX10_init_X10_settles : GoodIn wsX10_init (wsV RX10 104 RX10 yX10_settles wsX10_settles) := goodIn_app (goodIn_of _ (by decide +kernel)) ggX10_init_X10_settles
set_option maxRecDepth 20000 in
theorem ggX10_letters_X10_addsLetter : GoodIn wsX10_letters wsX10_addsLetter := goodIn_r _ [5, 6, 7, 8, 9, 10, 11, 12, 13, 14, 15, 16, 17, 18, 19, 20, 21, 22, 23, 24, 25, 26, 27, 28, 29, 30, 31, 32, 33, 34, 35, 36, 37, 38, 39] (by decide +kernel) (by decide +kernel)
set_option maxRecDepth 20000 in
theorem gX10_letters_X10_addsLetter : GoodIn wsX10_letters (wsV RX10 114 RX10 yX10_addsLetter wsX10_addsLetter) := goodIn_app (goodIn_of _ (by decide +kernel)) ggX10_letters_X10_addsLetter
set_option maxRecDepth 20000 in
theorem ggX10_follows_X10_has : GoodIn wsX10_follows wsX10_has := goodIn_r _ [5] (by decide +kernel) (by decide +kernel)
set_option maxRecDepth 20000 in
theorem gX10_follows_X10_has : GoodIn wsX10_follows (va_wsS RX10 133 yX10_has wsX10_has) := goodIn_app (goodIn_of _ (by decide +kernel)) ggX10_follows_X10_has
set_option maxRecDepth 20000 in
theorem ggX10_both_X10_follows : GoodIn wsX10_both wsX10_follows := goodIn_r _ [9, 10, 11, 12, 8, 13, 14, 15, 16, 17, 18, 19, 20, 21, 22, 23, 24, 25, 26, 27, 28, 29, 30, 31, 32, 33, 34, 35, 36, 37, 38, 39, 40, 41, 42, 43, 44, 45, 46] (by decide +kernel) (by decide +kernel)
set_option maxRecDepth 20000 in
theorem gX10_both_X10_follows : GoodIn wsX10_both (wsV RX10 137 RX10 yX10_follows wsX10_follows) := goodIn_app (goodIn_of _ (by decide +kernel)) ggX10_both_X10_follows
set_option maxRecDepth 20000 in
theorem ggX10_again_X10_follows : GoodIn wsX10_again wsX10_follows := goodIn_r _ [8, 9, 10, 11, 7, 12, 13, 14, 15, 16, 17, 18, 19, 20, 21, 22, 23, 24, 25, 26, 27, 28, 29, 30, 31, 32, 33, 34, 35, 36, 37, 38, 39, 40, 41, 42, 43, 44, 45] (by decide +kernel) (by decide +kernel)
set_option maxRecDepth 20000 in
theorem gX10_again_X10_follows : GoodIn wsX10_again (wsV RX10 137 RX10 yX10_follows wsX10_follows) := goodIn_app (goodIn_of _ (by decide +kernel)) ggX10_again_X10_follows
set_option maxRecDepth 20000 in
theorem ggX10_any_X10_again : GoodIn wsX10_any wsX10_again := goodIn_r _ [5, 6, 7, 8, 9, 10, 11, 4, 12, 13, 14, 15, 16, 22, 23, 24, 25, 26, 27, 28, 29, 30, 31, 32, 33, 34, 35, 36, 37, 38, 39, 40, 41, 42, 43, 44, 45, 46, 47, 48, 49, 50, 51, 52, 53, 54] (by decide +kernel) (by decide +kernel)
set_option maxRecDepth 20000 in
theorem gX10_any_X10_again : GoodIn wsX10_any (wsV RX10 85 RX10 yX10_again wsX10_again) := goodIn_app (goodIn_of _ (by decide +kernel)) ggX10_any_X10_again
set_option maxRecDepth 20000 in
theorem ggX10_any_X10_maybe : GoodIn wsX10_any wsX10_maybe := goodIn_r _ [20, 21, 7, 22, 23, 24, 25, 26, 27, 28, 29, 30, 31, 32, 33, 34, 35, 36, 37, 38, 39, 40, 41, 42, 43, 44, 45, 46, 47, 48, 49, 50, 51, 52, 53, 54] (by decide +kernel) (by decide +kernel)
set_option maxRecDepth 20000 in
theorem gX10_any_X10_maybe : GoodIn wsX10_any (wsV RX10 82 RX10 yX10_maybe wsX10_maybe) := goodIn_app (goodIn_of _ (by decide +kernel)) ggX10_any_X10_maybe
set_option maxRecDepth 20000 in
theorem ggX10_write_X10_in : GoodIn wsX10_write wsX10_in := goodIn_r _ [8] (by decide +kernel) (by decide +kernel)
set_option maxRecDepth 20000 in
theorem gX10_write_X10_in : GoodIn wsX10_write (va_wsS RX10 144 yX10_in wsX10_in) := goodIn_app (goodIn_of _ (by decide +kernel)) ggX10_write_X10_in
set_option maxRecDepth 20000 in
theorem ggX10_figure_X10_letterAt : GoodIn wsX10_figure wsX10_letterAt := goodIn_r _ [9, 10, 11, 15, 16, 17, 18, 19, 20, 21, 22, 23, 24, 25, 26, 27, 28, 29, 30, 31, 32, 33, 34, 35, 36, 37, 38, 39, 40, 41, 42, 43, 44, 45, 46, 47] (by decide +kernel) (by decide +kernel)
set_option maxRecDepth 20000 in
theorem gX10_figure_X10_letterAt : GoodIn wsX10_figure (wsV RX10 154 RX10 yX10_letterAt wsX10_letterAt) := goodIn_app (goodIn_of _ (by decide +kernel)) ggX10_figure_X10_letterAt
set_option maxRecDepth 20000 in
theorem ggX10_figure_X10_in : GoodIn wsX10_figure wsX10_in := goodIn_r _ [14] (by decide +kernel) (by decide +kernel)
set_option maxRecDepth 20000 in
theorem gX10_figure_X10_in : GoodIn wsX10_figure (va_wsS RX10 144 yX10_in wsX10_in) := goodIn_app (goodIn_of _ (by decide +kernel)) ggX10_figure_X10_in
set_option maxRecDepth 20000 in
theorem ggX10_comma_X10_letterAt : GoodIn wsX10_comma wsX10_letterAt := goodIn_r _ [7, 8, 9, 10, 11, 12, 13, 14, 15, 16, 17, 18, 19, 20, 21, 22, 23, 24, 25, 26, 27, 28, 29, 30, 31, 32, 33, 34, 35, 36, 37, 38, 39, 40, 41, 42] (by decide +kernel) (by decide +kernel)
set_option maxRecDepth 20000 in
theorem gX10_comma_X10_letterAt : GoodIn wsX10_comma (wsV RX10 154 RX10 yX10_letterAt wsX10_letterAt) := goodIn_app (goodIn_of _ (by decide +kernel)) ggX10_comma_X10_letterAt
set_option maxRecDepth 20000 in
theorem ggX10_isLetter_X10_letterAt : GoodIn wsX10_isLetter wsX10_letterAt := goodIn_r _ [8, 9, 10, 14, 15, 16, 17, 18, 19, 20, 21, 22, 23, 24, 25, 26, 27, 28, 29, 30, 31, 32, 33, 34, 35, 36, 37, 38, 39, 40, 41, 42, 43, 44, 45, 46] (by decide +kernel) (by decide +kernel)
set_option maxRecDepth 20000 in
theorem gX10_isLetter_X10_letterAt : GoodIn wsX10_isLetter (wsV RX10 154 RX10 yX10_letterAt wsX10_letterAt) := goodIn_app (goodIn_of _ (by decide +kernel)) ggX10_isLetter_X10_letterAt
set_option maxRecDepth 20000 in
theorem ggX10_isLetter_X10_in : GoodIn wsX10_isLetter wsX10_in := goodIn_r _ [13] (by decide +kernel) (by decide +kernel)
set_option maxRecDepth 20000 in
theorem gX10_isLetter_X10_in : GoodIn wsX10_isLetter (va_wsS RX10 144 yX10_in wsX10_in) := goodIn_app (goodIn_of _ (by decide +kernel)) ggX10_isLetter_X10_in
set_option maxRecDepth 20000 in
theorem ggX10_classItem_X10_figure : GoodIn wsX10_classItem wsX10_figure := goodIn_r _ [8, 3, 1, 9, 10, 11, 12, 13, 7, 14, 15, 16, 17, 18, 19, 30, 31, 32, 33, 34, 35, 36, 37, 38, 39, 40, 41, 42, 43, 44, 45, 46, 47, 48, 49, 50, 51, 52, 53, 54, 55, 56, 57, 58, 59, 60, 61, 62] (by decide +kernel) (by decide +kernel)
set_option maxRecDepth 20000 in
theorem gX10_classItem_X10_figure : GoodIn wsX10_classItem (wsV RX10 170 RX10 yX10_figure wsX10_figure) := goodIn_app (goodIn_of _ (by decide +kernel)) ggX10_classItem_X10_figure
set_option maxRecDepth 20000 in
theorem ggX10_classItem_X10_comma : GoodIn wsX10_classItem wsX10_comma := goodIn_r _ [23, 1, 3, 11, 12, 13, 7, 14, 15, 16, 30, 31, 32, 33, 34, 35, 36, 37, 38, 39, 40, 41, 42, 43, 44, 45, 46, 47, 48, 49, 50, 51, 52, 53, 54, 55, 56, 57, 58, 59, 60, 61, 62] (by decide +kernel) (by decide +kernel)
set_option maxRecDepth 20000 in
theorem gX10_classItem_X10_comma : GoodIn wsX10_classItem (wsV RX10 174 RX10 yX10_comma wsX10_comma) := goodIn_app (goodIn_of _ (by decide +kernel)) ggX10_classItem_X10_comma
set_option maxRecDepth 20000 in
theorem ggX10_classItem_X10_isLetter : GoodIn wsX10_classItem wsX10_isLetter := goodIn_r _ [27, 3, 28, 29, 11, 12, 13, 7, 14, 15, 16, 17, 18, 19, 30, 31, 32, 33, 34, 35, 36, 37, 38, 39, 40, 41, 42, 43, 44, 45, 46, 47, 48, 49, 50, 51, 52, 53, 54, 55, 56, 57, 58, 59, 60, 61, 62] (by decide +kernel) (by decide +kernel)
set_option maxRecDepth 20000 in
theorem gX10_classItem_X10_isLetter : GoodIn wsX10_classItem (wsV RX10 177 RX10 yX10_isLetter wsX10_isLetter) := goodIn_app (goodIn_of _ (by decide +kernel)) ggX10_classItem_X10_isLetter
set_option maxRecDepth 20000 in
theorem ggX10_classItem_X10_letterAt : GoodIn wsX10_classItem wsX10_letterAt := goodIn_r _ [14, 15, 16, 30, 31, 32, 33, 34, 35, 36, 37, 38, 39, 40, 41, 42, 43, 44, 45, 46, 47, 48, 49, 50, 51, 52, 53, 54, 55, 56, 57, 58, 59, 60, 61, 62] (by decide +kernel) (by decide +kernel)
set_option maxRecDepth 20000 in
theorem gX10_classItem_X10_letterAt : GoodIn wsX10_classItem (wsV RX10 154 RX10 yX10_letterAt wsX10_letterAt) := goodIn_app (goodIn_of _ (by decide +kernel)) ggX10_classItem_X10_letterAt
set_option maxRecDepth 20000 in
theorem ggX10_isAtom_X10_in : GoodIn wsX10_isAtom wsX10_in := goodIn_r _ [6] (by decide +kernel) (by decide +kernel)
set_option maxRecDepth 20000 in
theorem gX10_isAtom_X10_in : GoodIn wsX10_isAtom (va_wsS RX10 144 yX10_in wsX10_in) := goodIn_app (goodIn_of _ (by decide +kernel)) ggX10_isAtom_X10_in
set_option maxRecDepth 20000 in
theorem ggX10_ruleItem_X10_figure : GoodIn wsX10_ruleItem wsX10_figure := goodIn_r _ [9, 3, 2, 10, 11, 12, 13, 14, 8, 15, 16, 17, 18, 19, 20, 76, 77, 78, 79, 80, 81, 82, 83, 84, 85, 86, 87, 88, 89, 90, 91, 92, 93, 94, 95, 96, 97, 98, 99, 100, 101, 102, 103, 104, 105, 106, 107, 108] (by decide +kernel) (by decide +kernel)
set_option maxRecDepth 20000 in
theorem gX10_ruleItem_X10_figure : GoodIn wsX10_ruleItem (wsV RX10 170 RX10 yX10_figure wsX10_figure) := goodIn_app (goodIn_of _ (by decide +kernel)) ggX10_ruleItem_X10_figure
set_option maxRecDepth 20000 in
theorem ggX10_ruleItem_X10_comma : GoodIn wsX10_ruleItem wsX10_comma := goodIn_r _ [24, 2, 3, 12, 13, 14, 8, 15, 16, 17, 76, 77, 78, 79, 80, 81, 82, 83, 84, 85, 86, 87, 88, 89, 90, 91, 92, 93, 94, 95, 96, 97, 98, 99, 100, 101, 102, 103, 104, 105, 106, 107, 108] (by decide +kernel) (by decide +kernel)
set_option maxRecDepth 20000 in
theorem gX10_ruleItem_X10_comma : GoodIn wsX10_ruleItem (wsV RX10 174 RX10 yX10_comma wsX10_comma) := goodIn_app (goodIn_of _ (by decide +kernel)) ggX10_ruleItem_X10_comma
set_option maxRecDepth 20000 in
theorem ggX10_ruleItem_X10_letterAt : GoodIn wsX10_ruleItem wsX10_letterAt := goodIn_r _ [15, 16, 17, 76, 77, 78, 79, 80, 81, 82, 83, 84, 85, 86, 87, 88, 89, 90, 91, 92, 93, 94, 95, 96, 97, 98, 99, 100, 101, 102, 103, 104, 105, 106, 107, 108] (by decide +kernel) (by decide +kernel)
set_option maxRecDepth 20000 in
theorem gX10_ruleItem_X10_letterAt : GoodIn wsX10_ruleItem (wsV RX10 154 RX10 yX10_letterAt wsX10_letterAt) := goodIn_app (goodIn_of _ (by decide +kernel)) ggX10_ruleItem_X10_letterAt
set_option maxRecDepth 20000 in
theorem ggX10_ruleItem_X10_isAtom : GoodIn wsX10_ruleItem wsX10_isAtom := goodIn_r _ [27, 10, 28, 18, 19, 8, 20] (by decide +kernel) (by decide +kernel)
set_option maxRecDepth 20000 in
theorem gX10_ruleItem_X10_isAtom : GoodIn wsX10_ruleItem (va_wsS RX10 183 yX10_isAtom wsX10_isAtom) := goodIn_app (goodIn_of _ (by decide +kernel)) ggX10_ruleItem_X10_isAtom
set_option maxRecDepth 20000 in
theorem ggX10_ruleItem_X10_rowBegins : GoodIn wsX10_ruleItem wsX10_rowBegins := goodIn_r _ [32, 33, 76, 77, 78, 79, 80, 81, 82, 83, 84, 85, 86, 87, 88, 89, 90, 91, 92, 93, 94, 95, 96, 97, 98, 99, 100, 101, 102, 103, 104, 105, 106, 107, 108] (by decide +kernel) (by decide +kernel)
set_option maxRecDepth 20000 in
theorem gX10_ruleItem_X10_rowBegins : GoodIn wsX10_ruleItem (wsV RX10 75 RX10 yX10_rowBegins wsX10_rowBegins) := goodIn_app (goodIn_of _ (by decide +kernel)) ggX10_ruleItem_X10_rowBegins
set_option maxRecDepth 20000 in
theorem ggX10_ruleItem_X10_atom : GoodIn wsX10_ruleItem wsX10_atom := goodIn_r _ [37, 4, 38, 39, 40, 33, 41, 42, 76, 77, 78, 79, 80, 81, 82, 83, 84, 85, 86, 87, 88, 89, 90, 91, 92, 93, 94, 95, 96, 97, 98, 99, 100, 101, 102, 103, 104, 105, 106, 107, 108] (by decide +kernel) (by decide +kernel)
set_option maxRecDepth 20000 in
theorem gX10_ruleItem_X10_atom : GoodIn wsX10_ruleItem (wsV RX10 78 RX10 yX10_atom wsX10_atom) := goodIn_app (goodIn_of _ (by decide +kernel)) ggX10_ruleItem_X10_atom
set_option maxRecDepth 20000 in
theorem ggX10_ruleItem_X10_both : GoodIn wsX10_ruleItem wsX10_both := goodIn_r _ [46, 33, 41, 40, 42, 47, 48, 49, 8, 50, 39, 51, 52, 53, 76, 77, 78, 79, 80, 81, 82, 83, 84, 85, 86, 87, 88, 89, 90, 91, 92, 93, 94, 95, 96, 97, 98, 99, 100, 101, 102, 103, 104, 105, 106, 107, 108] (by decide +kernel) (by decide +kernel)
set_option maxRecDepth 20000 in
theorem gX10_ruleItem_X10_both : GoodIn wsX10_ruleItem (wsV RX10 88 RX10 yX10_both wsX10_both) := goodIn_app (goodIn_of _ (by decide +kernel)) ggX10_ruleItem_X10_both
set_option maxRecDepth 20000 in
theorem ggX10_ruleItem_X10_either : GoodIn wsX10_ruleItem wsX10_either := goodIn_r _ [57, 33, 40, 41, 42, 76, 77, 78, 79, 80, 81, 82, 83, 84, 85, 86, 87, 88, 89, 90, 91, 92, 93, 94, 95, 96, 97, 98, 99, 100, 101, 102, 103, 104, 105, 106, 107, 108] (by decide +kernel) (by decide +kernel)
set_option maxRecDepth 20000 in
theorem gX10_ruleItem_X10_either : GoodIn wsX10_ruleItem (wsV RX10 94 RX10 yX10_either wsX10_either) := goodIn_app (goodIn_of _ (by decide +kernel)) ggX10_ruleItem_X10_either
set_option maxRecDepth 20000 in
theorem ggX10_ruleItem_X10_maybe : GoodIn wsX10_ruleItem wsX10_maybe := goodIn_r _ [61, 42, 33, 76, 77, 78, 79, 80, 81, 82, 83, 84, 85, 86, 87, 88, 89, 90, 91, 92, 93, 94, 95, 96, 97, 98, 99, 100, 101, 102, 103, 104, 105, 106, 107, 108] (by decide +kernel) (by decide +kernel)
set_option maxRecDepth 20000 in
theorem gX10_ruleItem_X10_maybe : GoodIn wsX10_ruleItem (wsV RX10 82 RX10 yX10_maybe wsX10_maybe) := goodIn_app (goodIn_of _ (by decide +kernel)) ggX10_ruleItem_X10_maybe
set_option maxRecDepth 20000 in
theorem ggX10_ruleItem_X10_again : GoodIn wsX10_ruleItem wsX10_again := goodIn_r _ [65, 41, 33, 40, 47, 48, 49, 8, 50, 39, 51, 52, 53, 76, 77, 78, 79, 80, 81, 82, 83, 84, 85, 86, 87, 88, 89, 90, 91, 92, 93, 94, 95, 96, 97, 98, 99, 100, 101, 102, 103, 104, 105, 106, 107, 108] (by decide +kernel) (by decide +kernel)
set_option maxRecDepth 20000 in
theorem gX10_ruleItem_X10_again : GoodIn wsX10_ruleItem (wsV RX10 85 RX10 yX10_again wsX10_again) := goodIn_app (goodIn_of _ (by decide +kernel)) ggX10_ruleItem_X10_again
set_option maxRecDepth 20000 in
theorem ggX10_ruleItem_X10_any : GoodIn wsX10_ruleItem wsX10_any := goodIn_r _ [69, 62, 63, 64, 8, 65, 41, 33, 40, 47, 48, 49, 50, 39, 51, 52, 53, 58, 59, 60, 61, 42, 76, 77, 78, 79, 80, 81, 82, 83, 84, 85, 86, 87, 88, 89, 90, 91, 92, 93, 94, 95, 96, 97, 98, 99, 100, 101, 102, 103, 104, 105, 106, 107, 108] (by decide +kernel) (by decide +kernel)
set_option maxRecDepth 20000 in
theorem gX10_ruleItem_X10_any : GoodIn wsX10_ruleItem (wsV RX10 97 RX10 yX10_any wsX10_any) := goodIn_app (goodIn_of _ (by decide +kernel)) ggX10_ruleItem_X10_any
set_option maxRecDepth 20000 in
theorem ggX10_ruleItem_X10_ends : GoodIn wsX10_ruleItem wsX10_ends := goodIn_r _ [73, 74, 1, 40, 41, 4, 75, 76, 77, 78, 79, 80, 81, 82, 83, 84, 85, 86, 87, 88, 89, 90, 91, 92, 93, 94, 95, 96, 97, 98, 99, 100, 101, 102, 103, 104, 105, 106, 107, 108] (by decide +kernel) (by decide +kernel)
set_option maxRecDepth 20000 in
theorem gX10_ruleItem_X10_ends : GoodIn wsX10_ruleItem (wsV RX10 91 RX10 yX10_ends wsX10_ends) := goodIn_app (goodIn_of _ (by decide +kernel)) ggX10_ruleItem_X10_ends
set_option maxRecDepth 20000 in
theorem ggX10_lineItem_X10_isLetter : GoodIn wsX10_lineItem wsX10_isLetter := goodIn_r _ [8, 3, 9, 10, 11, 12, 13, 7, 14, 15, 16, 17, 18, 19, 24, 25, 26, 27, 28, 29, 30, 31, 32, 33, 34, 35, 36, 37, 38, 39, 40, 41, 42, 43, 44, 45, 46, 47, 48, 49, 50, 51, 52, 53, 54, 55, 56] (by decide +kernel) (by decide +kernel)
set_option maxRecDepth 20000 in
theorem gX10_lineItem_X10_isLetter : GoodIn wsX10_lineItem (wsV RX10 177 RX10 yX10_isLetter wsX10_isLetter) := goodIn_app (goodIn_of _ (by decide +kernel)) ggX10_lineItem_X10_isLetter
set_option maxRecDepth 20000 in
theorem ggX10_lineItem_X10_letterAt : GoodIn wsX10_lineItem wsX10_letterAt := goodIn_r _ [14, 15, 16, 24, 25, 26, 27, 28, 29, 30, 31, 32, 33, 34, 35, 36, 37, 38, 39, 40, 41, 42, 43, 44, 45, 46, 47, 48, 49, 50, 51, 52, 53, 54, 55, 56] (by decide +kernel) (by decide +kernel)
set_option maxRecDepth 20000 in
theorem gX10_lineItem_X10_letterAt : GoodIn wsX10_lineItem (wsV RX10 154 RX10 yX10_letterAt wsX10_letterAt) := goodIn_app (goodIn_of _ (by decide +kernel)) ggX10_lineItem_X10_letterAt
set_option maxRecDepth 20000 in
theorem ggX10_lineItem_X10_addsLetter : GoodIn wsX10_lineItem wsX10_addsLetter := goodIn_r _ [23, 1, 24, 25, 26, 27, 28, 29, 30, 31, 32, 33, 34, 35, 36, 37, 38, 39, 40, 41, 42, 43, 44, 45, 46, 47, 48, 49, 50, 51, 52, 53, 54, 55, 56] (by decide +kernel) (by decide +kernel)
set_option maxRecDepth 20000 in
theorem gX10_lineItem_X10_addsLetter : GoodIn wsX10_lineItem (wsV RX10 114 RX10 yX10_addsLetter wsX10_addsLetter) := goodIn_app (goodIn_of _ (by decide +kernel)) ggX10_lineItem_X10_addsLetter
set_option maxRecDepth 20000 in
theorem ggX10_reads_X10_begins : GoodIn wsX10_reads wsX10_begins := goodIn_r _ [9, 10, 11, 12, 103, 104, 105, 106, 107, 108, 109, 110, 111, 112, 113, 114, 115, 116, 117, 118, 119, 120, 121, 122, 123, 124, 125, 126, 127, 128, 129, 130, 131, 132, 133, 134, 135] (by decide +kernel) (by decide +kernel)
set_option maxRecDepth 20000 in
theorem gX10_reads_X10_begins : GoodIn wsX10_reads (wsV RX10 72 RX10 yX10_begins wsX10_begins) := goodIn_app (goodIn_of _ (by decide +kernel)) ggX10_reads_X10_begins
set_option maxRecDepth 20000 in
theorem ggX10_reads_X10_letterAt : GoodIn wsX10_reads wsX10_letterAt := goodIn_r _ [16, 3, 17, 103, 104, 105, 106, 107, 108, 109, 110, 111, 112, 113, 114, 115, 116, 117, 118, 119, 120, 121, 122, 123, 124, 125, 126, 127, 128, 129, 130, 131, 132, 133, 134, 135] (by decide +kernel) (by decide +kernel)
set_option maxRecDepth 20000 in
theorem gX10_reads_X10_letterAt : GoodIn wsX10_reads (wsV RX10 154 RX10 yX10_letterAt wsX10_letterAt) := goodIn_app (goodIn_of _ (by decide +kernel)) ggX10_reads_X10_letterAt
set_option maxRecDepth 20000 in
theorem ggX10_reads_X10_classItem : GoodIn wsX10_reads wsX10_classItem := goodIn_r _ [21, 2, 12, 1, 22, 23, 24, 8, 25, 26, 27, 13, 14, 15, 16, 3, 17, 28, 29, 30, 31, 32, 33, 34, 35, 36, 37, 38, 39, 40, 103, 104, 105, 106, 107, 108, 109, 110, 111, 112, 113, 114, 115, 116, 117, 118, 119, 120, 121, 122, 123, 124, 125, 126, 127, 128, 129, 130, 131, 132, 133, 134, 135] (by decide +kernel) (by decide +kernel)
set_option maxRecDepth 20000 in
theorem gX10_reads_X10_classItem : GoodIn wsX10_reads (wsV RX10 190 RX10 yX10_classItem wsX10_classItem) := goodIn_app (goodIn_of _ (by decide +kernel)) ggX10_reads_X10_classItem
set_option maxRecDepth 20000 in
theorem ggX10_reads_X10_ruleItem : GoodIn wsX10_reads wsX10_ruleItem := goodIn_r _ [44, 10, 2, 1, 11, 22, 23, 24, 8, 25, 26, 27, 13, 14, 15, 16, 3, 17, 28, 29, 30, 31, 32, 33, 34, 45, 46, 47, 48, 49, 50, 51, 52, 53, 54, 55, 56, 57, 58, 59, 60, 61, 62, 63, 64, 65, 66, 67, 68, 69, 70, 71, 72, 73, 74, 75, 76, 77, 78, 79, 80, 81, 82, 83, 84, 85, 86, 87, 88, 89, 90, 91, 92, 93, 94, 12, 103, 104, 105, 106, 107, 108, 109, 110, 111, 112, 113, 114, 115, 116, 117, 118, 119, 120, 121, 122, 123, 124, 125, 126, 127, 128, 129, 130, 131, 132, 133, 134, 135] (by decide +kernel) (by decide +kernel)
set_option maxRecDepth 20000 in
theorem gX10_reads_X10_ruleItem : GoodIn wsX10_reads (wsV RX10 193 RX10 yX10_ruleItem wsX10_ruleItem) := goodIn_app (goodIn_of _ (by decide +kernel)) ggX10_reads_X10_ruleItem
set_option maxRecDepth 20000 in
theorem ggX10_reads_X10_lineItem : GoodIn wsX10_reads wsX10_lineItem := goodIn_r _ [98, 12, 2, 1, 35, 36, 37, 8, 38, 39, 40, 13, 14, 15, 16, 3, 17, 28, 29, 30, 99, 100, 101, 102, 103, 104, 105, 106, 107, 108, 109, 110, 111, 112, 113, 114, 115, 116, 117, 118, 119, 120, 121, 122, 123, 124, 125, 126, 127, 128, 129, 130, 131, 132, 133, 134, 135] (by decide +kernel) (by decide +kernel)
set_option maxRecDepth 20000 in
theorem gX10_reads_X10_lineItem : GoodIn wsX10_reads (wsV RX10 196 RX10 yX10_lineItem wsX10_lineItem) := goodIn_app (goodIn_of _ (by decide +kernel)) ggX10_reads_X10_lineItem
set_option maxRecDepth 20000 in
theorem ggX10_fault_X10_reads : GoodIn wsX10_fault wsX10_reads := goodIn_r _ [7, 8, 1, 9, 2, 10, 11, 12, 6, 13, 14, 15, 16, 17, 18, 19, 20, 21, 22, 23, 24, 25, 26, 27, 28, 29, 30, 31, 32, 33, 34, 35, 36, 37, 38, 39, 40, 41, 42, 43, 44, 45, 46, 47, 48, 49, 50, 51, 52, 53, 54, 55, 56, 57, 58, 59, 60, 61, 62, 63, 64, 65, 66, 67, 68, 69, 70, 71, 72, 73, 74, 75, 76, 77, 78, 79, 80, 81, 82, 83, 84, 85, 86, 87, 88, 89, 90, 91, 92, 93, 94, 95, 96, 97, 98, 99, 100, 101, 102, 103, 104, 105, 106, 107, 108, 109, 110, 111, 112, 113, 114, 115, 116, 117, 118, 119, 120, 121, 122, 123, 124, 125, 126, 127, 128, 129, 130, 131, 132, 133, 134, 135, 136, 137, 138, 139] (by decide +kernel) (by decide +kernel)
set_option maxRecDepth 20000 in
theorem gX10_fault_X10_reads : GoodIn wsX10_fault (wsV RX10 199 RX10 yX10_reads wsX10_reads) := goodIn_app (goodIn_of _ (by decide +kernel)) ggX10_fault_X10_reads
set_option maxRecDepth 20000 in
theorem ggX10_lay_X10_reads : GoodIn wsX10_lay wsX10_reads := goodIn_r _ [8, 9, 1, 10, 11, 12, 13, 14, 7, 15, 2, 16, 17, 18, 19, 20, 21, 22, 23, 24, 25, 26, 27, 28, 29, 30, 31, 32, 33, 34, 35, 36, 37, 38, 39, 40, 41, 42, 43, 44, 45, 46, 47, 48, 49, 50, 51, 52, 53, 54, 55, 56, 57, 58, 59, 60, 61, 62, 63, 64, 65, 66, 67, 68, 69, 70, 71, 72, 73, 74, 75, 76, 77, 78, 79, 80, 81, 82, 83, 84, 85, 86, 87, 88, 89, 90, 91, 92, 93, 94, 95, 96, 97, 98, 99, 100, 101, 102, 103, 104, 105, 106, 107, 119, 120, 121, 122, 123, 124, 125, 126, 127, 128, 129, 130, 131, 132, 133, 134, 135, 136, 137, 138, 139, 140, 141, 142, 143, 144, 145, 146, 147, 148, 149, 150, 151] (by decide +kernel) (by decide +kernel)
set_option maxRecDepth 20000 in
theorem gX10_lay_X10_reads : GoodIn wsX10_lay (wsV RX10 199 RX10 yX10_reads wsX10_reads) := goodIn_app (goodIn_of _ (by decide +kernel)) ggX10_lay_X10_reads
set_option maxRecDepth 20000 in
theorem ggX10_lay_X10_settles : GoodIn wsX10_lay wsX10_settles := goodIn_r _ [111, 2, 3, 16, 112, 113, 99, 114, 63, 115, 64, 116, 17, 117, 118, 119, 120, 121, 122, 123, 124, 125, 126, 127, 128, 129, 130, 131, 132, 133, 134, 135, 136, 137, 138, 139, 140, 141, 142, 143, 144, 145, 146, 147, 148, 149, 150, 151] (by decide +kernel) (by decide +kernel)
set_option maxRecDepth 20000 in
theorem gX10_lay_X10_settles : GoodIn wsX10_lay (wsV RX10 104 RX10 yX10_settles wsX10_settles) := goodIn_app (goodIn_of _ (by decide +kernel)) ggX10_lay_X10_settles
set_option maxRecDepth 20000 in
theorem ggX10_isRule_X10_in : GoodIn wsX10_isRule wsX10_in := goodIn_r _ [5] (by decide +kernel) (by decide +kernel)
set_option maxRecDepth 20000 in
theorem gX10_isRule_X10_in : GoodIn wsX10_isRule (va_wsS RX10 144 yX10_in wsX10_in) := goodIn_app (goodIn_of _ (by decide +kernel)) ggX10_isRule_X10_in
set_option maxRecDepth 20000 in
theorem ggX10_isPlace_X10_in : GoodIn wsX10_isPlace wsX10_in := goodIn_r _ [5] (by decide +kernel) (by decide +kernel)
set_option maxRecDepth 20000 in
theorem gX10_isPlace_X10_in : GoodIn wsX10_isPlace (va_wsS RX10 144 yX10_in wsX10_in) := goodIn_app (goodIn_of _ (by decide +kernel)) ggX10_isPlace_X10_in
set_option maxRecDepth 20000 in
theorem ggX10_rule_X10_isRule : GoodIn wsX10_rule wsX10_isRule := goodIn_r _ [8, 9, 10, 11, 7, 12, 13, 14, 15, 16, 17, 18, 19, 20, 21, 22, 23, 24, 25, 26, 27, 28, 29, 30, 31, 32, 33, 34, 35, 36, 37, 38, 39, 40, 41, 42, 43, 44, 45] (by decide +kernel) (by decide +kernel)
set_option maxRecDepth 20000 in
theorem gX10_rule_X10_isRule : GoodIn wsX10_rule (wsV RX10 202 RX10 yX10_isRule wsX10_isRule) := goodIn_app (goodIn_of _ (by decide +kernel)) ggX10_rule_X10_isRule
set_option maxRecDepth 20000 in
theorem ggX10_rule_X10_in : GoodIn wsX10_rule wsX10_in := goodIn_r _ [12] (by decide +kernel) (by decide +kernel)
set_option maxRecDepth 20000 in
theorem gX10_rule_X10_in : GoodIn wsX10_rule (va_wsS RX10 144 yX10_in wsX10_in) := goodIn_app (goodIn_of _ (by decide +kernel)) ggX10_rule_X10_in
set_option maxRecDepth 20000 in
theorem ggX10_place_X10_in : GoodIn wsX10_place wsX10_in := goodIn_r _ [7] (by decide +kernel) (by decide +kernel)
set_option maxRecDepth 20000 in
theorem gX10_place_X10_in : GoodIn wsX10_place (va_wsS RX10 144 yX10_in wsX10_in) := goodIn_app (goodIn_of _ (by decide +kernel)) ggX10_place_X10_in
set_option maxRecDepth 20000 in
theorem ggX10_kind_X10_in : GoodIn wsX10_kind wsX10_in := goodIn_r _ [6] (by decide +kernel) (by decide +kernel)
set_option maxRecDepth 20000 in
theorem gX10_kind_X10_in : GoodIn wsX10_kind (va_wsS RX10 144 yX10_in wsX10_in) := goodIn_app (goodIn_of _ (by decide +kernel)) ggX10_kind_X10_in
set_option maxRecDepth 20000 in
theorem ggX10_letter_X10_isPlace : GoodIn wsX10_letter wsX10_isPlace := goodIn_r _ [6, 1, 7, 8, 5, 9, 10, 11, 12, 13, 14, 15, 16, 17, 18, 19, 20, 21, 22, 23, 24, 25, 26, 27, 28, 29, 30, 31, 32, 33, 34, 35, 36, 37, 38, 39, 40, 41, 42] (by decide +kernel) (by decide +kernel)
set_option maxRecDepth 20000 in
theorem gX10_letter_X10_isPlace : GoodIn wsX10_letter (wsV RX10 209 RX10 yX10_isPlace wsX10_isPlace) := goodIn_app (goodIn_of _ (by decide +kernel)) ggX10_letter_X10_isPlace
set_option maxRecDepth 20000 in
theorem ggX10_known_X10_copies : GoodIn wsX10_known wsX10_copies := goodIn_r _ [7, 2, 8, 9, 10, 11, 12, 13, 14, 15, 16, 17, 18, 19, 20, 21, 22, 23, 24, 25, 26, 27, 28, 29, 30, 31, 32, 33, 34, 35, 36, 37, 38, 39, 40] (by decide +kernel) (by decide +kernel)
set_option maxRecDepth 20000 in
theorem gX10_known_X10_copies : GoodIn wsX10_known (wsV RX10 212 RX10 yX10_copies wsX10_copies) := goodIn_app (goodIn_of _ (by decide +kernel)) ggX10_known_X10_copies
set_option maxRecDepth 20000 in
theorem ggX10_insert_X10_isPlace : GoodIn wsX10_insert wsX10_isPlace := goodIn_r _ [7, 2, 8, 9, 6, 10, 24, 25, 26, 27, 28, 29, 30, 31, 32, 33, 34, 35, 36, 37, 38, 39, 40, 41, 42, 43, 44, 45, 46, 47, 48, 49, 50, 51, 52, 53, 54, 55, 56] (by decide +kernel) (by decide +kernel)
set_option maxRecDepth 20000 in
theorem gX10_insert_X10_isPlace : GoodIn wsX10_insert (wsV RX10 209 RX10 yX10_isPlace wsX10_isPlace) := goodIn_app (goodIn_of _ (by decide +kernel)) ggX10_insert_X10_isPlace
set_option maxRecDepth 20000 in
theorem ggX10_insert_X10_in : GoodIn wsX10_insert wsX10_in := goodIn_r _ [10] (by decide +kernel) (by decide +kernel)
set_option maxRecDepth 20000 in
theorem gX10_insert_X10_in : GoodIn wsX10_insert (va_wsS RX10 144 yX10_in wsX10_in) := goodIn_app (goodIn_of _ (by decide +kernel)) ggX10_insert_X10_in
set_option maxRecDepth 20000 in
theorem ggX10_insert_X10_known : GoodIn wsX10_insert wsX10_known := goodIn_r _ [14, 15, 2, 16, 17, 18, 6, 19, 24, 25, 26, 27, 28, 29, 30, 31, 32, 33, 34, 35, 36, 37, 38, 39, 40, 41, 42, 43, 44, 45, 46, 47, 48, 49, 50, 51, 52, 53, 54, 55, 56] (by decide +kernel) (by decide +kernel)
set_option maxRecDepth 20000 in
theorem gX10_insert_X10_known : GoodIn wsX10_insert (wsV RX10 215 RX10 yX10_known wsX10_known) := goodIn_app (goodIn_of _ (by decide +kernel)) ggX10_insert_X10_known
set_option maxRecDepth 20000 in
theorem ggX10_insert_X10_puts : GoodIn wsX10_insert wsX10_puts := goodIn_r _ [23, 2, 24, 25, 26, 27, 28, 29, 30, 31, 32, 33, 34, 35, 36, 37, 38, 39, 40, 41, 42, 43, 44, 45, 46, 47, 48, 49, 50, 51, 52, 53, 54, 55, 56] (by decide +kernel) (by decide +kernel)
set_option maxRecDepth 20000 in
theorem gX10_insert_X10_puts : GoodIn wsX10_insert (wsV RX10 218 RX10 yX10_puts wsX10_puts) := goodIn_app (goodIn_of _ (by decide +kernel)) ggX10_insert_X10_puts
set_option maxRecDepth 20000 in
theorem ggX10_erase_X10_in : GoodIn wsX10_erase wsX10_in := goodIn_r _ [5] (by decide +kernel) (by decide +kernel)
set_option maxRecDepth 20000 in
theorem gX10_erase_X10_in : GoodIn wsX10_erase (va_wsS RX10 144 yX10_in wsX10_in) := goodIn_app (goodIn_of _ (by decide +kernel)) ggX10_erase_X10_in
set_option maxRecDepth 20000 in
theorem ggX10_erase_X10_known : GoodIn wsX10_erase wsX10_known := goodIn_r _ [9, 10, 1, 11, 12, 13, 4, 14, 19, 20, 21, 22, 23, 24, 25, 26, 27, 28, 29, 30, 31, 32, 33, 34, 35, 36, 37, 38, 39, 40, 41, 42, 43, 44, 45, 46, 47, 48, 49, 50, 51] (by decide +kernel) (by decide +kernel)
set_option maxRecDepth 20000 in
theorem gX10_erase_X10_known : GoodIn wsX10_erase (wsV RX10 215 RX10 yX10_known wsX10_known) := goodIn_app (goodIn_of _ (by decide +kernel)) ggX10_erase_X10_known
set_option maxRecDepth 20000 in
theorem ggX10_erase_X10_takesOut : GoodIn wsX10_erase wsX10_takesOut := goodIn_r _ [18, 1, 19, 20, 21, 22, 23, 24, 25, 26, 27, 28, 29, 30, 31, 32, 33, 34, 35, 36, 37, 38, 39, 40, 41, 42, 43, 44, 45, 46, 47, 48, 49, 50, 51] (by decide +kernel) (by decide +kernel)
set_option maxRecDepth 20000 in
theorem gX10_erase_X10_takesOut : GoodIn wsX10_erase (wsV RX10 222 RX10 yX10_takesOut wsX10_takesOut) := goodIn_app (goodIn_of _ (by decide +kernel)) ggX10_erase_X10_takesOut
set_option maxRecDepth 20000 in
theorem ggX10_tell_X10_in : GoodIn wsX10_tell wsX10_in := goodIn_r _ [7] (by decide +kernel) (by decide +kernel)
set_option maxRecDepth 20000 in
theorem gX10_tell_X10_in : GoodIn wsX10_tell (va_wsS RX10 144 yX10_in wsX10_in) := goodIn_app (goodIn_of _ (by decide +kernel)) ggX10_tell_X10_in
set_option maxRecDepth 20000 in
theorem ggX10_tell_X10_known : GoodIn wsX10_tell wsX10_known := goodIn_r _ [11, 12, 3, 13, 14, 15, 6, 16, 17, 18, 19, 20, 21, 22, 23, 24, 25, 26, 27, 28, 29, 30, 31, 32, 33, 34, 35, 36, 37, 38, 39, 40, 41, 42, 43, 44, 45, 46, 47, 48, 49] (by decide +kernel) (by decide +kernel)
set_option maxRecDepth 20000 in
theorem gX10_tell_X10_known : GoodIn wsX10_tell (wsV RX10 215 RX10 yX10_known wsX10_known) := goodIn_app (goodIn_of _ (by decide +kernel)) ggX10_tell_X10_known
set_option maxRecDepth 20000 in
theorem ggX10_rename_X10_isRule : GoodIn wsX10_rename wsX10_isRule := goodIn_r _ [7, 8, 9, 10, 6, 11, 21, 22, 23, 24, 25, 26, 27, 28, 29, 30, 31, 32, 33, 34, 35, 36, 37, 38, 39, 40, 41, 42, 43, 44, 45, 46, 47, 48, 49, 50, 51, 52, 53] (by decide +kernel) (by decide +kernel)
set_option maxRecDepth 20000 in
theorem gX10_rename_X10_isRule : GoodIn wsX10_rename (wsV RX10 202 RX10 yX10_isRule wsX10_isRule) := goodIn_app (goodIn_of _ (by decide +kernel)) ggX10_rename_X10_isRule
set_option maxRecDepth 20000 in
theorem ggX10_rename_X10_in : GoodIn wsX10_rename wsX10_in := goodIn_r _ [11] (by decide +kernel) (by decide +kernel)
set_option maxRecDepth 20000 in
theorem gX10_rename_X10_in : GoodIn wsX10_rename (va_wsS RX10 144 yX10_in wsX10_in) := goodIn_app (goodIn_of _ (by decide +kernel)) ggX10_rename_X10_in
set_option maxRecDepth 20000 in
theorem ggX10_rename_X10_known : GoodIn wsX10_rename wsX10_known := goodIn_r _ [15, 16, 2, 17, 18, 19, 6, 20, 21, 22, 23, 24, 25, 26, 27, 28, 29, 30, 31, 32, 33, 34, 35, 36, 37, 38, 39, 40, 41, 42, 43, 44, 45, 46, 47, 48, 49, 50, 51, 52, 53] (by decide +kernel) (by decide +kernel)
set_option maxRecDepth 20000 in
theorem gX10_rename_X10_known : GoodIn wsX10_rename (wsV RX10 215 RX10 yX10_known wsX10_known) := goodIn_app (goodIn_of _ (by decide +kernel)) ggX10_rename_X10_known
set_option maxRecDepth 20000 in
theorem ggX10_undo_X10_copies : GoodIn wsX10_undo wsX10_copies := goodIn_r _ [6, 7, 8, 9, 10, 11, 12, 13, 14, 15, 16, 17, 18, 19, 20, 21, 22, 23, 24, 25, 26, 27, 28, 29, 30, 31, 32, 33, 34, 35, 36, 37, 38, 39, 40] (by decide +kernel) (by decide +kernel)
set_option maxRecDepth 20000 in
theorem gX10_undo_X10_copies : GoodIn wsX10_undo (wsV RX10 212 RX10 yX10_copies wsX10_copies) := goodIn_app (goodIn_of _ (by decide +kernel)) ggX10_undo_X10_copies
set_option maxRecDepth 20000 in
theorem ggX10_taking_X10_has : GoodIn wsX10_taking wsX10_has := goodIn_r _ [6] (by decide +kernel) (by decide +kernel)
set_option maxRecDepth 20000 in
theorem gX10_taking_X10_has : GoodIn wsX10_taking (va_wsS RX10 133 yX10_has wsX10_has) := goodIn_app (goodIn_of _ (by decide +kernel)) ggX10_taking_X10_has
set_option maxRecDepth 20000 in
theorem ggX10_taking_X10_isTaken : GoodIn wsX10_taking wsX10_isTaken := goodIn_r _ [9] (by decide +kernel) (by decide +kernel)
set_option maxRecDepth 20000 in
theorem gX10_taking_X10_isTaken : GoodIn wsX10_taking (va_wsS RX10 227 yX10_isTaken wsX10_isTaken) := goodIn_app (goodIn_of _ (by decide +kernel)) ggX10_taking_X10_isTaken
set_option maxRecDepth 20000 in
theorem ggX10_begun_X10_has : GoodIn wsX10_begun wsX10_has := goodIn_r _ [7] (by decide +kernel) (by decide +kernel)
set_option maxRecDepth 20000 in
theorem gX10_begun_X10_has : GoodIn wsX10_begun (va_wsS RX10 133 yX10_has wsX10_has) := goodIn_app (goodIn_of _ (by decide +kernel)) ggX10_begun_X10_has
set_option maxRecDepth 20000 in
theorem ggX10_begun_X10_taking : GoodIn wsX10_begun wsX10_taking := goodIn_r _ [11, 12, 13, 4, 5, 6, 7, 14, 15, 16, 17, 18, 19, 20, 21, 22, 23, 24, 25, 26, 27, 28, 29, 30, 31, 32, 33, 34, 35, 36, 37, 38, 39, 40, 41, 42, 43, 44, 45, 46, 47, 48, 49] (by decide +kernel) (by decide +kernel)
set_option maxRecDepth 20000 in
theorem gX10_begun_X10_taking : GoodIn wsX10_begun (wsV RX10 233 RX10 yX10_taking wsX10_taking) := goodIn_app (goodIn_of _ (by decide +kernel)) ggX10_begun_X10_taking
set_option maxRecDepth 20000 in
theorem ggX10_goes_X10_has : GoodIn wsX10_goes wsX10_has := goodIn_r _ [9] (by decide +kernel) (by decide +kernel)
set_option maxRecDepth 20000 in
theorem gX10_goes_X10_has : GoodIn wsX10_goes (va_wsS RX10 133 yX10_has wsX10_has) := goodIn_app (goodIn_of _ (by decide +kernel)) ggX10_goes_X10_has
set_option maxRecDepth 20000 in
theorem ggX10_goes_X10_taking : GoodIn wsX10_goes wsX10_taking := goodIn_r _ [13, 4, 14, 6, 7, 8, 9, 15, 16, 17, 18, 19, 20, 21, 22, 23, 24, 25, 26, 27, 28, 29, 30, 31, 32, 33, 34, 35, 36, 37, 38, 39, 40, 41, 42, 43, 44, 45, 46, 47, 48, 49, 50] (by decide +kernel) (by decide +kernel)
set_option maxRecDepth 20000 in
theorem gX10_goes_X10_taking : GoodIn wsX10_goes (wsV RX10 233 RX10 yX10_taking wsX10_taking) := goodIn_app (goodIn_of _ (by decide +kernel)) ggX10_goes_X10_taking
set_option maxRecDepth 20000 in
theorem ggX10_walks_X10_goes : GoodIn wsX10_walks wsX10_goes := goodIn_r _ [8, 9, 1, 10, 11, 12, 13, 14, 7, 15, 16, 17, 18, 19, 20, 21, 22, 23, 29, 30, 31, 32, 33, 34, 35, 36, 37, 38, 39, 40, 41, 42, 43, 44, 45, 46, 47, 48, 49, 50, 51, 52, 53, 54, 55, 56, 57, 58, 59, 60, 61] (by decide +kernel) (by decide +kernel)
set_option maxRecDepth 20000 in
theorem gX10_walks_X10_goes : GoodIn wsX10_walks (wsV RX10 236 RX10 yX10_goes wsX10_goes) := goodIn_app (goodIn_of _ (by decide +kernel)) ggX10_walks_X10_goes
set_option maxRecDepth 20000 in
theorem ggX10_walks_X10_begun : GoodIn wsX10_walks wsX10_begun := goodIn_r _ [27, 9, 28, 10, 13, 14, 7, 15, 16, 17, 18, 19, 11, 20, 21, 22, 23, 29, 30, 31, 32, 33, 34, 35, 36, 37, 38, 39, 40, 41, 42, 43, 44, 45, 46, 47, 48, 49, 50, 51, 52, 53, 54, 55, 56, 57, 58, 59, 60, 61] (by decide +kernel) (by decide +kernel)
set_option maxRecDepth 20000 in
theorem gX10_walks_X10_begun : GoodIn wsX10_walks (wsV RX10 239 RX10 yX10_begun wsX10_begun) := goodIn_app (goodIn_of _ (by decide +kernel)) ggX10_walks_X10_begun
