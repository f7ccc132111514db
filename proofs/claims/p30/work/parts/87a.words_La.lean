set_option maxRecDepth 20000 in
theorem ggL_unary_L_low : GoodIn wsL_unary wsL_low := goodIn_r _ [4, 5] (by decide +kernel) (by decide +kernel)
set_option maxRecDepth 20000 in
theorem gL_unary_L_low : GoodIn wsL_unary (va_wsS RL 9 yL_low wsL_low) := goodIn_app (goodIn_of _ (by decide +kernel)) ggL_unary_L_low
set_option maxRecDepth 20000 in
theorem ggL_draws_L_cell : GoodIn wsL_draws wsL_cell := goodIn_r _ [5, 6] (by decide +kernel) (by decide +kernel)
set_option maxRecDepth 20000 in
theorem gL_draws_L_cell : GoodIn wsL_draws (va_wsS RL 15 yL_cell wsL_cell) := goodIn_app (goodIn_of _ (by decide +kernel)) ggL_draws_L_cell
set_option maxRecDepth 20000 in
theorem ggL_draws_L_low : GoodIn wsL_draws wsL_low := goodIn_r _ [9, 10] (by decide +kernel) (by decide +kernel)
set_option maxRecDepth 20000 in
theorem gL_draws_L_low : GoodIn wsL_draws (va_wsS RL 9 yL_low wsL_low) := goodIn_app (goodIn_of _ (by decide +kernel)) ggL_draws_L_low
set_option maxRecDepth 20000 in
theorem ggL_draws_L_unary : GoodIn wsL_draws wsL_unary := goodIn_r _ [13, 7, 8, 4, 9, 10] (by decide +kernel) (by decide +kernel)
set_option maxRecDepth 20000 in
theorem gL_draws_L_unary : GoodIn wsL_draws (va_wsS RL 19 yL_unary wsL_unary) := goodIn_app (goodIn_of _ (by decide +kernel)) ggL_draws_L_unary
set_option maxRecDepth 20000 in
theorem ggL_draws_L_sign : GoodIn wsL_draws wsL_sign := goodIn_r _ [16] (by decide +kernel) (by decide +kernel)
set_option maxRecDepth 20000 in
theorem gL_draws_L_sign : GoodIn wsL_draws (va_wsS RL 23 yL_sign wsL_sign) := goodIn_app (goodIn_of _ (by decide +kernel)) ggL_draws_L_sign
set_option maxRecDepth 20000 in
theorem ggL_draws_L_reads : GoodIn wsL_draws wsL_reads := goodIn_r _ [19, 1] (by decide +kernel) (by decide +kernel)
set_option maxRecDepth 20000 in
theorem gL_draws_L_reads : GoodIn wsL_draws (va_wsS RL 27 yL_reads wsL_reads) := goodIn_app (goodIn_of _ (by decide +kernel)) ggL_draws_L_reads
set_option maxRecDepth 20000 in
theorem ggL_lays_X9_wipe : GoodIn wsL_lays wsX9_wipe := goodIn_r _ [5, 6, 7, 8, 9, 10, 11, 12, 13, 14, 15, 16, 304, 305, 306, 307, 308, 309, 310, 311, 312, 313, 314, 315, 316, 317, 318, 319] (by decide +kernel) (by decide +kernel)
set_option maxRecDepth 20000 in
theorem gL_lays_X9_wipe : GoodIn wsL_lays (wsV RL 31 RX9 yX9_wipe wsX9_wipe) := goodIn_app (goodIn_of _ (by decide +kernel)) ggL_lays_X9_wipe
set_option maxRecDepth 20000 in
theorem ggL_lays_X9_write : GoodIn wsL_lays wsX9_write := goodIn_r _ [20, 6, 7, 8, 9, 10, 11, 12, 21, 22, 23, 24, 25, 304, 305, 306, 307, 308, 309, 310, 311, 312, 313, 314, 315, 316, 317, 318, 319] (by decide +kernel) (by decide +kernel)
set_option maxRecDepth 20000 in
theorem gL_lays_X9_write : GoodIn wsL_lays (wsV RL 37 RX9 yX9_write wsX9_write) := goodIn_app (goodIn_of _ (by decide +kernel)) ggL_lays_X9_write
set_option maxRecDepth 20000 in
theorem ggL_lays_X9_lay : GoodIn wsL_lays wsX9_lay := goodIn_r _ [29, 6, 30, 31, 32, 33, 10, 34, 35, 36, 12, 37, 38, 39, 40, 41, 42, 43, 44, 25, 45, 46, 47, 48, 49, 50, 51, 52, 53, 54, 55, 56, 57, 4, 58, 59, 60, 61, 62, 63, 64, 65, 66, 67, 68, 69, 70, 71, 72, 73, 74, 75, 76, 77, 78, 79, 80, 81, 82, 83, 84, 85, 86, 87, 88, 89, 90, 91, 92, 93, 94, 95, 96, 97, 98, 99, 100, 101, 102, 103, 104, 105, 7, 8, 9, 11, 106, 107, 108, 109, 110, 111, 112, 113, 114, 115, 116, 117, 118, 119, 120, 121, 122, 123, 124, 125, 126, 127, 128, 129, 130, 131, 132, 133, 134, 135, 136, 137, 138, 139, 140, 141, 142, 143, 144, 145, 146, 147, 148, 149, 150, 151, 152, 153, 154, 155, 156, 157, 158, 159, 160, 161, 162, 163, 164, 165, 166, 167, 168, 169, 170, 171, 172, 173, 174, 175, 176, 177, 178, 179, 180, 181, 182, 183, 184, 185, 186, 187, 188, 189, 190, 191, 192, 193, 194, 195, 196, 197, 198, 199, 200, 201, 202, 203, 204, 205, 206, 207, 208, 209, 210, 211, 212, 213, 214, 215, 216, 217, 218, 219, 220, 221, 222, 223, 224, 225, 226, 227, 228, 229, 230, 231, 232, 233, 234, 235, 236, 237, 238, 239, 240, 241, 242, 243, 244, 245, 246, 247, 248, 249, 250, 251, 252, 253, 254, 255, 256, 257, 258, 259, 260, 261, 262, 263, 264, 265, 266, 267, 268, 269, 270, 271, 272, 273, 274, 275, 276, 277, 278, 279, 280, 281, 282, 283, 284, 285, 286, 287, 288, 289, 290, 291, 292, 293, 294, 295, 296, 297, 298, 299, 300, 301, 302, 303, 304, 305, 306, 307, 308, 309, 310, 311, 312, 313, 314, 315, 316, 317, 318, 319, 320, 321, 322, 323, 324, 325, 326, 327, 328, 329, 330, 331, 332, 333, 334, 335, 336, 337, 338, 339, 340, 341, 342, 343, 344, 345, 346, 347, 348, 349, 350, 351, 352, 353, 354, 355, 356, 357] (by decide +kernel) (by decide +kernel)
set_option maxRecDepth 20000 in
theorem gL_lays_X9_lay : GoodIn wsL_lays (wsV RL 40 RX9 yX9_lay wsX9_lay) := goodIn_app (goodIn_of _ (by decide +kernel)) ggL_lays_X9_lay
set_option maxRecDepth 20000 in
theorem ggL_begun_L_taking : GoodIn wsL_begun wsL_taking := goodIn_r _ [4] (by decide +kernel) (by decide +kernel)
set_option maxRecDepth 20000 in
theorem gL_begun_L_taking : GoodIn wsL_begun (va_wsS RL 43 yL_taking wsL_taking) := goodIn_app (goodIn_of _ (by decide +kernel)) ggL_begun_L_taking
set_option maxRecDepth 20000 in
theorem ggL_goes_L_taking : GoodIn wsL_goes wsL_taking := goodIn_r _ [4] (by decide +kernel) (by decide +kernel)
set_option maxRecDepth 20000 in
theorem gL_goes_L_taking : GoodIn wsL_goes (va_wsS RL 43 yL_taking wsL_taking) := goodIn_app (goodIn_of _ (by decide +kernel)) ggL_goes_L_taking
set_option maxRecDepth 20000 in
theorem ggL_walk_L_goes : GoodIn wsL_walk wsL_goes := goodIn_r _ [4, 5, 6, 3, 7] (by decide +kernel) (by decide +kernel)
set_option maxRecDepth 20000 in
theorem gL_walk_L_goes : GoodIn wsL_walk (va_wsS RL 46 yL_goes wsL_goes) := goodIn_app (goodIn_of _ (by decide +kernel)) ggL_walk_L_goes
set_option maxRecDepth 20000 in
theorem ggL_walk_L_begun : GoodIn wsL_walk wsL_begun := goodIn_r _ [10, 5, 6, 3, 7] (by decide +kernel) (by decide +kernel)
set_option maxRecDepth 20000 in
theorem gL_walk_L_begun : GoodIn wsL_walk (va_wsS RL 50 yL_begun wsL_begun) := goodIn_app (goodIn_of _ (by decide +kernel)) ggL_walk_L_begun
set_option maxRecDepth 20000 in
theorem ggL_same_L_walk : GoodIn wsL_same wsL_walk := goodIn_r _ [5, 6, 7, 4, 8, 9, 10, 11, 12, 13, 14] (by decide +kernel) (by decide +kernel)
set_option maxRecDepth 20000 in
theorem gL_same_L_walk : GoodIn wsL_same (va_wsS RL 53 yL_walk wsL_walk) := goodIn_app (goodIn_of _ (by decide +kernel)) ggL_same_L_walk
set_option maxRecDepth 20000 in
theorem ggL_same_X9_kind : GoodIn wsL_same wsX9_kind := goodIn_r _ [19, 20, 21, 22, 18, 23, 24, 25, 26, 27, 28, 29, 143, 144, 145, 146, 147, 148, 149, 150, 151, 152, 153, 154, 155, 156, 157, 158] (by decide +kernel) (by decide +kernel)
set_option maxRecDepth 20000 in
theorem gL_same_X9_kind : GoodIn wsL_same (wsV RL 57 RX9 yX9_kind wsX9_kind) := goodIn_app (goodIn_of _ (by decide +kernel)) ggL_same_X9_kind
set_option maxRecDepth 20000 in
theorem ggL_same_X9_rule : GoodIn wsL_same wsX9_rule := goodIn_r _ [33, 20, 34, 35, 36, 37, 18, 38, 39, 40, 41, 42, 43, 44, 45, 46, 47, 27, 48, 49, 50, 51, 52, 53, 54, 55, 56, 57, 58, 59, 60, 61, 62, 63, 64, 65, 66, 67, 68, 143, 144, 145, 146, 147, 148, 149, 150, 151, 152, 153, 154, 159, 160, 161, 162, 163, 164, 165, 166, 155, 156, 157, 158] (by decide +kernel) (by decide +kernel)
set_option maxRecDepth 20000 in
theorem gL_same_X9_rule : GoodIn wsL_same (wsV RL 60 RX9 yX9_rule wsX9_rule) := goodIn_app (goodIn_of _ (by decide +kernel)) ggL_same_X9_rule
set_option maxRecDepth 20000 in
theorem ggL_same_X9_letter : GoodIn wsL_same wsX9_letter := goodIn_r _ [72, 20, 73, 74, 75, 18, 76, 77, 78, 79, 27, 80, 81, 82, 83, 84, 85, 86, 143, 144, 145, 146, 147, 148, 149, 150, 151, 152, 153, 154, 155, 156, 157, 158] (by decide +kernel) (by decide +kernel)
set_option maxRecDepth 20000 in
theorem gL_same_X9_letter : GoodIn wsL_same (wsV RL 63 RX9 yX9_letter wsX9_letter) := goodIn_app (goodIn_of _ (by decide +kernel)) ggL_same_X9_letter
set_option maxRecDepth 20000 in
theorem ggL_same_X9_isBoundary : GoodIn wsL_same wsX9_isBoundary := goodIn_r _ [90, 91, 73, 74, 75, 18, 76, 20, 77, 78, 79, 27, 80, 81, 92, 93, 94, 95, 96, 97, 143, 144, 145, 146, 147, 148, 149, 150, 151, 152, 153, 154, 155, 156, 157, 158, 167, 168, 169] (by decide +kernel) (by decide +kernel)
set_option maxRecDepth 20000 in
theorem gL_same_X9_isBoundary : GoodIn wsL_same (wsV RL 66 RX9 yX9_isBoundary wsX9_isBoundary) := goodIn_app (goodIn_of _ (by decide +kernel)) ggL_same_X9_isBoundary
set_option maxRecDepth 20000 in
theorem ggL_same_X9_stand : GoodIn wsL_same wsX9_stand := goodIn_r _ [101, 91, 73, 74, 75, 18, 76, 20, 77, 78, 79, 27, 80, 81, 102, 103, 104, 95, 105, 106, 107, 143, 144, 145, 146, 147, 148, 149, 150, 151, 152, 153, 154, 155, 156, 157, 158, 167, 168, 169] (by decide +kernel) (by decide +kernel)
set_option maxRecDepth 20000 in
theorem gL_same_X9_stand : GoodIn wsL_same (wsV RL 69 RX9 yX9_stand wsX9_stand) := goodIn_app (goodIn_of _ (by decide +kernel)) ggL_same_X9_stand
set_option maxRecDepth 20000 in
theorem ggL_same_X9_count : GoodIn wsL_same wsX9_count := goodIn_r _ [111, 34, 20, 91, 112, 113, 114, 39, 40, 41, 42, 43, 44, 115, 116, 117, 118, 119, 77, 78, 79, 27, 80, 81, 120, 121, 122, 95, 123, 97, 124, 125, 126, 127, 128, 129, 130, 131, 132, 133, 134, 135, 136, 137, 138, 139, 140, 141, 142, 143, 144, 145, 146, 147, 148, 149, 150, 151, 152, 153, 154, 159, 160, 161, 162, 163, 164, 165, 166, 155, 156, 157, 158, 167, 168, 169, 170, 171, 172, 173, 174, 175, 176, 177] (by decide +kernel) (by decide +kernel)
set_option maxRecDepth 20000 in
theorem gL_same_X9_count : GoodIn wsL_same (wsV RL 72 RX9 yX9_count wsX9_count) := goodIn_app (goodIn_of _ (by decide +kernel)) ggL_same_X9_count
set_option maxRecDepth 20000 in
theorem ggL_law_X9_init : GoodIn wsL_law wsX9_init := goodIn_r _ [6, 7, 8, 9, 10, 11, 12, 13, 14, 15, 16, 17, 18, 19, 20, 21, 22, 23, 24, 25, 26, 27, 28, 29, 30, 31, 32, 33, 34, 35, 36, 37, 38, 39, 40, 41, 42, 43, 44, 3, 45, 46, 47, 48, 49, 50, 51, 52, 53, 54, 55, 56, 57, 58, 59, 60, 61, 62, 63, 64, 65, 66, 67, 68, 69, 70, 71, 72, 73, 74, 75, 76, 77, 78, 79, 80, 81, 82, 83, 84, 85, 86, 87, 88, 89, 90, 91, 92, 93, 94, 95, 96, 97, 98, 99, 100, 101, 102, 103, 104, 105, 106, 107, 108, 109, 110, 111, 112, 113, 114, 115, 116, 117, 118, 119, 120, 121, 122, 123, 124, 125, 126, 127, 128, 129, 130, 131, 132, 133, 134, 135, 136, 137, 138, 139, 140, 141, 142, 143, 144, 145, 146, 147, 148, 149, 150, 151, 152, 153, 154, 155, 156, 157, 158, 159, 160, 161, 162, 2, 163, 164, 165, 166, 167, 168, 169, 170, 171, 172, 173, 174, 175, 176, 177, 178, 179, 180, 181, 182, 183, 184, 185, 186, 187, 188, 189, 190, 191, 192, 193, 194, 195, 196, 197, 198, 199, 200, 201, 202, 203, 204, 205, 206, 207, 208, 209, 210, 211, 212, 213, 214, 215, 216, 217, 218, 219, 220, 221, 222, 223, 224, 225, 226, 227, 228, 229, 230, 231, 232, 233, 234, 235, 236, 237, 238, 239, 240, 241, 242, 243, 244, 245, 246, 247, 248, 249, 250, 251, 252, 253, 254, 255, 256, 257, 258, 259, 260, 261, 262, 263, 264, 265, 266, 267, 268, 269, 270, 271, 272, 273, 274, 275, 276, 277, 278, 279, 280, 281, 282, 283, 284, 285, 286, 287, 288, 289, 290, 291, 292, 293, 294, 295, 296, 297, 298, 299, 300, 301, 302, 303, 304, 305, 306, 307, 308, 309, 310, 311, 312, 313, 314, 315, 316, 317, 318, 319, 320, 321, 322, 323, 324, 325, 326, 327, 328, 329, 330, 331, 332, 333, 334, 335, 336, 337, 338, 339, 340, 341, 342, 343, 344, 345, 346, 347, 348, 349, 350, 351, 352, 353, 354, 355, 356, 357, 358, 359, 360, 361, 362, 363, 364, 365, 366, 367, 368, 369, 370, 371, 372, 373, 374, 375, 376, 377, 378, 379, 380, 381, 592, 593, 594, 595, 580, 581, 582, 583, 584, 585, 586, 587, 588, 589, 590, 591, 596, 597, 598, 599, 600, 601, 602, 603, 604, 605, 606, 607, 608, 609, 610, 611, 612, 613, 614, 615, 616, 617, 618, 619, 620, 621, 622, 623, 624, 625, 626, 627, 628, 629, 630, 631, 632, 633, 634, 635, 636, 637] (by decide +kernel) (by decide +kernel)
set_option maxRecDepth 20000 in
theorem gL_law_X9_init : GoodIn wsL_law (wsX9_init) := ggL_law_X9_init
set_option maxRecDepth 20000 in
theorem ggL_law_L_draws : GoodIn wsL_law wsL_draws := goodIn_r _ [385, 3, 386, 387, 384, 388, 389, 390, 391, 392, 393, 394, 395, 396, 397, 398, 399, 400, 401, 402] (by decide +kernel) (by decide +kernel)
set_option maxRecDepth 20000 in
theorem gL_law_L_draws : GoodIn wsL_law (va_wsS RL 76 yL_draws wsL_draws) := goodIn_app (goodIn_of _ (by decide +kernel)) ggL_law_L_draws
set_option maxRecDepth 20000 in
theorem ggL_law_L_lays : GoodIn wsL_law wsL_lays := goodIn_r _ [405, 406, 407, 408, 2, 409, 13, 180, 181, 182, 12, 183, 159, 378, 379, 380, 381, 410, 411, 412, 413, 155, 156, 157, 158, 45, 414, 415, 416, 417, 17, 418, 419, 420, 421, 422, 423, 188, 189, 190, 191, 192, 193, 194, 195, 424, 425, 426, 427, 428, 429, 430, 431, 432, 433, 434, 435, 200, 201, 436, 437, 438, 439, 440, 441, 442, 443, 218, 219, 220, 221, 222, 444, 215, 216, 217, 445, 446, 447, 448, 160, 161, 162, 163, 21, 27, 164, 165, 166, 167, 16, 168, 169, 170, 171, 172, 173, 20, 174, 68, 69, 175, 176, 177, 178, 179, 184, 185, 186, 187, 196, 197, 198, 199, 202, 203, 204, 205, 206, 207, 208, 209, 210, 211, 212, 213, 57, 49, 50, 51, 214, 223, 224, 225, 56, 226, 227, 228, 229, 230, 231, 232, 52, 53, 233, 234, 235, 236, 61, 62, 64, 237, 238, 239, 240, 241, 242, 243, 244, 245, 246, 247, 248, 249, 250, 251, 252, 253, 254, 255, 256, 257, 258, 259, 260, 261, 262, 263, 264, 265, 266, 267, 268, 269, 270, 271, 272, 273, 274, 275, 276, 277, 278, 279, 280, 70, 281, 282, 283, 26, 284, 285, 286, 287, 288, 289, 31, 39, 290, 291, 292, 30, 293, 80, 294, 295, 296, 297, 298, 299, 81, 300, 301, 302, 303, 304, 305, 306, 307, 308, 309, 310, 311, 312, 313, 314, 315, 316, 317, 318, 319, 320, 321, 322, 323, 324, 325, 326, 327, 328, 329, 330, 331, 332, 333, 334, 335, 336, 337, 338, 339, 340, 341, 342, 343, 344, 38, 345, 346, 347, 348, 349, 350, 35, 351, 352, 353, 34, 354, 355, 356, 85, 357, 358, 359, 360, 361, 362, 363, 364, 365, 366, 367, 368, 369, 370, 371, 372, 373, 374, 375, 376, 377, 449, 580, 581, 582, 583, 584, 585, 586, 587, 588, 589, 590, 591, 592, 593, 594, 595, 596, 597, 598, 599, 600, 601, 602, 603, 604, 605, 606, 607, 630, 631, 632, 633, 608, 609, 610, 611, 612, 613, 614, 615, 619, 620, 621, 622, 623, 624, 625, 626, 627, 628, 629, 616, 617, 618] (by decide +kernel) (by decide +kernel)
set_option maxRecDepth 20000 in
theorem gL_law_L_lays : GoodIn wsL_law (va_wsS RL 80 yL_lays wsL_lays) := goodIn_app (goodIn_of _ (by decide +kernel)) ggL_law_L_lays
set_option maxRecDepth 20000 in
theorem ggL_law_L_cell : GoodIn wsL_law wsL_cell := goodIn_r _ [388, 389] (by decide +kernel) (by decide +kernel)
set_option maxRecDepth 20000 in
theorem gL_law_L_cell : GoodIn wsL_law (va_wsS RL 15 yL_cell wsL_cell) := goodIn_app (goodIn_of _ (by decide +kernel)) ggL_law_L_cell
set_option maxRecDepth 20000 in
theorem ggL_law_L_low : GoodIn wsL_law wsL_low := goodIn_r _ [392, 393] (by decide +kernel) (by decide +kernel)
set_option maxRecDepth 20000 in
theorem gL_law_L_low : GoodIn wsL_law (va_wsS RL 9 yL_low wsL_low) := goodIn_app (goodIn_of _ (by decide +kernel)) ggL_law_L_low
set_option maxRecDepth 20000 in
theorem ggL_law_X9_kind : GoodIn wsL_law wsX9_kind := goodIn_r _ [453, 21, 454, 200, 2, 201, 455, 367, 368, 20, 369, 68, 580, 581, 582, 583, 584, 585, 586, 587, 588, 589, 590, 591, 604, 605, 606, 607] (by decide +kernel) (by decide +kernel)
set_option maxRecDepth 20000 in
theorem gL_law_X9_kind : GoodIn wsL_law (wsV RL 57 RX9 yX9_kind wsX9_kind) := goodIn_app (goodIn_of _ (by decide +kernel)) ggL_law_X9_kind
set_option maxRecDepth 20000 in
theorem ggL_law_X9_rule : GoodIn wsL_law wsX9_rule := goodIn_r _ [459, 21, 17, 460, 461, 462, 2, 463, 449, 203, 204, 16, 205, 169, 464, 323, 324, 20, 325, 69, 465, 327, 328, 329, 49, 318, 319, 320, 321, 466, 315, 316, 317, 50, 467, 331, 332, 333, 51, 580, 581, 582, 583, 584, 585, 586, 587, 588, 589, 590, 591, 596, 597, 598, 599, 600, 601, 602, 603, 604, 605, 606, 607] (by decide +kernel) (by decide +kernel)
set_option maxRecDepth 20000 in
theorem gL_law_X9_rule : GoodIn wsL_law (wsV RL 60 RX9 yX9_rule wsX9_rule) := goodIn_app (goodIn_of _ (by decide +kernel)) ggL_law_X9_rule
set_option maxRecDepth 20000 in
theorem ggL_law_X9_count : GoodIn wsL_law wsX9_count := goodIn_r _ [471, 17, 21, 35, 27, 164, 13, 449, 203, 204, 16, 205, 169, 472, 302, 303, 304, 170, 473, 274, 275, 20, 276, 175, 474, 475, 476, 34, 477, 356, 478, 479, 480, 481, 482, 483, 484, 485, 486, 487, 26, 488, 285, 180, 181, 182, 12, 183, 159, 580, 581, 582, 583, 584, 585, 586, 587, 588, 589, 590, 591, 596, 597, 598, 599, 600, 601, 602, 603, 604, 605, 606, 607, 616, 617, 618, 608, 609, 610, 611, 592, 593, 594, 595] (by decide +kernel) (by decide +kernel)
set_option maxRecDepth 20000 in
theorem gL_law_X9_count : GoodIn wsL_law (wsV RL 72 RX9 yX9_count wsX9_count) := goodIn_app (goodIn_of _ (by decide +kernel)) ggL_law_X9_count
set_option maxRecDepth 20000 in
theorem ggL_law_X9_letter : GoodIn wsL_law wsX9_letter := goodIn_r _ [492, 21, 493, 494, 495, 2, 496, 473, 274, 275, 20, 276, 175, 497, 363, 364, 365, 70, 580, 581, 582, 583, 584, 585, 586, 587, 588, 589, 590, 591, 604, 605, 606, 607] (by decide +kernel) (by decide +kernel)
set_option maxRecDepth 20000 in
theorem gL_law_X9_letter : GoodIn wsL_law (wsV RL 63 RX9 yX9_letter wsX9_letter) := goodIn_app (goodIn_of _ (by decide +kernel)) ggL_law_X9_letter
set_option maxRecDepth 20000 in
theorem ggL_law_L_into : GoodIn wsL_law wsL_into := goodIn_r _ [500] (by decide +kernel) (by decide +kernel)
set_option maxRecDepth 20000 in
theorem gL_law_L_into : GoodIn wsL_law (va_wsS RL 84 yL_into wsL_into) := goodIn_app (goodIn_of _ (by decide +kernel)) ggL_law_L_into
