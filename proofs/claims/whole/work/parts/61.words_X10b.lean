set_option maxRecDepth 20000 in
theorem ggX10_isBoundary_X10_isPlace : GoodIn wsX10_isBoundary wsX10_isPlace := goodIn_r _ [6, 7, 8, 9, 5, 10, 40, 41, 42, 43, 44, 45, 46, 47, 48, 49, 50, 51, 52, 53, 54, 55, 56, 57, 58, 59, 60, 61, 62, 63, 64, 65, 66, 67, 68, 69, 70, 71, 72] (by decide +kernel) (by decide +kernel)
set_option maxRecDepth 20000 in
theorem gX10_isBoundary_X10_isPlace : GoodIn wsX10_isBoundary (wsV RX10 209 RX10 yX10_isPlace wsX10_isPlace) := goodIn_app (goodIn_of _ (by decide +kernel)) ggX10_isBoundary_X10_isPlace
set_option maxRecDepth 20000 in
theorem ggX10_isBoundary_X10_walks : GoodIn wsX10_isBoundary wsX10_walks := goodIn_r _ [14, 7, 1, 15, 16, 17, 18, 5, 19, 20, 21, 22, 23, 24, 25, 26, 27, 28, 29, 30, 31, 32, 33, 34, 35, 36, 37, 38, 39, 40, 41, 42, 43, 44, 45, 46, 47, 48, 49, 50, 51, 52, 53, 54, 55, 56, 57, 58, 59, 60, 61, 62, 63, 64, 65, 66, 67, 68, 69, 70, 71, 72] (by decide +kernel) (by decide +kernel)
set_option maxRecDepth 20000 in
theorem gX10_isBoundary_X10_walks : GoodIn wsX10_isBoundary (wsV RX10 242 RX10 yX10_walks wsX10_walks) := goodIn_app (goodIn_of _ (by decide +kernel)) ggX10_isBoundary_X10_walks
set_option maxRecDepth 20000 in
theorem ggX10_boundary_X10_isPlace : GoodIn wsX10_boundary wsX10_isPlace := goodIn_r _ [7, 1, 8, 9, 6, 10, 40, 41, 42, 43, 44, 45, 46, 47, 48, 49, 50, 51, 52, 53, 54, 55, 56, 57, 58, 59, 60, 61, 62, 63, 64, 65, 66, 67, 68, 69, 70, 71, 72] (by decide +kernel) (by decide +kernel)
set_option maxRecDepth 20000 in
theorem gX10_boundary_X10_isPlace : GoodIn wsX10_boundary (wsV RX10 209 RX10 yX10_isPlace wsX10_isPlace) := goodIn_app (goodIn_of _ (by decide +kernel)) ggX10_boundary_X10_isPlace
set_option maxRecDepth 20000 in
theorem ggX10_boundary_X10_in : GoodIn wsX10_boundary wsX10_in := goodIn_r _ [10] (by decide +kernel) (by decide +kernel)
set_option maxRecDepth 20000 in
theorem gX10_boundary_X10_in : GoodIn wsX10_boundary (va_wsS RX10 144 yX10_in wsX10_in) := goodIn_app (goodIn_of _ (by decide +kernel)) ggX10_boundary_X10_in
set_option maxRecDepth 20000 in
theorem ggX10_boundary_X10_walks : GoodIn wsX10_boundary wsX10_walks := goodIn_r _ [14, 1, 2, 15, 16, 17, 18, 6, 19, 20, 21, 22, 23, 24, 25, 26, 27, 28, 29, 30, 31, 32, 33, 34, 35, 36, 37, 38, 39, 40, 41, 42, 43, 44, 45, 46, 47, 48, 49, 50, 51, 52, 53, 54, 55, 56, 57, 58, 59, 60, 61, 62, 63, 64, 65, 66, 67, 68, 69, 70, 71, 72] (by decide +kernel) (by decide +kernel)
set_option maxRecDepth 20000 in
theorem gX10_boundary_X10_walks : GoodIn wsX10_boundary (wsV RX10 242 RX10 yX10_walks wsX10_walks) := goodIn_app (goodIn_of _ (by decide +kernel)) ggX10_boundary_X10_walks
set_option maxRecDepth 20000 in
theorem ggX10_stand_X10_isPlace : GoodIn wsX10_stand wsX10_isPlace := goodIn_r _ [6, 7, 8, 9, 5, 10, 40, 41, 42, 43, 44, 45, 46, 47, 48, 49, 50, 51, 52, 53, 54, 55, 56, 57, 58, 59, 60, 61, 62, 63, 64, 65, 66, 67, 68, 69, 70, 71, 72] (by decide +kernel) (by decide +kernel)
set_option maxRecDepth 20000 in
theorem gX10_stand_X10_isPlace : GoodIn wsX10_stand (wsV RX10 209 RX10 yX10_isPlace wsX10_isPlace) := goodIn_app (goodIn_of _ (by decide +kernel)) ggX10_stand_X10_isPlace
set_option maxRecDepth 20000 in
theorem ggX10_stand_X10_walks : GoodIn wsX10_stand wsX10_walks := goodIn_r _ [14, 7, 15, 1, 16, 17, 18, 5, 19, 20, 21, 22, 23, 24, 25, 26, 27, 28, 29, 30, 31, 32, 33, 34, 35, 36, 37, 38, 39, 40, 41, 42, 43, 44, 45, 46, 47, 48, 49, 50, 51, 52, 53, 54, 55, 56, 57, 58, 59, 60, 61, 62, 63, 64, 65, 66, 67, 68, 69, 70, 71, 72] (by decide +kernel) (by decide +kernel)
set_option maxRecDepth 20000 in
theorem gX10_stand_X10_walks : GoodIn wsX10_stand (wsV RX10 242 RX10 yX10_walks wsX10_walks) := goodIn_app (goodIn_of _ (by decide +kernel)) ggX10_stand_X10_walks
set_option maxRecDepth 20000 in
theorem ggX10_piece_X10_walks : GoodIn wsX10_piece wsX10_walks := goodIn_r _ [8, 9, 2, 3, 10, 11, 12, 7, 13, 14, 15, 16, 17, 18, 19, 20, 21, 22, 23, 24, 25, 26, 27, 28, 29, 30, 31, 32, 33, 45, 46, 47, 48, 49, 50, 51, 52, 53, 54, 55, 56, 57, 58, 59, 60, 61, 62, 63, 64, 65, 66, 67, 68, 69, 70, 71, 72, 73, 74, 75, 76, 77] (by decide +kernel) (by decide +kernel)
set_option maxRecDepth 20000 in
theorem gX10_piece_X10_walks : GoodIn wsX10_piece (wsV RX10 242 RX10 yX10_walks wsX10_walks) := goodIn_app (goodIn_of _ (by decide +kernel)) ggX10_piece_X10_walks
set_option maxRecDepth 20000 in
theorem ggX10_piece_X10_pieces : GoodIn wsX10_piece wsX10_pieces := goodIn_r _ [37, 9, 2, 45, 46, 47, 48, 49, 50, 51, 52, 53, 54, 55, 56, 57, 58, 59, 60, 61, 62, 63, 64, 65, 66, 67, 68, 69, 70, 71, 72, 73, 74, 75, 76, 77] (by decide +kernel) (by decide +kernel)
set_option maxRecDepth 20000 in
theorem gX10_piece_X10_pieces : GoodIn wsX10_piece (wsV RX10 245 RX10 yX10_pieces wsX10_pieces) := goodIn_app (goodIn_of _ (by decide +kernel)) ggX10_piece_X10_pieces
set_option maxRecDepth 20000 in
theorem ggX10_piece_X10_in : GoodIn wsX10_piece wsX10_in := goodIn_r _ [40] (by decide +kernel) (by decide +kernel)
set_option maxRecDepth 20000 in
theorem gX10_piece_X10_in : GoodIn wsX10_piece (va_wsS RX10 144 yX10_in wsX10_in) := goodIn_app (goodIn_of _ (by decide +kernel)) ggX10_piece_X10_in
set_option maxRecDepth 20000 in
theorem ggX10_piece_X10_rulesIn : GoodIn wsX10_piece wsX10_rulesIn := goodIn_r _ [44, 14, 15, 45, 46, 47, 48, 49, 50, 51, 52, 53, 54, 55, 56, 57, 58, 59, 60, 61, 62, 63, 64, 65, 66, 67, 68, 69, 70, 71, 72, 73, 74, 75, 76, 77] (by decide +kernel) (by decide +kernel)
set_option maxRecDepth 20000 in
theorem gX10_piece_X10_rulesIn : GoodIn wsX10_piece (wsV RX10 248 RX10 yX10_rulesIn wsX10_rulesIn) := goodIn_app (goodIn_of _ (by decide +kernel)) ggX10_piece_X10_rulesIn
set_option maxRecDepth 20000 in
theorem ggX10_allWays_X10_begun : GoodIn wsX10_allWays wsX10_begun := goodIn_r _ [9, 10, 11, 12, 13, 14, 8, 15, 16, 17, 18, 19, 20, 21, 22, 23, 24, 35, 36, 37, 38, 39, 40, 41, 42, 43, 44, 45, 46, 47, 48, 49, 50, 51, 52, 53, 54, 55, 56, 57, 58, 59, 60, 61, 62, 63, 64, 65, 66, 67] (by decide +kernel) (by decide +kernel)
set_option maxRecDepth 20000 in
theorem gX10_allWays_X10_begun : GoodIn wsX10_allWays (wsV RX10 239 RX10 yX10_begun wsX10_begun) := goodIn_app (goodIn_of _ (by decide +kernel)) ggX10_allWays_X10_begun
set_option maxRecDepth 20000 in
theorem ggX10_allWays_X10_meets : GoodIn wsX10_allWays wsX10_meets := goodIn_r _ [28, 1, 2, 3, 35, 36, 37, 38, 39, 40, 41, 42, 43, 44, 45, 46, 47, 48, 49, 50, 51, 52, 53, 54, 55, 56, 57, 58, 59, 60, 61, 62, 63, 64, 65, 66, 67] (by decide +kernel) (by decide +kernel)
set_option maxRecDepth 20000 in
theorem gX10_allWays_X10_meets : GoodIn wsX10_allWays (wsV RX10 254 RX10 yX10_meets wsX10_meets) := goodIn_app (goodIn_of _ (by decide +kernel)) ggX10_allWays_X10_meets
set_option maxRecDepth 20000 in
theorem ggX10_allWays_X10_goes : GoodIn wsX10_allWays wsX10_goes := goodIn_r _ [32, 10, 33, 12, 20, 34, 13, 14, 8, 15, 16, 17, 18, 19, 21, 22, 23, 24, 35, 36, 37, 38, 39, 40, 41, 42, 43, 44, 45, 46, 47, 48, 49, 50, 51, 52, 53, 54, 55, 56, 57, 58, 59, 60, 61, 62, 63, 64, 65, 66, 67] (by decide +kernel) (by decide +kernel)
set_option maxRecDepth 20000 in
theorem gX10_allWays_X10_goes : GoodIn wsX10_allWays (wsV RX10 236 RX10 yX10_goes wsX10_goes) := goodIn_app (goodIn_of _ (by decide +kernel)) ggX10_allWays_X10_goes
set_option maxRecDepth 20000 in
theorem ggX10_unlikeWays_X10_isFiner : GoodIn wsX10_unlikeWays wsX10_isFiner := goodIn_r _ [8, 2, 9, 10, 11, 12, 13, 14, 15, 16, 17, 18, 19, 20, 21, 22, 23, 24, 25, 26, 27, 28, 29, 30, 31, 32, 33, 34, 35, 36, 37, 38, 39, 40, 41, 42] (by decide +kernel) (by decide +kernel)
set_option maxRecDepth 20000 in
theorem gX10_unlikeWays_X10_isFiner : GoodIn wsX10_unlikeWays (wsV RX10 257 RX10 yX10_isFiner wsX10_isFiner) := goodIn_app (goodIn_of _ (by decide +kernel)) ggX10_unlikeWays_X10_isFiner
set_option maxRecDepth 20000 in
theorem ggX10_behindOne_X10_goes : GoodIn wsX10_behindOne wsX10_goes := goodIn_r _ [5, 6, 7, 8, 9, 10, 11, 12, 4, 13, 14, 15, 16, 17, 18, 19, 20, 21, 27, 28, 29, 30, 31, 32, 33, 34, 35, 36, 37, 38, 39, 40, 41, 42, 43, 44, 45, 46, 47, 48, 49, 50, 51, 52, 53, 54, 55, 56, 57, 58, 59] (by decide +kernel) (by decide +kernel)
set_option maxRecDepth 20000 in
theorem gX10_behindOne_X10_goes : GoodIn wsX10_behindOne (wsV RX10 236 RX10 yX10_goes wsX10_goes) := goodIn_app (goodIn_of _ (by decide +kernel)) ggX10_behindOne_X10_goes
set_option maxRecDepth 20000 in
theorem ggX10_behindOne_X10_begun : GoodIn wsX10_behindOne wsX10_begun := goodIn_r _ [25, 6, 26, 8, 11, 12, 4, 13, 14, 15, 16, 17, 9, 18, 19, 20, 21, 27, 28, 29, 30, 31, 32, 33, 34, 35, 36, 37, 38, 39, 40, 41, 42, 43, 44, 45, 46, 47, 48, 49, 50, 51, 52, 53, 54, 55, 56, 57, 58, 59] (by decide +kernel) (by decide +kernel)
set_option maxRecDepth 20000 in
theorem gX10_behindOne_X10_begun : GoodIn wsX10_behindOne (wsV RX10 239 RX10 yX10_begun wsX10_begun) := goodIn_app (goodIn_of _ (by decide +kernel)) ggX10_behindOne_X10_begun
set_option maxRecDepth 20000 in
theorem ggX10_isKnown_X10_begun : GoodIn wsX10_isKnown wsX10_begun := goodIn_r _ [7, 8, 9, 10, 11, 12, 6, 13, 14, 15, 16, 17, 18, 19, 20, 21, 22, 33, 34, 35, 36, 37, 38, 39, 40, 41, 42, 43, 44, 45, 46, 47, 48, 49, 50, 51, 52, 53, 54, 55, 56, 57, 58, 59, 60, 61, 62, 63, 64, 65] (by decide +kernel) (by decide +kernel)
set_option maxRecDepth 20000 in
theorem gX10_isKnown_X10_begun : GoodIn wsX10_isKnown (wsV RX10 239 RX10 yX10_begun wsX10_begun) := goodIn_app (goodIn_of _ (by decide +kernel)) ggX10_isKnown_X10_begun
set_option maxRecDepth 20000 in
theorem ggX10_isKnown_X10_behindOne : GoodIn wsX10_isKnown wsX10_behindOne := goodIn_r _ [26, 27, 28, 29, 6, 30, 8, 31, 10, 18, 32, 11, 12, 13, 14, 15, 16, 17, 19, 20, 21, 22, 3, 4, 5, 7, 9, 33, 34, 35, 36, 37, 38, 39, 40, 41, 42, 43, 44, 45, 46, 47, 48, 49, 50, 51, 52, 53, 54, 55, 56, 57, 58, 59, 60, 61, 62, 63, 64, 65] (by decide +kernel) (by decide +kernel)
set_option maxRecDepth 20000 in
theorem gX10_isKnown_X10_behindOne : GoodIn wsX10_isKnown (wsV RX10 260 RX10 yX10_behindOne wsX10_behindOne) := goodIn_app (goodIn_of _ (by decide +kernel)) ggX10_isKnown_X10_behindOne
set_option maxRecDepth 20000 in
theorem ggX10_backFrom_X10_isKnown : GoodIn wsX10_backFrom wsX10_isKnown := goodIn_r _ [6, 7, 8, 9, 10, 11, 5, 12, 13, 14, 15, 16, 17, 18, 19, 20, 21, 22, 23, 24, 25, 26, 27, 28, 29, 30, 31, 32, 33, 34, 35, 1, 36, 37, 38, 39, 40, 41, 42, 43, 44, 45, 46, 47, 48, 49, 50, 51, 52, 53, 54, 55, 56, 57, 58, 59, 60, 61, 62, 63, 64, 65, 66, 67, 68, 69] (by decide +kernel) (by decide +kernel)
set_option maxRecDepth 20000 in
theorem gX10_backFrom_X10_isKnown : GoodIn wsX10_backFrom (wsV RX10 263 RX10 yX10_isKnown wsX10_isKnown) := goodIn_app (goodIn_of _ (by decide +kernel)) ggX10_backFrom_X10_isKnown
set_option maxRecDepth 20000 in
theorem ggX10_knownPairs_X10_isKnown : GoodIn wsX10_knownPairs wsX10_isKnown := goodIn_r _ [5, 6, 7, 8, 9, 10, 4, 11, 12, 13, 14, 15, 16, 17, 18, 19, 20, 21, 22, 23, 24, 25, 26, 27, 28, 29, 30, 31, 32, 33, 34, 35, 36, 37, 38, 39, 40, 41, 42, 43, 44, 45, 46, 47, 48, 49, 50, 51, 52, 53, 54, 55, 56, 57, 58, 59, 60, 61, 62, 63, 64, 65, 66, 67, 68, 69] (by decide +kernel) (by decide +kernel)
set_option maxRecDepth 20000 in
theorem gX10_knownPairs_X10_isKnown : GoodIn wsX10_knownPairs (wsV RX10 263 RX10 yX10_isKnown wsX10_isKnown) := goodIn_app (goodIn_of _ (by decide +kernel)) ggX10_knownPairs_X10_isKnown
set_option maxRecDepth 20000 in
theorem ggX10_farthest_X10_backFrom : GoodIn wsX10_farthest wsX10_backFrom := goodIn_r _ [6, 1, 7, 8, 9, 5, 10, 11, 12, 13, 14, 15, 16, 17, 18, 19, 20, 21, 22, 23, 24, 25, 26, 27, 28, 29, 30, 31, 32, 33, 34, 35, 36, 37, 38, 39, 40, 44, 45, 46, 47, 48, 49, 50, 51, 52, 53, 54, 55, 56, 57, 58, 59, 60, 61, 62, 63, 64, 65, 66, 67, 68, 69, 70, 71, 72, 73, 74, 75, 76] (by decide +kernel) (by decide +kernel)
set_option maxRecDepth 20000 in
theorem gX10_farthest_X10_backFrom : GoodIn wsX10_farthest (wsV RX10 266 RX10 yX10_backFrom wsX10_backFrom) := goodIn_app (goodIn_of _ (by decide +kernel)) ggX10_farthest_X10_backFrom
set_option maxRecDepth 20000 in
theorem ggX10_farthest_X10_larger : GoodIn wsX10_farthest wsX10_larger := goodIn_r _ [43] (by decide +kernel) (by decide +kernel)
set_option maxRecDepth 20000 in
theorem gX10_farthest_X10_larger : GoodIn wsX10_farthest (va_wsS RX10 269 yX10_larger wsX10_larger) := goodIn_app (goodIn_of _ (by decide +kernel)) ggX10_farthest_X10_larger
set_option maxRecDepth 20000 in
theorem ggX10_machine_X10_in : GoodIn wsX10_machine wsX10_in := goodIn_r _ [6] (by decide +kernel) (by decide +kernel)
set_option maxRecDepth 20000 in
theorem gX10_machine_X10_in : GoodIn wsX10_machine (va_wsS RX10 144 yX10_in wsX10_in) := goodIn_app (goodIn_of _ (by decide +kernel)) ggX10_machine_X10_in
set_option maxRecDepth 20000 in
theorem ggX10_machine_X10_allWays : GoodIn wsX10_machine wsX10_allWays := goodIn_r _ [10, 11, 2, 12, 13, 14, 15, 16, 5, 17, 18, 19, 20, 21, 22, 23, 24, 25, 26, 27, 28, 29, 30, 31, 32, 33, 34, 35, 36, 37, 38, 39, 40, 41, 42, 80, 81, 82, 83, 84, 85, 86, 87, 88, 89, 90, 91, 92, 93, 94, 95, 96, 97, 98, 99, 100, 101, 102, 103, 104, 105, 106, 107, 108, 109, 110, 111, 112] (by decide +kernel) (by decide +kernel)
set_option maxRecDepth 20000 in
theorem gX10_machine_X10_allWays : GoodIn wsX10_machine (wsV RX10 274 RX10 yX10_allWays wsX10_allWays) := goodIn_app (goodIn_of _ (by decide +kernel)) ggX10_machine_X10_allWays
set_option maxRecDepth 20000 in
theorem ggX10_machine_X10_unlikeWays : GoodIn wsX10_machine wsX10_unlikeWays := goodIn_r _ [46, 2, 47, 48, 49, 50, 51, 5, 52, 13, 80, 81, 82, 83, 84, 85, 86, 87, 88, 89, 90, 91, 92, 93, 94, 95, 96, 97, 98, 99, 100, 101, 102, 103, 104, 105, 106, 107, 108, 109, 110, 111, 112] (by decide +kernel) (by decide +kernel)
set_option maxRecDepth 20000 in
theorem gX10_machine_X10_unlikeWays : GoodIn wsX10_machine (wsV RX10 277 RX10 yX10_unlikeWays wsX10_unlikeWays) := goodIn_app (goodIn_of _ (by decide +kernel)) ggX10_machine_X10_unlikeWays
set_option maxRecDepth 20000 in
theorem ggX10_machine_X10_knownPairs : GoodIn wsX10_machine wsX10_knownPairs := goodIn_r _ [56, 57, 58, 59, 5, 60, 2, 12, 14, 15, 16, 17, 18, 19, 20, 21, 22, 23, 24, 25, 26, 27, 28, 29, 30, 31, 32, 61, 62, 63, 64, 37, 38, 39, 40, 41, 42, 80, 81, 82, 83, 84, 85, 86, 87, 88, 89, 90, 91, 92, 93, 94, 95, 96, 97, 98, 99, 100, 101, 102, 103, 104, 105, 106, 107, 108, 109, 110, 111, 112] (by decide +kernel) (by decide +kernel)
set_option maxRecDepth 20000 in
theorem gX10_machine_X10_knownPairs : GoodIn wsX10_machine (wsV RX10 281 RX10 yX10_knownPairs wsX10_knownPairs) := goodIn_app (goodIn_of _ (by decide +kernel)) ggX10_machine_X10_knownPairs
set_option maxRecDepth 20000 in
theorem ggX10_machine_X10_fours : GoodIn wsX10_machine wsX10_fours := goodIn_r _ [68, 41, 80, 81, 82, 83, 84, 85, 86, 87, 88, 89, 90, 91, 92, 93, 94, 95, 96, 97, 98, 99, 100, 101, 102, 103, 104, 105, 106, 107, 108, 109, 110, 111, 112] (by decide +kernel) (by decide +kernel)
set_option maxRecDepth 20000 in
theorem gX10_machine_X10_fours : GoodIn wsX10_machine (wsV RX10 284 RX10 yX10_fours wsX10_fours) := goodIn_app (goodIn_of _ (by decide +kernel)) ggX10_machine_X10_fours
set_option maxRecDepth 20000 in
theorem ggX10_machine_X10_farthest : GoodIn wsX10_machine wsX10_farthest := goodIn_r _ [72, 41, 73, 74, 75, 5, 76, 57, 58, 59, 60, 2, 12, 14, 15, 16, 17, 18, 19, 20, 21, 22, 23, 24, 25, 26, 27, 28, 29, 30, 31, 32, 61, 62, 63, 64, 37, 38, 39, 40, 42, 77, 78, 79, 80, 81, 82, 83, 84, 85, 86, 87, 88, 89, 90, 91, 92, 93, 94, 95, 96, 97, 98, 99, 100, 101, 102, 103, 104, 105, 106, 107, 108, 109, 110, 111, 112] (by decide +kernel) (by decide +kernel)
set_option maxRecDepth 20000 in
theorem gX10_machine_X10_farthest : GoodIn wsX10_machine (wsV RX10 287 RX10 yX10_farthest wsX10_farthest) := goodIn_app (goodIn_of _ (by decide +kernel)) ggX10_machine_X10_farthest
set_option maxRecDepth 20000 in
theorem ggX10_alike_X10_in : GoodIn wsX10_alike wsX10_in := goodIn_r _ [7] (by decide +kernel) (by decide +kernel)
set_option maxRecDepth 20000 in
theorem gX10_alike_X10_in : GoodIn wsX10_alike (va_wsS RX10 144 yX10_in wsX10_in) := goodIn_app (goodIn_of _ (by decide +kernel)) ggX10_alike_X10_in
set_option maxRecDepth 20000 in
theorem ggX10_alike_X10_allWays : GoodIn wsX10_alike wsX10_allWays := goodIn_r _ [11, 12, 2, 3, 13, 14, 15, 16, 6, 17, 18, 19, 20, 21, 22, 23, 24, 25, 26, 27, 28, 29, 30, 31, 32, 33, 34, 35, 36, 37, 38, 39, 40, 41, 42, 43, 44, 45, 46, 47, 48, 49, 50, 51, 52, 53, 54, 55, 56, 57, 58, 59, 60, 61, 62, 63, 64, 65, 66, 67, 68, 69, 70, 71, 72, 73, 74, 75] (by decide +kernel) (by decide +kernel)
set_option maxRecDepth 20000 in
theorem gX10_alike_X10_allWays : GoodIn wsX10_alike (wsV RX10 274 RX10 yX10_allWays wsX10_allWays) := goodIn_app (goodIn_of _ (by decide +kernel)) ggX10_alike_X10_allWays
set_option maxRecDepth 20000 in
theorem ggX10_alike_X10_begun : GoodIn wsX10_alike wsX10_begun := goodIn_r _ [17, 18, 19, 20, 21, 22, 6, 23, 24, 25, 26, 27, 28, 29, 30, 31, 32, 43, 44, 45, 46, 47, 48, 49, 50, 51, 52, 53, 54, 55, 56, 57, 58, 59, 60, 61, 62, 63, 64, 65, 66, 67, 68, 69, 70, 71, 72, 73, 74, 75] (by decide +kernel) (by decide +kernel)
set_option maxRecDepth 20000 in
theorem gX10_alike_X10_begun : GoodIn wsX10_alike (wsV RX10 239 RX10 yX10_begun wsX10_begun) := goodIn_app (goodIn_of _ (by decide +kernel)) ggX10_alike_X10_begun
set_option maxRecDepth 20000 in
theorem ggX10_alike_X10_goes : GoodIn wsX10_alike wsX10_goes := goodIn_r _ [40, 18, 41, 20, 28, 42, 21, 22, 6, 23, 24, 25, 26, 27, 29, 30, 31, 32, 43, 44, 45, 46, 47, 48, 49, 50, 51, 52, 53, 54, 55, 56, 57, 58, 59, 60, 61, 62, 63, 64, 65, 66, 67, 68, 69, 70, 71, 72, 73, 74, 75] (by decide +kernel) (by decide +kernel)
set_option maxRecDepth 20000 in
theorem gX10_alike_X10_goes : GoodIn wsX10_alike (wsV RX10 236 RX10 yX10_goes wsX10_goes) := goodIn_app (goodIn_of _ (by decide +kernel)) ggX10_alike_X10_goes
set_option maxRecDepth 20000 in
theorem ggX10_known__X10_in : GoodIn wsX10_known_ wsX10_in := goodIn_r _ [5] (by decide +kernel) (by decide +kernel)
set_option maxRecDepth 20000 in
theorem gX10_known__X10_in : GoodIn wsX10_known_ (va_wsS RX10 144 yX10_in wsX10_in) := goodIn_app (goodIn_of _ (by decide +kernel)) ggX10_known__X10_in
set_option maxRecDepth 20000 in
theorem ggX10_known__X10_allWays : GoodIn wsX10_known_ wsX10_allWays := goodIn_r _ [9, 10, 11, 12, 13, 14, 15, 16, 4, 17, 18, 19, 20, 21, 22, 23, 24, 25, 26, 27, 28, 29, 30, 31, 32, 33, 34, 35, 36, 37, 38, 39, 40, 41, 42, 51, 52, 53, 54, 55, 56, 57, 58, 59, 60, 61, 62, 63, 64, 65, 66, 67, 68, 69, 70, 71, 72, 73, 74, 75, 76, 77, 78, 79, 80, 81, 82, 83] (by decide +kernel) (by decide +kernel)
set_option maxRecDepth 20000 in
theorem gX10_known__X10_allWays : GoodIn wsX10_known_ (wsV RX10 274 RX10 yX10_allWays wsX10_allWays) := goodIn_app (goodIn_of _ (by decide +kernel)) ggX10_known__X10_allWays
set_option maxRecDepth 20000 in
theorem ggX10_known__X10_isKnown : GoodIn wsX10_known_ wsX10_isKnown := goodIn_r _ [46, 11, 12, 14, 15, 16, 4, 17, 18, 19, 20, 21, 22, 23, 24, 25, 26, 27, 28, 29, 30, 31, 32, 47, 48, 49, 50, 37, 38, 39, 40, 41, 42, 51, 52, 53, 54, 55, 56, 57, 58, 59, 60, 61, 62, 63, 64, 65, 66, 67, 68, 69, 70, 71, 72, 73, 74, 75, 76, 77, 78, 79, 80, 81, 82, 83] (by decide +kernel) (by decide +kernel)
set_option maxRecDepth 20000 in
theorem gX10_known__X10_isKnown : GoodIn wsX10_known_ (wsV RX10 263 RX10 yX10_isKnown wsX10_isKnown) := goodIn_app (goodIn_of _ (by decide +kernel)) ggX10_known__X10_isKnown
set_option maxRecDepth 20000 in
theorem ggX10_back_X10_isPlace : GoodIn wsX10_back wsX10_isPlace := goodIn_r _ [5, 6, 7, 8, 4, 9, 58, 59, 60, 61, 62, 63, 64, 65, 66, 67, 68, 69, 70, 71, 72, 73, 74, 75, 76, 77, 78, 79, 80, 81, 82, 83, 84, 85, 86, 87, 88, 89, 90] (by decide +kernel) (by decide +kernel)
set_option maxRecDepth 20000 in
theorem gX10_back_X10_isPlace : GoodIn wsX10_back (wsV RX10 209 RX10 yX10_isPlace wsX10_isPlace) := goodIn_app (goodIn_of _ (by decide +kernel)) ggX10_back_X10_isPlace
set_option maxRecDepth 20000 in
theorem ggX10_back_X10_in : GoodIn wsX10_back wsX10_in := goodIn_r _ [9] (by decide +kernel) (by decide +kernel)
set_option maxRecDepth 20000 in
theorem gX10_back_X10_in : GoodIn wsX10_back (va_wsS RX10 144 yX10_in wsX10_in) := goodIn_app (goodIn_of _ (by decide +kernel)) ggX10_back_X10_in
set_option maxRecDepth 20000 in
theorem ggX10_back_X10_allWays : GoodIn wsX10_back wsX10_allWays := goodIn_r _ [13, 14, 15, 16, 17, 18, 19, 20, 4, 21, 22, 23, 24, 25, 26, 27, 28, 29, 30, 31, 32, 33, 34, 35, 36, 37, 38, 39, 40, 41, 42, 43, 44, 6, 45, 58, 59, 60, 61, 62, 63, 64, 65, 66, 67, 68, 69, 70, 71, 72, 73, 74, 75, 76, 77, 78, 79, 80, 81, 82, 83, 84, 85, 86, 87, 88, 89, 90] (by decide +kernel) (by decide +kernel)
set_option maxRecDepth 20000 in
theorem gX10_back_X10_allWays : GoodIn wsX10_back (wsV RX10 274 RX10 yX10_allWays wsX10_allWays) := goodIn_app (goodIn_of _ (by decide +kernel)) ggX10_back_X10_allWays
set_option maxRecDepth 20000 in
theorem ggX10_back_X10_backFrom : GoodIn wsX10_back wsX10_backFrom := goodIn_r _ [49, 6, 50, 51, 52, 4, 53, 15, 16, 18, 19, 20, 21, 22, 23, 24, 25, 26, 27, 28, 29, 30, 31, 32, 33, 34, 35, 36, 54, 55, 56, 57, 41, 42, 43, 44, 45, 58, 59, 60, 61, 62, 63, 64, 65, 66, 67, 68, 69, 70, 71, 72, 73, 74, 75, 76, 77, 78, 79, 80, 81, 82, 83, 84, 85, 86, 87, 88, 89, 90] (by decide +kernel) (by decide +kernel)
set_option maxRecDepth 20000 in
theorem gX10_back_X10_backFrom : GoodIn wsX10_back (wsV RX10 266 RX10 yX10_backFrom wsX10_backFrom) := goodIn_app (goodIn_of _ (by decide +kernel)) ggX10_back_X10_backFrom
set_option maxRecDepth 20000 in
theorem ggX10_idle_X10_walks : GoodIn wsX10_idle wsX10_walks := goodIn_r _ [10, 1, 3, 11, 12, 13, 14, 9, 15, 4, 16, 17, 18, 19, 20, 21, 22, 23, 24, 25, 26, 27, 28, 29, 30, 31, 32, 33, 5, 34, 35, 36, 37, 38, 39, 40, 41, 42, 43, 44, 45, 46, 47, 48, 49, 50, 51, 52, 53, 54, 55, 56, 57, 58, 59, 60, 61, 62, 63, 64, 65, 66] (by decide +kernel) (by decide +kernel)
set_option maxRecDepth 20000 in
theorem gX10_idle_X10_walks : GoodIn wsX10_idle (wsV RX10 242 RX10 yX10_walks wsX10_walks) := goodIn_app (goodIn_of _ (by decide +kernel)) ggX10_idle_X10_walks
set_option maxRecDepth 20000 in
theorem ggX10_least_X10_isRule : GoodIn wsX10_least wsX10_isRule := goodIn_r _ [8, 9, 10, 11, 7, 12, 35, 36, 37, 38, 39, 40, 41, 42, 43, 44, 45, 46, 47, 48, 49, 50, 51, 52, 53, 54, 55, 56, 57, 58, 59, 60, 61, 62, 63, 64, 65, 66, 67] (by decide +kernel) (by decide +kernel)
set_option maxRecDepth 20000 in
theorem gX10_least_X10_isRule : GoodIn wsX10_least (wsV RX10 202 RX10 yX10_isRule wsX10_isRule) := goodIn_app (goodIn_of _ (by decide +kernel)) ggX10_least_X10_isRule
set_option maxRecDepth 20000 in
theorem ggX10_least_X10_begun : GoodIn wsX10_least wsX10_begun := goodIn_r _ [16, 9, 17, 3, 18, 19, 7, 20, 21, 22, 23, 24, 2, 25, 26, 27, 28, 35, 36, 37, 38, 39, 40, 41, 42, 43, 44, 45, 46, 47, 48, 49, 50, 51, 52, 53, 54, 55, 56, 57, 58, 59, 60, 61, 62, 63, 64, 65, 66, 67] (by decide +kernel) (by decide +kernel)
set_option maxRecDepth 20000 in
theorem gX10_least_X10_begun : GoodIn wsX10_least (wsV RX10 239 RX10 yX10_begun wsX10_begun) := goodIn_app (goodIn_of _ (by decide +kernel)) ggX10_least_X10_begun
set_option maxRecDepth 20000 in
theorem ggX10_least_X10_goes : GoodIn wsX10_least wsX10_goes := goodIn_r _ [32, 9, 33, 3, 2, 34, 18, 19, 7, 20, 21, 22, 23, 24, 25, 26, 27, 28, 35, 36, 37, 38, 39, 40, 41, 42, 43, 44, 45, 46, 47, 48, 49, 50, 51, 52, 53, 54, 55, 56, 57, 58, 59, 60, 61, 62, 63, 64, 65, 66, 67] (by decide +kernel) (by decide +kernel)
set_option maxRecDepth 20000 in
theorem gX10_least_X10_goes : GoodIn wsX10_least (wsV RX10 236 RX10 yX10_goes wsX10_goes) := goodIn_app (goodIn_of _ (by decide +kernel)) ggX10_least_X10_goes
set_option maxRecDepth 20000 in
theorem ggX10_day_X10_in : GoodIn wsX10_day wsX10_in := goodIn_r _ [12] (by decide +kernel) (by decide +kernel)
set_option maxRecDepth 20000 in
theorem gX10_day_X10_in : GoodIn wsX10_day (va_wsS RX10 144 yX10_in wsX10_in) := goodIn_app (goodIn_of _ (by decide +kernel)) ggX10_day_X10_in
set_option maxRecDepth 20000 in
theorem ggX10_day_X10_copies : GoodIn wsX10_day wsX10_copies := goodIn_r _ [16, 7, 61, 62, 63, 64, 65, 66, 67, 68, 69, 70, 71, 72, 73, 74, 75, 76, 77, 78, 79, 80, 81, 82, 83, 84, 85, 86, 87, 88, 89, 90, 91, 92, 93] (by decide +kernel) (by decide +kernel)
set_option maxRecDepth 20000 in
theorem gX10_day_X10_copies : GoodIn wsX10_day (wsV RX10 212 RX10 yX10_copies wsX10_copies) := goodIn_app (goodIn_of _ (by decide +kernel)) ggX10_day_X10_copies
set_option maxRecDepth 20000 in
theorem ggX10_day_X10_puts : GoodIn wsX10_day wsX10_puts := goodIn_r _ [20, 7, 61, 62, 63, 64, 65, 66, 67, 68, 69, 70, 71, 72, 73, 74, 75, 76, 77, 78, 79, 80, 81, 82, 83, 84, 85, 86, 87, 88, 89, 90, 91, 92, 93] (by decide +kernel) (by decide +kernel)
set_option maxRecDepth 20000 in
theorem gX10_day_X10_puts : GoodIn wsX10_day (wsV RX10 218 RX10 yX10_puts wsX10_puts) := goodIn_app (goodIn_of _ (by decide +kernel)) ggX10_day_X10_puts
set_option maxRecDepth 20000 in
theorem ggX10_day_X10_takesOut : GoodIn wsX10_day wsX10_takesOut := goodIn_r _ [24, 7, 61, 62, 63, 64, 65, 66, 67, 68, 69, 70, 71, 72, 73, 74, 75, 76, 77, 78, 79, 80, 81, 82, 83, 84, 85, 86, 87, 88, 89, 90, 91, 92, 93] (by decide +kernel) (by decide +kernel)
set_option maxRecDepth 20000 in
theorem gX10_day_X10_takesOut : GoodIn wsX10_day (wsV RX10 222 RX10 yX10_takesOut wsX10_takesOut) := goodIn_app (goodIn_of _ (by decide +kernel)) ggX10_day_X10_takesOut
set_option maxRecDepth 20000 in
theorem ggX10_day_X10_walks : GoodIn wsX10_day wsX10_walks := goodIn_r _ [28, 7, 8, 29, 30, 31, 32, 11, 33, 34, 35, 36, 37, 38, 39, 40, 41, 42, 43, 44, 45, 46, 47, 48, 49, 50, 51, 52, 53, 61, 62, 63, 64, 65, 66, 67, 68, 69, 70, 71, 72, 73, 74, 75, 76, 77, 78, 79, 80, 81, 82, 83, 84, 85, 86, 87, 88, 89, 90, 91, 92, 93] (by decide +kernel) (by decide +kernel)
set_option maxRecDepth 20000 in
theorem gX10_day_X10_walks : GoodIn wsX10_day (wsV RX10 242 RX10 yX10_walks wsX10_walks) := goodIn_app (goodIn_of _ (by decide +kernel)) ggX10_day_X10_walks
set_option maxRecDepth 20000 in
theorem ggX10_day_X10_larger : GoodIn wsX10_day wsX10_larger := goodIn_r _ [56] (by decide +kernel) (by decide +kernel)
set_option maxRecDepth 20000 in
theorem gX10_day_X10_larger : GoodIn wsX10_day (va_wsS RX10 269 yX10_larger wsX10_larger) := goodIn_app (goodIn_of _ (by decide +kernel)) ggX10_day_X10_larger
set_option maxRecDepth 20000 in
theorem ggX10_day_X10_pieces : GoodIn wsX10_day wsX10_pieces := goodIn_r _ [60, 7, 8, 61, 62, 63, 64, 65, 66, 67, 68, 69, 70, 71, 72, 73, 74, 75, 76, 77, 78, 79, 80, 81, 82, 83, 84, 85, 86, 87, 88, 89, 90, 91, 92, 93] (by decide +kernel) (by decide +kernel)
set_option maxRecDepth 20000 in
theorem gX10_day_X10_pieces : GoodIn wsX10_day (wsV RX10 245 RX10 yX10_pieces wsX10_pieces) := goodIn_app (goodIn_of _ (by decide +kernel)) ggX10_day_X10_pieces
set_option maxRecDepth 20000 in
theorem ggX10_keep_X10_copies : GoodIn wsX10_keep wsX10_copies := goodIn_r _ [6, 7, 8, 9, 10, 11, 12, 13, 14, 15, 16, 17, 18, 19, 20, 21, 22, 23, 24, 25, 26, 27, 28, 29, 30, 31, 32, 33, 34, 35, 36, 37, 38, 39, 40] (by decide +kernel) (by decide +kernel)
set_option maxRecDepth 20000 in
theorem gX10_keep_X10_copies : GoodIn wsX10_keep (wsV RX10 212 RX10 yX10_copies wsX10_copies) := goodIn_app (goodIn_of _ (by decide +kernel)) ggX10_keep_X10_copies
set_option maxRecDepth 20000 in
theorem ggX10_restore_X10_copies : GoodIn wsX10_restore wsX10_copies := goodIn_r _ [7, 8, 9, 10, 11, 12, 13, 14, 15, 16, 17, 18, 19, 20, 21, 22, 23, 24, 25, 26, 27, 28, 29, 30, 31, 32, 33, 34, 35, 36, 37, 38, 39, 40, 41] (by decide +kernel) (by decide +kernel)
set_option maxRecDepth 20000 in
theorem gX10_restore_X10_copies : GoodIn wsX10_restore (wsV RX10 212 RX10 yX10_copies wsX10_copies) := goodIn_app (goodIn_of _ (by decide +kernel)) ggX10_restore_X10_copies
set_option maxRecDepth 20000 in
theorem ggX10_count_X10_in : GoodIn wsX10_count wsX10_in := goodIn_r _ [11] (by decide +kernel) (by decide +kernel)
set_option maxRecDepth 20000 in
theorem gX10_count_X10_in : GoodIn wsX10_count (va_wsS RX10 144 yX10_in wsX10_in) := goodIn_app (goodIn_of _ (by decide +kernel)) ggX10_count_X10_in
set_option maxRecDepth 20000 in
theorem ggX10_count_X10_walks : GoodIn wsX10_count wsX10_walks := goodIn_r _ [15, 4, 16, 17, 18, 19, 20, 10, 21, 2, 22, 3, 23, 24, 25, 26, 27, 28, 29, 30, 31, 32, 33, 34, 35, 36, 37, 38, 39, 44, 45, 46, 47, 48, 49, 50, 51, 52, 53, 54, 55, 56, 57, 58, 59, 60, 61, 62, 63, 64, 65, 66, 67, 68, 69, 70, 71, 72, 73, 74, 75, 76] (by decide +kernel) (by decide +kernel)
set_option maxRecDepth 20000 in
theorem gX10_count_X10_walks : GoodIn wsX10_count (wsV RX10 242 RX10 yX10_walks wsX10_walks) := goodIn_app (goodIn_of _ (by decide +kernel)) ggX10_count_X10_walks
set_option maxRecDepth 20000 in
theorem ggX10_count_X10_pieces : GoodIn wsX10_count wsX10_pieces := goodIn_r _ [43, 4, 16, 44, 45, 46, 47, 48, 49, 50, 51, 52, 53, 54, 55, 56, 57, 58, 59, 60, 61, 62, 63, 64, 65, 66, 67, 68, 69, 70, 71, 72, 73, 74, 75, 76] (by decide +kernel) (by decide +kernel)
set_option maxRecDepth 20000 in
theorem gX10_count_X10_pieces : GoodIn wsX10_count (wsV RX10 245 RX10 yX10_pieces wsX10_pieces) := goodIn_app (goodIn_of _ (by decide +kernel)) ggX10_count_X10_pieces
