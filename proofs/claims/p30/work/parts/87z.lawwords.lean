theorem wl_mem {big ws : List Cond} (ps : List Nat) (hp : ws = ps.filterMap (fun i => big[i]?)) : ∀ w ∈ ws, w ∈ big := by
  intro w hw
  rw [hp] at hw
  obtain ⟨i, -, hi⟩ := List.mem_filterMap.mp hw
  exact List.mem_of_getElem? hi
theorem wl_app {big a b : List Cond} (ha : ∀ w ∈ a, w ∈ big) (hb : ∀ w ∈ b, w ∈ big) : ∀ w ∈ a ++ b, w ∈ big := fun w h => (List.mem_append.mp h).elim (ha w) (hb w)
set_option maxRecDepth 100000 in
theorem wsL_law_r1_in : ∀ w ∈ wsL_law_r1, w ∈ lw_tbl := wl_mem [39, 40, 22, 66, 41, 42, 43, 44, 45, 46, 47, 48, 23, 514, 67, 68, 24, 515, 118, 119, 26, 516, 517, 518] (by decide +kernel)
set_option maxRecDepth 100000 in
theorem wsL_law_r2_in : ∀ w ∈ wsL_law_r2, w ∈ lw_tbl := wl_mem [137, 138, 27, 519, 156, 157, 28, 520, 175, 176, 29, 521, 191, 192, 30, 522, 523, 524, 50, 51, 52, 53, 70, 71] (by decide +kernel)
set_option maxRecDepth 100000 in
theorem wsL_law_r3_in : ∀ w ∈ wsL_law_r3, w ∈ lw_tbl := wl_mem [72, 93, 94, 95, 96, 97, 73, 74, 25, 98, 76, 77, 78, 79, 80, 92, 81, 121, 122, 123, 124, 125, 126, 140] (by decide +kernel)
set_option maxRecDepth 100000 in
theorem wsL_law_r4_in : ∀ w ∈ wsL_law_r4, w ∈ lw_tbl := wl_mem [141, 142, 143, 144, 145, 159, 160, 161, 162, 163, 178, 179, 180, 181, 194, 195, 196, 216, 217, 218, 219, 220, 221, 197] (by decide +kernel)
set_option maxRecDepth 100000 in
theorem wsL_law_r5_in : ∀ w ∈ wsL_law_r5, w ∈ lw_tbl := wl_mem [198, 31, 222, 200, 201, 202, 203, 204, 205, 206, 248, 249, 250, 32, 251, 746, 252, 253, 254, 255, 256, 747, 258, 259] (by decide +kernel)
set_option maxRecDepth 100000 in
theorem wsL_law_r6_in : ∀ w ∈ wsL_law_r6, w ∈ lw_tbl := wl_mem [260, 261, 262, 263, 264, 265, 266, 267, 33, 268, 269, 270, 271, 272, 274, 275, 34, 276, 277, 278, 35, 279, 280, 281] (by decide +kernel)
set_option maxRecDepth 100000 in
theorem wsL_law_r7_in : ∀ w ∈ wsL_law_r7, w ∈ lw_tbl := wl_mem [282, 283, 284, 285, 286, 287, 288, 289, 290, 292, 294, 296, 297, 298, 299, 54, 300, 302, 0, 303, 525, 304, 305, 306] (by decide +kernel)
set_option maxRecDepth 100000 in
theorem wsL_law_r8_in : ∀ w ∈ wsL_law_r8, w ∈ lw_tbl := wl_mem [307, 99, 100, 308, 309, 310, 311, 127, 312, 313, 36, 314, 315, 316, 317, 318, 319, 320, 321, 322, 323, 325, 1, 326] (by decide +kernel)
set_option maxRecDepth 100000 in
theorem wsL_law_r9_in : ∀ w ∈ wsL_law_r9, w ∈ lw_tbl := wl_mem [327, 328, 329, 330, 331, 332, 333, 334, 336, 337, 338, 339, 340, 341, 342, 343, 344, 345, 346, 347, 348, 349, 350, 351] (by decide +kernel)
set_option maxRecDepth 100000 in
theorem wsL_law_r10_in : ∀ w ∈ wsL_law_r10, w ∈ lw_tbl := wl_mem [352, 353, 354, 355, 356, 358, 359, 360, 361, 362, 363, 82, 364, 366, 368, 2, 369, 370, 371, 372, 373, 374, 376, 3] (by decide +kernel)
set_option maxRecDepth 100000 in
theorem wsL_law_r11_in : ∀ w ∈ wsL_law_r11, w ∈ lw_tbl := wl_mem [377, 378, 379, 380, 381, 382, 383, 384, 385, 386, 387, 388, 389, 390, 391, 392, 393, 394, 396, 4, 397, 398, 400, 5] (by decide +kernel)
set_option maxRecDepth 100000 in
theorem wsL_law_r12_in : ∀ w ∈ wsL_law_r12, w ∈ lw_tbl := wl_mem [401, 402, 404, 6, 405, 406, 407, 408, 409, 410, 411, 412, 413, 414, 415, 416, 417, 418, 419, 420, 421, 146, 422, 424] (by decide +kernel)
set_option maxRecDepth 100000 in
theorem wsL_law_r13_in : ∀ w ∈ wsL_law_r13, w ∈ lw_tbl := wl_mem [7, 425, 426, 427, 428, 429, 164, 165, 430, 432, 8, 433, 434, 435, 436, 437, 438, 439, 440, 441, 442, 443, 445, 9] (by decide +kernel)
set_option maxRecDepth 100000 in
theorem wsL_law_r14_in : ∀ w ∈ wsL_law_r14, w ∈ lw_tbl := wl_mem [446, 447, 448, 449, 450, 451, 452, 454, 10, 455, 456, 457, 458, 459, 460, 461, 462, 463, 464, 465, 466, 467, 468, 470] (by decide +kernel)
set_option maxRecDepth 100000 in
theorem wsL_law_r15_in : ∀ w ∈ wsL_law_r15, w ∈ lw_tbl := wl_mem [11, 471, 472, 473, 474, 475, 476, 477, 478, 479, 223, 480, 482, 12, 483, 484, 485, 486, 487, 182, 183, 488, 489, 490] (by decide +kernel)
set_option maxRecDepth 100000 in
theorem wsL_law_r16_in : ∀ w ∈ wsL_law_r16, w ∈ lw_tbl := wl_mem [491, 492, 493, 494, 495, 496, 497, 498, 499, 500, 501, 502, 503, 504, 506, 507, 508, 509, 510, 511, 512, 513, 655, 656] (by decide +kernel)
set_option maxRecDepth 100000 in
theorem wsL_law_r17_in : ∀ w ∈ wsL_law_r17, w ∈ lw_tbl := wl_mem [21, 657, 647, 648, 649, 650, 651, 652, 653, 654, 658, 659, 660, 661, 662, 663, 664, 665, 666, 667, 668, 669, 670, 671] (by decide +kernel)
set_option maxRecDepth 100000 in
theorem wsL_law_r18_in : ∀ w ∈ wsL_law_r18, w ∈ lw_tbl := wl_mem [672, 673, 674, 675, 676, 677, 678, 679, 680, 681, 682, 683, 684, 685, 55, 56, 686, 688, 16, 689, 690, 692, 17, 693] (by decide +kernel)
set_option maxRecDepth 100000 in
theorem wsL_law_r19_in : ∀ w ∈ wsL_law_r19, w ∈ lw_tbl := wl_mem [694, 696, 18, 697, 699, 701, 19, 702, 703, 705, 20, 706, 707, 708, 709, 710, 711, 560, 565, 566, 567, 568, 569, 570] (by decide +kernel)
set_option maxRecDepth 100000 in
theorem wsL_law_r20_in : ∀ w ∈ wsL_law_r20, w ∈ lw_tbl := wl_mem [552, 553, 554, 555, 556, 558, 13, 559, 561, 562, 563, 564, 632, 633, 634, 635, 636, 579, 637, 638, 639, 640, 641, 642] (by decide +kernel)
set_option maxRecDepth 100000 in
theorem wsL_law_r21_in : ∀ w ∈ wsL_law_r21, w ∈ lw_tbl := wl_mem [37, 643, 644, 645, 646, 620, 621, 622, 623, 571, 572, 573, 574, 575, 577, 14, 578, 580, 712, 713, 714, 581, 582, 583] (by decide +kernel)
set_option maxRecDepth 100000 in
theorem wsL_law_r22_in : ∀ w ∈ wsL_law_r22, w ∈ lw_tbl := wl_mem [584, 585, 586, 587, 588, 589, 590, 592, 15, 593, 594, 596, 595, 38, 597, 598, 599, 600, 601, 602, 603, 604, 605, 606] (by decide +kernel)
set_option maxRecDepth 100000 in
theorem wsL_law_r23_in : ∀ w ∈ wsL_law_r23, w ∈ lw_tbl := wl_mem [607, 608, 609, 610, 611, 612, 613, 614, 615, 715, 716, 717, 718, 719, 720, 721, 722, 723, 724, 725, 726, 727, 728, 729] (by decide +kernel)
set_option maxRecDepth 100000 in
theorem wsL_law_r24_in : ∀ w ∈ wsL_law_r24, w ∈ lw_tbl := wl_mem [730, 731, 732, 733, 734, 735, 736, 737, 738, 739, 740, 741, 742, 743, 744, 745, 616, 617, 618, 619, 624, 625, 626, 627] (by decide +kernel)
set_option maxRecDepth 100000 in
theorem wsL_law_r25_in : ∀ w ∈ wsL_law_r25, w ∈ lw_tbl := wl_mem [628, 629, 630, 631] (by decide +kernel)
set_option maxRecDepth 100000 in
theorem wsX90_inL : ∀ w ∈ wsX90, w ∈ lw_tbl := wl_mem [526, 528, 530, 532, 534, 536, 538, 540, 542, 544, 546, 548] (by decide +kernel)
set_option maxRecDepth 100000 in
theorem wsX70_inL : ∀ w ∈ wsX70, w ∈ lw_tbl := wl_mem [57, 59, 61, 63] (by decide +kernel)
set_option maxRecDepth 100000 in
theorem wsX40_inL : ∀ w ∈ wsX40, w ∈ lw_tbl := wl_mem [101, 103, 105, 107, 109, 111, 113, 115] (by decide +kernel)
set_option maxRecDepth 100000 in
theorem wsX60_inL : ∀ w ∈ wsX60, w ∈ lw_tbl := wl_mem [128, 130, 132, 134] (by decide +kernel)
set_option maxRecDepth 100000 in
theorem wsX00_inL : ∀ w ∈ wsX00, w ∈ lw_tbl := wl_mem [147, 149, 151, 153] (by decide +kernel)
set_option maxRecDepth 100000 in
theorem wsX50_inL : ∀ w ∈ wsX50, w ∈ lw_tbl := wl_mem [166, 168, 170, 172] (by decide +kernel)
set_option maxRecDepth 100000 in
theorem wsX30_inL : ∀ w ∈ wsX30, w ∈ lw_tbl := wl_mem [184, 186, 188] (by decide +kernel)
set_option maxRecDepth 100000 in
theorem wsX80_inL : ∀ w ∈ wsX80, w ∈ lw_tbl := wl_mem [224, 226, 228, 230, 232, 234, 236, 238, 240, 242, 244] (by decide +kernel)
set_option maxRecDepth 100000 in
theorem wsX20_inL : ∀ w ∈ wsX20, w ∈ lw_tbl := wl_mem [83, 85, 87, 89] (by decide +kernel)
set_option maxRecDepth 100000 in
theorem wsX10_inL : ∀ w ∈ wsX10, w ∈ lw_tbl := wl_mem [207, 209, 211, 213] (by decide +kernel)
theorem wsL_law_in : ∀ w ∈ wsL_law, w ∈ lw_tbl := wl_app (wl_app (wl_app (wl_app (wl_app (wl_app (wl_app (wl_app (wl_app (wl_app (wl_app (wl_app wsL_law_r1_in (wl_app wsL_law_r2_in (wl_app wsL_law_r3_in (wl_app wsL_law_r4_in (wl_app wsL_law_r5_in (wl_app wsL_law_r6_in (wl_app wsL_law_r7_in (wl_app wsL_law_r8_in (wl_app wsL_law_r9_in (wl_app wsL_law_r10_in (wl_app wsL_law_r11_in (wl_app wsL_law_r12_in (wl_app wsL_law_r13_in (wl_app wsL_law_r14_in (wl_app wsL_law_r15_in (wl_app wsL_law_r16_in (wl_app wsL_law_r17_in (wl_app wsL_law_r18_in (wl_app wsL_law_r19_in (wl_app wsL_law_r20_in (wl_app wsL_law_r21_in (wl_app wsL_law_r22_in (wl_app wsL_law_r23_in (wl_app wsL_law_r24_in wsL_law_r25_in)))))))))))))))))))))))) wsX90_inL) wsX70_inL) wsX40_inL) wsX60_inL) wsX00_inL) wsX50_inL) wsX30_inL) wsX80_inL) wsX20_inL) wsX10_inL) (fun _ h => absurd h List.not_mem_nil)
theorem inlX0 : ∀ w ∈ wsX00, w ∈ wsL_law := fun _ h => List.mem_append_left _ (List.mem_append_left _ (List.mem_append_left _ (List.mem_append_left _ (List.mem_append_left _ (List.mem_append_left _ (List.mem_append_right _ h))))))
theorem inlX1 : ∀ w ∈ wsX10, w ∈ wsL_law := fun _ h => List.mem_append_left _ (List.mem_append_right _ h)
theorem inlX2 : ∀ w ∈ wsX20, w ∈ wsL_law := fun _ h => List.mem_append_left _ (List.mem_append_left _ (List.mem_append_right _ h))
theorem inlX3 : ∀ w ∈ wsX30, w ∈ wsL_law := fun _ h => List.mem_append_left _ (List.mem_append_left _ (List.mem_append_left _ (List.mem_append_left _ (List.mem_append_right _ h))))
theorem inlX4 : ∀ w ∈ wsX40, w ∈ wsL_law := fun _ h => List.mem_append_left _ (List.mem_append_left _ (List.mem_append_left _ (List.mem_append_left _ (List.mem_append_left _ (List.mem_append_left _ (List.mem_append_left _ (List.mem_append_left _ (List.mem_append_right _ h))))))))
theorem inlX5 : ∀ w ∈ wsX50, w ∈ wsL_law := fun _ h => List.mem_append_left _ (List.mem_append_left _ (List.mem_append_left _ (List.mem_append_left _ (List.mem_append_left _ (List.mem_append_right _ h)))))
theorem inlX6 : ∀ w ∈ wsX60, w ∈ wsL_law := fun _ h => List.mem_append_left _ (List.mem_append_left _ (List.mem_append_left _ (List.mem_append_left _ (List.mem_append_left _ (List.mem_append_left _ (List.mem_append_left _ (List.mem_append_right _ h)))))))
theorem inlX7 : ∀ w ∈ wsX70, w ∈ wsL_law := fun _ h => List.mem_append_left _ (List.mem_append_left _ (List.mem_append_left _ (List.mem_append_left _ (List.mem_append_left _ (List.mem_append_left _ (List.mem_append_left _ (List.mem_append_left _ (List.mem_append_left _ (List.mem_append_right _ h)))))))))
theorem inlX8 : ∀ w ∈ wsX80, w ∈ wsL_law := fun _ h => List.mem_append_left _ (List.mem_append_left _ (List.mem_append_left _ (List.mem_append_right _ h)))
theorem inlX9 : ∀ w ∈ wsX90, w ∈ wsL_law := fun _ h => List.mem_append_left _ (List.mem_append_left _ (List.mem_append_left _ (List.mem_append_left _ (List.mem_append_left _ (List.mem_append_left _ (List.mem_append_left _ (List.mem_append_left _ (List.mem_append_left _ (List.mem_append_left _ (List.mem_append_right _ h))))))))))
