set_option maxRecDepth 100000 in
set_option maxHeartbeats 4000000 in
theorem ggL_law_X5_slow : GoodIn wsL_law wsX5_slow := goodIn_r _ [669, 107, 245, 246, 5, 247, 146, 147, 148, 149, 106, 643, 644, 645, 646, 647, 648, 649, 806, 807, 808, 809, 810, 811, 812, 813, 814, 815, 816, 817, 818, 819] rfl (by decide +kernel)
set_option maxRecDepth 20000 in
theorem gL_law_X5_slow : GoodIn wsL_law (wsV RL 127 RX5 yX5_slow wsX5_slow) := goodIn_app (goodIn_of _ (by decide +kernel)) ggL_law_X5_slow
set_option maxRecDepth 100000 in
set_option maxHeartbeats 4000000 in
theorem ggL_law_X4_hour : GoodIn wsL_law wsX4_hour := goodIn_r _ [673, 674, 16, 617, 130, 131, 132, 2, 133, 28, 134, 82, 83, 26, 84, 60, 66, 135, 136, 137, 138, 122, 123, 124, 125, 798, 799, 800, 801, 802, 803, 804, 805, 820, 821, 822, 823, 824, 825, 826, 827, 828, 829, 830, 831, 832, 833, 834, 835, 836, 837, 844, 845] rfl (by decide +kernel)
set_option maxRecDepth 20000 in
theorem gL_law_X4_hour : GoodIn wsL_law (wsV RL 128 RX4 yX4_hour wsX4_hour) := goodIn_app (goodIn_of _ (by decide +kernel)) ggL_law_X4_hour
set_option maxRecDepth 100000 in
set_option maxHeartbeats 4000000 in
theorem ggL_law_X5_hour : GoodIn wsL_law wsX5_hour := goodIn_r _ [678, 107, 146, 147, 148, 5, 149, 106, 806, 807, 808, 809, 810, 811, 812, 813, 814, 815, 816, 817, 818, 819] rfl (by decide +kernel)
set_option maxRecDepth 20000 in
theorem gL_law_X5_hour : GoodIn wsL_law (wsV RL 131 RX5 yX5_hour wsX5_hour) := goodIn_app (goodIn_of _ (by decide +kernel)) ggL_law_X5_hour
set_option maxRecDepth 100000 in
set_option maxHeartbeats 4000000 in
theorem ggL_law_X4_gap : GoodIn wsL_law wsX4_gap := goodIn_r _ [682, 27, 122, 123, 124, 26, 125, 60, 126, 127, 128, 2, 129, 130, 131, 132, 133, 28, 134, 82, 83, 84, 66, 135, 136, 137, 138, 139, 78, 79, 80, 798, 799, 800, 801, 802, 803, 804, 805, 844, 845] rfl (by decide +kernel)
set_option maxRecDepth 20000 in
theorem gL_law_X4_gap : GoodIn wsL_law (wsV RL 132 RX4 yX4_gap wsX4_gap) := goodIn_app (goodIn_of _ (by decide +kernel)) ggL_law_X4_gap
set_option maxRecDepth 100000 in
set_option maxHeartbeats 4000000 in
theorem ggL_law_X5_gap : GoodIn wsL_law wsX5_gap := goodIn_r _ [686, 687, 115, 245, 246, 5, 247, 146, 147, 148, 149, 106, 806, 807, 808, 809, 810, 811, 812, 813, 814, 815, 816, 817, 818, 819] rfl (by decide +kernel)
set_option maxRecDepth 20000 in
theorem gL_law_X5_gap : GoodIn wsL_law (wsV RL 135 RX5 yX5_gap wsX5_gap) := goodIn_app (goodIn_of _ (by decide +kernel)) ggL_law_X5_gap
set_option maxRecDepth 100000 in
set_option maxHeartbeats 4000000 in
theorem ggL_law_X4_judge : GoodIn wsL_law wsX4_judge := goodIn_r _ [691, 27, 126, 127, 128, 2, 129, 130, 131, 132, 133, 28, 134, 82, 83, 26, 84, 60, 66, 135, 136, 137, 138, 692, 693, 694, 695, 16, 278, 279, 63, 280, 626, 627, 628, 629, 630, 631, 15, 632, 40, 318, 62, 64, 633, 123, 124, 125, 122, 634, 635, 636, 637, 638, 81, 204, 205, 206, 207, 798, 799, 800, 801, 802, 803, 804, 805, 844, 845, 820, 821, 822, 823, 824, 825, 826, 827, 828, 829, 830, 831, 832, 833, 834, 835, 836, 837] rfl (by decide +kernel)
set_option maxRecDepth 20000 in
theorem gL_law_X4_judge : GoodIn wsL_law (wsV RL 136 RX4 yX4_judge wsX4_judge) := goodIn_app (goodIn_of _ (by decide +kernel)) ggL_law_X4_judge
set_option maxRecDepth 100000 in
set_option maxHeartbeats 4000000 in
theorem ggL_law_X5_judge : GoodIn wsL_law wsX5_judge := goodIn_r _ [699, 687, 107, 115, 245, 246, 5, 247, 146, 147, 148, 149, 106, 643, 644, 645, 646, 647, 648, 649, 650, 651, 652, 806, 807, 808, 809, 810, 811, 812, 813, 814, 815, 816, 817, 818, 819] rfl (by decide +kernel)
set_option maxRecDepth 20000 in
theorem gL_law_X5_judge : GoodIn wsL_law (wsV RL 139 RX5 yX5_judge wsX5_judge) := goodIn_app (goodIn_of _ (by decide +kernel)) ggL_law_X5_judge
set_option maxRecDepth 100000 in
set_option maxHeartbeats 4000000 in
theorem ggL_law_X4_driest : GoodIn wsL_law wsX4_driest := goodIn_r _ [703, 27, 130, 131, 132, 2, 133, 28, 134, 82, 83, 26, 84, 60, 66, 135, 136, 137, 138, 126, 127, 128, 129, 122, 123, 124, 125, 704, 705, 706, 707, 626, 627, 63, 628, 463, 464, 465, 466, 18, 16, 467, 468, 469, 15, 470, 35, 39, 40, 41, 42, 43, 44, 45, 46, 47, 48, 49, 53, 54, 55, 433, 434, 435, 436, 437, 279, 280, 438, 439, 440, 441, 471, 472, 192, 193, 38, 194, 71, 72, 73, 195, 196, 197, 198, 473, 205, 206, 207, 81, 329, 330, 331, 332, 50, 51, 52, 629, 630, 631, 632, 318, 62, 64, 633, 708, 302, 303, 304, 305, 306, 307, 308, 309, 310, 311, 312, 185, 313, 314, 315, 316, 317, 319, 320, 321, 322, 323, 324, 325, 326, 327, 77, 78, 79, 80, 328, 282, 283, 284, 333, 334, 335, 336, 337, 338, 339, 340, 341, 342, 343, 344, 345, 346, 347, 348, 349, 350, 351, 352, 634, 635, 636, 637, 638, 798, 799, 800, 801, 802, 803, 804, 805, 844, 845, 820, 821, 822, 823, 824, 825, 826, 827, 828, 829, 830, 831, 832, 833, 834, 835, 836, 837, 846, 847, 848] rfl (by decide +kernel)
set_option maxRecDepth 20000 in
theorem gL_law_X4_driest : GoodIn wsL_law (wsV RL 140 RX4 yX4_driest wsX4_driest) := goodIn_app (goodIn_of _ (by decide +kernel)) ggL_law_X4_driest
set_option maxRecDepth 100000 in
set_option maxHeartbeats 4000000 in
theorem ggL_law_X5_driest : GoodIn wsL_law wsX5_driest := goodIn_r _ [712, 687, 257, 258, 5, 259, 146, 147, 148, 149, 106, 245, 246, 247, 713, 714, 715, 716, 109, 115, 478, 479, 480, 481, 107, 482, 483, 484, 485, 486, 487, 488, 236, 237, 238, 289, 290, 291, 357, 358, 359, 360, 361, 362, 363, 364, 365, 366, 367, 368, 112, 369, 370, 371, 372, 373, 374, 375, 376, 377, 378, 379, 380, 381, 382, 383, 384, 385, 386, 647, 648, 649, 650, 651, 652, 806, 807, 808, 809, 810, 811, 812, 813, 814, 815, 816, 817, 818, 819] rfl (by decide +kernel)
set_option maxRecDepth 20000 in
theorem gL_law_X5_driest : GoodIn wsL_law (wsV RL 143 RX5 yX5_driest wsX5_driest) := goodIn_app (goodIn_of _ (by decide +kernel)) ggL_law_X5_driest
set_option maxRecDepth 100000 in
set_option maxHeartbeats 4000000 in
theorem ggL_law_X4_sorts : GoodIn wsL_law wsX4_sorts := goodIn_r _ [720, 721, 126, 127, 128, 2, 129, 130, 131, 132, 133, 28, 134, 82, 83, 26, 84, 60, 66, 135, 136, 137, 138, 722, 723, 724, 725, 463, 464, 465, 466, 18, 16, 467, 468, 469, 15, 470, 35, 39, 40, 41, 42, 43, 44, 45, 46, 47, 48, 49, 53, 54, 55, 433, 434, 435, 436, 437, 279, 63, 280, 438, 439, 440, 441, 471, 472, 192, 193, 38, 194, 71, 72, 73, 195, 196, 197, 198, 473, 205, 206, 207, 81, 329, 330, 331, 332, 50, 51, 52, 517, 518, 519, 520, 297, 298, 299, 300, 301, 302, 303, 304, 305, 306, 307, 308, 309, 310, 311, 312, 185, 123, 124, 125, 313, 314, 315, 316, 317, 318, 62, 64, 319, 320, 321, 322, 323, 324, 325, 326, 327, 77, 78, 79, 80, 328, 282, 283, 284, 333, 334, 335, 336, 337, 338, 339, 340, 341, 342, 343, 344, 345, 346, 347, 348, 349, 350, 351, 352, 798, 799, 800, 801, 802, 803, 804, 805, 844, 845, 820, 821, 822, 823, 824, 825, 826, 827, 828, 829, 830, 831, 832, 833, 834, 835, 836, 837, 846, 847, 848] rfl (by decide +kernel)
set_option maxRecDepth 20000 in
theorem gL_law_X4_sorts : GoodIn wsL_law (wsV RL 144 RX4 yX4_sorts wsX4_sorts) := goodIn_app (goodIn_of _ (by decide +kernel)) ggL_law_X4_sorts
set_option maxRecDepth 100000 in
set_option maxHeartbeats 4000000 in
theorem ggL_law_X5_sorts : GoodIn wsL_law wsX5_sorts := goodIn_r _ [729, 730, 731, 5, 732, 733, 146, 147, 148, 149, 106, 734, 735, 736, 737, 738, 739, 740, 741, 107, 478, 479, 480, 481, 109, 482, 483, 484, 485, 486, 487, 488, 236, 237, 238, 289, 290, 291, 357, 358, 359, 360, 361, 362, 363, 364, 365, 366, 367, 368, 112, 369, 370, 371, 372, 373, 374, 375, 376, 377, 378, 379, 380, 381, 382, 383, 384, 385, 386, 806, 807, 808, 809, 810, 811, 812, 813, 814, 815, 816, 817, 818, 819] rfl (by decide +kernel)
set_option maxRecDepth 20000 in
theorem gL_law_X5_sorts : GoodIn wsL_law (wsV RL 147 RX5 yX5_sorts wsX5_sorts) := goodIn_app (goodIn_of _ (by decide +kernel)) ggL_law_X5_sorts
