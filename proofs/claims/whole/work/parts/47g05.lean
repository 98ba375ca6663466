set_option maxRecDepth 100000 in
set_option maxHeartbeats 4000000 in
theorem ggL_law_X4_bestRoom : GoodIn wsL_law wsX4_bestRoom := goodIn_r _ [595, 126, 127, 128, 2, 129, 130, 131, 132, 133, 28, 134, 82, 83, 26, 84, 60, 66, 135, 136, 137, 138, 463, 464, 465, 466, 18, 16, 467, 468, 469, 15, 470, 35, 39, 40, 41, 42, 43, 44, 45, 46, 47, 48, 49, 53, 54, 55, 433, 434, 435, 436, 437, 279, 63, 280, 438, 439, 440, 441, 471, 472, 192, 193, 38, 194, 71, 72, 73, 195, 196, 197, 198, 473, 205, 206, 207, 81, 329, 330, 331, 332, 50, 51, 52, 297, 298, 299, 300, 301, 302, 303, 304, 305, 306, 307, 308, 309, 310, 311, 312, 185, 123, 124, 125, 313, 314, 315, 316, 317, 318, 62, 64, 319, 320, 321, 322, 323, 324, 325, 326, 327, 77, 78, 79, 80, 328, 282, 283, 284, 333, 334, 335, 336, 337, 338, 339, 340, 341, 342, 343, 344, 345, 346, 347, 348, 349, 350, 351, 352, 798, 799, 800, 801, 802, 803, 804, 805, 844, 845, 820, 821, 822, 823, 824, 825, 826, 827, 828, 829, 830, 831, 832, 833, 834, 835, 836, 837, 846, 847, 848] rfl (by decide +kernel)
set_option maxRecDepth 20000 in
theorem gL_law_X4_bestRoom : GoodIn wsL_law (wsV RL 104 RX4 yX4_bestRoom wsX4_bestRoom) := goodIn_app (goodIn_of _ (by decide +kernel)) ggL_law_X4_bestRoom
set_option maxRecDepth 100000 in
set_option maxHeartbeats 4000000 in
theorem ggL_law_X5_bestRoom : GoodIn wsL_law wsX5_bestRoom := goodIn_r _ [599, 451, 452, 453, 5, 454, 245, 246, 247, 146, 147, 148, 149, 106, 478, 479, 480, 481, 107, 109, 482, 483, 484, 485, 486, 487, 488, 236, 237, 238, 289, 290, 291, 357, 358, 359, 360, 361, 362, 363, 364, 365, 366, 367, 368, 112, 369, 370, 371, 372, 373, 374, 375, 376, 377, 378, 379, 380, 381, 382, 383, 384, 385, 386, 806, 807, 808, 809, 810, 811, 812, 813, 814, 815, 816, 817, 818, 819] rfl (by decide +kernel)
set_option maxRecDepth 20000 in
theorem gL_law_X5_bestRoom : GoodIn wsL_law (wsV RL 107 RX5 yX5_bestRoom wsX5_bestRoom) := goodIn_app (goodIn_of _ (by decide +kernel)) ggL_law_X5_bestRoom
set_option maxRecDepth 100000 in
set_option maxHeartbeats 4000000 in
theorem ggL_law_X4_latest : GoodIn wsL_law wsX4_latest := goodIn_r _ [603, 126, 127, 128, 2, 129, 130, 131, 132, 133, 28, 134, 82, 83, 26, 84, 60, 66, 135, 136, 137, 138, 463, 464, 465, 466, 18, 16, 467, 468, 469, 15, 470, 35, 39, 40, 41, 42, 43, 44, 45, 46, 47, 48, 49, 53, 54, 55, 433, 434, 435, 436, 437, 279, 63, 280, 438, 439, 440, 441, 471, 472, 192, 193, 38, 194, 71, 72, 73, 195, 196, 197, 198, 473, 205, 206, 207, 81, 329, 330, 331, 332, 50, 51, 52, 604, 605, 606, 607, 608, 298, 299, 300, 301, 302, 303, 304, 305, 306, 307, 308, 309, 310, 311, 312, 185, 123, 124, 125, 313, 314, 315, 316, 317, 318, 62, 64, 319, 320, 321, 322, 323, 324, 325, 326, 327, 77, 78, 79, 80, 328, 282, 283, 284, 333, 334, 335, 336, 337, 338, 339, 340, 341, 342, 343, 344, 345, 346, 347, 348, 349, 350, 351, 352, 798, 799, 800, 801, 802, 803, 804, 805, 844, 845, 820, 821, 822, 823, 824, 825, 826, 827, 828, 829, 830, 831, 832, 833, 834, 835, 836, 837, 846, 847, 848] rfl (by decide +kernel)
set_option maxRecDepth 20000 in
theorem gL_law_X4_latest : GoodIn wsL_law (wsV RL 108 RX4 yX4_latest wsX4_latest) := goodIn_app (goodIn_of _ (by decide +kernel)) ggL_law_X4_latest
set_option maxRecDepth 100000 in
set_option maxHeartbeats 4000000 in
theorem ggL_law_X5_latest : GoodIn wsL_law wsX5_latest := goodIn_r _ [612, 109, 451, 452, 453, 5, 454, 245, 246, 247, 146, 147, 148, 149, 106, 482, 483, 484, 485, 107, 486, 487, 488, 236, 237, 238, 289, 290, 291, 361, 362, 363, 364, 365, 366, 367, 368, 112, 369, 370, 371, 372, 373, 374, 375, 376, 377, 378, 379, 380, 381, 382, 383, 384, 385, 386, 806, 807, 808, 809, 810, 811, 812, 813, 814, 815, 816, 817, 818, 819] rfl (by decide +kernel)
set_option maxRecDepth 20000 in
theorem gL_law_X5_latest : GoodIn wsL_law (wsV RL 111 RX5 yX5_latest wsX5_latest) := goodIn_app (goodIn_of _ (by decide +kernel)) ggL_law_X5_latest
set_option maxRecDepth 100000 in
set_option maxHeartbeats 4000000 in
theorem ggL_law_X4_dot : GoodIn wsL_law wsX4_dot := goodIn_r _ [616, 16, 617, 130, 131, 132, 2, 133, 28, 134, 82, 83, 26, 84, 60, 66, 135, 136, 137, 138, 122, 123, 124, 125, 798, 799, 800, 801, 802, 803, 804, 805, 820, 821, 822, 823, 824, 825, 826, 827, 828, 829, 830, 831, 832, 833, 834, 835, 836, 837, 844, 845] rfl (by decide +kernel)
set_option maxRecDepth 20000 in
theorem gL_law_X4_dot : GoodIn wsL_law (wsV RL 112 RX4 yX4_dot wsX4_dot) := goodIn_app (goodIn_of _ (by decide +kernel)) ggL_law_X4_dot
set_option maxRecDepth 100000 in
set_option maxHeartbeats 4000000 in
theorem ggL_law_X5_dot : GoodIn wsL_law wsX5_dot := goodIn_r _ [621, 107, 146, 147, 148, 5, 149, 106, 806, 807, 808, 809, 810, 811, 812, 813, 814, 815, 816, 817, 818, 819] rfl (by decide +kernel)
set_option maxRecDepth 20000 in
theorem gL_law_X5_dot : GoodIn wsL_law (wsV RL 115 RX5 yX5_dot wsX5_dot) := goodIn_app (goodIn_of _ (by decide +kernel)) ggL_law_X5_dot
set_option maxRecDepth 100000 in
set_option maxHeartbeats 4000000 in
theorem ggL_law_X4_even : GoodIn wsL_law wsX4_even := goodIn_r _ [625, 16, 626, 627, 63, 628, 130, 131, 132, 2, 133, 28, 134, 82, 83, 26, 84, 60, 66, 135, 136, 137, 138, 629, 630, 631, 15, 632, 40, 318, 62, 64, 633, 123, 124, 125, 634, 635, 636, 637, 638, 81, 798, 799, 800, 801, 802, 803, 804, 805, 844, 845, 820, 821, 822, 823, 824, 825, 826, 827, 828, 829, 830, 831, 832, 833, 834, 835, 836, 837] rfl (by decide +kernel)
set_option maxRecDepth 20000 in
theorem gL_law_X4_even : GoodIn wsL_law (wsV RL 116 RX4 yX4_even wsX4_even) := goodIn_app (goodIn_of _ (by decide +kernel)) ggL_law_X4_even
set_option maxRecDepth 100000 in
set_option maxHeartbeats 4000000 in
theorem ggL_law_X5_even : GoodIn wsL_law wsX5_even := goodIn_r _ [642, 107, 146, 147, 148, 5, 149, 106, 643, 644, 645, 646, 647, 648, 649, 650, 651, 652, 806, 807, 808, 809, 810, 811, 812, 813, 814, 815, 816, 817, 818, 819] rfl (by decide +kernel)
set_option maxRecDepth 20000 in
theorem gL_law_X5_even : GoodIn wsL_law (wsV RL 119 RX5 yX5_even wsX5_even) := goodIn_app (goodIn_of _ (by decide +kernel)) ggL_law_X5_even
set_option maxRecDepth 100000 in
set_option maxHeartbeats 4000000 in
theorem ggL_law_X4_longer : GoodIn wsL_law wsX4_longer := goodIn_r _ [656, 16, 130, 131, 132, 2, 133, 28, 134, 82, 83, 26, 84, 60, 66, 135, 136, 137, 138, 629, 630, 631, 15, 632, 40, 318, 62, 63, 64, 633, 123, 124, 125, 634, 635, 636, 637, 638, 81, 798, 799, 800, 801, 802, 803, 804, 805, 844, 845, 820, 821, 822, 823, 824, 825, 826, 827, 828, 829, 830, 831, 832, 833, 834, 835, 836, 837] rfl (by decide +kernel)
set_option maxRecDepth 20000 in
theorem gL_law_X4_longer : GoodIn wsL_law (wsV RL 120 RX4 yX4_longer wsX4_longer) := goodIn_app (goodIn_of _ (by decide +kernel)) ggL_law_X4_longer
set_option maxRecDepth 100000 in
set_option maxHeartbeats 4000000 in
theorem ggL_law_X5_longer : GoodIn wsL_law wsX5_longer := goodIn_r _ [660, 107, 257, 258, 5, 259, 146, 147, 148, 149, 106, 643, 644, 645, 646, 647, 648, 649, 806, 807, 808, 809, 810, 811, 812, 813, 814, 815, 816, 817, 818, 819] rfl (by decide +kernel)
set_option maxRecDepth 20000 in
theorem gL_law_X5_longer : GoodIn wsL_law (wsV RL 123 RX5 yX5_longer wsX5_longer) := goodIn_app (goodIn_of _ (by decide +kernel)) ggL_law_X5_longer
set_option maxRecDepth 100000 in
set_option maxHeartbeats 4000000 in
theorem ggL_law_X4_slow : GoodIn wsL_law wsX4_slow := goodIn_r _ [664, 16, 665, 126, 127, 128, 2, 129, 130, 131, 132, 133, 28, 134, 82, 83, 26, 84, 60, 66, 135, 136, 137, 138, 634, 635, 636, 15, 637, 40, 638, 630, 631, 632, 318, 62, 63, 64, 633, 123, 124, 125, 81, 629, 798, 799, 800, 801, 802, 803, 804, 805, 844, 845, 820, 821, 822, 823, 824, 825, 826, 827, 828, 829, 830, 831, 832, 833, 834, 835, 836, 837] rfl (by decide +kernel)
set_option maxRecDepth 20000 in
theorem gL_law_X4_slow : GoodIn wsL_law (wsV RL 124 RX4 yX4_slow wsX4_slow) := goodIn_app (goodIn_of _ (by decide +kernel)) ggL_law_X4_slow
