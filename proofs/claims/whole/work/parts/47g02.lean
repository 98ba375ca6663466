set_option maxRecDepth 100000 in
set_option maxHeartbeats 4000000 in
theorem ggL_law_X5_wet : GoodIn wsL_law wsX5_wet := goodIn_r _ [288, 107, 245, 246, 5, 247, 146, 147, 148, 149, 106, 289, 290, 291, 260, 261, 262, 263, 806, 807, 808, 809, 810, 811, 812, 813, 814, 815, 816, 817, 818, 819] rfl (by decide +kernel)
set_option maxRecDepth 20000 in
theorem gL_law_X5_wet : GoodIn wsL_law (wsV RL 38 RX5 yX5_wet wsX5_wet) := goodIn_app (goodIn_of _ (by decide +kernel)) ggL_law_X5_wet
set_option maxRecDepth 100000 in
set_option maxHeartbeats 4000000 in
theorem ggL_law_X4_run : GoodIn wsL_law wsX4_run := goodIn_r _ [295, 16, 296, 126, 127, 128, 2, 129, 130, 131, 132, 133, 28, 134, 82, 83, 26, 84, 60, 66, 135, 136, 137, 138, 297, 298, 299, 15, 300, 49, 301, 302, 303, 304, 44, 46, 47, 35, 42, 43, 53, 51, 50, 48, 305, 306, 307, 308, 54, 39, 81, 309, 310, 311, 38, 312, 71, 72, 73, 185, 123, 124, 125, 313, 314, 315, 316, 317, 318, 62, 63, 64, 319, 279, 280, 320, 321, 322, 323, 324, 325, 326, 327, 40, 41, 77, 78, 79, 80, 328, 282, 283, 284, 329, 330, 331, 332, 52, 333, 334, 335, 336, 45, 337, 338, 339, 340, 55, 341, 342, 343, 344, 345, 346, 347, 348, 349, 350, 351, 352, 798, 799, 800, 801, 802, 803, 804, 805, 820, 821, 822, 823, 824, 825, 826, 827, 828, 829, 830, 831, 832, 833, 834, 835, 836, 837, 844, 845, 846, 847, 848] rfl (by decide +kernel)
set_option maxRecDepth 20000 in
theorem gL_law_X4_run : GoodIn wsL_law (wsV RL 39 RX4 yX4_run wsX4_run) := goodIn_app (goodIn_of _ (by decide +kernel)) ggL_law_X4_run
set_option maxRecDepth 100000 in
set_option maxHeartbeats 4000000 in
theorem ggL_law_X5_run : GoodIn wsL_law wsX5_run := goodIn_r _ [356, 107, 245, 246, 5, 247, 146, 147, 148, 149, 106, 357, 358, 359, 360, 361, 362, 363, 364, 365, 366, 367, 368, 112, 369, 370, 371, 289, 290, 291, 372, 373, 374, 375, 376, 377, 378, 379, 380, 381, 382, 383, 384, 385, 386, 806, 807, 808, 809, 810, 811, 812, 813, 814, 815, 816, 817, 818, 819] rfl (by decide +kernel)
set_option maxRecDepth 20000 in
theorem gL_law_X5_run : GoodIn wsL_law (wsV RL 42 RX5 yX5_run wsX5_run) := goodIn_app (goodIn_of _ (by decide +kernel)) ggL_law_X5_run
set_option maxRecDepth 100000 in
set_option maxHeartbeats 4000000 in
theorem ggL_law_X4_now : GoodIn wsL_law wsX4_now := goodIn_r _ [390, 16, 391, 392, 277, 393, 394, 395, 396, 296, 397, 398, 399, 268, 400, 401, 130, 131, 132, 2, 133, 28, 134, 82, 83, 26, 84, 60, 66, 135, 136, 137, 138, 798, 799, 800, 801, 802, 803, 804, 805, 820, 821, 822, 823, 824, 825, 826, 827, 828, 829, 830, 831, 832, 833, 834, 835, 836, 837, 844, 845] rfl (by decide +kernel)
set_option maxRecDepth 20000 in
theorem gL_law_X4_now : GoodIn wsL_law (wsV RL 43 RX4 yX4_now wsX4_now) := goodIn_app (goodIn_of _ (by decide +kernel)) ggL_law_X4_now
set_option maxRecDepth 100000 in
set_option maxHeartbeats 4000000 in
theorem ggL_law_X5_now : GoodIn wsL_law wsX5_now := goodIn_r _ [405, 406, 107, 257, 258, 5, 259, 146, 147, 148, 149, 106, 806, 807, 808, 809, 810, 811, 812, 813, 814, 815, 816, 817, 818, 819] rfl (by decide +kernel)
set_option maxRecDepth 20000 in
theorem gL_law_X5_now : GoodIn wsL_law (wsV RL 46 RX5 yX5_now wsX5_now) := goodIn_app (goodIn_of _ (by decide +kernel)) ggL_law_X5_now
set_option maxRecDepth 100000 in
set_option maxHeartbeats 4000000 in
theorem ggL_law_X4_air : GoodIn wsL_law wsX4_air := goodIn_r _ [410, 16, 130, 131, 132, 2, 133, 28, 134, 82, 83, 26, 84, 60, 66, 135, 136, 137, 138, 411, 306, 307, 15, 308, 54, 39, 48, 35, 81, 309, 310, 311, 38, 312, 71, 72, 73, 185, 123, 124, 125, 313, 798, 799, 800, 801, 802, 803, 804, 805, 844, 845, 820, 821, 822, 823, 824, 825, 826, 827, 828, 829, 830, 831, 832, 833, 834, 835, 836, 837, 846, 847, 848] rfl (by decide +kernel)
set_option maxRecDepth 20000 in
theorem gL_law_X4_air : GoodIn wsL_law (wsV RL 47 RX4 yX4_air wsX4_air) := goodIn_app (goodIn_of _ (by decide +kernel)) ggL_law_X4_air
set_option maxRecDepth 100000 in
set_option maxHeartbeats 4000000 in
theorem ggL_law_X5_air : GoodIn wsL_law wsX5_air := goodIn_r _ [415, 107, 257, 258, 5, 259, 369, 370, 371, 146, 147, 148, 149, 106, 806, 807, 808, 809, 810, 811, 812, 813, 814, 815, 816, 817, 818, 819] rfl (by decide +kernel)
set_option maxRecDepth 20000 in
theorem gL_law_X5_air : GoodIn wsL_law (wsV RL 50 RX5 yX5_air wsX5_air) := goodIn_app (goodIn_of _ (by decide +kernel)) ggL_law_X5_air
set_option maxRecDepth 100000 in
set_option maxHeartbeats 4000000 in
theorem ggL_law_X4_full : GoodIn wsL_law wsX4_full := goodIn_r _ [419, 16, 420, 342, 343, 15, 344, 35, 81, 82, 83, 26, 84, 60, 66, 798, 799, 800, 801, 802, 803, 804, 805, 820, 821, 822, 823, 824, 825, 826, 827, 828, 829, 830, 831, 832, 833, 834, 835, 836, 837, 844, 845] rfl (by decide +kernel)
set_option maxRecDepth 20000 in
theorem gL_law_X4_full : GoodIn wsL_law (wsV RL 51 RX4 yX4_full wsX4_full) := goodIn_app (goodIn_of _ (by decide +kernel)) ggL_law_X4_full
set_option maxRecDepth 100000 in
set_option maxHeartbeats 4000000 in
theorem ggL_law_X5_full : GoodIn wsL_law wsX5_full := goodIn_r _ [424, 107, 381, 382, 5, 383, 806, 807, 808, 809, 810, 811, 812, 813, 814, 815, 816, 817, 818, 819] rfl (by decide +kernel)
set_option maxRecDepth 20000 in
theorem gL_law_X5_full : GoodIn wsL_law (wsV RL 54 RX5 yX5_full wsX5_full) := goodIn_app (goodIn_of _ (by decide +kernel)) ggL_law_X5_full
set_option maxRecDepth 100000 in
set_option maxHeartbeats 4000000 in
theorem ggL_law_X4_often : GoodIn wsL_law wsX4_often := goodIn_r _ [428, 18, 16, 126, 127, 128, 2, 129, 130, 131, 132, 133, 28, 134, 82, 83, 26, 84, 60, 66, 135, 136, 137, 138, 429, 430, 431, 15, 432, 35, 39, 40, 41, 42, 43, 44, 45, 46, 47, 48, 49, 50, 51, 52, 53, 54, 55, 433, 434, 435, 436, 437, 279, 63, 280, 438, 439, 440, 441, 442, 443, 444, 38, 445, 71, 72, 73, 446, 297, 298, 299, 300, 301, 302, 303, 304, 305, 306, 307, 308, 81, 309, 310, 311, 312, 185, 123, 124, 125, 313, 314, 315, 316, 317, 318, 62, 64, 319, 320, 321, 322, 323, 324, 325, 326, 327, 77, 78, 79, 80, 328, 282, 283, 284, 329, 330, 331, 332, 333, 334, 335, 336, 337, 338, 339, 340, 341, 342, 343, 344, 345, 346, 347, 348, 349, 350, 351, 352, 798, 799, 800, 801, 802, 803, 804, 805, 844, 845, 820, 821, 822, 823, 824, 825, 826, 827, 828, 829, 830, 831, 832, 833, 834, 835, 836, 837, 846, 847, 848] rfl (by decide +kernel)
set_option maxRecDepth 20000 in
theorem gL_law_X4_often : GoodIn wsL_law (wsV RL 55 RX4 yX4_often wsX4_often) := goodIn_app (goodIn_of _ (by decide +kernel)) ggL_law_X4_often
set_option maxRecDepth 100000 in
set_option maxHeartbeats 4000000 in
theorem ggL_law_X5_often : GoodIn wsL_law wsX5_often := goodIn_r _ [450, 109, 107, 451, 452, 453, 5, 454, 245, 246, 247, 146, 147, 148, 149, 106, 455, 456, 457, 458, 236, 237, 238, 357, 358, 359, 360, 361, 362, 363, 364, 365, 366, 367, 368, 112, 369, 370, 371, 289, 290, 291, 372, 373, 374, 375, 376, 377, 378, 379, 380, 381, 382, 383, 384, 385, 386, 806, 807, 808, 809, 810, 811, 812, 813, 814, 815, 816, 817, 818, 819] rfl (by decide +kernel)
set_option maxRecDepth 20000 in
theorem gL_law_X5_often : GoodIn wsL_law (wsV RL 58 RX5 yX5_often wsX5_often) := goodIn_app (goodIn_of _ (by decide +kernel)) ggL_law_X5_often
