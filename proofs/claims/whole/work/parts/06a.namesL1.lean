set_option maxRecDepth 20000 in
theorem ggL_law_X4_init : GoodIn wsL_law wsX4_init := goodIn_r _ [9, 10, 11, 12, 13, 14, 15, 16, 17, 18, 19, 20, 21, 22, 23, 24, 25, 26, 27, 28, 29, 30, 31, 32, 33, 34, 35, 36, 37, 38, 39, 40, 41, 42, 43, 44, 45, 46, 47, 48, 49, 50, 51, 52, 53, 54, 55, 56, 57, 58, 59, 60, 61, 62, 63, 64, 65, 66, 67, 68, 69, 70, 71, 72, 73, 74, 75, 2, 76, 77, 78, 79, 80, 81, 82, 83, 84, 85, 86, 87, 88, 89, 90, 91, 92, 93, 94, 95, 96, 97, 98, 99, 100, 101, 820, 821, 822, 823, 824, 825, 826, 827, 828, 829, 830, 831, 832, 833, 834, 835, 836, 837, 798, 799, 800, 801, 802, 803, 804, 805, 838, 839, 840, 841, 842, 843, 844, 845, 846, 847, 848] (by decide +kernel) (by decide +kernel)
set_option maxRecDepth 20000 in
theorem gL_law_X4_init : GoodIn wsL_law (wsX4_init) := ggL_law_X4_init
set_option maxRecDepth 20000 in
theorem ggL_law_X5_init : GoodIn wsL_law wsX5_init := goodIn_r _ [104, 105, 11, 12, 65, 106, 107, 108, 109, 110, 111, 112, 113, 114, 115, 806, 807, 808, 809, 810, 811, 812, 813, 814, 815, 816, 817, 818, 819] (by decide +kernel) (by decide +kernel)
set_option maxRecDepth 20000 in
theorem gL_law_X5_init : GoodIn wsL_law (wsX5_init) := ggL_law_X5_init
set_option maxRecDepth 20000 in
theorem ggL_law_X4_feed : GoodIn wsL_law wsX4_feed := goodIn_r _ [119, 23, 120, 121, 122, 123, 124, 26, 125, 60, 126, 127, 128, 2, 129, 130, 131, 132, 133, 28, 134, 82, 83, 84, 66, 135, 136, 137, 138, 139, 78, 79, 80, 798, 799, 800, 801, 802, 803, 804, 805, 838, 839, 840, 841, 842, 843, 844, 845] (by decide +kernel) (by decide +kernel)
set_option maxRecDepth 20000 in
theorem gL_law_X4_feed : GoodIn wsL_law (wsV RL 15 RX4 yX4_feed wsX4_feed) := goodIn_app (goodIn_of _ (by decide +kernel)) ggL_law_X4_feed
set_option maxRecDepth 20000 in
theorem ggL_law_X5_feed : GoodIn wsL_law wsX5_feed := goodIn_r _ [143, 144, 113, 145, 146, 147, 148, 5, 149, 106, 806, 807, 808, 809, 810, 811, 812, 813, 814, 815, 816, 817, 818, 819] (by decide +kernel) (by decide +kernel)
set_option maxRecDepth 20000 in
theorem gL_law_X5_feed : GoodIn wsL_law (wsV RL 19 RX5 yX5_feed wsX5_feed) := goodIn_app (goodIn_of _ (by decide +kernel)) ggL_law_X5_feed
set_option maxRecDepth 20000 in
theorem ggL_law_X4_book : GoodIn wsL_law wsX4_book := goodIn_r _ [153, 23, 16, 154, 120, 155, 156, 157, 22, 158, 90, 89, 92, 94, 91, 93, 159, 160, 161, 162, 163, 164, 165, 166, 167, 82, 83, 26, 84, 60, 66, 168, 169, 170, 171, 172, 173, 174, 175, 62, 63, 64, 176, 177, 178, 179, 180, 123, 124, 125, 181, 182, 183, 38, 184, 71, 185, 186, 2, 187, 188, 189, 190, 75, 76, 191, 192, 193, 194, 72, 73, 195, 196, 197, 198, 199, 200, 201, 202, 203, 78, 79, 80, 204, 205, 206, 207, 798, 799, 800, 801, 802, 803, 804, 805, 820, 821, 822, 823, 824, 825, 826, 827, 828, 829, 830, 831, 832, 833, 834, 835, 836, 837, 838, 839, 840, 841, 842, 843, 844, 845, 846, 847, 848] (by decide +kernel) (by decide +kernel)
set_option maxRecDepth 20000 in
theorem gL_law_X4_book : GoodIn wsL_law (wsV RL 20 RX4 yX4_book wsX4_book) := goodIn_app (goodIn_of _ (by decide +kernel)) ggL_law_X4_book
set_option maxRecDepth 20000 in
theorem ggL_law_X5_book : GoodIn wsL_law wsX5_book := goodIn_r _ [211, 144, 212, 213, 214, 5, 215, 216, 107, 111, 114, 217, 218, 219, 220, 221, 222, 223, 224, 113, 225, 226, 227, 228, 229, 230, 231, 232, 233, 234, 235, 236, 237, 238, 239, 240, 241, 242, 243, 244, 245, 246, 247, 806, 807, 808, 809, 810, 811, 812, 813, 814, 815, 816, 817, 818, 819] (by decide +kernel) (by decide +kernel)
set_option maxRecDepth 20000 in
theorem gL_law_X5_book : GoodIn wsL_law (wsV RL 24 RX5 yX5_book wsX5_book) := goodIn_app (goodIn_of _ (by decide +kernel)) ggL_law_X5_book
set_option maxRecDepth 20000 in
theorem ggL_law_X4_set : GoodIn wsL_law wsX4_set := goodIn_r _ [251, 188, 189, 16, 252, 130, 131, 132, 2, 133, 28, 134, 82, 83, 26, 84, 60, 66, 135, 136, 137, 138, 190, 75, 76, 126, 127, 128, 129, 798, 799, 800, 801, 802, 803, 804, 805, 820, 821, 822, 823, 824, 825, 826, 827, 828, 829, 830, 831, 832, 833, 834, 835, 836, 837, 844, 845] (by decide +kernel) (by decide +kernel)
set_option maxRecDepth 20000 in
theorem gL_law_X4_set : GoodIn wsL_law (wsV RL 25 RX4 yX4_set wsX4_set) := goodIn_app (goodIn_of _ (by decide +kernel)) ggL_law_X4_set
set_option maxRecDepth 20000 in
theorem ggL_law_X5_set : GoodIn wsL_law wsX5_set := goodIn_r _ [256, 257, 258, 5, 259, 146, 147, 148, 149, 106, 239, 240, 241, 242, 243, 244, 245, 246, 247, 260, 261, 262, 263, 107, 806, 807, 808, 809, 810, 811, 812, 813, 814, 815, 816, 817, 818, 819] (by decide +kernel) (by decide +kernel)
set_option maxRecDepth 20000 in
theorem gL_law_X5_set : GoodIn wsL_law (wsV RL 29 RX5 yX5_set wsX5_set) := goodIn_app (goodIn_of _ (by decide +kernel)) ggL_law_X5_set
set_option maxRecDepth 20000 in
theorem ggL_law_X4_glass : GoodIn wsL_law wsX4_glass := goodIn_r _ [267, 16, 268, 126, 127, 128, 2, 129, 130, 131, 132, 133, 28, 134, 82, 83, 26, 84, 60, 66, 135, 136, 137, 138, 798, 799, 800, 801, 802, 803, 804, 805, 820, 821, 822, 823, 824, 825, 826, 827, 828, 829, 830, 831, 832, 833, 834, 835, 836, 837, 844, 845] (by decide +kernel) (by decide +kernel)
set_option maxRecDepth 20000 in
theorem gL_law_X4_glass : GoodIn wsL_law (wsV RL 30 RX4 yX4_glass wsX4_glass) := goodIn_app (goodIn_of _ (by decide +kernel)) ggL_law_X4_glass
set_option maxRecDepth 20000 in
theorem ggL_law_X5_glass : GoodIn wsL_law wsX5_glass := goodIn_r _ [272, 245, 246, 5, 247, 146, 147, 148, 149, 106, 260, 261, 262, 263, 107, 806, 807, 808, 809, 810, 811, 812, 813, 814, 815, 816, 817, 818, 819] (by decide +kernel) (by decide +kernel)
set_option maxRecDepth 20000 in
theorem gL_law_X5_glass : GoodIn wsL_law (wsV RL 34 RX5 yX5_glass wsX5_glass) := goodIn_app (goodIn_of _ (by decide +kernel)) ggL_law_X5_glass
set_option maxRecDepth 20000 in
theorem ggL_law_X4_wet : GoodIn wsL_law wsX4_wet := goodIn_r _ [276, 16, 277, 278, 279, 63, 280, 126, 127, 128, 2, 129, 130, 131, 132, 133, 28, 134, 82, 83, 26, 84, 60, 66, 135, 136, 137, 138, 281, 282, 283, 15, 284, 35, 81, 798, 799, 800, 801, 802, 803, 804, 805, 820, 821, 822, 823, 824, 825, 826, 827, 828, 829, 830, 831, 832, 833, 834, 835, 836, 837, 844, 845] (by decide +kernel) (by decide +kernel)
set_option maxRecDepth 20000 in
theorem gL_law_X4_wet : GoodIn wsL_law (wsV RL 35 RX4 yX4_wet wsX4_wet) := goodIn_app (goodIn_of _ (by decide +kernel)) ggL_law_X4_wet
set_option maxRecDepth 20000 in
theorem ggL_law_X5_wet : GoodIn wsL_law wsX5_wet := goodIn_r _ [288, 107, 245, 246, 5, 247, 146, 147, 148, 149, 106, 289, 290, 291, 260, 261, 262, 263, 806, 807, 808, 809, 810, 811, 812, 813, 814, 815, 816, 817, 818, 819] (by decide +kernel) (by decide +kernel)
set_option maxRecDepth 20000 in
theorem gL_law_X5_wet : GoodIn wsL_law (wsV RL 38 RX5 yX5_wet wsX5_wet) := goodIn_app (goodIn_of _ (by decide +kernel)) ggL_law_X5_wet
set_option maxRecDepth 20000 in
theorem ggL_law_X4_run : GoodIn wsL_law wsX4_run := goodIn_r _ [295, 16, 296, 126, 127, 128, 2, 129, 130, 131, 132, 133, 28, 134, 82, 83, 26, 84, 60, 66, 135, 136, 137, 138, 297, 298, 299, 15, 300, 49, 301, 302, 303, 304, 44, 46, 47, 35, 42, 43, 53, 51, 50, 48, 305, 306, 307, 308, 54, 39, 81, 309, 310, 311, 38, 312, 71, 72, 73, 185, 123, 124, 125, 313, 314, 315, 316, 317, 318, 62, 63, 64, 319, 279, 280, 320, 321, 322, 323, 324, 325, 326, 327, 40, 41, 77, 78, 79, 80, 328, 282, 283, 284, 329, 330, 331, 332, 52, 333, 334, 335, 336, 45, 337, 338, 339, 340, 55, 341, 342, 343, 344, 345, 346, 347, 348, 349, 350, 351, 352, 798, 799, 800, 801, 802, 803, 804, 805, 820, 821, 822, 823, 824, 825, 826, 827, 828, 829, 830, 831, 832, 833, 834, 835, 836, 837, 844, 845, 846, 847, 848] (by decide +kernel) (by decide +kernel)
set_option maxRecDepth 20000 in
theorem gL_law_X4_run : GoodIn wsL_law (wsV RL 39 RX4 yX4_run wsX4_run) := goodIn_app (goodIn_of _ (by decide +kernel)) ggL_law_X4_run
set_option maxRecDepth 20000 in
theorem ggL_law_X5_run : GoodIn wsL_law wsX5_run := goodIn_r _ [356, 107, 245, 246, 5, 247, 146, 147, 148, 149, 106, 357, 358, 359, 360, 361, 362, 363, 364, 365, 366, 367, 368, 112, 369, 370, 371, 289, 290, 291, 372, 373, 374, 375, 376, 377, 378, 379, 380, 381, 382, 383, 384, 385, 386, 806, 807, 808, 809, 810, 811, 812, 813, 814, 815, 816, 817, 818, 819] (by decide +kernel) (by decide +kernel)
set_option maxRecDepth 20000 in
theorem gL_law_X5_run : GoodIn wsL_law (wsV RL 42 RX5 yX5_run wsX5_run) := goodIn_app (goodIn_of _ (by decide +kernel)) ggL_law_X5_run
set_option maxRecDepth 20000 in
theorem ggL_law_X4_now : GoodIn wsL_law wsX4_now := goodIn_r _ [390, 16, 391, 392, 277, 393, 394, 395, 396, 296, 397, 398, 399, 268, 400, 401, 130, 131, 132, 2, 133, 28, 134, 82, 83, 26, 84, 60, 66, 135, 136, 137, 138, 798, 799, 800, 801, 802, 803, 804, 805, 820, 821, 822, 823, 824, 825, 826, 827, 828, 829, 830, 831, 832, 833, 834, 835, 836, 837, 844, 845] (by decide +kernel) (by decide +kernel)
set_option maxRecDepth 20000 in
theorem gL_law_X4_now : GoodIn wsL_law (wsV RL 43 RX4 yX4_now wsX4_now) := goodIn_app (goodIn_of _ (by decide +kernel)) ggL_law_X4_now
set_option maxRecDepth 20000 in
theorem ggL_law_X5_now : GoodIn wsL_law wsX5_now := goodIn_r _ [405, 406, 107, 257, 258, 5, 259, 146, 147, 148, 149, 106, 806, 807, 808, 809, 810, 811, 812, 813, 814, 815, 816, 817, 818, 819] (by decide +kernel) (by decide +kernel)
set_option maxRecDepth 20000 in
theorem gL_law_X5_now : GoodIn wsL_law (wsV RL 46 RX5 yX5_now wsX5_now) := goodIn_app (goodIn_of _ (by decide +kernel)) ggL_law_X5_now
set_option maxRecDepth 20000 in
theorem ggL_law_X4_air : GoodIn wsL_law wsX4_air := goodIn_r _ [410, 16, 130, 131, 132, 2, 133, 28, 134, 82, 83, 26, 84, 60, 66, 135, 136, 137, 138, 411, 306, 307, 15, 308, 54, 39, 48, 35, 81, 309, 310, 311, 38, 312, 71, 72, 73, 185, 123, 124, 125, 313, 798, 799, 800, 801, 802, 803, 804, 805, 844, 845, 820, 821, 822, 823, 824, 825, 826, 827, 828, 829, 830, 831, 832, 833, 834, 835, 836, 837, 846, 847, 848] (by decide +kernel) (by decide +kernel)
set_option maxRecDepth 20000 in
theorem gL_law_X4_air : GoodIn wsL_law (wsV RL 47 RX4 yX4_air wsX4_air) := goodIn_app (goodIn_of _ (by decide +kernel)) ggL_law_X4_air
set_option maxRecDepth 20000 in
theorem ggL_law_X5_air : GoodIn wsL_law wsX5_air := goodIn_r _ [415, 107, 257, 258, 5, 259, 369, 370, 371, 146, 147, 148, 149, 106, 806, 807, 808, 809, 810, 811, 812, 813, 814, 815, 816, 817, 818, 819] (by decide +kernel) (by decide +kernel)
set_option maxRecDepth 20000 in
theorem gL_law_X5_air : GoodIn wsL_law (wsV RL 50 RX5 yX5_air wsX5_air) := goodIn_app (goodIn_of _ (by decide +kernel)) ggL_law_X5_air
set_option maxRecDepth 20000 in
theorem ggL_law_X4_full : GoodIn wsL_law wsX4_full := goodIn_r _ [419, 16, 420, 342, 343, 15, 344, 35, 81, 82, 83, 26, 84, 60, 66, 798, 799, 800, 801, 802, 803, 804, 805, 820, 821, 822, 823, 824, 825, 826, 827, 828, 829, 830, 831, 832, 833, 834, 835, 836, 837, 844, 845] (by decide +kernel) (by decide +kernel)
set_option maxRecDepth 20000 in
theorem gL_law_X4_full : GoodIn wsL_law (wsV RL 51 RX4 yX4_full wsX4_full) := goodIn_app (goodIn_of _ (by decide +kernel)) ggL_law_X4_full
set_option maxRecDepth 20000 in
theorem ggL_law_X5_full : GoodIn wsL_law wsX5_full := goodIn_r _ [424, 107, 381, 382, 5, 383, 806, 807, 808, 809, 810, 811, 812, 813, 814, 815, 816, 817, 818, 819] (by decide +kernel) (by decide +kernel)
set_option maxRecDepth 20000 in
theorem gL_law_X5_full : GoodIn wsL_law (wsV RL 54 RX5 yX5_full wsX5_full) := goodIn_app (goodIn_of _ (by decide +kernel)) ggL_law_X5_full
set_option maxRecDepth 20000 in
theorem ggL_law_X4_often : GoodIn wsL_law wsX4_often := goodIn_r _ [428, 18, 16, 126, 127, 128, 2, 129, 130, 131, 132, 133, 28, 134, 82, 83, 26, 84, 60, 66, 135, 136, 137, 138, 429, 430, 431, 15, 432, 35, 39, 40, 41, 42, 43, 44, 45, 46, 47, 48, 49, 50, 51, 52, 53, 54, 55, 433, 434, 435, 436, 437, 279, 63, 280, 438, 439, 440, 441, 442, 443, 444, 38, 445, 71, 72, 73, 446, 297, 298, 299, 300, 301, 302, 303, 304, 305, 306, 307, 308, 81, 309, 310, 311, 312, 185, 123, 124, 125, 313, 314, 315, 316, 317, 318, 62, 64, 319, 320, 321, 322, 323, 324, 325, 326, 327, 77, 78, 79, 80, 328, 282, 283, 284, 329, 330, 331, 332, 333, 334, 335, 336, 337, 338, 339, 340, 341, 342, 343, 344, 345, 346, 347, 348, 349, 350, 351, 352, 798, 799, 800, 801, 802, 803, 804, 805, 844, 845, 820, 821, 822, 823, 824, 825, 826, 827, 828, 829, 830, 831, 832, 833, 834, 835, 836, 837, 846, 847, 848] (by decide +kernel) (by decide +kernel)
set_option maxRecDepth 20000 in
theorem gL_law_X4_often : GoodIn wsL_law (wsV RL 55 RX4 yX4_often wsX4_often) := goodIn_app (goodIn_of _ (by decide +kernel)) ggL_law_X4_often
set_option maxRecDepth 20000 in
theorem ggL_law_X5_often : GoodIn wsL_law wsX5_often := goodIn_r _ [450, 109, 107, 451, 452, 453, 5, 454, 245, 246, 247, 146, 147, 148, 149, 106, 455, 456, 457, 458, 236, 237, 238, 357, 358, 359, 360, 361, 362, 363, 364, 365, 366, 367, 368, 112, 369, 370, 371, 289, 290, 291, 372, 373, 374, 375, 376, 377, 378, 379, 380, 381, 382, 383, 384, 385, 386, 806, 807, 808, 809, 810, 811, 812, 813, 814, 815, 816, 817, 818, 819] (by decide +kernel) (by decide +kernel)
set_option maxRecDepth 20000 in
theorem gL_law_X5_often : GoodIn wsL_law (wsV RL 58 RX5 yX5_often wsX5_often) := goodIn_app (goodIn_of _ (by decide +kernel)) ggL_law_X5_often
set_option maxRecDepth 20000 in
theorem ggL_law_X4_law : GoodIn wsL_law wsX4_law := goodIn_r _ [462, 126, 127, 128, 2, 129, 130, 131, 132, 133, 28, 134, 82, 83, 26, 84, 60, 66, 135, 136, 137, 138, 463, 464, 465, 466, 18, 16, 467, 468, 469, 15, 470, 35, 39, 40, 41, 42, 43, 44, 45, 46, 47, 48, 49, 53, 54, 55, 433, 434, 435, 436, 437, 279, 63, 280, 438, 439, 440, 441, 471, 472, 192, 193, 38, 194, 71, 72, 73, 195, 196, 197, 198, 473, 205, 206, 207, 81, 329, 330, 331, 332, 50, 51, 52, 297, 298, 299, 300, 301, 302, 303, 304, 305, 306, 307, 308, 309, 310, 311, 312, 185, 123, 124, 125, 313, 314, 315, 316, 317, 318, 62, 64, 319, 320, 321, 322, 323, 324, 325, 326, 327, 77, 78, 79, 80, 328, 282, 283, 284, 333, 334, 335, 336, 337, 338, 339, 340, 341, 342, 343, 344, 345, 346, 347, 348, 349, 350, 351, 352, 798, 799, 800, 801, 802, 803, 804, 805, 844, 845, 820, 821, 822, 823, 824, 825, 826, 827, 828, 829, 830, 831, 832, 833, 834, 835, 836, 837, 846, 847, 848] (by decide +kernel) (by decide +kernel)
set_option maxRecDepth 20000 in
theorem gL_law_X4_law : GoodIn wsL_law (wsV RL 59 RX4 yX4_law wsX4_law) := goodIn_app (goodIn_of _ (by decide +kernel)) ggL_law_X4_law
set_option maxRecDepth 20000 in
theorem ggL_law_X5_law : GoodIn wsL_law wsX5_law := goodIn_r _ [477, 146, 147, 148, 5, 149, 106, 478, 479, 480, 481, 107, 109, 482, 483, 484, 485, 486, 487, 488, 236, 237, 238, 289, 290, 291, 357, 358, 359, 360, 361, 362, 363, 364, 365, 366, 367, 368, 112, 369, 370, 371, 372, 373, 374, 375, 376, 377, 378, 379, 380, 381, 382, 383, 384, 385, 386, 806, 807, 808, 809, 810, 811, 812, 813, 814, 815, 816, 817, 818, 819] (by decide +kernel) (by decide +kernel)
set_option maxRecDepth 20000 in
theorem gL_law_X5_law : GoodIn wsL_law (wsV RL 62 RX5 yX5_law wsX5_law) := goodIn_app (goodIn_of _ (by decide +kernel)) ggL_law_X5_law
set_option maxRecDepth 20000 in
theorem ggL_law_X4_stops : GoodIn wsL_law wsX4_stops := goodIn_r _ [492, 126, 127, 128, 2, 129, 130, 131, 132, 133, 28, 134, 82, 83, 26, 84, 60, 66, 135, 136, 137, 138, 463, 464, 465, 466, 18, 16, 467, 468, 469, 15, 470, 35, 39, 40, 41, 42, 43, 44, 45, 46, 47, 48, 49, 53, 54, 55, 433, 434, 435, 436, 437, 279, 63, 280, 438, 439, 440, 441, 471, 472, 192, 193, 38, 194, 71, 72, 73, 195, 196, 197, 198, 473, 205, 206, 207, 81, 329, 330, 331, 332, 50, 51, 52, 493, 494, 495, 496, 301, 302, 303, 304, 305, 306, 307, 308, 309, 310, 311, 312, 185, 123, 124, 125, 313, 314, 315, 316, 317, 318, 62, 64, 319, 320, 321, 322, 323, 324, 325, 326, 327, 77, 78, 79, 80, 328, 282, 283, 284, 333, 334, 335, 336, 337, 338, 339, 340, 341, 342, 343, 344, 345, 346, 347, 348, 349, 350, 351, 352, 798, 799, 800, 801, 802, 803, 804, 805, 844, 845, 820, 821, 822, 823, 824, 825, 826, 827, 828, 829, 830, 831, 832, 833, 834, 835, 836, 837, 846, 847, 848] (by decide +kernel) (by decide +kernel)
set_option maxRecDepth 20000 in
theorem gL_law_X4_stops : GoodIn wsL_law (wsV RL 63 RX4 yX4_stops wsX4_stops) := goodIn_app (goodIn_of _ (by decide +kernel)) ggL_law_X4_stops
set_option maxRecDepth 20000 in
theorem ggL_law_X5_stops : GoodIn wsL_law wsX5_stops := goodIn_r _ [500, 451, 452, 453, 5, 454, 245, 246, 247, 146, 147, 148, 149, 106, 478, 479, 480, 481, 107, 109, 482, 483, 484, 485, 486, 487, 488, 236, 237, 238, 289, 290, 291, 357, 358, 359, 360, 361, 362, 363, 364, 365, 366, 367, 368, 112, 369, 370, 371, 372, 373, 374, 375, 376, 377, 378, 379, 380, 381, 382, 383, 384, 385, 386, 806, 807, 808, 809, 810, 811, 812, 813, 814, 815, 816, 817, 818, 819] (by decide +kernel) (by decide +kernel)
set_option maxRecDepth 20000 in
theorem gL_law_X5_stops : GoodIn wsL_law (wsV RL 66 RX5 yX5_stops wsX5_stops) := goodIn_app (goodIn_of _ (by decide +kernel)) ggL_law_X5_stops
set_option maxRecDepth 20000 in
theorem ggL_law_X4_pegs : GoodIn wsL_law wsX4_pegs := goodIn_r _ [504, 130, 131, 132, 2, 133, 28, 134, 82, 83, 26, 84, 60, 66, 135, 136, 137, 138, 126, 127, 128, 129, 463, 464, 465, 466, 18, 16, 467, 468, 469, 15, 470, 35, 39, 40, 41, 42, 43, 44, 45, 46, 47, 48, 49, 53, 54, 55, 433, 434, 435, 436, 437, 279, 63, 280, 438, 439, 440, 441, 471, 472, 192, 193, 38, 194, 71, 72, 73, 195, 196, 197, 198, 473, 205, 206, 207, 81, 329, 330, 331, 332, 50, 51, 52, 493, 494, 495, 496, 301, 302, 303, 304, 305, 306, 307, 308, 309, 310, 311, 312, 185, 123, 124, 125, 313, 314, 315, 316, 317, 318, 62, 64, 319, 320, 321, 322, 323, 324, 325, 326, 327, 77, 78, 79, 80, 328, 282, 283, 284, 333, 334, 335, 336, 337, 338, 339, 340, 341, 342, 343, 344, 345, 346, 347, 348, 349, 350, 351, 352, 798, 799, 800, 801, 802, 803, 804, 805, 844, 845, 820, 821, 822, 823, 824, 825, 826, 827, 828, 829, 830, 831, 832, 833, 834, 835, 836, 837, 846, 847, 848] (by decide +kernel) (by decide +kernel)
set_option maxRecDepth 20000 in
theorem gL_law_X4_pegs : GoodIn wsL_law (wsV RL 67 RX4 yX4_pegs wsX4_pegs) := goodIn_app (goodIn_of _ (by decide +kernel)) ggL_law_X4_pegs
set_option maxRecDepth 20000 in
theorem ggL_law_X5_pegs : GoodIn wsL_law wsX5_pegs := goodIn_r _ [508, 257, 258, 5, 259, 245, 246, 247, 146, 147, 148, 149, 106, 478, 479, 480, 481, 107, 109, 482, 483, 484, 485, 486, 487, 488, 236, 237, 238, 289, 290, 291, 357, 358, 359, 360, 361, 362, 363, 364, 365, 366, 367, 368, 112, 369, 370, 371, 372, 373, 374, 375, 376, 377, 378, 379, 380, 381, 382, 383, 384, 385, 386, 806, 807, 808, 809, 810, 811, 812, 813, 814, 815, 816, 817, 818, 819] (by decide +kernel) (by decide +kernel)
set_option maxRecDepth 20000 in
theorem gL_law_X5_pegs : GoodIn wsL_law (wsV RL 70 RX5 yX5_pegs wsX5_pegs) := goodIn_app (goodIn_of _ (by decide +kernel)) ggL_law_X5_pegs
set_option maxRecDepth 20000 in
theorem ggL_law_X4_widest : GoodIn wsL_law wsX4_widest := goodIn_r _ [512, 126, 127, 128, 2, 129, 130, 131, 132, 133, 28, 134, 82, 83, 26, 84, 60, 66, 135, 136, 137, 138, 513, 514, 515, 516, 463, 464, 465, 466, 18, 16, 467, 468, 469, 15, 470, 35, 39, 40, 41, 42, 43, 44, 45, 46, 47, 48, 49, 53, 54, 55, 433, 434, 435, 436, 437, 279, 63, 280, 438, 439, 440, 441, 471, 472, 192, 193, 38, 194, 71, 72, 73, 195, 196, 197, 198, 473, 205, 206, 207, 81, 329, 330, 331, 332, 50, 51, 52, 517, 518, 519, 520, 493, 494, 495, 496, 301, 302, 303, 304, 305, 306, 307, 308, 309, 310, 311, 312, 185, 123, 124, 125, 313, 314, 315, 316, 317, 318, 62, 64, 319, 320, 321, 322, 323, 324, 325, 326, 327, 77, 78, 79, 80, 328, 282, 283, 284, 333, 334, 335, 336, 337, 338, 339, 340, 341, 342, 343, 344, 345, 346, 347, 348, 349, 350, 351, 352, 798, 799, 800, 801, 802, 803, 804, 805, 844, 845, 820, 821, 822, 823, 824, 825, 826, 827, 828, 829, 830, 831, 832, 833, 834, 835, 836, 837, 846, 847, 848] (by decide +kernel) (by decide +kernel)
set_option maxRecDepth 20000 in
theorem gL_law_X4_widest : GoodIn wsL_law (wsV RL 71 RX4 yX4_widest wsX4_widest) := goodIn_app (goodIn_of _ (by decide +kernel)) ggL_law_X4_widest
set_option maxRecDepth 20000 in
theorem ggL_law_X5_widest : GoodIn wsL_law wsX5_widest := goodIn_r _ [524, 107, 245, 246, 5, 247, 146, 147, 148, 149, 106, 478, 479, 480, 481, 109, 482, 483, 484, 485, 486, 487, 488, 236, 237, 238, 289, 290, 291, 357, 358, 359, 360, 361, 362, 363, 364, 365, 366, 367, 368, 112, 369, 370, 371, 372, 373, 374, 375, 376, 377, 378, 379, 380, 381, 382, 383, 384, 385, 386, 806, 807, 808, 809, 810, 811, 812, 813, 814, 815, 816, 817, 818, 819] (by decide +kernel) (by decide +kernel)
set_option maxRecDepth 20000 in
theorem gL_law_X5_widest : GoodIn wsL_law (wsV RL 74 RX5 yX5_widest wsX5_widest) := goodIn_app (goodIn_of _ (by decide +kernel)) ggL_law_X5_widest
set_option maxRecDepth 20000 in
theorem ggL_law_X4_lifts : GoodIn wsL_law wsX4_lifts := goodIn_r _ [528, 126, 127, 128, 2, 129, 130, 131, 132, 133, 28, 134, 82, 83, 26, 84, 60, 66, 135, 136, 137, 138, 463, 464, 465, 466, 18, 16, 467, 468, 469, 15, 470, 35, 39, 40, 41, 42, 43, 44, 45, 46, 47, 48, 49, 53, 54, 55, 433, 434, 435, 436, 437, 279, 63, 280, 438, 439, 440, 441, 471, 472, 192, 193, 38, 194, 71, 72, 73, 195, 196, 197, 198, 473, 205, 206, 207, 81, 329, 330, 331, 332, 50, 51, 52, 297, 298, 299, 300, 301, 302, 303, 304, 305, 306, 307, 308, 309, 310, 311, 312, 185, 123, 124, 125, 313, 314, 315, 316, 317, 318, 62, 64, 319, 320, 321, 322, 323, 324, 325, 326, 327, 77, 78, 79, 80, 328, 282, 283, 284, 333, 334, 335, 336, 337, 338, 339, 340, 341, 342, 343, 344, 345, 346, 347, 348, 349, 350, 351, 352, 798, 799, 800, 801, 802, 803, 804, 805, 844, 845, 820, 821, 822, 823, 824, 825, 826, 827, 828, 829, 830, 831, 832, 833, 834, 835, 836, 837, 846, 847, 848] (by decide +kernel) (by decide +kernel)
set_option maxRecDepth 20000 in
theorem gL_law_X4_lifts : GoodIn wsL_law (wsV RL 75 RX4 yX4_lifts wsX4_lifts) := goodIn_app (goodIn_of _ (by decide +kernel)) ggL_law_X4_lifts
set_option maxRecDepth 20000 in
theorem ggL_law_X5_lifts : GoodIn wsL_law wsX5_lifts := goodIn_r _ [532, 451, 452, 453, 5, 454, 245, 246, 247, 146, 147, 148, 149, 106, 478, 479, 480, 481, 107, 109, 482, 483, 484, 485, 486, 487, 488, 236, 237, 238, 289, 290, 291, 357, 358, 359, 360, 361, 362, 363, 364, 365, 366, 367, 368, 112, 369, 370, 371, 372, 373, 374, 375, 376, 377, 378, 379, 380, 381, 382, 383, 384, 385, 386, 806, 807, 808, 809, 810, 811, 812, 813, 814, 815, 816, 817, 818, 819] (by decide +kernel) (by decide +kernel)
set_option maxRecDepth 20000 in
theorem gL_law_X5_lifts : GoodIn wsL_law (wsV RL 78 RX5 yX5_lifts wsX5_lifts) := goodIn_app (goodIn_of _ (by decide +kernel)) ggL_law_X5_lifts
set_option maxRecDepth 20000 in
theorem ggL_law_X4_under : GoodIn wsL_law wsX4_under := goodIn_r _ [536, 463, 464, 465, 2, 466, 18, 16, 467, 468, 469, 15, 470, 35, 39, 40, 41, 42, 43, 44, 45, 46, 47, 48, 49, 53, 54, 55, 433, 434, 435, 26, 436, 60, 66, 437, 279, 63, 280, 438, 439, 440, 441, 471, 136, 137, 138, 472, 192, 193, 38, 194, 71, 72, 73, 195, 196, 197, 198, 473, 205, 206, 207, 81, 82, 83, 84, 329, 330, 331, 332, 50, 51, 52, 297, 298, 299, 300, 301, 302, 303, 304, 305, 306, 307, 308, 309, 310, 311, 312, 185, 123, 124, 125, 313, 314, 315, 316, 317, 318, 62, 64, 319, 320, 321, 322, 323, 324, 325, 326, 327, 77, 78, 79, 80, 328, 282, 283, 284, 333, 334, 335, 336, 337, 338, 339, 340, 341, 342, 343, 344, 345, 346, 347, 348, 349, 350, 351, 352, 798, 799, 800, 801, 802, 803, 804, 805, 820, 821, 822, 823, 824, 825, 826, 827, 828, 829, 830, 831, 832, 833, 834, 835, 836, 837, 844, 845, 846, 847, 848] (by decide +kernel) (by decide +kernel)
set_option maxRecDepth 20000 in
theorem gL_law_X4_under : GoodIn wsL_law (wsV RL 79 RX4 yX4_under wsX4_under) := goodIn_app (goodIn_of _ (by decide +kernel)) ggL_law_X4_under
set_option maxRecDepth 20000 in
theorem ggL_law_X5_under : GoodIn wsL_law wsX5_under := goodIn_r _ [540, 478, 479, 480, 5, 481, 107, 109, 482, 483, 484, 485, 486, 487, 488, 236, 237, 238, 289, 290, 291, 357, 358, 359, 360, 361, 362, 363, 364, 365, 366, 367, 368, 112, 369, 370, 371, 372, 373, 374, 375, 376, 377, 378, 379, 380, 381, 382, 383, 384, 385, 386, 806, 807, 808, 809, 810, 811, 812, 813, 814, 815, 816, 817, 818, 819] (by decide +kernel) (by decide +kernel)
set_option maxRecDepth 20000 in
theorem gL_law_X5_under : GoodIn wsL_law (wsV RL 82 RX5 yX5_under wsX5_under) := goodIn_app (goodIn_of _ (by decide +kernel)) ggL_law_X5_under
set_option maxRecDepth 20000 in
theorem ggL_law_X4_without : GoodIn wsL_law wsX4_without := goodIn_r _ [544, 277, 268, 126, 127, 128, 2, 129, 130, 131, 132, 133, 28, 134, 82, 83, 26, 84, 60, 66, 135, 136, 137, 138, 463, 464, 465, 466, 18, 16, 467, 468, 469, 15, 470, 35, 39, 40, 41, 42, 43, 44, 45, 46, 47, 48, 49, 53, 54, 55, 433, 434, 435, 436, 437, 279, 63, 280, 438, 439, 440, 441, 471, 472, 192, 193, 38, 194, 71, 72, 73, 195, 196, 197, 198, 473, 205, 206, 207, 81, 329, 330, 331, 332, 50, 51, 52, 493, 494, 495, 496, 301, 302, 303, 304, 305, 306, 307, 308, 309, 310, 311, 312, 185, 123, 124, 125, 313, 314, 315, 316, 317, 318, 62, 64, 319, 320, 321, 322, 323, 324, 325, 326, 327, 77, 78, 79, 80, 328, 282, 283, 284, 333, 334, 335, 336, 337, 338, 339, 340, 341, 342, 343, 344, 345, 346, 347, 348, 349, 350, 351, 352, 820, 821, 822, 823, 824, 825, 826, 827, 828, 829, 830, 831, 832, 833, 834, 835, 836, 837, 798, 799, 800, 801, 802, 803, 804, 805, 844, 845, 846, 847, 848] (by decide +kernel) (by decide +kernel)
set_option maxRecDepth 20000 in
theorem gL_law_X4_without : GoodIn wsL_law (wsV RL 83 RX4 yX4_without wsX4_without) := goodIn_app (goodIn_of _ (by decide +kernel)) ggL_law_X4_without
set_option maxRecDepth 20000 in
theorem ggL_law_X5_without : GoodIn wsL_law wsX5_without := goodIn_r _ [548, 109, 451, 452, 453, 5, 454, 245, 246, 247, 146, 147, 148, 149, 106, 482, 483, 484, 485, 107, 486, 487, 488, 236, 237, 238, 289, 290, 291, 357, 358, 359, 360, 361, 362, 363, 364, 365, 366, 367, 368, 112, 369, 370, 371, 372, 373, 374, 375, 376, 377, 378, 379, 380, 381, 382, 383, 384, 385, 386, 806, 807, 808, 809, 810, 811, 812, 813, 814, 815, 816, 817, 818, 819] (by decide +kernel) (by decide +kernel)
set_option maxRecDepth 20000 in
theorem gL_law_X5_without : GoodIn wsL_law (wsV RL 86 RX5 yX5_without wsX5_without) := goodIn_app (goodIn_of _ (by decide +kernel)) ggL_law_X5_without
set_option maxRecDepth 20000 in
theorem ggL_law_X4_larger : GoodIn wsL_law wsX4_larger := goodIn_r _ [552, 126, 127, 128, 2, 129, 130, 131, 132, 133, 28, 134, 82, 83, 26, 84, 60, 66, 135, 136, 137, 138, 463, 464, 465, 466, 18, 16, 467, 468, 469, 15, 470, 35, 39, 40, 41, 42, 43, 44, 45, 46, 47, 48, 49, 53, 54, 55, 433, 434, 435, 436, 437, 279, 63, 280, 438, 439, 440, 441, 471, 472, 192, 193, 38, 194, 71, 72, 73, 195, 196, 197, 198, 473, 205, 206, 207, 81, 329, 330, 331, 332, 50, 51, 52, 297, 298, 299, 300, 301, 302, 303, 304, 305, 306, 307, 308, 309, 310, 311, 312, 185, 123, 124, 125, 313, 314, 315, 316, 317, 318, 62, 64, 319, 320, 321, 322, 323, 324, 325, 326, 327, 77, 78, 79, 80, 328, 282, 283, 284, 333, 334, 335, 336, 337, 338, 339, 340, 341, 342, 343, 344, 345, 346, 347, 348, 349, 350, 351, 352, 798, 799, 800, 801, 802, 803, 804, 805, 844, 845, 820, 821, 822, 823, 824, 825, 826, 827, 828, 829, 830, 831, 832, 833, 834, 835, 836, 837, 846, 847, 848] (by decide +kernel) (by decide +kernel)
set_option maxRecDepth 20000 in
theorem gL_law_X4_larger : GoodIn wsL_law (wsV RL 87 RX4 yX4_larger wsX4_larger) := goodIn_app (goodIn_of _ (by decide +kernel)) ggL_law_X4_larger
set_option maxRecDepth 20000 in
theorem ggL_law_X5_larger : GoodIn wsL_law wsX5_larger := goodIn_r _ [556, 146, 147, 148, 5, 149, 106, 478, 479, 480, 481, 107, 109, 482, 483, 484, 485, 486, 487, 488, 236, 237, 238, 289, 290, 291, 357, 358, 359, 360, 361, 362, 363, 364, 365, 366, 367, 368, 112, 369, 370, 371, 372, 373, 374, 375, 376, 377, 378, 379, 380, 381, 382, 383, 384, 385, 386, 806, 807, 808, 809, 810, 811, 812, 813, 814, 815, 816, 817, 818, 819] (by decide +kernel) (by decide +kernel)
set_option maxRecDepth 20000 in
theorem gL_law_X5_larger : GoodIn wsL_law (wsV RL 90 RX5 yX5_larger wsX5_larger) := goodIn_app (goodIn_of _ (by decide +kernel)) ggL_law_X5_larger
set_option maxRecDepth 20000 in
theorem ggL_law_X4_together : GoodIn wsL_law wsX4_together := goodIn_r _ [560, 18, 16, 19, 126, 127, 128, 2, 129, 130, 131, 132, 133, 28, 134, 82, 83, 26, 84, 60, 66, 135, 136, 137, 138, 467, 468, 469, 15, 470, 35, 39, 40, 41, 42, 43, 44, 45, 46, 47, 48, 49, 53, 54, 55, 433, 434, 435, 436, 437, 279, 63, 280, 438, 439, 440, 441, 471, 472, 192, 193, 38, 194, 71, 72, 73, 195, 196, 197, 198, 473, 205, 206, 207, 81, 329, 330, 331, 332, 50, 51, 52, 297, 298, 299, 300, 301, 302, 303, 304, 305, 306, 307, 308, 309, 310, 311, 312, 185, 123, 124, 125, 313, 314, 315, 316, 317, 318, 62, 64, 319, 320, 321, 322, 323, 324, 325, 326, 327, 77, 78, 79, 80, 328, 282, 283, 284, 333, 334, 335, 336, 337, 338, 339, 340, 341, 342, 343, 344, 345, 346, 347, 348, 349, 350, 351, 352, 798, 799, 800, 801, 802, 803, 804, 805, 844, 845, 820, 821, 822, 823, 824, 825, 826, 827, 828, 829, 830, 831, 832, 833, 834, 835, 836, 837, 846, 847, 848] (by decide +kernel) (by decide +kernel)
set_option maxRecDepth 20000 in
theorem gL_law_X4_together : GoodIn wsL_law (wsV RL 91 RX4 yX4_together wsX4_together) := goodIn_app (goodIn_of _ (by decide +kernel)) ggL_law_X4_together
set_option maxRecDepth 20000 in
theorem ggL_law_X5_together : GoodIn wsL_law wsX5_together := goodIn_r _ [564, 109, 110, 245, 246, 5, 247, 146, 147, 148, 149, 106, 482, 483, 484, 485, 107, 486, 487, 488, 236, 237, 238, 289, 290, 291, 361, 362, 363, 364, 365, 366, 367, 368, 112, 369, 370, 371, 372, 373, 374, 375, 376, 377, 378, 379, 380, 381, 382, 383, 384, 385, 386, 806, 807, 808, 809, 810, 811, 812, 813, 814, 815, 816, 817, 818, 819] (by decide +kernel) (by decide +kernel)
set_option maxRecDepth 20000 in
theorem gL_law_X5_together : GoodIn wsL_law (wsV RL 94 RX5 yX5_together wsX5_together) := goodIn_app (goodIn_of _ (by decide +kernel)) ggL_law_X5_together
set_option maxRecDepth 20000 in
theorem ggL_law_X4_drinks : GoodIn wsL_law wsX4_drinks := goodIn_r _ [568, 18, 16, 268, 126, 127, 128, 2, 129, 130, 131, 132, 133, 28, 134, 82, 83, 26, 84, 60, 66, 135, 136, 137, 138, 429, 430, 431, 15, 432, 35, 39, 40, 41, 42, 43, 44, 45, 46, 47, 48, 49, 50, 51, 52, 53, 54, 55, 433, 434, 435, 436, 437, 279, 63, 280, 438, 439, 440, 441, 442, 443, 444, 38, 445, 71, 72, 73, 446, 297, 298, 299, 300, 301, 302, 303, 304, 305, 306, 307, 308, 81, 309, 310, 311, 312, 185, 123, 124, 125, 313, 314, 315, 316, 317, 318, 62, 64, 319, 320, 321, 322, 323, 324, 325, 326, 327, 77, 78, 79, 80, 328, 282, 283, 284, 329, 330, 331, 332, 333, 334, 335, 336, 337, 338, 339, 340, 341, 342, 343, 344, 345, 346, 347, 348, 349, 350, 351, 352, 798, 799, 800, 801, 802, 803, 804, 805, 820, 821, 822, 823, 824, 825, 826, 827, 828, 829, 830, 831, 832, 833, 834, 835, 836, 837, 844, 845, 846, 847, 848] (by decide +kernel) (by decide +kernel)
set_option maxRecDepth 20000 in
theorem gL_law_X4_drinks : GoodIn wsL_law (wsV RL 95 RX4 yX4_drinks wsX4_drinks) := goodIn_app (goodIn_of _ (by decide +kernel)) ggL_law_X4_drinks
set_option maxRecDepth 20000 in
theorem ggL_law_X5_drinks : GoodIn wsL_law wsX5_drinks := goodIn_r _ [572, 109, 107, 451, 452, 453, 5, 454, 245, 246, 247, 146, 147, 148, 149, 106, 455, 456, 457, 458, 236, 237, 238, 357, 358, 359, 360, 361, 362, 363, 364, 365, 366, 367, 368, 112, 369, 370, 371, 289, 290, 291, 372, 373, 374, 375, 376, 377, 378, 379, 380, 381, 382, 383, 384, 385, 386, 806, 807, 808, 809, 810, 811, 812, 813, 814, 815, 816, 817, 818, 819] (by decide +kernel) (by decide +kernel)
set_option maxRecDepth 20000 in
theorem gL_law_X5_drinks : GoodIn wsL_law (wsV RL 98 RX5 yX5_drinks wsX5_drinks) := goodIn_app (goodIn_of _ (by decide +kernel)) ggL_law_X5_drinks
set_option maxRecDepth 20000 in
theorem ggL_law_X4_goes : GoodIn wsL_law wsX4_goes := goodIn_r _ [576, 130, 131, 132, 2, 133, 28, 134, 82, 83, 26, 84, 60, 66, 135, 136, 137, 138, 126, 127, 128, 129, 577, 578, 579, 580, 16, 252, 581, 186, 187, 188, 189, 190, 75, 76, 463, 464, 465, 466, 18, 467, 468, 469, 15, 470, 35, 39, 40, 41, 42, 43, 44, 45, 46, 47, 48, 49, 53, 54, 55, 433, 434, 435, 436, 437, 279, 63, 280, 438, 439, 440, 441, 471, 472, 192, 193, 38, 194, 71, 72, 73, 195, 196, 197, 198, 473, 205, 206, 207, 81, 329, 330, 331, 332, 50, 51, 52, 517, 518, 519, 520, 493, 494, 495, 496, 301, 302, 303, 304, 305, 306, 307, 308, 309, 310, 311, 312, 185, 123, 124, 125, 313, 314, 315, 316, 317, 318, 62, 64, 319, 320, 321, 322, 323, 324, 325, 326, 327, 77, 78, 79, 80, 328, 282, 283, 284, 333, 334, 335, 336, 337, 338, 339, 340, 341, 342, 343, 344, 345, 346, 347, 348, 349, 350, 351, 352, 582, 583, 584, 798, 799, 800, 801, 802, 803, 804, 805, 844, 845, 820, 821, 822, 823, 824, 825, 826, 827, 828, 829, 830, 831, 832, 833, 834, 835, 836, 837, 846, 847, 848] (by decide +kernel) (by decide +kernel)
set_option maxRecDepth 20000 in
theorem gL_law_X4_goes : GoodIn wsL_law (wsV RL 99 RX4 yX4_goes wsX4_goes) := goodIn_app (goodIn_of _ (by decide +kernel)) ggL_law_X4_goes
set_option maxRecDepth 20000 in
theorem ggL_law_X5_goes : GoodIn wsL_law wsX5_goes := goodIn_r _ [588, 107, 109, 257, 258, 5, 259, 146, 147, 148, 149, 106, 245, 246, 247, 482, 483, 484, 485, 486, 487, 488, 236, 237, 238, 289, 290, 291, 357, 358, 359, 360, 361, 362, 363, 364, 365, 366, 367, 368, 112, 369, 370, 371, 372, 373, 374, 375, 376, 377, 378, 379, 380, 381, 382, 383, 384, 385, 386, 589, 590, 591, 806, 807, 808, 809, 810, 811, 812, 813, 814, 815, 816, 817, 818, 819] (by decide +kernel) (by decide +kernel)
set_option maxRecDepth 20000 in
theorem gL_law_X5_goes : GoodIn wsL_law (wsV RL 103 RX5 yX5_goes wsX5_goes) := goodIn_app (goodIn_of _ (by decide +kernel)) ggL_law_X5_goes
set_option maxRecDepth 20000 in
theorem ggL_law_X4_bestRoom : GoodIn wsL_law wsX4_bestRoom := goodIn_r _ [595, 126, 127, 128, 2, 129, 130, 131, 132, 133, 28, 134, 82, 83, 26, 84, 60, 66, 135, 136, 137, 138, 463, 464, 465, 466, 18, 16, 467, 468, 469, 15, 470, 35, 39, 40, 41, 42, 43, 44, 45, 46, 47, 48, 49, 53, 54, 55, 433, 434, 435, 436, 437, 279, 63, 280, 438, 439, 440, 441, 471, 472, 192, 193, 38, 194, 71, 72, 73, 195, 196, 197, 198, 473, 205, 206, 207, 81, 329, 330, 331, 332, 50, 51, 52, 297, 298, 299, 300, 301, 302, 303, 304, 305, 306, 307, 308, 309, 310, 311, 312, 185, 123, 124, 125, 313, 314, 315, 316, 317, 318, 62, 64, 319, 320, 321, 322, 323, 324, 325, 326, 327, 77, 78, 79, 80, 328, 282, 283, 284, 333, 334, 335, 336, 337, 338, 339, 340, 341, 342, 343, 344, 345, 346, 347, 348, 349, 350, 351, 352, 798, 799, 800, 801, 802, 803, 804, 805, 844, 845, 820, 821, 822, 823, 824, 825, 826, 827, 828, 829, 830, 831, 832, 833, 834, 835, 836, 837, 846, 847, 848] (by decide +kernel) (by decide +kernel)
