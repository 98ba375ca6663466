set_option maxRecDepth 100000 in
set_option maxHeartbeats 4000000 in
theorem ggL_law_X4_odds : GoodIn wsL_law wsX4_odds := goodIn_r _ [745, 721, 130, 131, 132, 2, 133, 28, 134, 82, 83, 26, 84, 60, 66, 135, 136, 137, 138, 126, 127, 128, 129, 722, 723, 724, 725, 463, 464, 465, 466, 18, 16, 467, 468, 469, 15, 470, 35, 39, 40, 41, 42, 43, 44, 45, 46, 47, 48, 49, 53, 54, 55, 433, 434, 435, 436, 437, 279, 63, 280, 438, 439, 440, 441, 471, 472, 192, 193, 38, 194, 71, 72, 73, 195, 196, 197, 198, 473, 205, 206, 207, 81, 329, 330, 331, 332, 50, 51, 52, 517, 518, 519, 520, 297, 298, 299, 300, 301, 302, 303, 304, 305, 306, 307, 308, 309, 310, 311, 312, 185, 123, 124, 125, 313, 314, 315, 316, 317, 318, 62, 64, 319, 320, 321, 322, 323, 324, 325, 326, 327, 77, 78, 79, 80, 328, 282, 283, 284, 333, 334, 335, 336, 337, 338, 339, 340, 341, 342, 343, 344, 345, 346, 347, 348, 349, 350, 351, 352, 746, 747, 748, 749, 750, 751, 752, 798, 799, 800, 801, 802, 803, 804, 805, 844, 845, 820, 821, 822, 823, 824, 825, 826, 827, 828, 829, 830, 831, 832, 833, 834, 835, 836, 837, 846, 847, 848] rfl (by decide +kernel)
set_option maxRecDepth 20000 in
theorem gL_law_X4_odds : GoodIn wsL_law (wsV RL 148 RX4 yX4_odds wsX4_odds) := goodIn_app (goodIn_of _ (by decide +kernel)) ggL_law_X4_odds
set_option maxRecDepth 100000 in
set_option maxHeartbeats 4000000 in
theorem ggL_law_X5_odds : GoodIn wsL_law wsX5_odds := goodIn_r _ [756, 257, 258, 5, 259, 730, 731, 732, 733, 146, 147, 148, 149, 106, 734, 735, 736, 737, 738, 739, 740, 741, 107, 478, 479, 480, 481, 109, 482, 483, 484, 485, 486, 487, 488, 236, 237, 238, 289, 290, 291, 357, 358, 359, 360, 361, 362, 363, 364, 365, 366, 367, 368, 112, 369, 370, 371, 372, 373, 374, 375, 376, 377, 378, 379, 380, 381, 382, 383, 384, 385, 386, 806, 807, 808, 809, 810, 811, 812, 813, 814, 815, 816, 817, 818, 819] rfl (by decide +kernel)
set_option maxRecDepth 20000 in
theorem gL_law_X5_odds : GoodIn wsL_law (wsV RL 152 RX5 yX5_odds wsX5_odds) := goodIn_app (goodIn_of _ (by decide +kernel)) ggL_law_X5_odds
set_option maxRecDepth 100000 in
set_option maxHeartbeats 4000000 in
theorem ggL_law_X4_drafts : GoodIn wsL_law wsX4_drafts := goodIn_r _ [760, 18, 16, 396, 761, 762, 763, 764, 126, 127, 128, 2, 129, 130, 131, 132, 133, 28, 134, 82, 83, 26, 84, 60, 66, 135, 136, 137, 138, 429, 430, 431, 15, 432, 35, 39, 40, 41, 42, 43, 44, 45, 46, 47, 48, 49, 50, 51, 52, 53, 54, 55, 433, 434, 435, 436, 437, 279, 63, 280, 438, 439, 440, 441, 442, 443, 444, 38, 445, 71, 72, 73, 446, 297, 298, 299, 300, 301, 302, 303, 304, 305, 306, 307, 308, 81, 309, 310, 311, 312, 185, 123, 124, 125, 313, 314, 315, 316, 317, 318, 62, 64, 319, 320, 321, 322, 323, 324, 325, 326, 327, 77, 78, 79, 80, 328, 282, 283, 284, 329, 330, 331, 332, 333, 334, 335, 336, 337, 338, 339, 340, 341, 342, 343, 344, 345, 346, 347, 348, 349, 350, 351, 352, 798, 799, 800, 801, 802, 803, 804, 805, 820, 821, 822, 823, 824, 825, 826, 827, 828, 829, 830, 831, 832, 833, 834, 835, 836, 837, 844, 845, 846, 847, 848] rfl (by decide +kernel)
set_option maxRecDepth 20000 in
theorem gL_law_X4_drafts : GoodIn wsL_law (wsV RL 153 RX4 yX4_drafts wsX4_drafts) := goodIn_app (goodIn_of _ (by decide +kernel)) ggL_law_X4_drafts
set_option maxRecDepth 100000 in
set_option maxHeartbeats 4000000 in
theorem ggL_law_X5_drafts : GoodIn wsL_law wsX5_drafts := goodIn_r _ [768, 109, 769, 770, 771, 112, 107, 451, 452, 453, 5, 454, 245, 246, 247, 146, 147, 148, 149, 106, 455, 456, 457, 458, 236, 237, 238, 361, 362, 363, 364, 365, 366, 367, 368, 369, 370, 371, 289, 290, 291, 372, 373, 374, 375, 376, 377, 378, 379, 380, 381, 382, 383, 384, 385, 386, 806, 807, 808, 809, 810, 811, 812, 813, 814, 815, 816, 817, 818, 819] rfl (by decide +kernel)
set_option maxRecDepth 20000 in
theorem gL_law_X5_drafts : GoodIn wsL_law (wsV RL 156 RX5 yX5_drafts wsX5_drafts) := goodIn_app (goodIn_of _ (by decide +kernel)) ggL_law_X5_drafts
set_option maxRecDepth 100000 in
set_option maxHeartbeats 4000000 in
theorem ggL_law_X4_image : GoodIn wsL_law wsX4_image := goodIn_r _ [775, 17, 16, 29, 396, 429, 430, 431, 15, 432, 35, 39, 40, 41, 42, 43, 44, 45, 46, 47, 48, 49, 50, 51, 52, 53, 54, 55, 433, 434, 435, 26, 436, 60, 66, 437, 279, 63, 280, 438, 439, 440, 441, 442, 443, 444, 38, 445, 71, 72, 73, 446, 798, 799, 800, 801, 802, 803, 804, 805, 820, 821, 822, 823, 824, 825, 826, 827, 828, 829, 830, 831, 832, 833, 834, 835, 836, 837, 844, 845, 846, 847, 848] rfl (by decide +kernel)
set_option maxRecDepth 20000 in
theorem gL_law_X4_image : GoodIn wsL_law (wsV RL 157 RX4 yX4_image wsX4_image) := goodIn_app (goodIn_of _ (by decide +kernel)) ggL_law_X4_image
set_option maxRecDepth 100000 in
set_option maxHeartbeats 4000000 in
theorem ggL_law_X5_image : GoodIn wsL_law wsX5_image := goodIn_r _ [779, 107, 108, 780, 236, 237, 5, 238, 806, 807, 808, 809, 810, 811, 812, 813, 814, 815, 816, 817, 818, 819] rfl (by decide +kernel)
set_option maxRecDepth 20000 in
theorem gL_law_X5_image : GoodIn wsL_law (wsV RL 160 RX5 yX5_image wsX5_image) := goodIn_app (goodIn_of _ (by decide +kernel)) ggL_law_X5_image
set_option maxRecDepth 100000 in
set_option maxHeartbeats 4000000 in
theorem ggL_law_X4_on : GoodIn wsL_law wsX4_on := goodIn_r _ [784, 29, 16, 17, 396, 130, 131, 132, 2, 133, 28, 134, 82, 83, 26, 84, 60, 66, 135, 136, 137, 138, 429, 430, 431, 15, 432, 35, 39, 40, 41, 42, 43, 44, 45, 46, 47, 48, 49, 50, 51, 52, 53, 54, 55, 433, 434, 435, 436, 437, 279, 63, 280, 438, 439, 440, 441, 442, 443, 444, 38, 445, 71, 72, 73, 446, 798, 799, 800, 801, 802, 803, 804, 805, 820, 821, 822, 823, 824, 825, 826, 827, 828, 829, 830, 831, 832, 833, 834, 835, 836, 837, 844, 845, 846, 847, 848] rfl (by decide +kernel)
set_option maxRecDepth 20000 in
theorem gL_law_X4_on : GoodIn wsL_law (wsV RL 161 RX4 yX4_on wsX4_on) := goodIn_app (goodIn_of _ (by decide +kernel)) ggL_law_X4_on
set_option maxRecDepth 100000 in
set_option maxHeartbeats 4000000 in
theorem ggL_law_X5_on : GoodIn wsL_law wsX5_on := goodIn_r _ [788, 780, 108, 107, 146, 147, 148, 5, 149, 106, 236, 237, 238, 806, 807, 808, 809, 810, 811, 812, 813, 814, 815, 816, 817, 818, 819] rfl (by decide +kernel)
set_option maxRecDepth 20000 in
theorem gL_law_X5_on : GoodIn wsL_law (wsV RL 164 RX5 yX5_on wsX5_on) := goodIn_app (goodIn_of _ (by decide +kernel)) ggL_law_X5_on
set_option maxRecDepth 100000 in
set_option maxHeartbeats 4000000 in
theorem ggL_law_X4_count : GoodIn wsL_law wsX4_count := goodIn_r _ [792, 28, 16, 617, 154, 27, 23, 120, 134, 82, 83, 26, 84, 60, 66, 122, 123, 124, 125, 793, 182, 183, 38, 184, 71, 185, 798, 799, 800, 801, 802, 803, 804, 805, 820, 821, 822, 823, 824, 825, 826, 827, 828, 829, 830, 831, 832, 833, 834, 835, 836, 837, 838, 839, 840, 841, 842, 843, 844, 845, 846, 847, 848] rfl (by decide +kernel)
set_option maxRecDepth 20000 in
theorem gL_law_X4_count : GoodIn wsL_law (wsV RL 165 RX4 yX4_count wsX4_count) := goodIn_app (goodIn_of _ (by decide +kernel)) ggL_law_X4_count
set_option maxRecDepth 100000 in
set_option maxHeartbeats 4000000 in
theorem ggL_law_X5_count : GoodIn wsL_law wsX5_count := goodIn_r _ [797, 106, 107, 687, 144, 806, 807, 808, 809, 810, 811, 812, 813, 814, 815, 816, 817, 818, 819] rfl (by decide +kernel)
set_option maxRecDepth 20000 in
theorem gL_law_X5_count : GoodIn wsL_law (wsV RL 168 RX5 yX5_count wsX5_count) := goodIn_app (goodIn_of _ (by decide +kernel)) ggL_law_X5_count
