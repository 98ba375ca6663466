set_option maxRecDepth 20000 in
theorem gL_law_X4_bestRoom : GoodIn wsL_law (wsV RL 104 RX4 yX4_bestRoom wsX4_bestRoom) := goodIn_app (goodIn_of _ (by decide +kernel)) ggL_law_X4_bestRoom
set_option maxRecDepth 20000 in
theorem ggL_law_X5_bestRoom : GoodIn wsL_law wsX5_bestRoom := goodIn_r _ [599, 451, 452, 453, 5, 454, 245, 246, 247, 146, 147, 148, 149, 106, 478, 479, 480, 481, 107, 109, 482, 483, 484, 485, 486, 487, 488, 236, 237, 238, 289, 290, 291, 357, 358, 359, 360, 361, 362, 363, 364, 365, 366, 367, 368, 112, 369, 370, 371, 372, 373, 374, 375, 376, 377, 378, 379, 380, 381, 382, 383, 384, 385, 386, 806, 807, 808, 809, 810, 811, 812, 813, 814, 815, 816, 817, 818, 819] (by decide +kernel) (by decide +kernel)
set_option maxRecDepth 20000 in
theorem gL_law_X5_bestRoom : GoodIn wsL_law (wsV RL 107 RX5 yX5_bestRoom wsX5_bestRoom) := goodIn_app (goodIn_of _ (by decide +kernel)) ggL_law_X5_bestRoom
set_option maxRecDepth 20000 in
theorem ggL_law_X4_latest : GoodIn wsL_law wsX4_latest := goodIn_r _ [603, 126, 127, 128, 2, 129, 130, 131, 132, 133, 28, 134, 82, 83, 26, 84, 60, 66, 135, 136, 137, 138, 463, 464, 465, 466, 18, 16, 467, 468, 469, 15, 470, 35, 39, 40, 41, 42, 43, 44, 45, 46, 47, 48, 49, 53, 54, 55, 433, 434, 435, 436, 437, 279, 63, 280, 438, 439, 440, 441, 471, 472, 192, 193, 38, 194, 71, 72, 73, 195, 196, 197, 198, 473, 205, 206, 207, 81, 329, 330, 331, 332, 50, 51, 52, 604, 605, 606, 607, 608, 298, 299, 300, 301, 302, 303, 304, 305, 306, 307, 308, 309, 310, 311, 312, 185, 123, 124, 125, 313, 314, 315, 316, 317, 318, 62, 64, 319, 320, 321, 322, 323, 324, 325, 326, 327, 77, 78, 79, 80, 328, 282, 283, 284, 333, 334, 335, 336, 337, 338, 339, 340, 341, 342, 343, 344, 345, 346, 347, 348, 349, 350, 351, 352, 798, 799, 800, 801, 802, 803, 804, 805, 844, 845, 820, 821, 822, 823, 824, 825, 826, 827, 828, 829, 830, 831, 832, 833, 834, 835, 836, 837, 846, 847, 848] (by decide +kernel) (by decide +kernel)
set_option maxRecDepth 20000 in
theorem gL_law_X4_latest : GoodIn wsL_law (wsV RL 108 RX4 yX4_latest wsX4_latest) := goodIn_app (goodIn_of _ (by decide +kernel)) ggL_law_X4_latest
set_option maxRecDepth 20000 in
theorem ggL_law_X5_latest : GoodIn wsL_law wsX5_latest := goodIn_r _ [612, 109, 451, 452, 453, 5, 454, 245, 246, 247, 146, 147, 148, 149, 106, 482, 483, 484, 485, 107, 486, 487, 488, 236, 237, 238, 289, 290, 291, 361, 362, 363, 364, 365, 366, 367, 368, 112, 369, 370, 371, 372, 373, 374, 375, 376, 377, 378, 379, 380, 381, 382, 383, 384, 385, 386, 806, 807, 808, 809, 810, 811, 812, 813, 814, 815, 816, 817, 818, 819] (by decide +kernel) (by decide +kernel)
set_option maxRecDepth 20000 in
theorem gL_law_X5_latest : GoodIn wsL_law (wsV RL 111 RX5 yX5_latest wsX5_latest) := goodIn_app (goodIn_of _ (by decide +kernel)) ggL_law_X5_latest
set_option maxRecDepth 20000 in
theorem ggL_law_X4_dot : GoodIn wsL_law wsX4_dot := goodIn_r _ [616, 16, 617, 130, 131, 132, 2, 133, 28, 134, 82, 83, 26, 84, 60, 66, 135, 136, 137, 138, 122, 123, 124, 125, 798, 799, 800, 801, 802, 803, 804, 805, 820, 821, 822, 823, 824, 825, 826, 827, 828, 829, 830, 831, 832, 833, 834, 835, 836, 837, 844, 845] (by decide +kernel) (by decide +kernel)
set_option maxRecDepth 20000 in
theorem gL_law_X4_dot : GoodIn wsL_law (wsV RL 112 RX4 yX4_dot wsX4_dot) := goodIn_app (goodIn_of _ (by decide +kernel)) ggL_law_X4_dot
set_option maxRecDepth 20000 in
theorem ggL_law_X5_dot : GoodIn wsL_law wsX5_dot := goodIn_r _ [621, 107, 146, 147, 148, 5, 149, 106, 806, 807, 808, 809, 810, 811, 812, 813, 814, 815, 816, 817, 818, 819] (by decide +kernel) (by decide +kernel)
set_option maxRecDepth 20000 in
theorem gL_law_X5_dot : GoodIn wsL_law (wsV RL 115 RX5 yX5_dot wsX5_dot) := goodIn_app (goodIn_of _ (by decide +kernel)) ggL_law_X5_dot
set_option maxRecDepth 20000 in
theorem ggL_law_X4_even : GoodIn wsL_law wsX4_even := goodIn_r _ [625, 16, 626, 627, 63, 628, 130, 131, 132, 2, 133, 28, 134, 82, 83, 26, 84, 60, 66, 135, 136, 137, 138, 629, 630, 631, 15, 632, 40, 318, 62, 64, 633, 123, 124, 125, 634, 635, 636, 637, 638, 81, 798, 799, 800, 801, 802, 803, 804, 805, 844, 845, 820, 821, 822, 823, 824, 825, 826, 827, 828, 829, 830, 831, 832, 833, 834, 835, 836, 837] (by decide +kernel) (by decide +kernel)
set_option maxRecDepth 20000 in
theorem gL_law_X4_even : GoodIn wsL_law (wsV RL 116 RX4 yX4_even wsX4_even) := goodIn_app (goodIn_of _ (by decide +kernel)) ggL_law_X4_even
set_option maxRecDepth 20000 in
theorem ggL_law_X5_even : GoodIn wsL_law wsX5_even := goodIn_r _ [642, 107, 146, 147, 148, 5, 149, 106, 643, 644, 645, 646, 647, 648, 649, 650, 651, 652, 806, 807, 808, 809, 810, 811, 812, 813, 814, 815, 816, 817, 818, 819] (by decide +kernel) (by decide +kernel)
set_option maxRecDepth 20000 in
theorem gL_law_X5_even : GoodIn wsL_law (wsV RL 119 RX5 yX5_even wsX5_even) := goodIn_app (goodIn_of _ (by decide +kernel)) ggL_law_X5_even
set_option maxRecDepth 20000 in
theorem ggL_law_X4_longer : GoodIn wsL_law wsX4_longer := goodIn_r _ [656, 16, 130, 131, 132, 2, 133, 28, 134, 82, 83, 26, 84, 60, 66, 135, 136, 137, 138, 629, 630, 631, 15, 632, 40, 318, 62, 63, 64, 633, 123, 124, 125, 634, 635, 636, 637, 638, 81, 798, 799, 800, 801, 802, 803, 804, 805, 844, 845, 820, 821, 822, 823, 824, 825, 826, 827, 828, 829, 830, 831, 832, 833, 834, 835, 836, 837] (by decide +kernel) (by decide +kernel)
set_option maxRecDepth 20000 in
theorem gL_law_X4_longer : GoodIn wsL_law (wsV RL 120 RX4 yX4_longer wsX4_longer) := goodIn_app (goodIn_of _ (by decide +kernel)) ggL_law_X4_longer
set_option maxRecDepth 20000 in
theorem ggL_law_X5_longer : GoodIn wsL_law wsX5_longer := goodIn_r _ [660, 107, 257, 258, 5, 259, 146, 147, 148, 149, 106, 643, 644, 645, 646, 647, 648, 649, 806, 807, 808, 809, 810, 811, 812, 813, 814, 815, 816, 817, 818, 819] (by decide +kernel) (by decide +kernel)
set_option maxRecDepth 20000 in
theorem gL_law_X5_longer : GoodIn wsL_law (wsV RL 123 RX5 yX5_longer wsX5_longer) := goodIn_app (goodIn_of _ (by decide +kernel)) ggL_law_X5_longer
set_option maxRecDepth 20000 in
theorem ggL_law_X4_slow : GoodIn wsL_law wsX4_slow := goodIn_r _ [664, 16, 665, 126, 127, 128, 2, 129, 130, 131, 132, 133, 28, 134, 82, 83, 26, 84, 60, 66, 135, 136, 137, 138, 634, 635, 636, 15, 637, 40, 638, 630, 631, 632, 318, 62, 63, 64, 633, 123, 124, 125, 81, 629, 798, 799, 800, 801, 802, 803, 804, 805, 844, 845, 820, 821, 822, 823, 824, 825, 826, 827, 828, 829, 830, 831, 832, 833, 834, 835, 836, 837] (by decide +kernel) (by decide +kernel)
set_option maxRecDepth 20000 in
theorem gL_law_X4_slow : GoodIn wsL_law (wsV RL 124 RX4 yX4_slow wsX4_slow) := goodIn_app (goodIn_of _ (by decide +kernel)) ggL_law_X4_slow
set_option maxRecDepth 20000 in
theorem ggL_law_X5_slow : GoodIn wsL_law wsX5_slow := goodIn_r _ [669, 107, 245, 246, 5, 247, 146, 147, 148, 149, 106, 643, 644, 645, 646, 647, 648, 649, 806, 807, 808, 809, 810, 811, 812, 813, 814, 815, 816, 817, 818, 819] (by decide +kernel) (by decide +kernel)
set_option maxRecDepth 20000 in
theorem gL_law_X5_slow : GoodIn wsL_law (wsV RL 127 RX5 yX5_slow wsX5_slow) := goodIn_app (goodIn_of _ (by decide +kernel)) ggL_law_X5_slow
set_option maxRecDepth 20000 in
theorem ggL_law_X4_hour : GoodIn wsL_law wsX4_hour := goodIn_r _ [673, 674, 16, 617, 130, 131, 132, 2, 133, 28, 134, 82, 83, 26, 84, 60, 66, 135, 136, 137, 138, 122, 123, 124, 125, 798, 799, 800, 801, 802, 803, 804, 805, 820, 821, 822, 823, 824, 825, 826, 827, 828, 829, 830, 831, 832, 833, 834, 835, 836, 837, 844, 845] (by decide +kernel) (by decide +kernel)
set_option maxRecDepth 20000 in
theorem gL_law_X4_hour : GoodIn wsL_law (wsV RL 128 RX4 yX4_hour wsX4_hour) := goodIn_app (goodIn_of _ (by decide +kernel)) ggL_law_X4_hour
set_option maxRecDepth 20000 in
theorem ggL_law_X5_hour : GoodIn wsL_law wsX5_hour := goodIn_r _ [678, 107, 146, 147, 148, 5, 149, 106, 806, 807, 808, 809, 810, 811, 812, 813, 814, 815, 816, 817, 818, 819] (by decide +kernel) (by decide +kernel)
set_option maxRecDepth 20000 in
theorem gL_law_X5_hour : GoodIn wsL_law (wsV RL 131 RX5 yX5_hour wsX5_hour) := goodIn_app (goodIn_of _ (by decide +kernel)) ggL_law_X5_hour
set_option maxRecDepth 20000 in
theorem ggL_law_X4_gap : GoodIn wsL_law wsX4_gap := goodIn_r _ [682, 27, 122, 123, 124, 26, 125, 60, 126, 127, 128, 2, 129, 130, 131, 132, 133, 28, 134, 82, 83, 84, 66, 135, 136, 137, 138, 139, 78, 79, 80, 798, 799, 800, 801, 802, 803, 804, 805, 844, 845] (by decide +kernel) (by decide +kernel)
set_option maxRecDepth 20000 in
theorem gL_law_X4_gap : GoodIn wsL_law (wsV RL 132 RX4 yX4_gap wsX4_gap) := goodIn_app (goodIn_of _ (by decide +kernel)) ggL_law_X4_gap
set_option maxRecDepth 20000 in
theorem ggL_law_X5_gap : GoodIn wsL_law wsX5_gap := goodIn_r _ [686, 687, 115, 245, 246, 5, 247, 146, 147, 148, 149, 106, 806, 807, 808, 809, 810, 811, 812, 813, 814, 815, 816, 817, 818, 819] (by decide +kernel) (by decide +kernel)
set_option maxRecDepth 20000 in
theorem gL_law_X5_gap : GoodIn wsL_law (wsV RL 135 RX5 yX5_gap wsX5_gap) := goodIn_app (goodIn_of _ (by decide +kernel)) ggL_law_X5_gap
set_option maxRecDepth 20000 in
theorem ggL_law_X4_judge : GoodIn wsL_law wsX4_judge := goodIn_r _ [691, 27, 126, 127, 128, 2, 129, 130, 131, 132, 133, 28, 134, 82, 83, 26, 84, 60, 66, 135, 136, 137, 138, 692, 693, 694, 695, 16, 278, 279, 63, 280, 626, 627, 628, 629, 630, 631, 15, 632, 40, 318, 62, 64, 633, 123, 124, 125, 122, 634, 635, 636, 637, 638, 81, 204, 205, 206, 207, 798, 799, 800, 801, 802, 803, 804, 805, 844, 845, 820, 821, 822, 823, 824, 825, 826, 827, 828, 829, 830, 831, 832, 833, 834, 835, 836, 837] (by decide +kernel) (by decide +kernel)
set_option maxRecDepth 20000 in
theorem gL_law_X4_judge : GoodIn wsL_law (wsV RL 136 RX4 yX4_judge wsX4_judge) := goodIn_app (goodIn_of _ (by decide +kernel)) ggL_law_X4_judge
set_option maxRecDepth 20000 in
theorem ggL_law_X5_judge : GoodIn wsL_law wsX5_judge := goodIn_r _ [699, 687, 107, 115, 245, 246, 5, 247, 146, 147, 148, 149, 106, 643, 644, 645, 646, 647, 648, 649, 650, 651, 652, 806, 807, 808, 809, 810, 811, 812, 813, 814, 815, 816, 817, 818, 819] (by decide +kernel) (by decide +kernel)
set_option maxRecDepth 20000 in
theorem gL_law_X5_judge : GoodIn wsL_law (wsV RL 139 RX5 yX5_judge wsX5_judge) := goodIn_app (goodIn_of _ (by decide +kernel)) ggL_law_X5_judge
set_option maxRecDepth 20000 in
theorem ggL_law_X4_driest : GoodIn wsL_law wsX4_driest := goodIn_r _ [703, 27, 130, 131, 132, 2, 133, 28, 134, 82, 83, 26, 84, 60, 66, 135, 136, 137, 138, 126, 127, 128, 129, 122, 123, 124, 125, 704, 705, 706, 707, 626, 627, 63, 628, 463, 464, 465, 466, 18, 16, 467, 468, 469, 15, 470, 35, 39, 40, 41, 42, 43, 44, 45, 46, 47, 48, 49, 53, 54, 55, 433, 434, 435, 436, 437, 279, 280, 438, 439, 440, 441, 471, 472, 192, 193, 38, 194, 71, 72, 73, 195, 196, 197, 198, 473, 205, 206, 207, 81, 329, 330, 331, 332, 50, 51, 52, 629, 630, 631, 632, 318, 62, 64, 633, 708, 302, 303, 304, 305, 306, 307, 308, 309, 310, 311, 312, 185, 313, 314, 315, 316, 317, 319, 320, 321, 322, 323, 324, 325, 326, 327, 77, 78, 79, 80, 328, 282, 283, 284, 333, 334, 335, 336, 337, 338, 339, 340, 341, 342, 343, 344, 345, 346, 347, 348, 349, 350, 351, 352, 634, 635, 636, 637, 638, 798, 799, 800, 801, 802, 803, 804, 805, 844, 845, 820, 821, 822, 823, 824, 825, 826, 827, 828, 829, 830, 831, 832, 833, 834, 835, 836, 837, 846, 847, 848] (by decide +kernel) (by decide +kernel)
set_option maxRecDepth 20000 in
theorem gL_law_X4_driest : GoodIn wsL_law (wsV RL 140 RX4 yX4_driest wsX4_driest) := goodIn_app (goodIn_of _ (by decide +kernel)) ggL_law_X4_driest
set_option maxRecDepth 20000 in
theorem ggL_law_X5_driest : GoodIn wsL_law wsX5_driest := goodIn_r _ [712, 687, 257, 258, 5, 259, 146, 147, 148, 149, 106, 245, 246, 247, 713, 714, 715, 716, 109, 115, 478, 479, 480, 481, 107, 482, 483, 484, 485, 486, 487, 488, 236, 237, 238, 289, 290, 291, 357, 358, 359, 360, 361, 362, 363, 364, 365, 366, 367, 368, 112, 369, 370, 371, 372, 373, 374, 375, 376, 377, 378, 379, 380, 381, 382, 383, 384, 385, 386, 647, 648, 649, 650, 651, 652, 806, 807, 808, 809, 810, 811, 812, 813, 814, 815, 816, 817, 818, 819] (by decide +kernel) (by decide +kernel)
set_option maxRecDepth 20000 in
theorem gL_law_X5_driest : GoodIn wsL_law (wsV RL 143 RX5 yX5_driest wsX5_driest) := goodIn_app (goodIn_of _ (by decide +kernel)) ggL_law_X5_driest
set_option maxRecDepth 20000 in
theorem ggL_law_X4_sorts : GoodIn wsL_law wsX4_sorts := goodIn_r _ [720, 721, 126, 127, 128, 2, 129, 130, 131, 132, 133, 28, 134, 82, 83, 26, 84, 60, 66, 135, 136, 137, 138, 722, 723, 724, 725, 463, 464, 465, 466, 18, 16, 467, 468, 469, 15, 470, 35, 39, 40, 41, 42, 43, 44, 45, 46, 47, 48, 49, 53, 54, 55, 433, 434, 435, 436, 437, 279, 63, 280, 438, 439, 440, 441, 471, 472, 192, 193, 38, 194, 71, 72, 73, 195, 196, 197, 198, 473, 205, 206, 207, 81, 329, 330, 331, 332, 50, 51, 52, 517, 518, 519, 520, 297, 298, 299, 300, 301, 302, 303, 304, 305, 306, 307, 308, 309, 310, 311, 312, 185, 123, 124, 125, 313, 314, 315, 316, 317, 318, 62, 64, 319, 320, 321, 322, 323, 324, 325, 326, 327, 77, 78, 79, 80, 328, 282, 283, 284, 333, 334, 335, 336, 337, 338, 339, 340, 341, 342, 343, 344, 345, 346, 347, 348, 349, 350, 351, 352, 798, 799, 800, 801, 802, 803, 804, 805, 844, 845, 820, 821, 822, 823, 824, 825, 826, 827, 828, 829, 830, 831, 832, 833, 834, 835, 836, 837, 846, 847, 848] (by decide +kernel) (by decide +kernel)
set_option maxRecDepth 20000 in
theorem gL_law_X4_sorts : GoodIn wsL_law (wsV RL 144 RX4 yX4_sorts wsX4_sorts) := goodIn_app (goodIn_of _ (by decide +kernel)) ggL_law_X4_sorts
set_option maxRecDepth 20000 in
theorem ggL_law_X5_sorts : GoodIn wsL_law wsX5_sorts := goodIn_r _ [729, 730, 731, 5, 732, 733, 146, 147, 148, 149, 106, 734, 735, 736, 737, 738, 739, 740, 741, 107, 478, 479, 480, 481, 109, 482, 483, 484, 485, 486, 487, 488, 236, 237, 238, 289, 290, 291, 357, 358, 359, 360, 361, 362, 363, 364, 365, 366, 367, 368, 112, 369, 370, 371, 372, 373, 374, 375, 376, 377, 378, 379, 380, 381, 382, 383, 384, 385, 386, 806, 807, 808, 809, 810, 811, 812, 813, 814, 815, 816, 817, 818, 819] (by decide +kernel) (by decide +kernel)
set_option maxRecDepth 20000 in
theorem gL_law_X5_sorts : GoodIn wsL_law (wsV RL 147 RX5 yX5_sorts wsX5_sorts) := goodIn_app (goodIn_of _ (by decide +kernel)) ggL_law_X5_sorts
set_option maxRecDepth 20000 in
theorem ggL_law_X4_odds : GoodIn wsL_law wsX4_odds := goodIn_r _ [745, 721, 130, 131, 132, 2, 133, 28, 134, 82, 83, 26, 84, 60, 66, 135, 136, 137, 138, 126, 127, 128, 129, 722, 723, 724, 725, 463, 464, 465, 466, 18, 16, 467, 468, 469, 15, 470, 35, 39, 40, 41, 42, 43, 44, 45, 46, 47, 48, 49, 53, 54, 55, 433, 434, 435, 436, 437, 279, 63, 280, 438, 439, 440, 441, 471, 472, 192, 193, 38, 194, 71, 72, 73, 195, 196, 197, 198, 473, 205, 206, 207, 81, 329, 330, 331, 332, 50, 51, 52, 517, 518, 519, 520, 297, 298, 299, 300, 301, 302, 303, 304, 305, 306, 307, 308, 309, 310, 311, 312, 185, 123, 124, 125, 313, 314, 315, 316, 317, 318, 62, 64, 319, 320, 321, 322, 323, 324, 325, 326, 327, 77, 78, 79, 80, 328, 282, 283, 284, 333, 334, 335, 336, 337, 338, 339, 340, 341, 342, 343, 344, 345, 346, 347, 348, 349, 350, 351, 352, 746, 747, 748, 749, 750, 751, 752, 798, 799, 800, 801, 802, 803, 804, 805, 844, 845, 820, 821, 822, 823, 824, 825, 826, 827, 828, 829, 830, 831, 832, 833, 834, 835, 836, 837, 846, 847, 848] (by decide +kernel) (by decide +kernel)
set_option maxRecDepth 20000 in
theorem gL_law_X4_odds : GoodIn wsL_law (wsV RL 148 RX4 yX4_odds wsX4_odds) := goodIn_app (goodIn_of _ (by decide +kernel)) ggL_law_X4_odds
set_option maxRecDepth 20000 in
theorem ggL_law_X5_odds : GoodIn wsL_law wsX5_odds := goodIn_r _ [756, 257, 258, 5, 259, 730, 731, 732, 733, 146, 147, 148, 149, 106, 734, 735, 736, 737, 738, 739, 740, 741, 107, 478, 479, 480, 481, 109, 482, 483, 484, 485, 486, 487, 488, 236, 237, 238, 289, 290, 291, 357, 358, 359, 360, 361, 362, 363, 364, 365, 366, 367, 368, 112, 369, 370, 371, 372, 373, 374, 375, 376, 377, 378, 379, 380, 381, 382, 383, 384, 385, 386, 806, 807, 808, 809, 810, 811, 812, 813, 814, 815, 816, 817, 818, 819] (by decide +kernel) (by decide +kernel)
set_option maxRecDepth 20000 in
theorem gL_law_X5_odds : GoodIn wsL_law (wsV RL 152 RX5 yX5_odds wsX5_odds) := goodIn_app (goodIn_of _ (by decide +kernel)) ggL_law_X5_odds
set_option maxRecDepth 20000 in
theorem ggL_law_X4_drafts : GoodIn wsL_law wsX4_drafts := goodIn_r _ [760, 18, 16, 396, 761, 762, 763, 764, 126, 127, 128, 2, 129, 130, 131, 132, 133, 28, 134, 82, 83, 26, 84, 60, 66, 135, 136, 137, 138, 429, 430, 431, 15, 432, 35, 39, 40, 41, 42, 43, 44, 45, 46, 47, 48, 49, 50, 51, 52, 53, 54, 55, 433, 434, 435, 436, 437, 279, 63, 280, 438, 439, 440, 441, 442, 443, 444, 38, 445, 71, 72, 73, 446, 297, 298, 299, 300, 301, 302, 303, 304, 305, 306, 307, 308, 81, 309, 310, 311, 312, 185, 123, 124, 125, 313, 314, 315, 316, 317, 318, 62, 64, 319, 320, 321, 322, 323, 324, 325, 326, 327, 77, 78, 79, 80, 328, 282, 283, 284, 329, 330, 331, 332, 333, 334, 335, 336, 337, 338, 339, 340, 341, 342, 343, 344, 345, 346, 347, 348, 349, 350, 351, 352, 798, 799, 800, 801, 802, 803, 804, 805, 820, 821, 822, 823, 824, 825, 826, 827, 828, 829, 830, 831, 832, 833, 834, 835, 836, 837, 844, 845, 846, 847, 848] (by decide +kernel) (by decide +kernel)
set_option maxRecDepth 20000 in
theorem gL_law_X4_drafts : GoodIn wsL_law (wsV RL 153 RX4 yX4_drafts wsX4_drafts) := goodIn_app (goodIn_of _ (by decide +kernel)) ggL_law_X4_drafts
set_option maxRecDepth 20000 in
theorem ggL_law_X5_drafts : GoodIn wsL_law wsX5_drafts := goodIn_r _ [768, 109, 769, 770, 771, 112, 107, 451, 452, 453, 5, 454, 245, 246, 247, 146, 147, 148, 149, 106, 455, 456, 457, 458, 236, 237, 238, 361, 362, 363, 364, 365, 366, 367, 368, 369, 370, 371, 289, 290, 291, 372, 373, 374, 375, 376, 377, 378, 379, 380, 381, 382, 383, 384, 385, 386, 806, 807, 808, 809, 810, 811, 812, 813, 814, 815, 816, 817, 818, 819] (by decide +kernel) (by decide +kernel)
set_option maxRecDepth 20000 in
theorem gL_law_X5_drafts : GoodIn wsL_law (wsV RL 156 RX5 yX5_drafts wsX5_drafts) := goodIn_app (goodIn_of _ (by decide +kernel)) ggL_law_X5_drafts
set_option maxRecDepth 20000 in
theorem ggL_law_X4_image : GoodIn wsL_law wsX4_image := goodIn_r _ [775, 17, 16, 29, 396, 429, 430, 431, 15, 432, 35, 39, 40, 41, 42, 43, 44, 45, 46, 47, 48, 49, 50, 51, 52, 53, 54, 55, 433, 434, 435, 26, 436, 60, 66, 437, 279, 63, 280, 438, 439, 440, 441, 442, 443, 444, 38, 445, 71, 72, 73, 446, 798, 799, 800, 801, 802, 803, 804, 805, 820, 821, 822, 823, 824, 825, 826, 827, 828, 829, 830, 831, 832, 833, 834, 835, 836, 837, 844, 845, 846, 847, 848] (by decide +kernel) (by decide +kernel)
set_option maxRecDepth 20000 in
theorem gL_law_X4_image : GoodIn wsL_law (wsV RL 157 RX4 yX4_image wsX4_image) := goodIn_app (goodIn_of _ (by decide +kernel)) ggL_law_X4_image
set_option maxRecDepth 20000 in
theorem ggL_law_X5_image : GoodIn wsL_law wsX5_image := goodIn_r _ [779, 107, 108, 780, 236, 237, 5, 238, 806, 807, 808, 809, 810, 811, 812, 813, 814, 815, 816, 817, 818, 819] (by decide +kernel) (by decide +kernel)
set_option maxRecDepth 20000 in
theorem gL_law_X5_image : GoodIn wsL_law (wsV RL 160 RX5 yX5_image wsX5_image) := goodIn_app (goodIn_of _ (by decide +kernel)) ggL_law_X5_image
set_option maxRecDepth 20000 in
theorem ggL_law_X4_on : GoodIn wsL_law wsX4_on := goodIn_r _ [784, 29, 16, 17, 396, 130, 131, 132, 2, 133, 28, 134, 82, 83, 26, 84, 60, 66, 135, 136, 137, 138, 429, 430, 431, 15, 432, 35, 39, 40, 41, 42, 43, 44, 45, 46, 47, 48, 49, 50, 51, 52, 53, 54, 55, 433, 434, 435, 436, 437, 279, 63, 280, 438, 439, 440, 441, 442, 443, 444, 38, 445, 71, 72, 73, 446, 798, 799, 800, 801, 802, 803, 804, 805, 820, 821, 822, 823, 824, 825, 826, 827, 828, 829, 830, 831, 832, 833, 834, 835, 836, 837, 844, 845, 846, 847, 848] (by decide +kernel) (by decide +kernel)
set_option maxRecDepth 20000 in
theorem gL_law_X4_on : GoodIn wsL_law (wsV RL 161 RX4 yX4_on wsX4_on) := goodIn_app (goodIn_of _ (by decide +kernel)) ggL_law_X4_on
set_option maxRecDepth 20000 in
theorem ggL_law_X5_on : GoodIn wsL_law wsX5_on := goodIn_r _ [788, 780, 108, 107, 146, 147, 148, 5, 149, 106, 236, 237, 238, 806, 807, 808, 809, 810, 811, 812, 813, 814, 815, 816, 817, 818, 819] (by decide +kernel) (by decide +kernel)
set_option maxRecDepth 20000 in
theorem gL_law_X5_on : GoodIn wsL_law (wsV RL 164 RX5 yX5_on wsX5_on) := goodIn_app (goodIn_of _ (by decide +kernel)) ggL_law_X5_on
set_option maxRecDepth 20000 in
theorem ggL_law_X4_count : GoodIn wsL_law wsX4_count := goodIn_r _ [792, 28, 16, 617, 154, 27, 23, 120, 134, 82, 83, 26, 84, 60, 66, 122, 123, 124, 125, 793, 182, 183, 38, 184, 71, 185, 798, 799, 800, 801, 802, 803, 804, 805, 820, 821, 822, 823, 824, 825, 826, 827, 828, 829, 830, 831, 832, 833, 834, 835, 836, 837, 838, 839, 840, 841, 842, 843, 844, 845, 846, 847, 848] (by decide +kernel) (by decide +kernel)
set_option maxRecDepth 20000 in
theorem gL_law_X4_count : GoodIn wsL_law (wsV RL 165 RX4 yX4_count wsX4_count) := goodIn_app (goodIn_of _ (by decide +kernel)) ggL_law_X4_count
set_option maxRecDepth 20000 in
theorem ggL_law_X5_count : GoodIn wsL_law wsX5_count := goodIn_r _ [797, 106, 107, 687, 144, 806, 807, 808, 809, 810, 811, 812, 813, 814, 815, 816, 817, 818, 819] (by decide +kernel) (by decide +kernel)
set_option maxRecDepth 20000 in
theorem gL_law_X5_count : GoodIn wsL_law (wsV RL 168 RX5 yX5_count wsX5_count) := goodIn_app (goodIn_of _ (by decide +kernel)) ggL_law_X5_count
theorem dL_law_0 : decode cL_law 0 = .ok (.new 7, 3) := by decide +kernel
theorem dL_law_3 : decode cL_law 3 = .ok (.dup, 1) := by decide +kernel
theorem dL_law_4 : decode cL_law 4 = .ok (.invokespecial 9, 3) := by decide +kernel
theorem dL_law_7 : decode cL_law 7 = .ok (.astore_n 1, 1) := by decide +kernel
theorem dL_law_8 : decode cL_law 8 = .ok (.new 10, 3) := by decide +kernel
theorem dL_law_11 : decode cL_law 11 = .ok (.dup, 1) := by decide +kernel
theorem dL_law_12 : decode cL_law 12 = .ok (.invokespecial 12, 3) := by decide +kernel
theorem dL_law_15 : decode cL_law 15 = .ok (.astore_n 2, 1) := by decide +kernel
theorem dL_law_16 : decode cL_law 16 = .ok (.iconst 0, 1) := by decide +kernel
theorem dL_law_17 : decode cL_law 17 = .ok (.istore_n 3, 1) := by decide +kernel
theorem dL_law_18 : decode cL_law 18 = .ok (.iload_n 3, 1) := by decide +kernel
theorem dL_law_19 : decode cL_law 19 = .ok (.aload_n 0, 1) := by decide +kernel
theorem dL_law_20 : decode cL_law 20 = .ok (.arraylength, 1) := by decide +kernel
theorem dL_law_21 : decode cL_law 21 = .ok (.iconst 5, 1) := by decide +kernel
theorem dL_law_22 : decode cL_law 22 = .ok (.isub, 1) := by decide +kernel
theorem dL_law_23 : decode cL_law 23 = .ok (.if_icmp .gt 1140, 3) := by decide +kernel
theorem dL_law_26 : decode cL_law 26 = .ok (.aload_n 0, 1) := by decide +kernel
theorem dL_law_27 : decode cL_law 27 = .ok (.iload_n 3, 1) := by decide +kernel
theorem dL_law_28 : decode cL_law 28 = .ok (.iaload, 1) := by decide +kernel
theorem dL_law_29 : decode cL_law 29 = .ok (.bipush 63, 2) := by decide +kernel
theorem dL_law_31 : decode cL_law 31 = .ok (.iand, 1) := by decide +kernel
theorem dL_law_32 : decode cL_law 32 = .ok (.tableswitch 1125 0 36 #[164, 227, 240, 273, 296, 319, 342, 365, 388, 401, 424, 457, 480, 513, 536, 559, 572, 595, 628, 651, 674, 717, 740, 763, 786, 809, 832, 855, 878, 901, 924, 957, 990, 1043, 1076, 1089, 1102], 164) := by decide +kernel
theorem dL_law_196 : decode cL_law 196 = .ok (.aload_n 1, 1) := by decide +kernel
theorem dL_law_197 : decode cL_law 197 = .ok (.aload_n 0, 1) := by decide +kernel
theorem dL_law_198 : decode cL_law 198 = .ok (.iload_n 3, 1) := by decide +kernel
theorem dL_law_199 : decode cL_law 199 = .ok (.iconst 1, 1) := by decide +kernel
theorem dL_law_200 : decode cL_law 200 = .ok (.iadd, 1) := by decide +kernel
theorem dL_law_201 : decode cL_law 201 = .ok (.iaload, 1) := by decide +kernel
theorem dL_law_202 : decode cL_law 202 = .ok (.aload_n 0, 1) := by decide +kernel
theorem dL_law_203 : decode cL_law 203 = .ok (.iload_n 3, 1) := by decide +kernel
theorem dL_law_204 : decode cL_law 204 = .ok (.iconst 2, 1) := by decide +kernel
theorem dL_law_205 : decode cL_law 205 = .ok (.iadd, 1) := by decide +kernel
theorem dL_law_206 : decode cL_law 206 = .ok (.iaload, 1) := by decide +kernel
theorem dL_law_207 : decode cL_law 207 = .ok (.i2l, 1) := by decide +kernel
theorem dL_law_208 : decode cL_law 208 = .ok (.bipush 32, 2) := by decide +kernel
theorem dL_law_210 : decode cL_law 210 = .ok (.lshl, 1) := by decide +kernel
theorem dL_law_211 : decode cL_law 211 = .ok (.aload_n 0, 1) := by decide +kernel
theorem dL_law_212 : decode cL_law 212 = .ok (.iload_n 3, 1) := by decide +kernel
theorem dL_law_213 : decode cL_law 213 = .ok (.iconst 3, 1) := by decide +kernel
theorem dL_law_214 : decode cL_law 214 = .ok (.iadd, 1) := by decide +kernel
theorem dL_law_215 : decode cL_law 215 = .ok (.iaload, 1) := by decide +kernel
theorem dL_law_216 : decode cL_law 216 = .ok (.i2l, 1) := by decide +kernel
theorem dL_law_217 : decode cL_law 217 = .ok (.ldc2_w 13, 3) := by decide +kernel
theorem dL_law_220 : decode cL_law 220 = .ok (.land, 1) := by decide +kernel
theorem dL_law_221 : decode cL_law 221 = .ok (.lor, 1) := by decide +kernel
theorem dL_law_222 : decode cL_law 222 = .ok (.invokevirtual 15, 3) := by decide +kernel
theorem dL_law_225 : decode cL_law 225 = .ok (.aload_n 2, 1) := by decide +kernel
theorem dL_law_226 : decode cL_law 226 = .ok (.aload_n 0, 1) := by decide +kernel
theorem dL_law_227 : decode cL_law 227 = .ok (.iload_n 3, 1) := by decide +kernel
theorem dL_law_228 : decode cL_law 228 = .ok (.iconst 1, 1) := by decide +kernel
theorem dL_law_229 : decode cL_law 229 = .ok (.iadd, 1) := by decide +kernel
theorem dL_law_230 : decode cL_law 230 = .ok (.iaload, 1) := by decide +kernel
