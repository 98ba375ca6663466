set_option maxRecDepth 100000 in
set_option maxHeartbeats 4000000 in
theorem ggL_law_X5_under : GoodIn wsL_law wsX5_under := goodIn_r _ [540, 478, 479, 480, 5, 481, 107, 109, 482, 483, 484, 485, 486, 487, 488, 236, 237, 238, 289, 290, 291, 357, 358, 359, 360, 361, 362, 363, 364, 365, 366, 367, 368, 112, 369, 370, 371, 372, 373, 374, 375, 376, 377, 378, 379, 380, 381, 382, 383, 384, 385, 386, 806, 807, 808, 809, 810, 811, 812, 813, 814, 815, 816, 817, 818, 819] rfl (by decide +kernel)
set_option maxRecDepth 20000 in
theorem gL_law_X5_under : GoodIn wsL_law (wsV RL 82 RX5 yX5_under wsX5_under) := goodIn_app (goodIn_of _ (by decide +kernel)) ggL_law_X5_under
set_option maxRecDepth 100000 in
set_option maxHeartbeats 4000000 in
theorem ggL_law_X4_without : GoodIn wsL_law wsX4_without := goodIn_r _ [544, 277, 268, 126, 127, 128, 2, 129, 130, 131, 132, 133, 28, 134, 82, 83, 26, 84, 60, 66, 135, 136, 137, 138, 463, 464, 465, 466, 18, 16, 467, 468, 469, 15, 470, 35, 39, 40, 41, 42, 43, 44, 45, 46, 47, 48, 49, 53, 54, 55, 433, 434, 435, 436, 437, 279, 63, 280, 438, 439, 440, 441, 471, 472, 192, 193, 38, 194, 71, 72, 73, 195, 196, 197, 198, 473, 205, 206, 207, 81, 329, 330, 331, 332, 50, 51, 52, 493, 494, 495, 496, 301, 302, 303, 304, 305, 306, 307, 308, 309, 310, 311, 312, 185, 123, 124, 125, 313, 314, 315, 316, 317, 318, 62, 64, 319, 320, 321, 322, 323, 324, 325, 326, 327, 77, 78, 79, 80, 328, 282, 283, 284, 333, 334, 335, 336, 337, 338, 339, 340, 341, 342, 343, 344, 345, 346, 347, 348, 349, 350, 351, 352, 820, 821, 822, 823, 824, 825, 826, 827, 828, 829, 830, 831, 832, 833, 834, 835, 836, 837, 798, 799, 800, 801, 802, 803, 804, 805, 844, 845, 846, 847, 848] rfl (by decide +kernel)
set_option maxRecDepth 20000 in
theorem gL_law_X4_without : GoodIn wsL_law (wsV RL 83 RX4 yX4_without wsX4_without) := goodIn_app (goodIn_of _ (by decide +kernel)) ggL_law_X4_without
set_option maxRecDepth 100000 in
set_option maxHeartbeats 4000000 in
theorem ggL_law_X5_without : GoodIn wsL_law wsX5_without := goodIn_r _ [548, 109, 451, 452, 453, 5, 454, 245, 246, 247, 146, 147, 148, 149, 106, 482, 483, 484, 485, 107, 486, 487, 488, 236, 237, 238, 289, 290, 291, 357, 358, 359, 360, 361, 362, 363, 364, 365, 366, 367, 368, 112, 369, 370, 371, 372, 373, 374, 375, 376, 377, 378, 379, 380, 381, 382, 383, 384, 385, 386, 806, 807, 808, 809, 810, 811, 812, 813, 814, 815, 816, 817, 818, 819] rfl (by decide +kernel)
set_option maxRecDepth 20000 in
theorem gL_law_X5_without : GoodIn wsL_law (wsV RL 86 RX5 yX5_without wsX5_without) := goodIn_app (goodIn_of _ (by decide +kernel)) ggL_law_X5_without
set_option maxRecDepth 100000 in
set_option maxHeartbeats 4000000 in
theorem ggL_law_X4_larger : GoodIn wsL_law wsX4_larger := goodIn_r _ [552, 126, 127, 128, 2, 129, 130, 131, 132, 133, 28, 134, 82, 83, 26, 84, 60, 66, 135, 136, 137, 138, 463, 464, 465, 466, 18, 16, 467, 468, 469, 15, 470, 35, 39, 40, 41, 42, 43, 44, 45, 46, 47, 48, 49, 53, 54, 55, 433, 434, 435, 436, 437, 279, 63, 280, 438, 439, 440, 441, 471, 472, 192, 193, 38, 194, 71, 72, 73, 195, 196, 197, 198, 473, 205, 206, 207, 81, 329, 330, 331, 332, 50, 51, 52, 297, 298, 299, 300, 301, 302, 303, 304, 305, 306, 307, 308, 309, 310, 311, 312, 185, 123, 124, 125, 313, 314, 315, 316, 317, 318, 62, 64, 319, 320, 321, 322, 323, 324, 325, 326, 327, 77, 78, 79, 80, 328, 282, 283, 284, 333, 334, 335, 336, 337, 338, 339, 340, 341, 342, 343, 344, 345, 346, 347, 348, 349, 350, 351, 352, 798, 799, 800, 801, 802, 803, 804, 805, 844, 845, 820, 821, 822, 823, 824, 825, 826, 827, 828, 829, 830, 831, 832, 833, 834, 835, 836, 837, 846, 847, 848] rfl (by decide +kernel)
set_option maxRecDepth 20000 in
theorem gL_law_X4_larger : GoodIn wsL_law (wsV RL 87 RX4 yX4_larger wsX4_larger) := goodIn_app (goodIn_of _ (by decide +kernel)) ggL_law_X4_larger
set_option maxRecDepth 100000 in
set_option maxHeartbeats 4000000 in
theorem ggL_law_X5_larger : GoodIn wsL_law wsX5_larger := goodIn_r _ [556, 146, 147, 148, 5, 149, 106, 478, 479, 480, 481, 107, 109, 482, 483, 484, 485, 486, 487, 488, 236, 237, 238, 289, 290, 291, 357, 358, 359, 360, 361, 362, 363, 364, 365, 366, 367, 368, 112, 369, 370, 371, 372, 373, 374, 375, 376, 377, 378, 379, 380, 381, 382, 383, 384, 385, 386, 806, 807, 808, 809, 810, 811, 812, 813, 814, 815, 816, 817, 818, 819] rfl (by decide +kernel)
set_option maxRecDepth 20000 in
theorem gL_law_X5_larger : GoodIn wsL_law (wsV RL 90 RX5 yX5_larger wsX5_larger) := goodIn_app (goodIn_of _ (by decide +kernel)) ggL_law_X5_larger
set_option maxRecDepth 100000 in
set_option maxHeartbeats 4000000 in
theorem ggL_law_X4_together : GoodIn wsL_law wsX4_together := goodIn_r _ [560, 18, 16, 19, 126, 127, 128, 2, 129, 130, 131, 132, 133, 28, 134, 82, 83, 26, 84, 60, 66, 135, 136, 137, 138, 467, 468, 469, 15, 470, 35, 39, 40, 41, 42, 43, 44, 45, 46, 47, 48, 49, 53, 54, 55, 433, 434, 435, 436, 437, 279, 63, 280, 438, 439, 440, 441, 471, 472, 192, 193, 38, 194, 71, 72, 73, 195, 196, 197, 198, 473, 205, 206, 207, 81, 329, 330, 331, 332, 50, 51, 52, 297, 298, 299, 300, 301, 302, 303, 304, 305, 306, 307, 308, 309, 310, 311, 312, 185, 123, 124, 125, 313, 314, 315, 316, 317, 318, 62, 64, 319, 320, 321, 322, 323, 324, 325, 326, 327, 77, 78, 79, 80, 328, 282, 283, 284, 333, 334, 335, 336, 337, 338, 339, 340, 341, 342, 343, 344, 345, 346, 347, 348, 349, 350, 351, 352, 798, 799, 800, 801, 802, 803, 804, 805, 844, 845, 820, 821, 822, 823, 824, 825, 826, 827, 828, 829, 830, 831, 832, 833, 834, 835, 836, 837, 846, 847, 848] rfl (by decide +kernel)
set_option maxRecDepth 20000 in
theorem gL_law_X4_together : GoodIn wsL_law (wsV RL 91 RX4 yX4_together wsX4_together) := goodIn_app (goodIn_of _ (by decide +kernel)) ggL_law_X4_together
set_option maxRecDepth 100000 in
set_option maxHeartbeats 4000000 in
theorem ggL_law_X5_together : GoodIn wsL_law wsX5_together := goodIn_r _ [564, 109, 110, 245, 246, 5, 247, 146, 147, 148, 149, 106, 482, 483, 484, 485, 107, 486, 487, 488, 236, 237, 238, 289, 290, 291, 361, 362, 363, 364, 365, 366, 367, 368, 112, 369, 370, 371, 372, 373, 374, 375, 376, 377, 378, 379, 380, 381, 382, 383, 384, 385, 386, 806, 807, 808, 809, 810, 811, 812, 813, 814, 815, 816, 817, 818, 819] rfl (by decide +kernel)
set_option maxRecDepth 20000 in
theorem gL_law_X5_together : GoodIn wsL_law (wsV RL 94 RX5 yX5_together wsX5_together) := goodIn_app (goodIn_of _ (by decide +kernel)) ggL_law_X5_together
set_option maxRecDepth 100000 in
set_option maxHeartbeats 4000000 in
theorem ggL_law_X4_drinks : GoodIn wsL_law wsX4_drinks := goodIn_r _ [568, 18, 16, 268, 126, 127, 128, 2, 129, 130, 131, 132, 133, 28, 134, 82, 83, 26, 84, 60, 66, 135, 136, 137, 138, 429, 430, 431, 15, 432, 35, 39, 40, 41, 42, 43, 44, 45, 46, 47, 48, 49, 50, 51, 52, 53, 54, 55, 433, 434, 435, 436, 437, 279, 63, 280, 438, 439, 440, 441, 442, 443, 444, 38, 445, 71, 72, 73, 446, 297, 298, 299, 300, 301, 302, 303, 304, 305, 306, 307, 308, 81, 309, 310, 311, 312, 185, 123, 124, 125, 313, 314, 315, 316, 317, 318, 62, 64, 319, 320, 321, 322, 323, 324, 325, 326, 327, 77, 78, 79, 80, 328, 282, 283, 284, 329, 330, 331, 332, 333, 334, 335, 336, 337, 338, 339, 340, 341, 342, 343, 344, 345, 346, 347, 348, 349, 350, 351, 352, 798, 799, 800, 801, 802, 803, 804, 805, 820, 821, 822, 823, 824, 825, 826, 827, 828, 829, 830, 831, 832, 833, 834, 835, 836, 837, 844, 845, 846, 847, 848] rfl (by decide +kernel)
set_option maxRecDepth 20000 in
theorem gL_law_X4_drinks : GoodIn wsL_law (wsV RL 95 RX4 yX4_drinks wsX4_drinks) := goodIn_app (goodIn_of _ (by decide +kernel)) ggL_law_X4_drinks
set_option maxRecDepth 100000 in
set_option maxHeartbeats 4000000 in
theorem ggL_law_X5_drinks : GoodIn wsL_law wsX5_drinks := goodIn_r _ [572, 109, 107, 451, 452, 453, 5, 454, 245, 246, 247, 146, 147, 148, 149, 106, 455, 456, 457, 458, 236, 237, 238, 357, 358, 359, 360, 361, 362, 363, 364, 365, 366, 367, 368, 112, 369, 370, 371, 289, 290, 291, 372, 373, 374, 375, 376, 377, 378, 379, 380, 381, 382, 383, 384, 385, 386, 806, 807, 808, 809, 810, 811, 812, 813, 814, 815, 816, 817, 818, 819] rfl (by decide +kernel)
set_option maxRecDepth 20000 in
theorem gL_law_X5_drinks : GoodIn wsL_law (wsV RL 98 RX5 yX5_drinks wsX5_drinks) := goodIn_app (goodIn_of _ (by decide +kernel)) ggL_law_X5_drinks
set_option maxRecDepth 100000 in
set_option maxHeartbeats 4000000 in
theorem ggL_law_X4_goes : GoodIn wsL_law wsX4_goes := goodIn_r _ [576, 130, 131, 132, 2, 133, 28, 134, 82, 83, 26, 84, 60, 66, 135, 136, 137, 138, 126, 127, 128, 129, 577, 578, 579, 580, 16, 252, 581, 186, 187, 188, 189, 190, 75, 76, 463, 464, 465, 466, 18, 467, 468, 469, 15, 470, 35, 39, 40, 41, 42, 43, 44, 45, 46, 47, 48, 49, 53, 54, 55, 433, 434, 435, 436, 437, 279, 63, 280, 438, 439, 440, 441, 471, 472, 192, 193, 38, 194, 71, 72, 73, 195, 196, 197, 198, 473, 205, 206, 207, 81, 329, 330, 331, 332, 50, 51, 52, 517, 518, 519, 520, 493, 494, 495, 496, 301, 302, 303, 304, 305, 306, 307, 308, 309, 310, 311, 312, 185, 123, 124, 125, 313, 314, 315, 316, 317, 318, 62, 64, 319, 320, 321, 322, 323, 324, 325, 326, 327, 77, 78, 79, 80, 328, 282, 283, 284, 333, 334, 335, 336, 337, 338, 339, 340, 341, 342, 343, 344, 345, 346, 347, 348, 349, 350, 351, 352, 582, 583, 584, 798, 799, 800, 801, 802, 803, 804, 805, 844, 845, 820, 821, 822, 823, 824, 825, 826, 827, 828, 829, 830, 831, 832, 833, 834, 835, 836, 837, 846, 847, 848] rfl (by decide +kernel)
set_option maxRecDepth 20000 in
theorem gL_law_X4_goes : GoodIn wsL_law (wsV RL 99 RX4 yX4_goes wsX4_goes) := goodIn_app (goodIn_of _ (by decide +kernel)) ggL_law_X4_goes
set_option maxRecDepth 100000 in
set_option maxHeartbeats 4000000 in
theorem ggL_law_X5_goes : GoodIn wsL_law wsX5_goes := goodIn_r _ [588, 107, 109, 257, 258, 5, 259, 146, 147, 148, 149, 106, 245, 246, 247, 482, 483, 484, 485, 486, 487, 488, 236, 237, 238, 289, 290, 291, 357, 358, 359, 360, 361, 362, 363, 364, 365, 366, 367, 368, 112, 369, 370, 371, 372, 373, 374, 375, 376, 377, 378, 379, 380, 381, 382, 383, 384, 385, 386, 589, 590, 591, 806, 807, 808, 809, 810, 811, 812, 813, 814, 815, 816, 817, 818, 819] rfl (by decide +kernel)
set_option maxRecDepth 20000 in
theorem gL_law_X5_goes : GoodIn wsL_law (wsV RL 103 RX5 yX5_goes wsX5_goes) := goodIn_app (goodIn_of _ (by decide +kernel)) ggL_law_X5_goes
