set_option maxRecDepth 20000 in
theorem ggL_law_X8_init : GoodIn wsL_law wsX8_init := goodIn_r _ [8, 9, 10, 11, 12, 13, 14, 15, 16, 17, 18, 19, 20, 21, 22, 23, 24, 25, 26, 27, 28, 29, 30, 31, 32, 33, 34, 35, 36, 37, 38, 39, 40, 41, 42, 43, 44, 45, 46, 47, 48, 49, 50, 51, 52, 53, 54, 55, 56, 57, 58, 59, 60, 61, 62, 63, 64, 65, 66, 67, 68, 69, 70, 71, 72, 73, 74, 75, 76, 77, 78, 79, 80, 81, 82, 83, 84, 85, 86, 87, 88, 89, 90, 91, 92, 93, 94, 95, 96, 97, 98, 99, 100, 101, 102, 103, 104, 105, 106, 107, 108, 109, 110, 111, 818, 819, 777, 778, 779, 780, 781, 782, 783, 784, 785, 786, 787, 820, 821, 822, 823, 824, 825, 826, 827, 828, 829, 830, 831, 832, 833, 834, 835, 836, 837, 838, 839, 840, 841, 842, 843, 844, 845, 846, 847, 848, 849, 850, 851, 852] (by decide +kernel) (by decide +kernel)
set_option maxRecDepth 20000 in
theorem gL_law_X8_init : GoodIn wsL_law (wsX8_init) := ggL_law_X8_init
set_option maxRecDepth 20000 in
theorem ggL_law_X9_init : GoodIn wsL_law wsX9_init := goodIn_r _ [114, 115, 10, 11, 116, 117, 118, 119, 51, 120, 121, 122, 123, 45, 124, 125, 126, 127, 128, 129, 130, 131, 788, 789, 790, 791, 792, 793, 794, 795, 796, 797, 798, 799, 800, 801, 802, 803, 804, 805, 806, 807, 808, 809, 810, 811, 812, 813, 814, 815, 816, 817] (by decide +kernel) (by decide +kernel)
set_option maxRecDepth 20000 in
theorem gL_law_X9_init : GoodIn wsL_law (wsX9_init) := ggL_law_X9_init
set_option maxRecDepth 20000 in
theorem ggL_law_X8_type : GoodIn wsL_law wsX8_type := goodIn_r _ [135, 15, 136, 137, 138, 139, 14, 140, 141, 52, 777, 778, 779, 780, 781, 782, 783, 784, 785, 786, 787, 818, 819] (by decide +kernel) (by decide +kernel)
set_option maxRecDepth 20000 in
theorem gL_law_X8_type : GoodIn wsL_law (wsV RL 13 RX8 yX8_type wsX8_type) := goodIn_app (goodIn_of _ (by decide +kernel)) ggL_law_X8_type
set_option maxRecDepth 20000 in
theorem ggL_law_X9_type : GoodIn wsL_law wsX9_type := goodIn_r _ [145, 146, 126, 147, 148, 5, 149, 788, 789, 790, 791, 792, 793, 794, 795, 796, 797, 798, 799, 800, 801, 802, 803, 804, 805, 806, 807, 808, 809, 810, 811, 812, 813, 814, 815, 816, 817] (by decide +kernel) (by decide +kernel)
set_option maxRecDepth 20000 in
theorem gL_law_X9_type : GoodIn wsL_law (wsV RL 17 RX9 yX9_type wsX9_type) := goodIn_app (goodIn_of _ (by decide +kernel)) ggL_law_X9_type
set_option maxRecDepth 20000 in
theorem ggL_law_X8_clear : GoodIn wsL_law wsX8_clear := goodIn_r _ [153, 15, 154, 155, 156, 14, 157, 141, 777, 778, 779, 780, 781, 782, 783, 784, 785, 786, 787, 818, 819] (by decide +kernel) (by decide +kernel)
set_option maxRecDepth 20000 in
theorem gL_law_X8_clear : GoodIn wsL_law (wsV RL 18 RX8 yX8_clear wsX8_clear) := goodIn_app (goodIn_of _ (by decide +kernel)) ggL_law_X8_clear
set_option maxRecDepth 20000 in
theorem ggL_law_X9_clear : GoodIn wsL_law wsX9_clear := goodIn_r _ [161, 146, 788, 789, 790, 791, 792, 793, 794, 795, 796, 797, 798, 799, 800, 801, 802, 803, 804, 805, 806, 807, 808, 809, 810, 811, 812, 813, 814, 815, 816, 817] (by decide +kernel) (by decide +kernel)
set_option maxRecDepth 20000 in
theorem gL_law_X9_clear : GoodIn wsL_law (wsV RL 22 RX9 yX9_clear wsX9_clear) := goodIn_app (goodIn_of _ (by decide +kernel)) ggL_law_X9_clear
set_option maxRecDepth 20000 in
theorem ggL_law_X8_bed : GoodIn wsL_law wsX8_bed := goodIn_r _ [165, 19, 23, 166, 15, 167, 168, 169, 18, 170, 58, 171, 172, 173, 174, 175, 176, 177, 66, 67, 22, 68, 69, 70, 64, 71, 72, 73, 74, 75, 76, 77, 78, 79, 80, 81, 178, 179, 180, 181, 59, 182, 183, 184, 185, 186, 14, 187, 141, 52, 188, 189, 190, 191, 192, 193, 194, 195, 196, 197, 198, 199, 200, 201, 202, 203, 204, 205, 206, 207, 208, 209, 210, 211, 212, 213, 214, 215, 216, 217, 218, 219, 220, 221, 222, 223, 224, 225, 226, 227, 228, 229, 230, 231, 232, 233, 154, 155, 156, 157, 234, 235, 236, 2, 237, 27, 238, 31, 239, 43, 240, 46, 241, 242, 243, 26, 244, 245, 246, 247, 86, 248, 777, 778, 779, 780, 781, 782, 783, 784, 785, 786, 787, 820, 821, 822, 823, 824, 825, 826, 827, 828, 829, 830, 831, 832, 833, 834, 818, 819, 839, 840, 841, 849, 850, 851, 852, 835, 836, 837, 838] (by decide +kernel) (by decide +kernel)
set_option maxRecDepth 20000 in
theorem gL_law_X8_bed : GoodIn wsL_law (wsV RL 23 RX8 yX8_bed wsX8_bed) := goodIn_app (goodIn_of _ (by decide +kernel)) ggL_law_X8_bed
set_option maxRecDepth 20000 in
theorem ggL_law_X9_bed : GoodIn wsL_law wsX9_bed := goodIn_r _ [252, 253, 254, 255, 256, 257, 258, 259, 127, 260, 261, 262, 263, 264, 5, 265, 266, 267, 268, 269, 270, 146, 126, 271, 272, 273, 147, 148, 149, 274, 275, 276, 277, 278, 279, 280, 281, 282, 283, 284, 285, 286, 287, 288, 289, 116, 117, 118, 119, 121, 120, 290, 291, 124, 788, 789, 790, 791, 792, 793, 794, 795, 796, 797, 798, 799, 800, 801, 802, 803, 804, 805, 806, 807, 808, 809, 810, 811, 812, 813, 814, 815, 816, 817] (by decide +kernel) (by decide +kernel)
set_option maxRecDepth 20000 in
theorem gL_law_X9_bed : GoodIn wsL_law (wsV RL 26 RX9 yX9_bed wsX9_bed) := goodIn_app (goodIn_of _ (by decide +kernel)) ggL_law_X9_bed
set_option maxRecDepth 20000 in
theorem ggL_law_X8_lie : GoodIn wsL_law wsX8_lie := goodIn_r _ [295, 23, 296, 27, 297, 298, 299, 300, 22, 301, 77, 302, 303, 304, 305, 75, 306, 307, 308, 309, 777, 778, 779, 780, 781, 782, 783, 784, 785, 786, 787, 829, 830, 831, 832, 833, 834, 835, 836, 837, 838] (by decide +kernel) (by decide +kernel)
set_option maxRecDepth 20000 in
theorem gL_law_X8_lie : GoodIn wsL_law (wsV RL 27 RX8 yX8_lie wsX8_lie) := goodIn_app (goodIn_of _ (by decide +kernel)) ggL_law_X8_lie
set_option maxRecDepth 20000 in
theorem ggL_law_X9_lie : GoodIn wsL_law wsX9_lie := goodIn_r _ [313, 116, 120, 121, 314, 315, 316, 5, 317, 118, 147, 148, 149, 788, 789, 790, 791, 792, 793, 794, 795, 796, 797, 798, 799, 800, 801, 802, 803, 804, 805, 806, 807, 808, 809, 810, 811, 812, 813, 814, 815, 816, 817] (by decide +kernel) (by decide +kernel)
set_option maxRecDepth 20000 in
theorem gL_law_X9_lie : GoodIn wsL_law (wsV RL 31 RX9 yX9_lie wsX9_lie) := goodIn_app (goodIn_of _ (by decide +kernel)) ggL_law_X9_lie
set_option maxRecDepth 20000 in
theorem ggL_law_X8_turned : GoodIn wsL_law wsX8_turned := goodIn_r _ [321, 23, 298, 299, 300, 22, 301, 77, 322, 323, 324, 325, 75, 326, 303, 304, 305, 327, 307, 308, 309, 777, 778, 779, 780, 781, 782, 783, 784, 785, 786, 787, 829, 830, 831, 832, 833, 834] (by decide +kernel) (by decide +kernel)
set_option maxRecDepth 20000 in
theorem gL_law_X8_turned : GoodIn wsL_law (wsV RL 32 RX8 yX8_turned wsX8_turned) := goodIn_app (goodIn_of _ (by decide +kernel)) ggL_law_X8_turned
set_option maxRecDepth 20000 in
theorem ggL_law_X9_turned : GoodIn wsL_law wsX9_turned := goodIn_r _ [331, 314, 315, 316, 5, 317, 118, 147, 148, 149, 332, 333, 334, 335, 116, 788, 789, 790, 791, 792, 793, 794, 795, 796, 797, 798, 799, 800, 801, 802, 803, 804, 805, 806, 807, 808, 809, 810, 811, 812, 813, 814, 815, 816, 817] (by decide +kernel) (by decide +kernel)
set_option maxRecDepth 20000 in
theorem gL_law_X9_turned : GoodIn wsL_law (wsV RL 35 RX9 yX9_turned wsX9_turned) := goodIn_app (goodIn_of _ (by decide +kernel)) ggL_law_X9_turned
set_option maxRecDepth 20000 in
theorem ggL_law_X8_now : GoodIn wsL_law wsX8_now := goodIn_r _ [339, 27, 340, 341, 342, 39, 31, 239, 343, 344, 345, 38, 346, 105, 104, 347, 348, 349, 350, 26, 351, 86, 352, 353, 354, 355, 356, 357, 358, 359, 360, 777, 778, 779, 780, 781, 782, 783, 784, 785, 786, 787, 835, 836, 837, 838, 839, 840, 841, 846, 847, 848, 829, 830, 831, 832, 833, 834] (by decide +kernel) (by decide +kernel)
set_option maxRecDepth 20000 in
theorem gL_law_X8_now : GoodIn wsL_law (wsV RL 36 RX8 yX8_now wsX8_now) := goodIn_app (goodIn_of _ (by decide +kernel)) ggL_law_X8_now
set_option maxRecDepth 20000 in
theorem ggL_law_X9_now : GoodIn wsL_law wsX9_now := goodIn_r _ [364, 118, 121, 290, 365, 366, 367, 5, 368, 128, 369, 370, 371, 372, 373, 374, 375, 119, 376, 377, 378, 379, 788, 789, 790, 791, 792, 793, 794, 795, 796, 797, 798, 799, 800, 801, 802, 803, 804, 805, 806, 807, 808, 809, 810, 811, 812, 813, 814, 815, 816, 817] (by decide +kernel) (by decide +kernel)
set_option maxRecDepth 20000 in
theorem gL_law_X9_now : GoodIn wsL_law (wsV RL 39 RX9 yX9_now wsX9_now) := goodIn_app (goodIn_of _ (by decide +kernel)) ggL_law_X9_now
set_option maxRecDepth 20000 in
theorem ggL_law_X8_season : GoodIn wsL_law wsX8_season := goodIn_r _ [383, 39, 27, 340, 31, 341, 297, 23, 296, 384, 385, 354, 386, 343, 344, 345, 38, 346, 105, 104, 347, 348, 349, 350, 26, 351, 86, 352, 353, 355, 387, 388, 389, 30, 390, 92, 391, 392, 393, 394, 395, 396, 397, 245, 246, 247, 398, 231, 232, 233, 777, 778, 779, 780, 781, 782, 783, 784, 785, 786, 787, 835, 836, 837, 838, 829, 830, 831, 832, 833, 834, 846, 847, 848, 839, 840, 841] (by decide +kernel) (by decide +kernel)
set_option maxRecDepth 20000 in
theorem gL_law_X8_season : GoodIn wsL_law (wsV RL 40 RX8 yX8_season wsX8_season) := goodIn_app (goodIn_of _ (by decide +kernel)) ggL_law_X8_season
set_option maxRecDepth 20000 in
theorem ggL_law_X9_season : GoodIn wsL_law wsX9_season := goodIn_r _ [402, 121, 128, 365, 366, 367, 5, 368, 369, 370, 371, 372, 373, 374, 375, 119, 376, 377, 378, 379, 118, 403, 404, 405, 406, 290, 122, 407, 408, 409, 410, 120, 788, 789, 790, 791, 792, 793, 794, 795, 796, 797, 798, 799, 800, 801, 802, 803, 804, 805, 806, 807, 808, 809, 810, 811, 812, 813, 814, 815, 816, 817] (by decide +kernel) (by decide +kernel)
set_option maxRecDepth 20000 in
theorem gL_law_X9_season : GoodIn wsL_law (wsV RL 43 RX9 yX9_season wsX9_season) := goodIn_app (goodIn_of _ (by decide +kernel)) ggL_law_X9_season
set_option maxRecDepth 20000 in
theorem ggL_law_X8_makes : GoodIn wsL_law wsX8_makes := goodIn_r _ [414, 23, 31, 27, 341, 342, 384, 385, 354, 386, 298, 299, 300, 22, 301, 77, 387, 388, 389, 30, 390, 92, 391, 392, 393, 394, 395, 396, 26, 397, 245, 246, 247, 86, 398, 231, 232, 233, 322, 323, 324, 325, 75, 326, 303, 304, 305, 327, 307, 308, 309, 777, 778, 779, 780, 781, 782, 783, 784, 785, 786, 787, 835, 836, 837, 838, 829, 830, 831, 832, 833, 834, 839, 840, 841] (by decide +kernel) (by decide +kernel)
set_option maxRecDepth 20000 in
theorem gL_law_X8_makes : GoodIn wsL_law (wsV RL 44 RX8 yX8_makes wsX8_makes) := goodIn_app (goodIn_of _ (by decide +kernel)) ggL_law_X8_makes
set_option maxRecDepth 20000 in
theorem ggL_law_X9_makes : GoodIn wsL_law wsX9_makes := goodIn_r _ [418, 121, 314, 315, 316, 5, 317, 118, 147, 148, 149, 403, 404, 405, 406, 290, 122, 369, 370, 371, 332, 333, 334, 335, 116, 788, 789, 790, 791, 792, 793, 794, 795, 796, 797, 798, 799, 800, 801, 802, 803, 804, 805, 806, 807, 808, 809, 810, 811, 812, 813, 814, 815, 816, 817] (by decide +kernel) (by decide +kernel)
set_option maxRecDepth 20000 in
theorem gL_law_X9_makes : GoodIn wsL_law (wsV RL 47 RX9 yX9_makes wsX9_makes) := goodIn_app (goodIn_of _ (by decide +kernel)) ggL_law_X9_makes
set_option maxRecDepth 20000 in
theorem ggL_law_X8_stuffs : GoodIn wsL_law wsX8_stuffs := goodIn_r _ [422, 23, 31, 27, 297, 298, 299, 300, 22, 301, 77, 387, 388, 389, 30, 390, 92, 391, 392, 393, 385, 354, 386, 394, 395, 396, 26, 397, 245, 246, 247, 86, 398, 231, 232, 233, 777, 778, 779, 780, 781, 782, 783, 784, 785, 786, 787, 835, 836, 837, 838, 829, 830, 831, 832, 833, 834, 839, 840, 841] (by decide +kernel) (by decide +kernel)
set_option maxRecDepth 20000 in
theorem gL_law_X8_stuffs : GoodIn wsL_law (wsV RL 48 RX8 yX8_stuffs wsX8_stuffs) := goodIn_app (goodIn_of _ (by decide +kernel)) ggL_law_X8_stuffs
set_option maxRecDepth 20000 in
theorem ggL_law_X9_stuffs : GoodIn wsL_law wsX9_stuffs := goodIn_r _ [426, 121, 314, 315, 316, 5, 317, 118, 147, 148, 149, 403, 404, 405, 406, 290, 122, 369, 370, 371, 788, 789, 790, 791, 792, 793, 794, 795, 796, 797, 798, 799, 800, 801, 802, 803, 804, 805, 806, 807, 808, 809, 810, 811, 812, 813, 814, 815, 816, 817] (by decide +kernel) (by decide +kernel)
set_option maxRecDepth 20000 in
theorem gL_law_X9_stuffs : GoodIn wsL_law (wsV RL 51 RX9 yX9_stuffs wsX9_stuffs) := goodIn_app (goodIn_of _ (by decide +kernel)) ggL_law_X9_stuffs
