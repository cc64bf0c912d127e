set_option maxRecDepth 20000 in
theorem ggL_law_X8_undo : GoodIn wsL_law wsX8_undo := goodIn_r _ [431, 31, 27, 243, 432, 433, 434, 30, 435, 393, 392, 92, 395, 396, 397, 26, 398, 249, 250, 251, 86, 399, 235, 236, 237, 778, 779, 780, 781, 782, 783, 784, 785, 786, 787, 788, 840, 841, 842, 836, 837, 838, 839] (by decide +kernel) (by decide +kernel)
set_option maxRecDepth 20000 in
theorem gL_law_X8_undo : GoodIn wsL_law (wsV RL 52 RX8 yX8_undo wsX8_undo) := goodIn_app (goodIn_of _ (by decide +kernel)) ggL_law_X8_undo
set_option maxRecDepth 20000 in
theorem ggL_law_X9_undo : GoodIn wsL_law wsX9_undo := goodIn_r _ [439, 294, 121, 122, 372, 373, 5, 374, 789, 790, 791, 792, 793, 794, 795, 796, 797, 798, 799, 800, 801, 802, 803, 804, 805, 806, 807, 808, 809, 810, 811, 812, 813, 814, 815, 816, 817, 818] (by decide +kernel) (by decide +kernel)
set_option maxRecDepth 20000 in
theorem gL_law_X9_undo : GoodIn wsL_law (wsV RL 55 RX9 yX9_undo wsX9_undo) := goodIn_app (goodIn_of _ (by decide +kernel)) ggL_law_X9_undo
set_option maxRecDepth 20000 in
theorem ggL_law_X8_again : GoodIn wsL_law wsX8_again := goodIn_r _ [443, 23, 302, 303, 304, 22, 305, 77, 444, 445, 446, 447, 448, 327, 328, 329, 75, 330, 307, 308, 309, 331, 311, 312, 313, 778, 779, 780, 781, 782, 783, 784, 785, 786, 787, 788, 830, 831, 832, 833, 834, 835] (by decide +kernel) (by decide +kernel)
set_option maxRecDepth 20000 in
theorem gL_law_X8_again : GoodIn wsL_law (wsV RL 56 RX8 yX8_again wsX8_again) := goodIn_app (goodIn_of _ (by decide +kernel)) ggL_law_X8_again
set_option maxRecDepth 20000 in
theorem ggL_law_X9_again : GoodIn wsL_law wsX9_again := goodIn_r _ [452, 318, 319, 320, 5, 321, 118, 147, 148, 149, 453, 454, 455, 456, 336, 337, 338, 339, 116, 789, 790, 791, 792, 793, 794, 795, 796, 797, 798, 799, 800, 801, 802, 803, 804, 805, 806, 807, 808, 809, 810, 811, 812, 813, 814, 815, 816, 817, 818] (by decide +kernel) (by decide +kernel)
set_option maxRecDepth 20000 in
theorem gL_law_X9_again : GoodIn wsL_law (wsV RL 59 RX9 yX9_again wsX9_again) := goodIn_app (goodIn_of _ (by decide +kernel)) ggL_law_X9_again
set_option maxRecDepth 20000 in
theorem ggL_law_X8_all : GoodIn wsL_law wsX8_all := goodIn_r _ [460, 23, 461, 444, 445, 446, 22, 447, 448, 327, 328, 329, 75, 330, 307, 308, 309, 331, 311, 312, 313, 778, 779, 780, 781, 782, 783, 784, 785, 786, 787, 788, 830, 831, 832, 833, 834, 835] (by decide +kernel) (by decide +kernel)
set_option maxRecDepth 20000 in
theorem gL_law_X8_all : GoodIn wsL_law (wsV RL 60 RX8 yX8_all wsX8_all) := goodIn_app (goodIn_of _ (by decide +kernel)) ggL_law_X8_all
set_option maxRecDepth 20000 in
theorem ggL_law_X9_all : GoodIn wsL_law wsX9_all := goodIn_r _ [465, 118, 466, 467, 468, 5, 469, 121, 336, 337, 338, 339, 116, 789, 790, 791, 792, 793, 794, 795, 796, 797, 798, 799, 800, 801, 802, 803, 804, 805, 806, 807, 808, 809, 810, 811, 812, 813, 814, 815, 816, 817, 818] (by decide +kernel) (by decide +kernel)
set_option maxRecDepth 20000 in
theorem gL_law_X9_all : GoodIn wsL_law (wsV RL 63 RX9 yX9_all wsX9_all) := goodIn_app (goodIn_of _ (by decide +kernel)) ggL_law_X9_all
set_option maxRecDepth 20000 in
theorem ggL_law_X8_byTurns : GoodIn wsL_law wsX8_byTurns := goodIn_r _ [473, 23, 461, 27, 345, 474, 475, 476, 22, 477, 77, 448, 327, 328, 329, 75, 330, 307, 308, 309, 331, 311, 312, 313, 478, 479, 480, 481, 778, 779, 780, 781, 782, 783, 784, 785, 786, 787, 788, 830, 831, 832, 833, 834, 835, 836, 837, 838, 839] (by decide +kernel) (by decide +kernel)
set_option maxRecDepth 20000 in
theorem gL_law_X8_byTurns : GoodIn wsL_law (wsV RL 64 RX8 yX8_byTurns wsX8_byTurns) := goodIn_app (goodIn_of _ (by decide +kernel)) ggL_law_X8_byTurns
set_option maxRecDepth 20000 in
theorem ggL_law_X9_byTurns : GoodIn wsL_law wsX9_byTurns := goodIn_r _ [485, 118, 147, 148, 5, 149, 466, 467, 468, 469, 121, 336, 337, 338, 339, 116, 789, 790, 791, 792, 793, 794, 795, 796, 797, 798, 799, 800, 801, 802, 803, 804, 805, 806, 807, 808, 809, 810, 811, 812, 813, 814, 815, 816, 817, 818] (by decide +kernel) (by decide +kernel)
set_option maxRecDepth 20000 in
theorem gL_law_X9_byTurns : GoodIn wsL_law (wsV RL 67 RX9 yX9_byTurns wsX9_byTurns) := goodIn_app (goodIn_of _ (by decide +kernel)) ggL_law_X9_byTurns
set_option maxRecDepth 20000 in
theorem ggL_law_X8_reach : GoodIn wsL_law wsX8_reach := goodIn_r _ [489, 23, 27, 345, 490, 491, 492, 22, 493, 478, 479, 480, 481, 77, 494, 495, 496, 497, 498, 499, 500, 501, 448, 327, 328, 329, 75, 330, 307, 308, 309, 331, 311, 312, 313, 778, 779, 780, 781, 782, 783, 784, 785, 786, 787, 788, 836, 837, 838, 839, 830, 831, 832, 833, 834, 835] (by decide +kernel) (by decide +kernel)
set_option maxRecDepth 20000 in
theorem gL_law_X8_reach : GoodIn wsL_law (wsV RL 68 RX8 yX8_reach wsX8_reach) := goodIn_app (goodIn_of _ (by decide +kernel)) ggL_law_X8_reach
set_option maxRecDepth 20000 in
theorem ggL_law_X9_reach : GoodIn wsL_law wsX9_reach := goodIn_r _ [505, 121, 118, 506, 507, 508, 5, 509, 147, 148, 149, 510, 511, 512, 336, 337, 338, 339, 116, 789, 790, 791, 792, 793, 794, 795, 796, 797, 798, 799, 800, 801, 802, 803, 804, 805, 806, 807, 808, 809, 810, 811, 812, 813, 814, 815, 816, 817, 818] (by decide +kernel) (by decide +kernel)
set_option maxRecDepth 20000 in
theorem gL_law_X9_reach : GoodIn wsL_law (wsV RL 71 RX9 yX9_reach wsX9_reach) := goodIn_app (goodIn_of _ (by decide +kernel)) ggL_law_X9_reach
set_option maxRecDepth 20000 in
theorem ggL_law_X8_round : GoodIn wsL_law wsX8_round := goodIn_r _ [516, 23, 35, 27, 345, 461, 517, 490, 491, 492, 22, 493, 478, 479, 480, 481, 77, 518, 519, 520, 34, 521, 522, 523, 98, 524, 495, 496, 497, 498, 499, 500, 501, 448, 327, 328, 329, 75, 330, 307, 308, 309, 331, 311, 312, 313, 525, 526, 527, 528, 529, 530, 97, 531, 778, 779, 780, 781, 782, 783, 784, 785, 786, 787, 788, 836, 837, 838, 839, 830, 831, 832, 833, 834, 835, 843, 844, 845, 846] (by decide +kernel) (by decide +kernel)
set_option maxRecDepth 20000 in
theorem gL_law_X8_round : GoodIn wsL_law (wsV RL 72 RX8 yX8_round wsX8_round) := goodIn_app (goodIn_of _ (by decide +kernel)) ggL_law_X8_round
set_option maxRecDepth 20000 in
theorem ggL_law_X9_round : GoodIn wsL_law wsX9_round := goodIn_r _ [535, 121, 129, 118, 506, 507, 508, 5, 509, 147, 148, 149, 536, 537, 538, 539, 510, 511, 512, 540, 541, 542, 543, 336, 337, 338, 339, 116, 789, 790, 791, 792, 793, 794, 795, 796, 797, 798, 799, 800, 801, 802, 803, 804, 805, 806, 807, 808, 809, 810, 811, 812, 813, 814, 815, 816, 817, 818] (by decide +kernel) (by decide +kernel)
set_option maxRecDepth 20000 in
theorem gL_law_X9_round : GoodIn wsL_law (wsV RL 75 RX9 yX9_round wsX9_round) := goodIn_app (goodIn_of _ (by decide +kernel)) ggL_law_X9_round
set_option maxRecDepth 20000 in
theorem ggL_law_X8_same : GoodIn wsL_law wsX8_same := goodIn_r _ [547, 23, 461, 326, 327, 328, 22, 329, 75, 330, 307, 308, 309, 331, 311, 312, 313, 778, 779, 780, 781, 782, 783, 784, 785, 786, 787, 788, 830, 831, 832, 833, 834, 835] (by decide +kernel) (by decide +kernel)
set_option maxRecDepth 20000 in
theorem gL_law_X8_same : GoodIn wsL_law (wsV RL 76 RX8 yX8_same wsX8_same) := goodIn_app (goodIn_of _ (by decide +kernel)) ggL_law_X8_same
set_option maxRecDepth 20000 in
theorem ggL_law_X9_same : GoodIn wsL_law wsX9_same := goodIn_r _ [551, 118, 336, 337, 338, 5, 339, 116, 789, 790, 791, 792, 793, 794, 795, 796, 797, 798, 799, 800, 801, 802, 803, 804, 805, 806, 807, 808, 809, 810, 811, 812, 813, 814, 815, 816, 817, 818] (by decide +kernel) (by decide +kernel)
set_option maxRecDepth 20000 in
theorem gL_law_X9_same : GoodIn wsL_law (wsV RL 79 RX9 yX9_same wsX9_same) := goodIn_app (goodIn_of _ (by decide +kernel)) ggL_law_X9_same
set_option maxRecDepth 20000 in
theorem ggL_law_X8_lasts : GoodIn wsL_law wsX8_lasts := goodIn_r _ [555, 23, 39, 302, 303, 304, 22, 305, 77, 556, 557, 558, 38, 559, 104, 105, 560, 561, 194, 195, 196, 562, 348, 349, 350, 351, 352, 353, 354, 26, 355, 86, 356, 357, 358, 563, 445, 446, 447, 448, 327, 328, 329, 75, 330, 307, 308, 309, 331, 311, 312, 313, 564, 565, 566, 567, 568, 569, 570, 571, 572, 573, 778, 779, 780, 781, 782, 783, 784, 785, 786, 787, 788, 830, 831, 832, 833, 834, 835, 847, 848, 849, 836, 837, 838, 839] (by decide +kernel) (by decide +kernel)
set_option maxRecDepth 20000 in
theorem gL_law_X8_lasts : GoodIn wsL_law (wsV RL 80 RX8 yX8_lasts wsX8_lasts) := goodIn_app (goodIn_of _ (by decide +kernel)) ggL_law_X8_lasts
set_option maxRecDepth 20000 in
theorem ggL_law_X9_lasts : GoodIn wsL_law wsX9_lasts := goodIn_r _ [577, 318, 319, 320, 5, 321, 118, 147, 148, 149, 578, 579, 580, 581, 368, 369, 370, 371, 128, 121, 372, 373, 374, 375, 376, 377, 378, 119, 379, 380, 381, 382, 582, 583, 584, 585, 336, 337, 338, 339, 116, 408, 409, 410, 411, 120, 789, 790, 791, 792, 793, 794, 795, 796, 797, 798, 799, 800, 801, 802, 803, 804, 805, 806, 807, 808, 809, 810, 811, 812, 813, 814, 815, 816, 817, 818] (by decide +kernel) (by decide +kernel)
set_option maxRecDepth 20000 in
theorem gL_law_X9_lasts : GoodIn wsL_law (wsV RL 83 RX9 yX9_lasts wsX9_lasts) := goodIn_app (goodIn_of _ (by decide +kernel)) ggL_law_X9_lasts
set_option maxRecDepth 20000 in
theorem ggL_law_X8_latest : GoodIn wsL_law wsX8_latest := goodIn_r _ [589, 39, 23, 461, 556, 557, 558, 38, 559, 104, 105, 560, 561, 194, 195, 196, 562, 348, 349, 350, 351, 352, 353, 354, 26, 355, 86, 356, 357, 358, 563, 445, 446, 22, 447, 448, 327, 328, 329, 75, 330, 307, 308, 309, 331, 311, 312, 313, 564, 565, 566, 567, 568, 569, 570, 571, 572, 573, 778, 779, 780, 781, 782, 783, 784, 785, 786, 787, 788, 830, 831, 832, 833, 834, 835, 847, 848, 849, 836, 837, 838, 839] (by decide +kernel) (by decide +kernel)
set_option maxRecDepth 20000 in
theorem gL_law_X8_latest : GoodIn wsL_law (wsV RL 84 RX8 yX8_latest wsX8_latest) := goodIn_app (goodIn_of _ (by decide +kernel)) ggL_law_X8_latest
set_option maxRecDepth 20000 in
theorem ggL_law_X9_latest : GoodIn wsL_law wsX9_latest := goodIn_r _ [593, 118, 578, 579, 580, 5, 581, 368, 369, 370, 371, 128, 121, 372, 373, 374, 375, 376, 377, 378, 119, 379, 380, 381, 382, 582, 583, 584, 585, 336, 337, 338, 339, 116, 408, 409, 410, 411, 120, 789, 790, 791, 792, 793, 794, 795, 796, 797, 798, 799, 800, 801, 802, 803, 804, 805, 806, 807, 808, 809, 810, 811, 812, 813, 814, 815, 816, 817, 818] (by decide +kernel) (by decide +kernel)
set_option maxRecDepth 20000 in
theorem gL_law_X9_latest : GoodIn wsL_law (wsV RL 87 RX9 yX9_latest wsX9_latest) := goodIn_app (goodIn_of _ (by decide +kernel)) ggL_law_X9_latest
set_option maxRecDepth 20000 in
theorem ggL_law_X8_plan : GoodIn wsL_law wsX8_plan := goodIn_r _ [597, 39, 598, 599, 600, 38, 601, 105, 352, 353, 354, 26, 355, 86, 356, 357, 195, 358, 602, 603, 604, 605, 104, 606, 569, 570, 571, 572, 573, 607, 608, 609, 610, 103, 611, 235, 236, 237, 560, 612, 613, 614, 615, 564, 327, 328, 22, 329, 75, 330, 307, 308, 309, 331, 311, 312, 313, 778, 779, 780, 781, 782, 783, 784, 785, 786, 787, 788, 847, 848, 849, 836, 837, 838, 839, 830, 831, 832, 833, 834, 835] (by decide +kernel) (by decide +kernel)
set_option maxRecDepth 20000 in
theorem gL_law_X8_plan : GoodIn wsL_law (wsV RL 88 RX8 yX8_plan wsX8_plan) := goodIn_app (goodIn_of _ (by decide +kernel)) ggL_law_X8_plan
set_option maxRecDepth 20000 in
theorem ggL_law_X9_plan : GoodIn wsL_law wsX9_plan := goodIn_r _ [619, 118, 620, 130, 131, 147, 148, 5, 149, 368, 369, 370, 371, 128, 121, 372, 373, 374, 582, 583, 584, 585, 336, 337, 338, 339, 116, 408, 409, 410, 411, 120, 379, 380, 381, 382, 789, 790, 791, 792, 793, 794, 795, 796, 797, 798, 799, 800, 801, 802, 803, 804, 805, 806, 807, 808, 809, 810, 811, 812, 813, 814, 815, 816, 817, 818] (by decide +kernel) (by decide +kernel)
set_option maxRecDepth 20000 in
theorem gL_law_X9_plan : GoodIn wsL_law (wsV RL 91 RX9 yX9_plan wsX9_plan) := goodIn_app (goodIn_of _ (by decide +kernel)) ggL_law_X9_plan
