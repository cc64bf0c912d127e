set_option maxRecDepth 20000 in
theorem ggL_law_X8_undo : GoodIn wsL_law wsX8_undo := goodIn_r _ [430, 31, 27, 239, 431, 432, 433, 30, 434, 392, 391, 92, 394, 395, 396, 26, 397, 245, 246, 247, 86, 398, 231, 232, 233, 777, 778, 779, 780, 781, 782, 783, 784, 785, 786, 787, 839, 840, 841, 835, 836, 837, 838] (by decide +kernel) (by decide +kernel)
set_option maxRecDepth 20000 in
theorem gL_law_X8_undo : GoodIn wsL_law (wsV RL 52 RX8 yX8_undo wsX8_undo) := goodIn_app (goodIn_of _ (by decide +kernel)) ggL_law_X8_undo
set_option maxRecDepth 20000 in
theorem ggL_law_X9_undo : GoodIn wsL_law wsX9_undo := goodIn_r _ [438, 290, 121, 122, 369, 370, 5, 371, 788, 789, 790, 791, 792, 793, 794, 795, 796, 797, 798, 799, 800, 801, 802, 803, 804, 805, 806, 807, 808, 809, 810, 811, 812, 813, 814, 815, 816, 817] (by decide +kernel) (by decide +kernel)
set_option maxRecDepth 20000 in
theorem gL_law_X9_undo : GoodIn wsL_law (wsV RL 55 RX9 yX9_undo wsX9_undo) := goodIn_app (goodIn_of _ (by decide +kernel)) ggL_law_X9_undo
set_option maxRecDepth 20000 in
theorem ggL_law_X8_again : GoodIn wsL_law wsX8_again := goodIn_r _ [442, 23, 298, 299, 300, 22, 301, 77, 443, 444, 445, 446, 447, 323, 324, 325, 75, 326, 303, 304, 305, 327, 307, 308, 309, 777, 778, 779, 780, 781, 782, 783, 784, 785, 786, 787, 829, 830, 831, 832, 833, 834] (by decide +kernel) (by decide +kernel)
set_option maxRecDepth 20000 in
theorem gL_law_X8_again : GoodIn wsL_law (wsV RL 56 RX8 yX8_again wsX8_again) := goodIn_app (goodIn_of _ (by decide +kernel)) ggL_law_X8_again
set_option maxRecDepth 20000 in
theorem ggL_law_X9_again : GoodIn wsL_law wsX9_again := goodIn_r _ [451, 314, 315, 316, 5, 317, 118, 147, 148, 149, 452, 453, 454, 455, 332, 333, 334, 335, 116, 788, 789, 790, 791, 792, 793, 794, 795, 796, 797, 798, 799, 800, 801, 802, 803, 804, 805, 806, 807, 808, 809, 810, 811, 812, 813, 814, 815, 816, 817] (by decide +kernel) (by decide +kernel)
set_option maxRecDepth 20000 in
theorem gL_law_X9_again : GoodIn wsL_law (wsV RL 59 RX9 yX9_again wsX9_again) := goodIn_app (goodIn_of _ (by decide +kernel)) ggL_law_X9_again
set_option maxRecDepth 20000 in
theorem ggL_law_X8_all : GoodIn wsL_law wsX8_all := goodIn_r _ [459, 23, 460, 443, 444, 445, 22, 446, 447, 323, 324, 325, 75, 326, 303, 304, 305, 327, 307, 308, 309, 777, 778, 779, 780, 781, 782, 783, 784, 785, 786, 787, 829, 830, 831, 832, 833, 834] (by decide +kernel) (by decide +kernel)
set_option maxRecDepth 20000 in
theorem gL_law_X8_all : GoodIn wsL_law (wsV RL 60 RX8 yX8_all wsX8_all) := goodIn_app (goodIn_of _ (by decide +kernel)) ggL_law_X8_all
set_option maxRecDepth 20000 in
theorem ggL_law_X9_all : GoodIn wsL_law wsX9_all := goodIn_r _ [464, 118, 465, 466, 467, 5, 468, 121, 332, 333, 334, 335, 116, 788, 789, 790, 791, 792, 793, 794, 795, 796, 797, 798, 799, 800, 801, 802, 803, 804, 805, 806, 807, 808, 809, 810, 811, 812, 813, 814, 815, 816, 817] (by decide +kernel) (by decide +kernel)
set_option maxRecDepth 20000 in
theorem gL_law_X9_all : GoodIn wsL_law (wsV RL 63 RX9 yX9_all wsX9_all) := goodIn_app (goodIn_of _ (by decide +kernel)) ggL_law_X9_all
set_option maxRecDepth 20000 in
theorem ggL_law_X8_byTurns : GoodIn wsL_law wsX8_byTurns := goodIn_r _ [472, 23, 460, 27, 341, 473, 474, 475, 22, 476, 77, 447, 323, 324, 325, 75, 326, 303, 304, 305, 327, 307, 308, 309, 477, 478, 479, 480, 777, 778, 779, 780, 781, 782, 783, 784, 785, 786, 787, 829, 830, 831, 832, 833, 834, 835, 836, 837, 838] (by decide +kernel) (by decide +kernel)
set_option maxRecDepth 20000 in
theorem gL_law_X8_byTurns : GoodIn wsL_law (wsV RL 64 RX8 yX8_byTurns wsX8_byTurns) := goodIn_app (goodIn_of _ (by decide +kernel)) ggL_law_X8_byTurns
set_option maxRecDepth 20000 in
theorem ggL_law_X9_byTurns : GoodIn wsL_law wsX9_byTurns := goodIn_r _ [484, 118, 147, 148, 5, 149, 465, 466, 467, 468, 121, 332, 333, 334, 335, 116, 788, 789, 790, 791, 792, 793, 794, 795, 796, 797, 798, 799, 800, 801, 802, 803, 804, 805, 806, 807, 808, 809, 810, 811, 812, 813, 814, 815, 816, 817] (by decide +kernel) (by decide +kernel)
set_option maxRecDepth 20000 in
theorem gL_law_X9_byTurns : GoodIn wsL_law (wsV RL 67 RX9 yX9_byTurns wsX9_byTurns) := goodIn_app (goodIn_of _ (by decide +kernel)) ggL_law_X9_byTurns
set_option maxRecDepth 20000 in
theorem ggL_law_X8_reach : GoodIn wsL_law wsX8_reach := goodIn_r _ [488, 23, 27, 341, 489, 490, 491, 22, 492, 477, 478, 479, 480, 77, 493, 494, 495, 496, 497, 498, 499, 500, 447, 323, 324, 325, 75, 326, 303, 304, 305, 327, 307, 308, 309, 777, 778, 779, 780, 781, 782, 783, 784, 785, 786, 787, 835, 836, 837, 838, 829, 830, 831, 832, 833, 834] (by decide +kernel) (by decide +kernel)
set_option maxRecDepth 20000 in
theorem gL_law_X8_reach : GoodIn wsL_law (wsV RL 68 RX8 yX8_reach wsX8_reach) := goodIn_app (goodIn_of _ (by decide +kernel)) ggL_law_X8_reach
set_option maxRecDepth 20000 in
theorem ggL_law_X9_reach : GoodIn wsL_law wsX9_reach := goodIn_r _ [504, 121, 118, 505, 506, 507, 5, 508, 147, 148, 149, 509, 510, 511, 332, 333, 334, 335, 116, 788, 789, 790, 791, 792, 793, 794, 795, 796, 797, 798, 799, 800, 801, 802, 803, 804, 805, 806, 807, 808, 809, 810, 811, 812, 813, 814, 815, 816, 817] (by decide +kernel) (by decide +kernel)
set_option maxRecDepth 20000 in
theorem gL_law_X9_reach : GoodIn wsL_law (wsV RL 71 RX9 yX9_reach wsX9_reach) := goodIn_app (goodIn_of _ (by decide +kernel)) ggL_law_X9_reach
set_option maxRecDepth 20000 in
theorem ggL_law_X8_round : GoodIn wsL_law wsX8_round := goodIn_r _ [515, 23, 35, 27, 341, 460, 516, 489, 490, 491, 22, 492, 477, 478, 479, 480, 77, 517, 518, 519, 34, 520, 521, 522, 98, 523, 494, 495, 496, 497, 498, 499, 500, 447, 323, 324, 325, 75, 326, 303, 304, 305, 327, 307, 308, 309, 524, 525, 526, 527, 528, 529, 97, 530, 777, 778, 779, 780, 781, 782, 783, 784, 785, 786, 787, 835, 836, 837, 838, 829, 830, 831, 832, 833, 834, 842, 843, 844, 845] (by decide +kernel) (by decide +kernel)
set_option maxRecDepth 20000 in
theorem gL_law_X8_round : GoodIn wsL_law (wsV RL 72 RX8 yX8_round wsX8_round) := goodIn_app (goodIn_of _ (by decide +kernel)) ggL_law_X8_round
set_option maxRecDepth 20000 in
theorem ggL_law_X9_round : GoodIn wsL_law wsX9_round := goodIn_r _ [534, 121, 129, 118, 505, 506, 507, 5, 508, 147, 148, 149, 535, 536, 537, 538, 509, 510, 511, 539, 540, 541, 542, 332, 333, 334, 335, 116, 788, 789, 790, 791, 792, 793, 794, 795, 796, 797, 798, 799, 800, 801, 802, 803, 804, 805, 806, 807, 808, 809, 810, 811, 812, 813, 814, 815, 816, 817] (by decide +kernel) (by decide +kernel)
set_option maxRecDepth 20000 in
theorem gL_law_X9_round : GoodIn wsL_law (wsV RL 75 RX9 yX9_round wsX9_round) := goodIn_app (goodIn_of _ (by decide +kernel)) ggL_law_X9_round
set_option maxRecDepth 20000 in
theorem ggL_law_X8_same : GoodIn wsL_law wsX8_same := goodIn_r _ [546, 23, 460, 322, 323, 324, 22, 325, 75, 326, 303, 304, 305, 327, 307, 308, 309, 777, 778, 779, 780, 781, 782, 783, 784, 785, 786, 787, 829, 830, 831, 832, 833, 834] (by decide +kernel) (by decide +kernel)
set_option maxRecDepth 20000 in
theorem gL_law_X8_same : GoodIn wsL_law (wsV RL 76 RX8 yX8_same wsX8_same) := goodIn_app (goodIn_of _ (by decide +kernel)) ggL_law_X8_same
set_option maxRecDepth 20000 in
theorem ggL_law_X9_same : GoodIn wsL_law wsX9_same := goodIn_r _ [550, 118, 332, 333, 334, 5, 335, 116, 788, 789, 790, 791, 792, 793, 794, 795, 796, 797, 798, 799, 800, 801, 802, 803, 804, 805, 806, 807, 808, 809, 810, 811, 812, 813, 814, 815, 816, 817] (by decide +kernel) (by decide +kernel)
set_option maxRecDepth 20000 in
theorem gL_law_X9_same : GoodIn wsL_law (wsV RL 79 RX9 yX9_same wsX9_same) := goodIn_app (goodIn_of _ (by decide +kernel)) ggL_law_X9_same
set_option maxRecDepth 20000 in
theorem ggL_law_X8_lasts : GoodIn wsL_law wsX8_lasts := goodIn_r _ [554, 23, 39, 298, 299, 300, 22, 301, 77, 555, 556, 557, 38, 558, 104, 105, 559, 560, 385, 354, 386, 561, 344, 345, 346, 347, 348, 349, 350, 26, 351, 86, 352, 353, 355, 562, 444, 445, 446, 447, 323, 324, 325, 75, 326, 303, 304, 305, 327, 307, 308, 309, 563, 564, 565, 566, 567, 568, 569, 570, 571, 572, 777, 778, 779, 780, 781, 782, 783, 784, 785, 786, 787, 829, 830, 831, 832, 833, 834, 846, 847, 848, 835, 836, 837, 838] (by decide +kernel) (by decide +kernel)
set_option maxRecDepth 20000 in
theorem gL_law_X8_lasts : GoodIn wsL_law (wsV RL 80 RX8 yX8_lasts wsX8_lasts) := goodIn_app (goodIn_of _ (by decide +kernel)) ggL_law_X8_lasts
set_option maxRecDepth 20000 in
theorem ggL_law_X9_lasts : GoodIn wsL_law wsX9_lasts := goodIn_r _ [576, 314, 315, 316, 5, 317, 118, 147, 148, 149, 577, 578, 579, 580, 365, 366, 367, 368, 128, 121, 369, 370, 371, 372, 373, 374, 375, 119, 376, 377, 378, 379, 581, 582, 583, 584, 332, 333, 334, 335, 116, 407, 408, 409, 410, 120, 788, 789, 790, 791, 792, 793, 794, 795, 796, 797, 798, 799, 800, 801, 802, 803, 804, 805, 806, 807, 808, 809, 810, 811, 812, 813, 814, 815, 816, 817] (by decide +kernel) (by decide +kernel)
set_option maxRecDepth 20000 in
theorem gL_law_X9_lasts : GoodIn wsL_law (wsV RL 83 RX9 yX9_lasts wsX9_lasts) := goodIn_app (goodIn_of _ (by decide +kernel)) ggL_law_X9_lasts
set_option maxRecDepth 20000 in
theorem ggL_law_X8_latest : GoodIn wsL_law wsX8_latest := goodIn_r _ [588, 39, 23, 460, 555, 556, 557, 38, 558, 104, 105, 559, 560, 385, 354, 386, 561, 344, 345, 346, 347, 348, 349, 350, 26, 351, 86, 352, 353, 355, 562, 444, 445, 22, 446, 447, 323, 324, 325, 75, 326, 303, 304, 305, 327, 307, 308, 309, 563, 564, 565, 566, 567, 568, 569, 570, 571, 572, 777, 778, 779, 780, 781, 782, 783, 784, 785, 786, 787, 829, 830, 831, 832, 833, 834, 846, 847, 848, 835, 836, 837, 838] (by decide +kernel) (by decide +kernel)
set_option maxRecDepth 20000 in
theorem gL_law_X8_latest : GoodIn wsL_law (wsV RL 84 RX8 yX8_latest wsX8_latest) := goodIn_app (goodIn_of _ (by decide +kernel)) ggL_law_X8_latest
set_option maxRecDepth 20000 in
theorem ggL_law_X9_latest : GoodIn wsL_law wsX9_latest := goodIn_r _ [592, 118, 577, 578, 579, 5, 580, 365, 366, 367, 368, 128, 121, 369, 370, 371, 372, 373, 374, 375, 119, 376, 377, 378, 379, 581, 582, 583, 584, 332, 333, 334, 335, 116, 407, 408, 409, 410, 120, 788, 789, 790, 791, 792, 793, 794, 795, 796, 797, 798, 799, 800, 801, 802, 803, 804, 805, 806, 807, 808, 809, 810, 811, 812, 813, 814, 815, 816, 817] (by decide +kernel) (by decide +kernel)
set_option maxRecDepth 20000 in
theorem gL_law_X9_latest : GoodIn wsL_law (wsV RL 87 RX9 yX9_latest wsX9_latest) := goodIn_app (goodIn_of _ (by decide +kernel)) ggL_law_X9_latest
set_option maxRecDepth 20000 in
theorem ggL_law_X8_plan : GoodIn wsL_law wsX8_plan := goodIn_r _ [596, 39, 597, 598, 599, 38, 600, 105, 348, 349, 350, 26, 351, 86, 352, 353, 354, 355, 601, 602, 603, 604, 104, 605, 568, 569, 570, 571, 572, 606, 607, 608, 609, 103, 610, 231, 232, 233, 559, 611, 612, 613, 614, 563, 323, 324, 22, 325, 75, 326, 303, 304, 305, 327, 307, 308, 309, 777, 778, 779, 780, 781, 782, 783, 784, 785, 786, 787, 846, 847, 848, 835, 836, 837, 838, 829, 830, 831, 832, 833, 834] (by decide +kernel) (by decide +kernel)
set_option maxRecDepth 20000 in
theorem gL_law_X8_plan : GoodIn wsL_law (wsV RL 88 RX8 yX8_plan wsX8_plan) := goodIn_app (goodIn_of _ (by decide +kernel)) ggL_law_X8_plan
set_option maxRecDepth 20000 in
theorem ggL_law_X9_plan : GoodIn wsL_law wsX9_plan := goodIn_r _ [618, 118, 619, 130, 131, 147, 148, 5, 149, 365, 366, 367, 368, 128, 121, 369, 370, 371, 581, 582, 583, 584, 332, 333, 334, 335, 116, 407, 408, 409, 410, 120, 376, 377, 378, 379, 788, 789, 790, 791, 792, 793, 794, 795, 796, 797, 798, 799, 800, 801, 802, 803, 804, 805, 806, 807, 808, 809, 810, 811, 812, 813, 814, 815, 816, 817] (by decide +kernel) (by decide +kernel)
set_option maxRecDepth 20000 in
theorem gL_law_X9_plan : GoodIn wsL_law (wsV RL 91 RX9 yX9_plan wsX9_plan) := goodIn_app (goodIn_of _ (by decide +kernel)) ggL_law_X9_plan
