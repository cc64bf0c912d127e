set_option maxRecDepth 20000 in
theorem ggL_law_X8_most : GoodIn wsL_law wsX8_most := goodIn_r _ [623, 39, 23, 624, 343, 344, 345, 38, 346, 105, 104, 347, 348, 349, 350, 26, 351, 86, 352, 353, 354, 355, 625, 602, 603, 604, 605, 568, 569, 570, 571, 572, 777, 778, 779, 780, 781, 782, 783, 784, 785, 786, 787, 829, 830, 831, 832, 833, 834, 846, 847, 848, 835, 836, 837, 838] (by decide +kernel) (by decide +kernel)
set_option maxRecDepth 20000 in
theorem gL_law_X8_most : GoodIn wsL_law (wsV RL 92 RX8 yX8_most wsX8_most) := goodIn_app (goodIn_of _ (by decide +kernel)) ggL_law_X8_most
set_option maxRecDepth 20000 in
theorem ggL_law_X9_most : GoodIn wsL_law wsX9_most := goodIn_r _ [629, 118, 119, 121, 120, 365, 366, 367, 5, 368, 128, 369, 370, 371, 372, 373, 374, 375, 376, 377, 378, 379, 788, 789, 790, 791, 792, 793, 794, 795, 796, 797, 798, 799, 800, 801, 802, 803, 804, 805, 806, 807, 808, 809, 810, 811, 812, 813, 814, 815, 816, 817] (by decide +kernel) (by decide +kernel)
set_option maxRecDepth 20000 in
theorem gL_law_X9_most : GoodIn wsL_law (wsV RL 95 RX9 yX9_most wsX9_most) := goodIn_app (goodIn_of _ (by decide +kernel)) ggL_law_X9_most
set_option maxRecDepth 20000 in
theorem ggL_law_X8_hollows : GoodIn wsL_law wsX8_hollows := goodIn_r _ [633, 23, 43, 240, 298, 299, 300, 22, 301, 77, 634, 635, 636, 42, 637, 638, 109, 110, 111, 777, 778, 779, 780, 781, 782, 783, 784, 785, 786, 787, 849, 850, 851, 852, 829, 830, 831, 832, 833, 834] (by decide +kernel) (by decide +kernel)
set_option maxRecDepth 20000 in
theorem gL_law_X8_hollows : GoodIn wsL_law (wsV RL 96 RX8 yX8_hollows wsX8_hollows) := goodIn_app (goodIn_of _ (by decide +kernel)) ggL_law_X8_hollows
set_option maxRecDepth 20000 in
theorem ggL_law_X9_hollows : GoodIn wsL_law wsX9_hollows := goodIn_r _ [642, 291, 125, 147, 148, 5, 149, 314, 315, 316, 317, 118, 788, 789, 790, 791, 792, 793, 794, 795, 796, 797, 798, 799, 800, 801, 802, 803, 804, 805, 806, 807, 808, 809, 810, 811, 812, 813, 814, 815, 816, 817] (by decide +kernel) (by decide +kernel)
set_option maxRecDepth 20000 in
theorem gL_law_X9_hollows : GoodIn wsL_law (wsV RL 100 RX9 yX9_hollows wsX9_hollows) := goodIn_app (goodIn_of _ (by decide +kernel)) ggL_law_X9_hollows
set_option maxRecDepth 20000 in
theorem ggL_law_X8_forget : GoodIn wsL_law wsX8_forget := goodIn_r _ [646, 43, 240, 777, 778, 779, 780, 781, 782, 783, 784, 785, 786, 787, 849, 850, 851, 852] (by decide +kernel) (by decide +kernel)
set_option maxRecDepth 20000 in
theorem gL_law_X8_forget : GoodIn wsL_law (wsV RL 101 RX8 yX8_forget wsX8_forget) := goodIn_app (goodIn_of _ (by decide +kernel)) ggL_law_X8_forget
set_option maxRecDepth 20000 in
theorem ggL_law_X9_forget : GoodIn wsL_law wsX9_forget := goodIn_r _ [650, 291, 788, 789, 790, 791, 792, 793, 794, 795, 796, 797, 798, 799, 800, 801, 802, 803, 804, 805, 806, 807, 808, 809, 810, 811, 812, 813, 814, 815, 816, 817] (by decide +kernel) (by decide +kernel)
set_option maxRecDepth 20000 in
theorem gL_law_X9_forget : GoodIn wsL_law (wsV RL 104 RX9 yX9_forget wsX9_forget) := goodIn_app (goodIn_of _ (by decide +kernel)) ggL_law_X9_forget
set_option maxRecDepth 20000 in
theorem ggL_law_X8_which : GoodIn wsL_law wsX8_which := goodIn_r _ [654, 23, 460, 43, 39, 655, 656, 657, 42, 658, 638, 109, 110, 111, 659, 660, 661, 38, 662, 104, 105, 559, 568, 569, 560, 385, 354, 386, 562, 444, 445, 22, 446, 447, 323, 324, 325, 75, 326, 303, 304, 305, 327, 307, 308, 309, 563, 570, 571, 572, 777, 778, 779, 780, 781, 782, 783, 784, 785, 786, 787, 829, 830, 831, 832, 833, 834, 849, 850, 851, 852, 846, 847, 848, 835, 836, 837, 838] (by decide +kernel) (by decide +kernel)
set_option maxRecDepth 20000 in
theorem gL_law_X8_which : GoodIn wsL_law (wsV RL 105 RX8 yX8_which wsX8_which) := goodIn_app (goodIn_of _ (by decide +kernel)) ggL_law_X8_which
set_option maxRecDepth 20000 in
theorem ggL_law_X9_which : GoodIn wsL_law wsX9_which := goodIn_r _ [666, 118, 291, 125, 128, 365, 366, 367, 5, 368, 121, 369, 370, 371, 581, 582, 583, 584, 332, 333, 334, 335, 116, 407, 408, 409, 410, 120, 788, 789, 790, 791, 792, 793, 794, 795, 796, 797, 798, 799, 800, 801, 802, 803, 804, 805, 806, 807, 808, 809, 810, 811, 812, 813, 814, 815, 816, 817] (by decide +kernel) (by decide +kernel)
set_option maxRecDepth 20000 in
theorem gL_law_X9_which : GoodIn wsL_law (wsV RL 108 RX9 yX9_which wsX9_which) := goodIn_app (goodIn_of _ (by decide +kernel)) ggL_law_X9_which
set_option maxRecDepth 20000 in
theorem ggL_law_X8_odds : GoodIn wsL_law wsX8_odds := goodIn_r _ [670, 23, 298, 299, 300, 22, 301, 77, 671, 672, 673, 2, 674, 27, 341, 675, 676, 677, 322, 323, 324, 325, 75, 326, 303, 304, 305, 327, 307, 308, 309, 678, 679, 680, 777, 778, 779, 780, 781, 782, 783, 784, 785, 786, 787, 829, 830, 831, 832, 833, 834, 835, 836, 837, 838] (by decide +kernel) (by decide +kernel)
set_option maxRecDepth 20000 in
theorem gL_law_X8_odds : GoodIn wsL_law (wsV RL 109 RX8 yX8_odds wsX8_odds) := goodIn_app (goodIn_of _ (by decide +kernel)) ggL_law_X8_odds
set_option maxRecDepth 20000 in
theorem ggL_law_X9_odds : GoodIn wsL_law wsX9_odds := goodIn_r _ [684, 121, 314, 315, 316, 5, 317, 118, 147, 148, 149, 509, 510, 511, 332, 333, 334, 335, 116, 788, 789, 790, 791, 792, 793, 794, 795, 796, 797, 798, 799, 800, 801, 802, 803, 804, 805, 806, 807, 808, 809, 810, 811, 812, 813, 814, 815, 816, 817] (by decide +kernel) (by decide +kernel)
set_option maxRecDepth 20000 in
theorem gL_law_X9_odds : GoodIn wsL_law (wsV RL 113 RX9 yX9_odds wsX9_odds) := goodIn_app (goodIn_of _ (by decide +kernel)) ggL_law_X9_odds
set_option maxRecDepth 20000 in
theorem ggL_law_X8_rate : GoodIn wsL_law wsX8_rate := goodIn_r _ [688, 23, 689, 298, 299, 300, 22, 301, 77, 690, 691, 692, 2, 693, 47, 27, 297, 694, 695, 696, 697, 698, 296, 699, 700, 701, 702, 703, 443, 444, 445, 446, 447, 323, 324, 325, 75, 326, 303, 304, 305, 327, 307, 308, 309, 704, 705, 706, 707, 708, 709, 710, 711, 712, 713, 714, 715, 716, 717, 718, 340, 777, 778, 779, 780, 781, 782, 783, 784, 785, 786, 787, 829, 830, 831, 832, 833, 834, 835, 836, 837, 838] (by decide +kernel) (by decide +kernel)
set_option maxRecDepth 20000 in
theorem gL_law_X8_rate : GoodIn wsL_law (wsV RL 114 RX8 yX8_rate wsX8_rate) := goodIn_app (goodIn_of _ (by decide +kernel)) ggL_law_X8_rate
set_option maxRecDepth 20000 in
theorem ggL_law_X9_rate : GoodIn wsL_law wsX9_rate := goodIn_r _ [722, 723, 724, 725, 726, 727, 121, 147, 148, 5, 149, 314, 315, 316, 317, 118, 728, 729, 730, 731, 732, 733, 734, 735, 736, 120, 737, 738, 739, 740, 741, 452, 453, 454, 455, 332, 333, 334, 335, 116, 788, 789, 790, 791, 792, 793, 794, 795, 796, 797, 798, 799, 800, 801, 802, 803, 804, 805, 806, 807, 808, 809, 810, 811, 812, 813, 814, 815, 816, 817] (by decide +kernel) (by decide +kernel)
set_option maxRecDepth 20000 in
theorem gL_law_X9_rate : GoodIn wsL_law (wsV RL 117 RX9 yX9_rate wsX9_rate) := goodIn_app (goodIn_of _ (by decide +kernel)) ggL_law_X9_rate
set_option maxRecDepth 20000 in
theorem ggL_law_X8_keep : GoodIn wsL_law wsX8_keep := goodIn_r _ [745, 44, 27, 46, 340, 746, 395, 396, 26, 397, 245, 246, 247, 86, 398, 231, 232, 233, 777, 778, 779, 780, 781, 782, 783, 784, 785, 786, 787, 835, 836, 837, 838] (by decide +kernel) (by decide +kernel)
set_option maxRecDepth 20000 in
theorem gL_law_X8_keep : GoodIn wsL_law (wsV RL 118 RX8 yX8_keep wsX8_keep) := goodIn_app (goodIn_of _ (by decide +kernel)) ggL_law_X8_keep
set_option maxRecDepth 20000 in
theorem ggL_law_X9_keep : GoodIn wsL_law wsX9_keep := goodIn_r _ [750, 123, 121, 124, 147, 148, 5, 149, 369, 370, 371, 788, 789, 790, 791, 792, 793, 794, 795, 796, 797, 798, 799, 800, 801, 802, 803, 804, 805, 806, 807, 808, 809, 810, 811, 812, 813, 814, 815, 816, 817] (by decide +kernel) (by decide +kernel)
set_option maxRecDepth 20000 in
theorem gL_law_X9_keep : GoodIn wsL_law (wsV RL 121 RX9 yX9_keep wsX9_keep) := goodIn_app (goodIn_of _ (by decide +kernel)) ggL_law_X9_keep
set_option maxRecDepth 20000 in
theorem ggL_law_X8_back : GoodIn wsL_law wsX8_back := goodIn_r _ [754, 46, 27, 44, 31, 239, 340, 746, 395, 396, 26, 397, 245, 246, 247, 86, 398, 231, 232, 233, 777, 778, 779, 780, 781, 782, 783, 784, 785, 786, 787, 839, 840, 841, 835, 836, 837, 838] (by decide +kernel) (by decide +kernel)
set_option maxRecDepth 20000 in
theorem gL_law_X8_back : GoodIn wsL_law (wsV RL 122 RX8 yX8_back wsX8_back) := goodIn_app (goodIn_of _ (by decide +kernel)) ggL_law_X8_back
set_option maxRecDepth 20000 in
theorem ggL_law_X9_back : GoodIn wsL_law wsX9_back := goodIn_r _ [758, 124, 121, 123, 290, 147, 148, 5, 149, 369, 370, 371, 788, 789, 790, 791, 792, 793, 794, 795, 796, 797, 798, 799, 800, 801, 802, 803, 804, 805, 806, 807, 808, 809, 810, 811, 812, 813, 814, 815, 816, 817] (by decide +kernel) (by decide +kernel)
set_option maxRecDepth 20000 in
theorem gL_law_X9_back : GoodIn wsL_law (wsV RL 125 RX9 yX9_back wsX9_back) := goodIn_app (goodIn_of _ (by decide +kernel)) ggL_law_X9_back
set_option maxRecDepth 20000 in
theorem ggL_law_X8_count : GoodIn wsL_law wsX8_count := goodIn_r _ [762, 23, 763, 764, 460, 624, 43, 240, 15, 136, 777, 778, 779, 780, 781, 782, 783, 784, 785, 786, 787, 829, 830, 831, 832, 833, 834, 849, 850, 851, 852, 818, 819] (by decide +kernel) (by decide +kernel)
set_option maxRecDepth 20000 in
theorem gL_law_X8_count : GoodIn wsL_law (wsV RL 126 RX8 yX8_count wsX8_count) := goodIn_app (goodIn_of _ (by decide +kernel)) ggL_law_X8_count
set_option maxRecDepth 20000 in
theorem ggL_law_X9_count : GoodIn wsL_law wsX9_count := goodIn_r _ [768, 116, 117, 118, 119, 291, 146, 788, 789, 790, 791, 792, 793, 794, 795, 796, 797, 798, 799, 800, 801, 802, 803, 804, 805, 806, 807, 808, 809, 810, 811, 812, 813, 814, 815, 816, 817] (by decide +kernel) (by decide +kernel)
set_option maxRecDepth 20000 in
theorem gL_law_X9_count : GoodIn wsL_law (wsV RL 129 RX9 yX9_count wsX9_count) := goodIn_app (goodIn_of _ (by decide +kernel)) ggL_law_X9_count
set_option maxRecDepth 20000 in
theorem ggL_law_X8_trace : GoodIn wsL_law wsX8_trace := goodIn_r _ [772, 47, 777, 778, 779, 780, 781, 782, 783, 784, 785, 786, 787] (by decide +kernel) (by decide +kernel)
set_option maxRecDepth 20000 in
theorem gL_law_X8_trace : GoodIn wsL_law (wsV RL 130 RX8 yX8_trace wsX8_trace) := goodIn_app (goodIn_of _ (by decide +kernel)) ggL_law_X8_trace
set_option maxRecDepth 20000 in
theorem ggL_law_X9_trace : GoodIn wsL_law wsX9_trace := goodIn_r _ [776, 724, 788, 789, 790, 791, 792, 793, 794, 795, 796, 797, 798, 799, 800, 801, 802, 803, 804, 805, 806, 807, 808, 809, 810, 811, 812, 813, 814, 815, 816, 817] (by decide +kernel) (by decide +kernel)
set_option maxRecDepth 20000 in
theorem gL_law_X9_trace : GoodIn wsL_law (wsV RL 134 RX9 yX9_trace wsX9_trace) := goodIn_app (goodIn_of _ (by decide +kernel)) ggL_law_X9_trace
