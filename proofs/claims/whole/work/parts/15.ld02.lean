set_option maxRecDepth 20000 in
theorem ggL_law_X8_most : GoodIn wsL_law wsX8_most := goodIn_r _ [624, 39, 23, 625, 347, 348, 349, 38, 350, 105, 104, 351, 352, 353, 354, 26, 355, 86, 356, 357, 195, 358, 626, 603, 604, 605, 606, 569, 570, 571, 572, 573, 778, 779, 780, 781, 782, 783, 784, 785, 786, 787, 788, 830, 831, 832, 833, 834, 835, 847, 848, 849, 836, 837, 838, 839] (by decide +kernel) (by decide +kernel)
set_option maxRecDepth 20000 in
theorem gL_law_X8_most : GoodIn wsL_law (wsV RL 92 RX8 yX8_most wsX8_most) := goodIn_app (goodIn_of _ (by decide +kernel)) ggL_law_X8_most
set_option maxRecDepth 20000 in
theorem ggL_law_X9_most : GoodIn wsL_law wsX9_most := goodIn_r _ [630, 118, 119, 121, 120, 368, 369, 370, 5, 371, 128, 372, 373, 374, 375, 376, 377, 378, 379, 380, 381, 382, 789, 790, 791, 792, 793, 794, 795, 796, 797, 798, 799, 800, 801, 802, 803, 804, 805, 806, 807, 808, 809, 810, 811, 812, 813, 814, 815, 816, 817, 818] (by decide +kernel) (by decide +kernel)
set_option maxRecDepth 20000 in
theorem gL_law_X9_most : GoodIn wsL_law (wsV RL 95 RX9 yX9_most wsX9_most) := goodIn_app (goodIn_of _ (by decide +kernel)) ggL_law_X9_most
set_option maxRecDepth 20000 in
theorem ggL_law_X8_hollows : GoodIn wsL_law wsX8_hollows := goodIn_r _ [634, 23, 43, 244, 302, 303, 304, 22, 305, 77, 635, 636, 637, 42, 638, 639, 109, 110, 111, 778, 779, 780, 781, 782, 783, 784, 785, 786, 787, 788, 850, 851, 852, 853, 830, 831, 832, 833, 834, 835] (by decide +kernel) (by decide +kernel)
set_option maxRecDepth 20000 in
theorem gL_law_X8_hollows : GoodIn wsL_law (wsV RL 96 RX8 yX8_hollows wsX8_hollows) := goodIn_app (goodIn_of _ (by decide +kernel)) ggL_law_X8_hollows
set_option maxRecDepth 20000 in
theorem ggL_law_X9_hollows : GoodIn wsL_law wsX9_hollows := goodIn_r _ [643, 295, 125, 147, 148, 5, 149, 318, 319, 320, 321, 118, 789, 790, 791, 792, 793, 794, 795, 796, 797, 798, 799, 800, 801, 802, 803, 804, 805, 806, 807, 808, 809, 810, 811, 812, 813, 814, 815, 816, 817, 818] (by decide +kernel) (by decide +kernel)
set_option maxRecDepth 20000 in
theorem gL_law_X9_hollows : GoodIn wsL_law (wsV RL 100 RX9 yX9_hollows wsX9_hollows) := goodIn_app (goodIn_of _ (by decide +kernel)) ggL_law_X9_hollows
set_option maxRecDepth 20000 in
theorem ggL_law_X8_forget : GoodIn wsL_law wsX8_forget := goodIn_r _ [647, 43, 244, 778, 779, 780, 781, 782, 783, 784, 785, 786, 787, 788, 850, 851, 852, 853] (by decide +kernel) (by decide +kernel)
set_option maxRecDepth 20000 in
theorem gL_law_X8_forget : GoodIn wsL_law (wsV RL 101 RX8 yX8_forget wsX8_forget) := goodIn_app (goodIn_of _ (by decide +kernel)) ggL_law_X8_forget
set_option maxRecDepth 20000 in
theorem ggL_law_X9_forget : GoodIn wsL_law wsX9_forget := goodIn_r _ [651, 295, 789, 790, 791, 792, 793, 794, 795, 796, 797, 798, 799, 800, 801, 802, 803, 804, 805, 806, 807, 808, 809, 810, 811, 812, 813, 814, 815, 816, 817, 818] (by decide +kernel) (by decide +kernel)
set_option maxRecDepth 20000 in
theorem gL_law_X9_forget : GoodIn wsL_law (wsV RL 104 RX9 yX9_forget wsX9_forget) := goodIn_app (goodIn_of _ (by decide +kernel)) ggL_law_X9_forget
set_option maxRecDepth 20000 in
theorem ggL_law_X8_which : GoodIn wsL_law wsX8_which := goodIn_r _ [655, 23, 461, 43, 39, 656, 657, 658, 42, 659, 639, 109, 110, 111, 660, 661, 662, 38, 663, 104, 105, 560, 569, 570, 561, 194, 195, 196, 563, 445, 446, 22, 447, 448, 327, 328, 329, 75, 330, 307, 308, 309, 331, 311, 312, 313, 564, 571, 572, 573, 778, 779, 780, 781, 782, 783, 784, 785, 786, 787, 788, 830, 831, 832, 833, 834, 835, 850, 851, 852, 853, 847, 848, 849, 836, 837, 838, 839] (by decide +kernel) (by decide +kernel)
set_option maxRecDepth 20000 in
theorem gL_law_X8_which : GoodIn wsL_law (wsV RL 105 RX8 yX8_which wsX8_which) := goodIn_app (goodIn_of _ (by decide +kernel)) ggL_law_X8_which
set_option maxRecDepth 20000 in
theorem ggL_law_X9_which : GoodIn wsL_law wsX9_which := goodIn_r _ [667, 118, 295, 125, 128, 368, 369, 370, 5, 371, 121, 372, 373, 374, 582, 583, 584, 585, 336, 337, 338, 339, 116, 408, 409, 410, 411, 120, 789, 790, 791, 792, 793, 794, 795, 796, 797, 798, 799, 800, 801, 802, 803, 804, 805, 806, 807, 808, 809, 810, 811, 812, 813, 814, 815, 816, 817, 818] (by decide +kernel) (by decide +kernel)
set_option maxRecDepth 20000 in
theorem gL_law_X9_which : GoodIn wsL_law (wsV RL 108 RX9 yX9_which wsX9_which) := goodIn_app (goodIn_of _ (by decide +kernel)) ggL_law_X9_which
set_option maxRecDepth 20000 in
theorem ggL_law_X8_odds : GoodIn wsL_law wsX8_odds := goodIn_r _ [671, 23, 302, 303, 304, 22, 305, 77, 672, 673, 674, 2, 675, 27, 345, 676, 677, 678, 326, 327, 328, 329, 75, 330, 307, 308, 309, 331, 311, 312, 313, 679, 680, 681, 778, 779, 780, 781, 782, 783, 784, 785, 786, 787, 788, 830, 831, 832, 833, 834, 835, 836, 837, 838, 839] (by decide +kernel) (by decide +kernel)
set_option maxRecDepth 20000 in
theorem gL_law_X8_odds : GoodIn wsL_law (wsV RL 109 RX8 yX8_odds wsX8_odds) := goodIn_app (goodIn_of _ (by decide +kernel)) ggL_law_X8_odds
set_option maxRecDepth 20000 in
theorem ggL_law_X9_odds : GoodIn wsL_law wsX9_odds := goodIn_r _ [685, 121, 318, 319, 320, 5, 321, 118, 147, 148, 149, 510, 511, 512, 336, 337, 338, 339, 116, 789, 790, 791, 792, 793, 794, 795, 796, 797, 798, 799, 800, 801, 802, 803, 804, 805, 806, 807, 808, 809, 810, 811, 812, 813, 814, 815, 816, 817, 818] (by decide +kernel) (by decide +kernel)
set_option maxRecDepth 20000 in
theorem gL_law_X9_odds : GoodIn wsL_law (wsV RL 113 RX9 yX9_odds wsX9_odds) := goodIn_app (goodIn_of _ (by decide +kernel)) ggL_law_X9_odds
set_option maxRecDepth 20000 in
theorem ggL_law_X8_rate : GoodIn wsL_law wsX8_rate := goodIn_r _ [689, 23, 690, 302, 303, 304, 22, 305, 77, 691, 692, 693, 2, 694, 47, 27, 301, 695, 696, 697, 698, 699, 300, 700, 701, 702, 703, 704, 444, 445, 446, 447, 448, 327, 328, 329, 75, 330, 307, 308, 309, 331, 311, 312, 313, 705, 706, 707, 708, 709, 710, 711, 712, 713, 714, 715, 716, 717, 718, 719, 344, 778, 779, 780, 781, 782, 783, 784, 785, 786, 787, 788, 830, 831, 832, 833, 834, 835, 836, 837, 838, 839] (by decide +kernel) (by decide +kernel)
set_option maxRecDepth 20000 in
theorem gL_law_X8_rate : GoodIn wsL_law (wsV RL 114 RX8 yX8_rate wsX8_rate) := goodIn_app (goodIn_of _ (by decide +kernel)) ggL_law_X8_rate
set_option maxRecDepth 20000 in
theorem ggL_law_X9_rate : GoodIn wsL_law wsX9_rate := goodIn_r _ [723, 724, 725, 726, 727, 728, 121, 147, 148, 5, 149, 318, 319, 320, 321, 118, 729, 730, 731, 732, 733, 734, 735, 736, 737, 120, 738, 739, 740, 741, 742, 453, 454, 455, 456, 336, 337, 338, 339, 116, 789, 790, 791, 792, 793, 794, 795, 796, 797, 798, 799, 800, 801, 802, 803, 804, 805, 806, 807, 808, 809, 810, 811, 812, 813, 814, 815, 816, 817, 818] (by decide +kernel) (by decide +kernel)
set_option maxRecDepth 20000 in
theorem gL_law_X9_rate : GoodIn wsL_law (wsV RL 117 RX9 yX9_rate wsX9_rate) := goodIn_app (goodIn_of _ (by decide +kernel)) ggL_law_X9_rate
set_option maxRecDepth 20000 in
theorem ggL_law_X8_keep : GoodIn wsL_law wsX8_keep := goodIn_r _ [746, 44, 27, 46, 344, 747, 396, 397, 26, 398, 249, 250, 251, 86, 399, 235, 236, 237, 778, 779, 780, 781, 782, 783, 784, 785, 786, 787, 788, 836, 837, 838, 839] (by decide +kernel) (by decide +kernel)
set_option maxRecDepth 20000 in
theorem gL_law_X8_keep : GoodIn wsL_law (wsV RL 118 RX8 yX8_keep wsX8_keep) := goodIn_app (goodIn_of _ (by decide +kernel)) ggL_law_X8_keep
set_option maxRecDepth 20000 in
theorem ggL_law_X9_keep : GoodIn wsL_law wsX9_keep := goodIn_r _ [751, 123, 121, 124, 147, 148, 5, 149, 372, 373, 374, 789, 790, 791, 792, 793, 794, 795, 796, 797, 798, 799, 800, 801, 802, 803, 804, 805, 806, 807, 808, 809, 810, 811, 812, 813, 814, 815, 816, 817, 818] (by decide +kernel) (by decide +kernel)
set_option maxRecDepth 20000 in
theorem gL_law_X9_keep : GoodIn wsL_law (wsV RL 121 RX9 yX9_keep wsX9_keep) := goodIn_app (goodIn_of _ (by decide +kernel)) ggL_law_X9_keep
set_option maxRecDepth 20000 in
theorem ggL_law_X8_back : GoodIn wsL_law wsX8_back := goodIn_r _ [755, 46, 27, 44, 31, 243, 344, 747, 396, 397, 26, 398, 249, 250, 251, 86, 399, 235, 236, 237, 778, 779, 780, 781, 782, 783, 784, 785, 786, 787, 788, 840, 841, 842, 836, 837, 838, 839] (by decide +kernel) (by decide +kernel)
set_option maxRecDepth 20000 in
theorem gL_law_X8_back : GoodIn wsL_law (wsV RL 122 RX8 yX8_back wsX8_back) := goodIn_app (goodIn_of _ (by decide +kernel)) ggL_law_X8_back
set_option maxRecDepth 20000 in
theorem ggL_law_X9_back : GoodIn wsL_law wsX9_back := goodIn_r _ [759, 124, 121, 123, 294, 147, 148, 5, 149, 372, 373, 374, 789, 790, 791, 792, 793, 794, 795, 796, 797, 798, 799, 800, 801, 802, 803, 804, 805, 806, 807, 808, 809, 810, 811, 812, 813, 814, 815, 816, 817, 818] (by decide +kernel) (by decide +kernel)
set_option maxRecDepth 20000 in
theorem gL_law_X9_back : GoodIn wsL_law (wsV RL 125 RX9 yX9_back wsX9_back) := goodIn_app (goodIn_of _ (by decide +kernel)) ggL_law_X9_back
set_option maxRecDepth 20000 in
theorem ggL_law_X8_count : GoodIn wsL_law wsX8_count := goodIn_r _ [763, 23, 764, 765, 461, 625, 43, 244, 15, 136, 778, 779, 780, 781, 782, 783, 784, 785, 786, 787, 788, 830, 831, 832, 833, 834, 835, 850, 851, 852, 853, 819, 820] (by decide +kernel) (by decide +kernel)
set_option maxRecDepth 20000 in
theorem gL_law_X8_count : GoodIn wsL_law (wsV RL 126 RX8 yX8_count wsX8_count) := goodIn_app (goodIn_of _ (by decide +kernel)) ggL_law_X8_count
set_option maxRecDepth 20000 in
theorem ggL_law_X9_count : GoodIn wsL_law wsX9_count := goodIn_r _ [769, 116, 117, 118, 119, 295, 146, 789, 790, 791, 792, 793, 794, 795, 796, 797, 798, 799, 800, 801, 802, 803, 804, 805, 806, 807, 808, 809, 810, 811, 812, 813, 814, 815, 816, 817, 818] (by decide +kernel) (by decide +kernel)
set_option maxRecDepth 20000 in
theorem gL_law_X9_count : GoodIn wsL_law (wsV RL 129 RX9 yX9_count wsX9_count) := goodIn_app (goodIn_of _ (by decide +kernel)) ggL_law_X9_count
set_option maxRecDepth 20000 in
theorem ggL_law_X8_trace : GoodIn wsL_law wsX8_trace := goodIn_r _ [773, 47, 778, 779, 780, 781, 782, 783, 784, 785, 786, 787, 788] (by decide +kernel) (by decide +kernel)
set_option maxRecDepth 20000 in
theorem gL_law_X8_trace : GoodIn wsL_law (wsV RL 130 RX8 yX8_trace wsX8_trace) := goodIn_app (goodIn_of _ (by decide +kernel)) ggL_law_X8_trace
set_option maxRecDepth 20000 in
theorem ggL_law_X9_trace : GoodIn wsL_law wsX9_trace := goodIn_r _ [777, 725, 789, 790, 791, 792, 793, 794, 795, 796, 797, 798, 799, 800, 801, 802, 803, 804, 805, 806, 807, 808, 809, 810, 811, 812, 813, 814, 815, 816, 817, 818] (by decide +kernel) (by decide +kernel)
set_option maxRecDepth 20000 in
theorem gL_law_X9_trace : GoodIn wsL_law (wsV RL 134 RX9 yX9_trace wsX9_trace) := goodIn_app (goodIn_of _ (by decide +kernel)) ggL_law_X9_trace
