set_option maxRecDepth 20000 in
theorem lin_wsL_law_r25 : ∀ w ∈ wsL_law_r25, w ∈ lw_tbl := fun w h => (goodIn_p wsL_law_r25 [914, 918, 922, 550, 926, 554] (by decide +kernel) (by decide +kernel) w h).1
set_option maxRecDepth 20000 in
theorem lin_wsL_law_r26 : ∀ w ∈ wsL_law_r26, w ∈ lw_tbl := fun w h => (goodIn_p wsL_law_r26 [558, 562, 566, 571, 930] (by decide +kernel) (by decide +kernel) w h).1
set_option maxRecDepth 20000 in
theorem lin_wsL_law_r27 : ∀ w ∈ wsL_law_r27, w ∈ lw_tbl := fun w h => (goodIn_p wsL_law_r27 [575, 935, 580, 584, 939, 588] (by decide +kernel) (by decide +kernel) w h).1
set_option maxRecDepth 20000 in
theorem lin_wsL_law_r28 : ∀ w ∈ wsL_law_r28, w ∈ lw_tbl := fun w h => (goodIn_p wsL_law_r28 [943, 592, 596, 600, 947, 604] (by decide +kernel) (by decide +kernel) w h).1
set_option maxRecDepth 20000 in
theorem lin_wsL_law_r29 : ∀ w ∈ wsL_law_r29, w ∈ lw_tbl := fun w h => (goodIn_p wsL_law_r29 [608, 611, 614, 951, 618, 623] (by decide +kernel) (by decide +kernel) w h).1
set_option maxRecDepth 20000 in
theorem lin_wsL_law_r30 : ∀ w ∈ wsL_law_r30, w ∈ lw_tbl := fun w h => (goodIn_p wsL_law_r30 [627, 632, 637, 642, 647] (by decide +kernel) (by decide +kernel) w h).1
set_option maxRecDepth 20000 in
theorem lin_wsL_law_r31 : ∀ w ∈ wsL_law_r31, w ∈ lw_tbl := fun w h => (goodIn_p wsL_law_r31 [955, 960, 964, 969] (by decide +kernel) (by decide +kernel) w h).1
set_option maxRecDepth 20000 in
theorem lin_wsL_law_r32 : ∀ w ∈ wsL_law_r32, w ∈ lw_tbl := fun w h => (goodIn_p wsL_law_r32 [652, 977, 657, 981, 661] (by decide +kernel) (by decide +kernel) w h).1
set_option maxRecDepth 20000 in
theorem lin_wsL_law_r33 : ∀ w ∈ wsL_law_r33, w ∈ lw_tbl := fun w h => (goodIn_p wsL_law_r33 [985, 665, 989] (by decide +kernel) (by decide +kernel) w h).1
set_option maxRecDepth 20000 in
theorem lin_wsX80 : ∀ w ∈ wsX80, w ∈ lw_tbl := fun w h => (goodIn_p wsX80 [] (by decide +kernel) (by decide +kernel) w h).1
set_option maxRecDepth 20000 in
theorem lin_wsX90 : ∀ w ∈ wsX90, w ∈ lw_tbl := fun w h => (goodIn_p wsX90 [] (by decide +kernel) (by decide +kernel) w h).1
set_option maxRecDepth 20000 in
theorem lin_wsX60 : ∀ w ∈ wsX60, w ∈ lw_tbl := fun w h => (goodIn_p wsX60 [] (by decide +kernel) (by decide +kernel) w h).1
