set_option maxRecDepth 20000 in
theorem lin_wsL_law_r13 : ∀ w ∈ wsL_law_r13, w ∈ lw_tbl := fun w h => (goodIn_p wsL_law_r13 [803, 391, 395, 399, 403] (by decide +kernel) (by decide +kernel) w h).1
set_option maxRecDepth 20000 in
theorem lin_wsL_law_r14 : ∀ w ∈ wsL_law_r14, w ∈ lw_tbl := fun w h => (goodIn_p wsL_law_r14 [807, 811, 407, 411, 815, 819] (by decide +kernel) (by decide +kernel) w h).1
set_option maxRecDepth 20000 in
theorem lin_wsL_law_r15 : ∀ w ∈ wsL_law_r15, w ∈ lw_tbl := fun w h => (goodIn_p wsL_law_r15 [417, 421, 425, 428] (by decide +kernel) (by decide +kernel) w h).1
set_option maxRecDepth 20000 in
theorem lin_wsL_law_r16 : ∀ w ∈ wsL_law_r16, w ∈ lw_tbl := fun w h => (goodIn_p wsL_law_r16 [433, 823, 827, 830, 834, 838, 437] (by decide +kernel) (by decide +kernel) w h).1
set_option maxRecDepth 20000 in
theorem lin_wsL_law_r17 : ∀ w ∈ wsL_law_r17, w ∈ lw_tbl := fun w h => (goodIn_p wsL_law_r17 [449, 441, 445, 842, 846] (by decide +kernel) (by decide +kernel) w h).1
set_option maxRecDepth 20000 in
theorem lin_wsL_law_r18 : ∀ w ∈ wsL_law_r18, w ∈ lw_tbl := fun w h => (goodIn_p wsL_law_r18 [850, 454, 854, 458, 858, 462] (by decide +kernel) (by decide +kernel) w h).1
set_option maxRecDepth 20000 in
theorem lin_wsL_law_r19 : ∀ w ∈ wsL_law_r19, w ∈ lw_tbl := fun w h => (goodIn_p wsL_law_r19 [466, 862, 470, 474, 866, 870] (by decide +kernel) (by decide +kernel) w h).1
set_option maxRecDepth 20000 in
theorem lin_wsL_law_r20 : ∀ w ∈ wsL_law_r20, w ∈ lw_tbl := fun w h => (goodIn_p wsL_law_r20 [479, 874, 878, 483, 487] (by decide +kernel) (by decide +kernel) w h).1
set_option maxRecDepth 20000 in
theorem lin_wsL_law_r21 : ∀ w ∈ wsL_law_r21, w ∈ lw_tbl := fun w h => (goodIn_p wsL_law_r21 [491, 882, 495, 499, 503, 507] (by decide +kernel) (by decide +kernel) w h).1
set_option maxRecDepth 20000 in
theorem lin_wsL_law_r22 : ∀ w ∈ wsL_law_r22, w ∈ lw_tbl := fun w h => (goodIn_p wsL_law_r22 [886, 890, 893, 511, 515] (by decide +kernel) (by decide +kernel) w h).1
set_option maxRecDepth 20000 in
theorem lin_wsL_law_r23 : ∀ w ∈ wsL_law_r23, w ∈ lw_tbl := fun w h => (goodIn_p wsL_law_r23 [521, 897, 901, 905, 526, 909] (by decide +kernel) (by decide +kernel) w h).1
set_option maxRecDepth 20000 in
theorem lin_wsL_law_r24 : ∀ w ∈ wsL_law_r24, w ∈ lw_tbl := fun w h => (goodIn_p wsL_law_r24 [530, 534, 541, 544] (by decide +kernel) (by decide +kernel) w h).1
