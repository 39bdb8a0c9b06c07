theorem wsL_law_r14_in : ∀ w ∈ wsL_law_r14, w ∈ lw_tbl := fun w h => (goodIn_p wsL_law_r14 [491, 1027, 1031, 1035, 1038] (by decide +kernel) (by decide +kernel) w h).1
theorem wsL_law_r15_in : ∀ w ∈ wsL_law_r15, w ∈ lw_tbl := fun w h => (goodIn_p wsL_law_r15 [1042, 1046, 1050, 1054, 1058, 1062] (by decide +kernel) (by decide +kernel) w h).1
theorem wsL_law_r16_in : ∀ w ∈ wsL_law_r16, w ∈ lw_tbl := fun w h => (goodIn_p wsL_law_r16 [1066, 1070, 496, 499, 505, 508] (by decide +kernel) (by decide +kernel) w h).1
theorem wsL_law_r17_in : ∀ w ∈ wsL_law_r17, w ∈ lw_tbl := fun w h => (goodIn_p wsL_law_r17 [1074, 1077, 1081, 512, 516] (by decide +kernel) (by decide +kernel) w h).1
theorem wsL_law_r18_in : ∀ w ∈ wsL_law_r18, w ∈ lw_tbl := fun w h => (goodIn_p wsL_law_r18 [1085, 520, 524, 528, 533, 538] (by decide +kernel) (by decide +kernel) w h).1
theorem wsL_law_r19_in : ∀ w ∈ wsL_law_r19, w ∈ lw_tbl := fun w h => (goodIn_p wsL_law_r19 [543, 548, 1089, 1097] (by decide +kernel) (by decide +kernel) w h).1
theorem wsL_law_r20_in : ∀ w ∈ wsL_law_r20, w ∈ lw_tbl := fun w h => (goodIn_p wsL_law_r20 [552, 1101, 556, 560, 564, 568] (by decide +kernel) (by decide +kernel) w h).1
theorem wsL_law_r21_in : ∀ w ∈ wsL_law_r21, w ∈ lw_tbl := fun w h => (goodIn_p wsL_law_r21 [572, 576, 580, 584, 589, 596] (by decide +kernel) (by decide +kernel) w h).1
theorem wsL_law_r22_in : ∀ w ∈ wsL_law_r22, w ∈ lw_tbl := fun w h => (goodIn_p wsL_law_r22 [600, 604, 1105, 1109, 1113, 1116] (by decide +kernel) (by decide +kernel) w h).1
theorem wsL_law_r23_in : ∀ w ∈ wsL_law_r23, w ∈ lw_tbl := fun w h => (goodIn_p wsL_law_r23 [1120, 1124, 1128, 609, 613, 1132] (by decide +kernel) (by decide +kernel) w h).1
theorem wsL_law_r24_in : ∀ w ∈ wsL_law_r24, w ∈ lw_tbl := fun w h => (goodIn_p wsL_law_r24 [617, 621, 1136, 1140, 625] (by decide +kernel) (by decide +kernel) w h).1
theorem wsL_law_r25_in : ∀ w ∈ wsL_law_r25, w ∈ lw_tbl := fun w h => (goodIn_p wsL_law_r25 [629, 633, 636, 642, 648] (by decide +kernel) (by decide +kernel) w h).1
theorem wsL_law_r26_in : ∀ w ∈ wsL_law_r26, w ∈ lw_tbl := fun w h => (goodIn_p wsL_law_r26 [652, 656, 660, 1144, 1148] (by decide +kernel) (by decide +kernel) w h).1
