theorem wsL_law_r27_in : ∀ w ∈ wsL_law_r27, w ∈ lw_tbl := fun w h => (goodIn_p wsL_law_r27 [1153, 1157, 1161, 666, 1165, 670] (by decide +kernel) (by decide +kernel) w h).1
theorem wsL_law_r28_in : ∀ w ∈ wsL_law_r28, w ∈ lw_tbl := fun w h => (goodIn_p wsL_law_r28 [1169, 674, 678, 682, 687, 691] (by decide +kernel) (by decide +kernel) w h).1
theorem wsL_law_r29_in : ∀ w ∈ wsL_law_r29, w ∈ lw_tbl := fun w h => (goodIn_p wsL_law_r29 [1173, 1177, 1181, 695, 699, 703] (by decide +kernel) (by decide +kernel) w h).1
theorem wsL_law_r30_in : ∀ w ∈ wsL_law_r30, w ∈ lw_tbl := fun w h => (goodIn_p wsL_law_r30 [1185, 1189, 1193, 708, 712] (by decide +kernel) (by decide +kernel) w h).1
theorem wsL_law_r31_in : ∀ w ∈ wsL_law_r31, w ∈ lw_tbl := fun w h => (goodIn_p wsL_law_r31 [1197, 1201, 718, 721, 725, 1205] (by decide +kernel) (by decide +kernel) w h).1
theorem wsL_law_r32_in : ∀ w ∈ wsL_law_r32, w ∈ lw_tbl := fun w h => (goodIn_p wsL_law_r32 [729, 732, 736, 1209, 740, 744] (by decide +kernel) (by decide +kernel) w h).1
theorem wsL_law_r33_in : ∀ w ∈ wsL_law_r33, w ∈ lw_tbl := fun w h => (goodIn_p wsL_law_r33 [1213, 748, 752, 756, 762] (by decide +kernel) (by decide +kernel) w h).1
theorem wsL_law_r34_in : ∀ w ∈ wsL_law_r34, w ∈ lw_tbl := fun w h => (goodIn_p wsL_law_r34 [1217, 1221, 1225, 766, 770] (by decide +kernel) (by decide +kernel) w h).1
theorem wsL_law_r35_in : ∀ w ∈ wsL_law_r35, w ∈ lw_tbl := fun w h => (goodIn_p wsL_law_r35 [1229, 776, 780, 1233, 784] (by decide +kernel) (by decide +kernel) w h).1
theorem wsL_law_r36_in : ∀ w ∈ wsL_law_r36, w ∈ lw_tbl := fun w h => (goodIn_p wsL_law_r36 [788, 1237, 792, 1241, 796] (by decide +kernel) (by decide +kernel) w h).1
theorem wsL_law_r37_in : ∀ w ∈ wsL_law_r37, w ∈ lw_tbl := fun w h => (goodIn_p wsL_law_r37 [800, 808, 812, 816] (by decide +kernel) (by decide +kernel) w h).1
theorem wsL_law_r38_in : ∀ w ∈ wsL_law_r38, w ∈ lw_tbl := fun w h => (goodIn_p wsL_law_r38 [1245, 1249, 822, 825, 832, 836] (by decide +kernel) (by decide +kernel) w h).1
theorem wsL_law_r39_in : ∀ w ∈ wsL_law_r39, w ∈ lw_tbl := fun w h => (goodIn_p wsL_law_r39 [1253, 841, 845, 1257, 849] (by decide +kernel) (by decide +kernel) w h).1
