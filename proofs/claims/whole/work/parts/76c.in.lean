theorem wsL_law_r27_in : ∀ w ∈ wsL_law_r27, w ∈ lw_tbl := fun w h => (goodIn_p wsL_law_r27 [1152, 1156, 1160, 666, 1164, 670] (by decide +kernel) (by decide +kernel) w h).1
theorem wsL_law_r28_in : ∀ w ∈ wsL_law_r28, w ∈ lw_tbl := fun w h => (goodIn_p wsL_law_r28 [1168, 674, 678, 682, 687, 691] (by decide +kernel) (by decide +kernel) w h).1
theorem wsL_law_r29_in : ∀ w ∈ wsL_law_r29, w ∈ lw_tbl := fun w h => (goodIn_p wsL_law_r29 [1172, 1176, 1180, 695, 699, 703] (by decide +kernel) (by decide +kernel) w h).1
theorem wsL_law_r30_in : ∀ w ∈ wsL_law_r30, w ∈ lw_tbl := fun w h => (goodIn_p wsL_law_r30 [1184, 1188, 1192, 708, 712] (by decide +kernel) (by decide +kernel) w h).1
theorem wsL_law_r31_in : ∀ w ∈ wsL_law_r31, w ∈ lw_tbl := fun w h => (goodIn_p wsL_law_r31 [1196, 1200, 718, 721, 725, 1204] (by decide +kernel) (by decide +kernel) w h).1
theorem wsL_law_r32_in : ∀ w ∈ wsL_law_r32, w ∈ lw_tbl := fun w h => (goodIn_p wsL_law_r32 [729, 732, 736, 1208, 740, 744] (by decide +kernel) (by decide +kernel) w h).1
theorem wsL_law_r33_in : ∀ w ∈ wsL_law_r33, w ∈ lw_tbl := fun w h => (goodIn_p wsL_law_r33 [1212, 748, 752, 756, 762] (by decide +kernel) (by decide +kernel) w h).1
theorem wsL_law_r34_in : ∀ w ∈ wsL_law_r34, w ∈ lw_tbl := fun w h => (goodIn_p wsL_law_r34 [1216, 1220, 1224, 766, 770] (by decide +kernel) (by decide +kernel) w h).1
theorem wsL_law_r35_in : ∀ w ∈ wsL_law_r35, w ∈ lw_tbl := fun w h => (goodIn_p wsL_law_r35 [1228, 776, 780, 1232, 784] (by decide +kernel) (by decide +kernel) w h).1
theorem wsL_law_r36_in : ∀ w ∈ wsL_law_r36, w ∈ lw_tbl := fun w h => (goodIn_p wsL_law_r36 [788, 1236, 792, 1240, 796] (by decide +kernel) (by decide +kernel) w h).1
theorem wsL_law_r37_in : ∀ w ∈ wsL_law_r37, w ∈ lw_tbl := fun w h => (goodIn_p wsL_law_r37 [800, 807, 811, 815, 1244] (by decide +kernel) (by decide +kernel) w h).1
theorem wsL_law_r38_in : ∀ w ∈ wsL_law_r38, w ∈ lw_tbl := fun w h => (goodIn_p wsL_law_r38 [1248, 821, 824, 831, 835] (by decide +kernel) (by decide +kernel) w h).1
theorem wsL_law_r39_in : ∀ w ∈ wsL_law_r39, w ∈ lw_tbl := fun w h => (goodIn_p wsL_law_r39 [1252, 840, 844, 1256, 848] (by decide +kernel) (by decide +kernel) w h).1
