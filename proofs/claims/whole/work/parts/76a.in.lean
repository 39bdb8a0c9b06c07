theorem wsL_law_r1_in : ∀ w ∈ wsL_law_r1, w ∈ lw_tbl := fun w h => (goodIn_p wsL_law_r1 [84, 87] (by decide +kernel) (by decide +kernel) w h).1
theorem wsL_law_r2_in : ∀ w ∈ wsL_law_r2, w ∈ lw_tbl := fun w h => (goodIn_p wsL_law_r2 [92] (by decide +kernel) (by decide +kernel) w h).1
theorem wsL_law_r3_in : ∀ w ∈ wsL_law_r3, w ∈ lw_tbl := fun w h => (goodIn_p wsL_law_r3 [119, 124] (by decide +kernel) (by decide +kernel) w h).1
theorem wsL_law_r4_in : ∀ w ∈ wsL_law_r4, w ∈ lw_tbl := fun w h => (goodIn_p wsL_law_r4 [127, 173, 196] (by decide +kernel) (by decide +kernel) w h).1
theorem wsL_law_r5_in : ∀ w ∈ wsL_law_r5, w ∈ lw_tbl := fun w h => (goodIn_p wsL_law_r5 [241, 274] (by decide +kernel) (by decide +kernel) w h).1
theorem wsL_law_r6_in : ∀ w ∈ wsL_law_r6, w ∈ lw_tbl := fun w h => (goodIn_p wsL_law_r6 [890] (by decide +kernel) (by decide +kernel) w h).1
theorem wsL_law_r7_in : ∀ w ∈ wsL_law_r7, w ∈ lw_tbl := fun w h => (goodIn_p wsL_law_r7 [895, 347, 350, 354, 1015] (by decide +kernel) (by decide +kernel) w h).1
theorem wsL_law_r8_in : ∀ w ∈ wsL_law_r8, w ∈ lw_tbl := fun w h => (goodIn_p wsL_law_r8 [1018, 358, 362, 1023, 366, 370] (by decide +kernel) (by decide +kernel) w h).1
theorem wsL_law_r9_in : ∀ w ∈ wsL_law_r9, w ∈ lw_tbl := fun w h => (goodIn_p wsL_law_r9 [375, 378, 382, 385, 389, 392] (by decide +kernel) (by decide +kernel) w h).1
theorem wsL_law_r10_in : ∀ w ∈ wsL_law_r10, w ∈ lw_tbl := fun w h => (goodIn_p wsL_law_r10 [397, 401, 405, 411, 415] (by decide +kernel) (by decide +kernel) w h).1
theorem wsL_law_r11_in : ∀ w ∈ wsL_law_r11, w ∈ lw_tbl := fun w h => (goodIn_p wsL_law_r11 [418, 421, 426, 429, 432, 435, 439] (by decide +kernel) (by decide +kernel) w h).1
theorem wsL_law_r12_in : ∀ w ∈ wsL_law_r12, w ∈ lw_tbl := fun w h => (goodIn_p wsL_law_r12 [449, 452, 455, 459, 464] (by decide +kernel) (by decide +kernel) w h).1
theorem wsL_law_r13_in : ∀ w ∈ wsL_law_r13, w ∈ lw_tbl := fun w h => (goodIn_p wsL_law_r13 [469, 472, 476, 483, 487] (by decide +kernel) (by decide +kernel) w h).1
