theorem wsL_law_x0 : ∀ w ∈ (vx_atS RX2 39 "java/lang/IllegalArgumentException" ["java/lang/RuntimeException", "java/lang/Exception"]).filter goodWord, w ∈ lw_tbl := by decide +kernel
theorem wsL_law_x1 : ∀ w ∈ (vx_atS RX2 50 "java/lang/IllegalStateException" ["java/lang/RuntimeException", "java/lang/Exception"]).filter goodWord, w ∈ lw_tbl := by decide +kernel
theorem wsL_law_x2 : ∀ w ∈ (vx_atS RX2 141 "java/lang/IndexOutOfBoundsException" ["java/lang/RuntimeException", "java/lang/Exception"]).filter goodWord, w ∈ lw_tbl := by decide +kernel
theorem wsL_law_in : ∀ w ∈ wsL_law, w ∈ lw_tbl := fun w h => (List.mem_append.mp h).elim (fun h => (List.mem_append.mp h).elim (fun h => (List.mem_append.mp h).elim (fun h => wsL_law_in0 w h) (fun h => wsL_law_x0 w h)) (fun h => wsL_law_x1 w h)) (fun h => wsL_law_x2 w h)
theorem inlX0 : ∀ w ∈ wsX00, w ∈ wsL_law := fun _ h => List.mem_append_left _ (List.mem_append_left _ (List.mem_append_left _ (List.mem_append_left _ (List.mem_append_right _ h))))
theorem inX0 : ∀ w ∈ wsX00, w ∈ lw_tbl := fun w h => wsL_law_in w (inlX0 w h)
theorem inlX1 : ∀ w ∈ wsX10, w ∈ wsL_law := fun _ h => List.mem_append_left _ (List.mem_append_left _ (List.mem_append_left _ (List.mem_append_left _ (List.mem_append_left _ (List.mem_append_right _ h)))))
theorem inX1 : ∀ w ∈ wsX10, w ∈ lw_tbl := fun w h => wsL_law_in w (inlX1 w h)
theorem inlX2 : ∀ w ∈ wsX20, w ∈ wsL_law := fun _ h => List.mem_append_left _ (List.mem_append_left _ (List.mem_append_left _ (List.mem_append_left _ (List.mem_append_left _ (List.mem_append_left _ (List.mem_append_right _ h))))))
theorem inX2 : ∀ w ∈ wsX20, w ∈ lw_tbl := fun w h => wsL_law_in w (inlX2 w h)
theorem inX3 : ∀ w ∈ wsX30, w ∈ lw_tbl := by decide +kernel
theorem inJ6 : ∀ w ∈ wsJ60, w ∈ lw_tbl := by decide +kernel
theorem inJ9 : ∀ w ∈ wsJ90, w ∈ lw_tbl := by decide +kernel
theorem inJ0 : ∀ w ∈ wsJ00, w ∈ lw_tbl := by decide +kernel
set_option maxRecDepth 20000 in
theorem ggX0_append_X0_countMoveFaults : GoodIn wsX0_append wsX0_countMoveFaults := goodIn_r _ [7, 1, 8, 9, 10, 11, 12, 13, 14, 15, 6, 16, 17, 18, 19, 20, 2, 21, 22, 23, 24, 25, 26, 27, 28, 29, 30, 31, 32] (by decide +kernel) (by decide +kernel)
set_option maxRecDepth 20000 in
theorem gX0_append_X0_countMoveFaults : GoodIn wsX0_append (wsV RX0 28 RX0 yX0_countMoveFaults wsX0_countMoveFaults) := goodIn_app (goodIn_of _ (by decide +kernel)) ggX0_append_X0_countMoveFaults
set_option maxRecDepth 20000 in
theorem ggX0_putTone_X0_countMoveFaults : GoodIn wsX0_putTone wsX0_countMoveFaults := goodIn_r _ [6, 7, 8, 9, 10, 11, 12, 13, 14, 15, 5, 16, 17, 18, 19, 20, 1, 21, 22, 23, 24, 25, 26, 27, 28, 29, 30, 31, 32] (by decide +kernel) (by decide +kernel)
set_option maxRecDepth 20000 in
theorem gX0_putTone_X0_countMoveFaults : GoodIn wsX0_putTone (wsV RX0 28 RX0 yX0_countMoveFaults wsX0_countMoveFaults) := goodIn_app (goodIn_of _ (by decide +kernel)) ggX0_putTone_X0_countMoveFaults
set_option maxRecDepth 20000 in
theorem ggX0_ceiling_X0_toneAt : GoodIn wsX0_ceiling wsX0_toneAt := goodIn_r _ [5, 6, 7, 8, 9, 10, 11] (by decide +kernel) (by decide +kernel)
set_option maxRecDepth 20000 in
theorem gX0_ceiling_X0_toneAt : GoodIn wsX0_ceiling (wsV RX0 32 RX0 yX0_toneAt wsX0_toneAt) := goodIn_app (goodIn_of _ (by decide +kernel)) ggX0_ceiling_X0_toneAt
set_option maxRecDepth 20000 in
theorem ggX0_floor_X0_toneAt : GoodIn wsX0_floor wsX0_toneAt := goodIn_r _ [5, 6, 7, 8, 9, 10, 11] (by decide +kernel) (by decide +kernel)
set_option maxRecDepth 20000 in
theorem gX0_floor_X0_toneAt : GoodIn wsX0_floor (wsV RX0 32 RX0 yX0_toneAt wsX0_toneAt) := goodIn_app (goodIn_of _ (by decide +kernel)) ggX0_floor_X0_toneAt
set_option maxRecDepth 20000 in
theorem ggX0_lowestTone_X0_toneAt : GoodIn wsX0_lowestTone wsX0_toneAt := goodIn_r _ [10, 11, 12, 13, 14, 15, 16] (by decide +kernel) (by decide +kernel)
set_option maxRecDepth 20000 in
theorem gX0_lowestTone_X0_toneAt : GoodIn wsX0_lowestTone (wsV RX0 32 RX0 yX0_toneAt wsX0_toneAt) := goodIn_app (goodIn_of _ (by decide +kernel)) ggX0_lowestTone_X0_toneAt
set_option maxRecDepth 20000 in
theorem ggX0_highestTone_X0_toneAt : GoodIn wsX0_highestTone wsX0_toneAt := goodIn_r _ [10, 11, 12, 13, 14, 15, 16] (by decide +kernel) (by decide +kernel)
set_option maxRecDepth 20000 in
theorem gX0_highestTone_X0_toneAt : GoodIn wsX0_highestTone (wsV RX0 32 RX0 yX0_toneAt wsX0_toneAt) := goodIn_app (goodIn_of _ (by decide +kernel)) ggX0_highestTone_X0_toneAt
set_option maxRecDepth 20000 in
theorem ggX0_leastFaultSum_X0_toneAt : GoodIn wsX0_leastFaultSum wsX0_toneAt := goodIn_r _ [9, 10, 47, 48, 49, 50, 51] (by decide +kernel) (by decide +kernel)
set_option maxRecDepth 20000 in
theorem gX0_leastFaultSum_X0_toneAt : GoodIn wsX0_leastFaultSum (wsV RX0 32 RX0 yX0_toneAt wsX0_toneAt) := goodIn_app (goodIn_of _ (by decide +kernel)) ggX0_leastFaultSum_X0_toneAt
set_option maxRecDepth 20000 in
theorem ggX0_leastFaultSum_X0_ceiling : GoodIn wsX0_leastFaultSum wsX0_ceiling := goodIn_r _ [14, 5, 6, 7, 8, 9, 10, 47, 48, 49, 50, 51] (by decide +kernel) (by decide +kernel)
set_option maxRecDepth 20000 in
theorem gX0_leastFaultSum_X0_ceiling : GoodIn wsX0_leastFaultSum (wsV RX0 44 RX0 yX0_ceiling wsX0_ceiling) := goodIn_app (goodIn_of _ (by decide +kernel)) ggX0_leastFaultSum_X0_ceiling
set_option maxRecDepth 20000 in
theorem ggX0_leastFaultSum_X0_faultSum : GoodIn wsX0_leastFaultSum wsX0_faultSum := goodIn_r _ [18, 19, 20, 47, 48, 49, 50, 51] (by decide +kernel) (by decide +kernel)
set_option maxRecDepth 20000 in
theorem gX0_leastFaultSum_X0_faultSum : GoodIn wsX0_leastFaultSum (wsV RX0 47 RX0 yX0_faultSum wsX0_faultSum) := goodIn_app (goodIn_of _ (by decide +kernel)) ggX0_leastFaultSum_X0_faultSum
set_option maxRecDepth 20000 in
theorem ggX0_leastFaultSum_X0_floor : GoodIn wsX0_leastFaultSum wsX0_floor := goodIn_r _ [24, 5, 6, 7, 8, 9, 10, 47, 48, 49, 50, 51] (by decide +kernel) (by decide +kernel)
set_option maxRecDepth 20000 in
theorem gX0_leastFaultSum_X0_floor : GoodIn wsX0_leastFaultSum (wsV RX0 51 RX0 yX0_floor wsX0_floor) := goodIn_app (goodIn_of _ (by decide +kernel)) ggX0_leastFaultSum_X0_floor
set_option maxRecDepth 20000 in
theorem ggX0_leastFaultSum_X0_putTone : GoodIn wsX0_leastFaultSum wsX0_putTone := goodIn_r _ [28, 10, 29, 30, 31, 8, 32, 19, 33, 34, 3, 35, 20, 36, 37, 38, 39, 5, 6, 7, 9, 40, 41, 42, 43, 44, 45, 46, 47, 48, 49, 50, 51] (by decide +kernel) (by decide +kernel)
set_option maxRecDepth 20000 in
theorem gX0_leastFaultSum_X0_putTone : GoodIn wsX0_leastFaultSum (wsV RX0 54 RX0 yX0_putTone wsX0_putTone) := goodIn_app (goodIn_of _ (by decide +kernel)) ggX0_leastFaultSum_X0_putTone
set_option maxRecDepth 20000 in
theorem ggX0_weaknessSum_X0_weaknessOf : GoodIn wsX0_weaknessSum wsX0_weaknessOf := goodIn_r _ [6, 7, 8, 9, 10, 11, 12, 13, 14, 15, 16, 17] (by decide +kernel) (by decide +kernel)
set_option maxRecDepth 20000 in
theorem gX0_weaknessSum_X0_weaknessOf : GoodIn wsX0_weaknessSum (wsV RX0 58 RX0 yX0_weaknessOf wsX0_weaknessOf) := goodIn_app (goodIn_of _ (by decide +kernel)) ggX0_weaknessSum_X0_weaknessOf
set_option maxRecDepth 20000 in
theorem ggX0_weakestChord_X0_weaknessOf : GoodIn wsX0_weakestChord wsX0_weaknessOf := goodIn_r _ [6, 7, 8, 9, 10, 11, 12, 13, 14, 15, 16, 17] (by decide +kernel) (by decide +kernel)
set_option maxRecDepth 20000 in
theorem gX0_weakestChord_X0_weaknessOf : GoodIn wsX0_weakestChord (wsV RX0 58 RX0 yX0_weaknessOf wsX0_weaknessOf) := goodIn_app (goodIn_of _ (by decide +kernel)) ggX0_weakestChord_X0_weaknessOf
set_option maxRecDepth 20000 in
theorem ggX0_practiseWeakest_X0_weakestChord : GoodIn wsX0_practiseWeakest wsX0_weakestChord := goodIn_r _ [6, 7, 8, 9, 10, 5, 11, 12, 1, 13, 14, 15, 16, 17, 18, 19, 20, 21] (by decide +kernel) (by decide +kernel)
set_option maxRecDepth 20000 in
theorem gX0_practiseWeakest_X0_weakestChord : GoodIn wsX0_practiseWeakest (wsV RX0 62 RX0 yX0_weakestChord wsX0_weakestChord) := goodIn_app (goodIn_of _ (by decide +kernel)) ggX0_practiseWeakest_X0_weakestChord
set_option maxRecDepth 20000 in
theorem ggX0_countMoveFaults_X0_stepInto : GoodIn wsX0_countMoveFaults wsX0_stepInto := goodIn_r _ [11, 12, 13, 14, 10, 15, 16, 24, 25, 26, 27, 28] (by decide +kernel) (by decide +kernel)
set_option maxRecDepth 20000 in
theorem gX0_countMoveFaults_X0_stepInto : GoodIn wsX0_countMoveFaults (wsV RX0 65 RX0 yX0_stepInto wsX0_stepInto) := goodIn_app (goodIn_of _ (by decide +kernel)) ggX0_countMoveFaults_X0_stepInto
set_option maxRecDepth 20000 in
theorem ggX0_countMoveFaults_X0_isParallel : GoodIn wsX0_countMoveFaults wsX0_isParallel := goodIn_r _ [20, 7, 8, 9, 10, 11, 12, 13, 14, 15, 16, 21, 22, 23, 24, 25, 26, 27, 28] (by decide +kernel) (by decide +kernel)
set_option maxRecDepth 20000 in
theorem gX0_countMoveFaults_X0_isParallel : GoodIn wsX0_countMoveFaults (wsV RX0 71 RX0 yX0_isParallel wsX0_isParallel) := goodIn_app (goodIn_of _ (by decide +kernel)) ggX0_countMoveFaults_X0_isParallel
set_option maxRecDepth 20000 in
theorem ggX0_stepInto_X0_toneAt : GoodIn wsX0_stepInto wsX0_toneAt := goodIn_r _ [5, 6, 7, 8, 9, 10, 11] (by decide +kernel) (by decide +kernel)
set_option maxRecDepth 20000 in
theorem gX0_stepInto_X0_toneAt : GoodIn wsX0_stepInto (wsV RX0 32 RX0 yX0_toneAt wsX0_toneAt) := goodIn_app (goodIn_of _ (by decide +kernel)) ggX0_stepInto_X0_toneAt
set_option maxRecDepth 20000 in
theorem ggX0_isParallel_X0_stepInto : GoodIn wsX0_isParallel wsX0_stepInto := goodIn_r _ [5, 6, 7, 8, 4, 9, 10, 14, 15, 16, 17, 18] (by decide +kernel) (by decide +kernel)
set_option maxRecDepth 20000 in
theorem gX0_isParallel_X0_stepInto : GoodIn wsX0_isParallel (wsV RX0 65 RX0 yX0_stepInto wsX0_stepInto) := goodIn_app (goodIn_of _ (by decide +kernel)) ggX0_isParallel_X0_stepInto
set_option maxRecDepth 20000 in
theorem ggX0_isParallel_X0_toneAt : GoodIn wsX0_isParallel wsX0_toneAt := goodIn_r _ [9, 10, 14, 15, 16, 17, 18] (by decide +kernel) (by decide +kernel)
set_option maxRecDepth 20000 in
theorem gX0_isParallel_X0_toneAt : GoodIn wsX0_isParallel (wsV RX0 32 RX0 yX0_toneAt wsX0_toneAt) := goodIn_app (goodIn_of _ (by decide +kernel)) ggX0_isParallel_X0_toneAt
set_option maxRecDepth 20000 in
theorem ggX0_isParallel_X0_isTold : GoodIn wsX0_isParallel wsX0_isTold := goodIn_r _ [13] (by decide +kernel) (by decide +kernel)
set_option maxRecDepth 20000 in
theorem gX0_isParallel_X0_isTold : GoodIn wsX0_isParallel (va_wsS RX0 75 yX0_isTold wsX0_isTold) := goodIn_app (goodIn_of _ (by decide +kernel)) ggX0_isParallel_X0_isTold
set_option maxRecDepth 20000 in
theorem ggX1_firstTone_X1_sings : GoodIn wsX1_firstTone wsX1_sings := goodIn_r _ [11, 12, 13, 14, 15, 10, 16, 17, 18, 19, 20, 21, 22] (by decide +kernel) (by decide +kernel)
set_option maxRecDepth 20000 in
theorem gX1_firstTone_X1_sings : GoodIn wsX1_firstTone (wsV RX1 28 RX1 yX1_sings wsX1_sings) := goodIn_app (goodIn_of _ (by decide +kernel)) ggX1_firstTone_X1_sings
set_option maxRecDepth 20000 in
theorem ggX1_lastTone_X1_sings : GoodIn wsX1_lastTone wsX1_sings := goodIn_r _ [11, 12, 13, 14, 15, 10, 16, 17, 18, 19, 20, 21, 22] (by decide +kernel) (by decide +kernel)
set_option maxRecDepth 20000 in
theorem gX1_lastTone_X1_sings : GoodIn wsX1_lastTone (wsV RX1 28 RX1 yX1_sings wsX1_sings) := goodIn_app (goodIn_of _ (by decide +kernel)) ggX1_lastTone_X1_sings
set_option maxRecDepth 20000 in
theorem ggX1_countMissed_X1_isThere : GoodIn wsX1_countMissed wsX1_isThere := goodIn_r _ [7, 8, 22, 23, 24, 25, 26] (by decide +kernel) (by decide +kernel)
set_option maxRecDepth 20000 in
theorem gX1_countMissed_X1_isThere : GoodIn wsX1_countMissed (wsV RX1 41 RX1 yX1_isThere wsX1_isThere) := goodIn_app (goodIn_of _ (by decide +kernel)) ggX1_countMissed_X1_isThere
set_option maxRecDepth 20000 in
theorem ggX1_countMissed_X1_lastTone : GoodIn wsX1_countMissed wsX1_lastTone := goodIn_r _ [12, 1, 13, 14, 15, 16, 17, 18, 19, 20, 6, 21, 2, 3, 4, 5, 7, 8, 22, 23, 24, 25, 26] (by decide +kernel) (by decide +kernel)
set_option maxRecDepth 20000 in
theorem gX1_countMissed_X1_lastTone : GoodIn wsX1_countMissed (wsV RX1 45 RX1 yX1_lastTone wsX1_lastTone) := goodIn_app (goodIn_of _ (by decide +kernel)) ggX1_countMissed_X1_lastTone
set_option maxRecDepth 20000 in
theorem ggX1_sings_X1_isThere : GoodIn wsX1_sings wsX1_isThere := goodIn_r _ [6, 7, 8, 9, 10, 11, 12] (by decide +kernel) (by decide +kernel)
set_option maxRecDepth 20000 in
theorem gX1_sings_X1_isThere : GoodIn wsX1_sings (wsV RX1 41 RX1 yX1_isThere wsX1_isThere) := goodIn_app (goodIn_of _ (by decide +kernel)) ggX1_sings_X1_isThere
set_option maxRecDepth 20000 in
theorem ggX2_init_X1_init : GoodIn wsX2_init wsX1_init := goodIn_r _ [14, 15, 2, 3, 16, 17, 18, 19, 20, 27, 28, 29, 30, 31] (by decide +kernel) (by decide +kernel)
set_option maxRecDepth 20000 in
theorem gX2_init_X1_init_n11 : GoodIn wsX2_init (wsX1_init) := ggX2_init_X1_init
set_option maxRecDepth 20000 in
theorem ggX2_init_X0_init : GoodIn wsX2_init wsX0_init := goodIn_r _ [22, 23, 2, 3, 16, 24, 25, 26, 36, 37, 38, 39, 40] (by decide +kernel) (by decide +kernel)
set_option maxRecDepth 20000 in
theorem gX2_init_X0_init_n22 : GoodIn wsX2_init (wsX0_init) := ggX2_init_X0_init
set_option maxRecDepth 20000 in
theorem ggX2_addSinger_X2_checkVoice : GoodIn wsX2_addSinger wsX2_checkVoice := goodIn_ca (goodIn_r _ [9, 1, 2] (by decide +kernel) (by decide +kernel)) (goodIn_sub (fun _ h => List.mem_cons_of_mem _ (List.mem_append_left _ (List.mem_append_right _ h))) (by decide +kernel))
set_option maxRecDepth 20000 in
theorem gX2_addSinger_X2_checkVoice : GoodIn wsX2_addSinger (va_wsS RX2 27 yX2_checkVoice wsX2_checkVoice) := goodIn_app (goodIn_of _ (by decide +kernel)) ggX2_addSinger_X2_checkVoice
set_option maxRecDepth 20000 in
theorem ggX2_addSinger_X2_checkTone : GoodIn wsX2_addSinger wsX2_checkTone := goodIn_ca (goodIn_r _ [12, 1, 2] (by decide +kernel) (by decide +kernel)) (goodIn_sub (fun _ h => List.mem_cons_of_mem _ (List.mem_append_left _ (List.mem_append_right _ h))) (by decide +kernel))
set_option maxRecDepth 20000 in
theorem gX2_addSinger_X2_checkTone : GoodIn wsX2_addSinger (va_wsS RX2 31 yX2_checkTone wsX2_checkTone) := goodIn_app (goodIn_of _ (by decide +kernel)) ggX2_addSinger_X2_checkTone
set_option maxRecDepth 20000 in
theorem ggX2_addSinger_X1_isFull : GoodIn wsX2_addSinger wsX1_isFull := goodIn_r _ [17, 18, 30, 31, 32, 33, 34] (by decide +kernel) (by decide +kernel)
set_option maxRecDepth 20000 in
theorem gX2_addSinger_X1_isFull : GoodIn wsX2_addSinger (wsV RX2 42 RX1 yX1_isFull wsX1_isFull) := goodIn_app (goodIn_of _ (by decide +kernel)) ggX2_addSinger_X1_isFull
set_option maxRecDepth 20000 in
theorem ggX2_addSinger_X1_add : GoodIn wsX2_addSinger wsX1_add := goodIn_r _ [22, 18, 23, 24, 25, 30, 31, 32, 33, 34] (by decide +kernel) (by decide +kernel)
set_option maxRecDepth 20000 in
theorem gX2_addSinger_X1_add : GoodIn wsX2_addSinger (wsV RX2 51 RX1 yX1_add wsX1_add) := goodIn_app (goodIn_of _ (by decide +kernel)) ggX2_addSinger_X1_add
set_option maxRecDepth 20000 in
theorem ggX2_tell_X2_checkSinger : GoodIn wsX2_tell wsX2_checkSinger := goodIn_ca (goodIn_r _ [6, 7, 8, 1, 9, 10, 11, 12, 13, 14, 29, 30, 31, 32, 33, 34, 35, 36, 37] (by decide +kernel) (by decide +kernel)) (goodIn_sub (fun _ h => List.mem_cons_of_mem _ (List.mem_append_left _ (List.mem_append_right _ h))) (by decide +kernel))
set_option maxRecDepth 20000 in
theorem gX2_tell_X2_checkSinger : GoodIn wsX2_tell (wsV RX2 55 RX2 yX2_checkSinger wsX2_checkSinger) := goodIn_app (goodIn_of _ (by decide +kernel)) ggX2_tell_X2_checkSinger
set_option maxRecDepth 20000 in
theorem ggX2_tell_X2_checkDate : GoodIn wsX2_tell wsX2_checkDate := goodIn_ca (goodIn_r _ [17, 18, 19] (by decide +kernel) (by decide +kernel)) (goodIn_sub (fun _ h => List.mem_cons_of_mem _ (List.mem_append_right _ h)) (by decide +kernel))
set_option maxRecDepth 20000 in
theorem gX2_tell_X2_checkDate : GoodIn wsX2_tell (va_wsS RX2 58 yX2_checkDate wsX2_checkDate) := goodIn_app (goodIn_of _ (by decide +kernel)) ggX2_tell_X2_checkDate
set_option maxRecDepth 20000 in
theorem ggX2_tell_X1_isThere : GoodIn wsX2_tell wsX1_isThere := goodIn_r _ [23, 24, 33, 34, 35, 36, 37] (by decide +kernel) (by decide +kernel)
set_option maxRecDepth 20000 in
theorem gX2_tell_X1_isThere : GoodIn wsX2_tell (wsV RX2 61 RX1 yX1_isThere wsX1_isThere) := goodIn_app (goodIn_of _ (by decide +kernel)) ggX2_tell_X1_isThere
set_option maxRecDepth 20000 in
theorem ggX2_tell_X1_putThere : GoodIn wsX2_tell wsX1_putThere := goodIn_r _ [28, 24, 33, 34, 35, 36, 37] (by decide +kernel) (by decide +kernel)
set_option maxRecDepth 20000 in
theorem gX2_tell_X1_putThere : GoodIn wsX2_tell (wsV RX2 65 RX1 yX1_putThere wsX1_putThere) := goodIn_app (goodIn_of _ (by decide +kernel)) ggX2_tell_X1_putThere
set_option maxRecDepth 20000 in
theorem ggX2_change_X2_checkSinger : GoodIn wsX2_change wsX2_checkSinger := goodIn_ca (goodIn_r _ [6, 7, 8, 1, 9, 10, 11, 12, 13, 14, 25, 26, 27, 28, 29, 30, 31, 32, 33] (by decide +kernel) (by decide +kernel)) (goodIn_sub (fun _ h => List.mem_cons_of_mem _ (List.mem_append_left _ (List.mem_append_right _ h))) (by decide +kernel))
set_option maxRecDepth 20000 in
theorem gX2_change_X2_checkSinger : GoodIn wsX2_change (wsV RX2 55 RX2 yX2_checkSinger wsX2_checkSinger) := goodIn_app (goodIn_of _ (by decide +kernel)) ggX2_change_X2_checkSinger
set_option maxRecDepth 20000 in
theorem ggX2_change_X2_checkVoice : GoodIn wsX2_change wsX2_checkVoice := goodIn_ca (goodIn_r _ [17, 18, 19] (by decide +kernel) (by decide +kernel)) (goodIn_sub (fun _ h => List.mem_cons_of_mem _ (List.mem_append_right _ h)) (by decide +kernel))
set_option maxRecDepth 20000 in
theorem gX2_change_X2_checkVoice : GoodIn wsX2_change (va_wsS RX2 27 yX2_checkVoice wsX2_checkVoice) := goodIn_app (goodIn_of _ (by decide +kernel)) ggX2_change_X2_checkVoice
set_option maxRecDepth 20000 in
theorem ggX2_change_X1_replaceVoice : GoodIn wsX2_change wsX1_replaceVoice := goodIn_r _ [23, 24, 29, 30, 31, 32, 33] (by decide +kernel) (by decide +kernel)
set_option maxRecDepth 20000 in
theorem gX2_change_X1_replaceVoice : GoodIn wsX2_change (wsV RX2 69 RX1 yX1_replaceVoice wsX1_replaceVoice) := goodIn_app (goodIn_of _ (by decide +kernel)) ggX2_change_X1_replaceVoice
set_option maxRecDepth 20000 in
theorem ggX2_range_X2_checkVoice : GoodIn wsX2_range wsX2_checkVoice := goodIn_ca (goodIn_r _ [5, 6, 7] (by decide +kernel) (by decide +kernel)) (goodIn_sub (fun _ h => List.mem_cons_of_mem _ (List.mem_append_right _ h)) (by decide +kernel))
set_option maxRecDepth 20000 in
theorem gX2_range_X2_checkVoice : GoodIn wsX2_range (va_wsS RX2 27 yX2_checkVoice wsX2_checkVoice) := goodIn_app (goodIn_of _ (by decide +kernel)) ggX2_range_X2_checkVoice
set_option maxRecDepth 20000 in
theorem ggX2_range_X2_checkDate : GoodIn wsX2_range wsX2_checkDate := goodIn_ca (goodIn_r _ [10, 6, 7] (by decide +kernel) (by decide +kernel)) (goodIn_sub (fun _ h => List.mem_cons_of_mem _ (List.mem_append_right _ h)) (by decide +kernel))
set_option maxRecDepth 20000 in
theorem gX2_range_X2_checkDate : GoodIn wsX2_range (va_wsS RX2 58 yX2_checkDate wsX2_checkDate) := goodIn_app (goodIn_of _ (by decide +kernel)) ggX2_range_X2_checkDate
set_option maxRecDepth 20000 in
theorem ggX2_range_X1_firstTone : GoodIn wsX2_range wsX1_firstTone := goodIn_r _ [15, 16, 17, 18, 19, 20, 21, 22, 23, 24, 14, 25, 26, 27, 28, 29, 30, 31, 44, 45, 46, 47, 48] (by decide +kernel) (by decide +kernel)
set_option maxRecDepth 20000 in
theorem gX2_range_X1_firstTone : GoodIn wsX2_range (wsV RX2 73 RX1 yX1_firstTone wsX1_firstTone) := goodIn_app (goodIn_of _ (by decide +kernel)) ggX2_range_X1_firstTone
set_option maxRecDepth 20000 in
theorem ggX2_range_X1_lastTone : GoodIn wsX2_range wsX1_lastTone := goodIn_r _ [35, 16, 36, 37, 38, 20, 39, 22, 23, 24, 14, 25, 26, 27, 28, 29, 30, 31, 44, 45, 46, 47, 48] (by decide +kernel) (by decide +kernel)
set_option maxRecDepth 20000 in
theorem gX2_range_X1_lastTone : GoodIn wsX2_range (wsV RX2 76 RX1 yX1_lastTone wsX1_lastTone) := goodIn_app (goodIn_of _ (by decide +kernel)) ggX2_range_X1_lastTone
set_option maxRecDepth 20000 in
theorem ggX2_chord_X2_checkTone : GoodIn wsX2_chord wsX2_checkTone := goodIn_ca (goodIn_r _ [7, 8, 9] (by decide +kernel) (by decide +kernel)) (goodIn_sub (fun _ h => List.mem_cons_of_mem _ (List.mem_append_right _ h)) (by decide +kernel))
set_option maxRecDepth 20000 in
theorem gX2_chord_X2_checkTone : GoodIn wsX2_chord (va_wsS RX2 31 yX2_checkTone wsX2_checkTone) := goodIn_app (goodIn_of _ (by decide +kernel)) ggX2_chord_X2_checkTone
set_option maxRecDepth 20000 in
theorem ggX2_chord_X0_isFull : GoodIn wsX2_chord wsX0_isFull := goodIn_r _ [14, 15, 49, 50, 51, 52, 53] (by decide +kernel) (by decide +kernel)
set_option maxRecDepth 20000 in
theorem gX2_chord_X0_isFull : GoodIn wsX2_chord (wsV RX2 79 RX0 yX0_isFull wsX0_isFull) := goodIn_app (goodIn_of _ (by decide +kernel)) ggX2_chord_X0_isFull
set_option maxRecDepth 20000 in
theorem ggX2_chord_X0_append : GoodIn wsX2_chord wsX0_append := goodIn_r _ [19, 15, 20, 21, 22, 23, 13, 24, 25, 26, 27, 28, 29, 30, 31, 32, 33, 34, 35, 36, 37, 38, 39, 40, 41, 42, 43, 44, 49, 50, 51, 52, 53] (by decide +kernel) (by decide +kernel)
set_option maxRecDepth 20000 in
theorem gX2_chord_X0_append : GoodIn wsX2_chord (wsV RX2 82 RX0 yX0_append wsX0_append) := goodIn_app (goodIn_of _ (by decide +kernel)) ggX2_chord_X0_append
set_option maxRecDepth 20000 in
theorem ggX2_addPiece_X0_isEmpty : GoodIn wsX2_addPiece wsX0_isEmpty := goodIn_r _ [14, 15, 34, 35, 36, 37, 38] (by decide +kernel) (by decide +kernel)
set_option maxRecDepth 20000 in
theorem gX2_addPiece_X0_isEmpty : GoodIn wsX2_addPiece (wsV RX2 88 RX0 yX0_isEmpty wsX0_isEmpty) := goodIn_app (goodIn_of _ (by decide +kernel)) ggX2_addPiece_X0_isEmpty
set_option maxRecDepth 20000 in
theorem ggX2_addPiece_X0_putLength : GoodIn wsX2_addPiece wsX0_putLength := goodIn_r _ [19, 20, 34, 35, 36, 37, 38] (by decide +kernel) (by decide +kernel)
set_option maxRecDepth 20000 in
theorem gX2_addPiece_X0_putLength : GoodIn wsX2_addPiece (wsV RX2 99 RX0 yX0_putLength wsX0_putLength) := goodIn_app (goodIn_of _ (by decide +kernel)) ggX2_addPiece_X0_putLength
set_option maxRecDepth 20000 in
theorem ggX2_addPiece_X0_init : GoodIn wsX2_addPiece wsX0_init := goodIn_r _ [22, 23, 24, 25, 26, 27, 28, 29, 34, 35, 36, 37, 38] (by decide +kernel) (by decide +kernel)
set_option maxRecDepth 20000 in
theorem gX2_addPiece_X0_init_n22 : GoodIn wsX2_addPiece (wsX0_init) := ggX2_addPiece_X0_init
set_option maxRecDepth 20000 in
theorem ggX2_setTone_X2_pieceAt : GoodIn wsX2_setTone wsX2_pieceAt := goodIn_ca (goodIn_r _ [7, 8, 9, 10, 11, 67, 68, 69, 70] (by decide +kernel) (by decide +kernel)) (goodIn_sub (fun _ h => List.mem_cons_of_mem _ (List.mem_append_left _ (List.mem_append_right _ h))) (by decide +kernel))
set_option maxRecDepth 20000 in
theorem gX2_setTone_X2_pieceAt : GoodIn wsX2_setTone (wsV RX2 102 RX2 yX2_pieceAt wsX2_pieceAt) := goodIn_app (goodIn_of _ (by decide +kernel)) ggX2_setTone_X2_pieceAt
set_option maxRecDepth 20000 in
theorem ggX2_setTone_X2_checkChord : GoodIn wsX2_setTone wsX2_checkChord := goodIn_ca (goodIn_r _ [14, 8, 9, 15, 16, 17, 18, 19, 20, 71, 72, 73, 74, 75] (by decide +kernel) (by decide +kernel)) (goodIn_sub (fun _ h => List.mem_cons_of_mem _ (List.mem_append_left _ (List.mem_append_right _ h))) (by decide +kernel))
set_option maxRecDepth 20000 in
theorem gX2_setTone_X2_checkChord : GoodIn wsX2_setTone (va_wsS RX2 106 yX2_checkChord wsX2_checkChord) := goodIn_app (goodIn_of _ (by decide +kernel)) ggX2_setTone_X2_checkChord
set_option maxRecDepth 20000 in
theorem ggX2_setTone_X2_checkVoice : GoodIn wsX2_setTone wsX2_checkVoice := goodIn_ca (goodIn_r _ [23, 24, 25] (by decide +kernel) (by decide +kernel)) (goodIn_sub (fun _ h => List.mem_cons_of_mem _ (List.mem_append_right _ h)) (by decide +kernel))
set_option maxRecDepth 20000 in
theorem gX2_setTone_X2_checkVoice : GoodIn wsX2_setTone (va_wsS RX2 27 yX2_checkVoice wsX2_checkVoice) := goodIn_app (goodIn_of _ (by decide +kernel)) ggX2_setTone_X2_checkVoice
set_option maxRecDepth 20000 in
theorem ggX2_setTone_X2_checkTone : GoodIn wsX2_setTone wsX2_checkTone := goodIn_ca (goodIn_r _ [28, 24, 25] (by decide +kernel) (by decide +kernel)) (goodIn_sub (fun _ h => List.mem_cons_of_mem _ (List.mem_append_right _ h)) (by decide +kernel))
set_option maxRecDepth 20000 in
theorem gX2_setTone_X2_checkTone : GoodIn wsX2_setTone (va_wsS RX2 31 yX2_checkTone wsX2_checkTone) := goodIn_app (goodIn_of _ (by decide +kernel)) ggX2_setTone_X2_checkTone
set_option maxRecDepth 20000 in
theorem ggX2_setTone_X0_ceiling : GoodIn wsX2_setTone wsX0_ceiling := goodIn_r _ [32, 33, 34, 35, 18, 36, 37, 71, 72, 73, 74, 75] (by decide +kernel) (by decide +kernel)
set_option maxRecDepth 20000 in
theorem gX2_setTone_X0_ceiling : GoodIn wsX2_setTone (wsV RX2 110 RX0 yX0_ceiling wsX0_ceiling) := goodIn_app (goodIn_of _ (by decide +kernel)) ggX2_setTone_X0_ceiling
set_option maxRecDepth 20000 in
theorem ggX2_setTone_X0_floor : GoodIn wsX2_setTone wsX0_floor := goodIn_r _ [41, 33, 34, 35, 18, 36, 37, 71, 72, 73, 74, 75] (by decide +kernel) (by decide +kernel)
set_option maxRecDepth 20000 in
theorem gX2_setTone_X0_floor : GoodIn wsX2_setTone (wsV RX2 113 RX0 yX0_floor wsX0_floor) := goodIn_app (goodIn_of _ (by decide +kernel)) ggX2_setTone_X0_floor
set_option maxRecDepth 20000 in
theorem ggX2_setTone_X0_toneAt : GoodIn wsX2_setTone wsX0_toneAt := goodIn_r _ [36, 37, 71, 72, 73, 74, 75] (by decide +kernel) (by decide +kernel)
set_option maxRecDepth 20000 in
theorem gX2_setTone_X0_toneAt : GoodIn wsX2_setTone (wsV RX2 118 RX0 yX0_toneAt wsX0_toneAt) := goodIn_app (goodIn_of _ (by decide +kernel)) ggX2_setTone_X0_toneAt
set_option maxRecDepth 20000 in
theorem ggX2_setTone_X0_putTone : GoodIn wsX2_setTone wsX0_putTone := goodIn_r _ [46, 37, 47, 48, 49, 18, 50, 20, 51, 52, 53, 54, 55, 56, 57, 58, 59, 33, 34, 35, 36, 60, 61, 62, 63, 64, 65, 66, 71, 72, 73, 74, 75] (by decide +kernel) (by decide +kernel)
set_option maxRecDepth 20000 in
theorem gX2_setTone_X0_putTone : GoodIn wsX2_setTone (wsV RX2 121 RX0 yX0_putTone wsX0_putTone) := goodIn_app (goodIn_of _ (by decide +kernel)) ggX2_setTone_X0_putTone
set_option maxRecDepth 20000 in
theorem ggX2_faultsAt_X2_pieceAt : GoodIn wsX2_faultsAt wsX2_pieceAt := goodIn_ca (goodIn_r _ [5, 6, 7, 8, 9, 24, 25, 26, 27] (by decide +kernel) (by decide +kernel)) (goodIn_sub (fun _ h => List.mem_cons_of_mem _ (List.mem_append_right _ h)) (by decide +kernel))
set_option maxRecDepth 20000 in
theorem gX2_faultsAt_X2_pieceAt : GoodIn wsX2_faultsAt (wsV RX2 102 RX2 yX2_pieceAt wsX2_pieceAt) := goodIn_app (goodIn_of _ (by decide +kernel)) ggX2_faultsAt_X2_pieceAt
set_option maxRecDepth 20000 in
theorem ggX2_faultsAt_X2_checkChord : GoodIn wsX2_faultsAt wsX2_checkChord := goodIn_ca (goodIn_r _ [12, 6, 7, 13, 14, 15, 16, 17, 18, 28, 29, 30, 31, 32] (by decide +kernel) (by decide +kernel)) (goodIn_sub (fun _ h => List.mem_cons_of_mem _ (List.mem_append_right _ h)) (by decide +kernel))
set_option maxRecDepth 20000 in
theorem gX2_faultsAt_X2_checkChord : GoodIn wsX2_faultsAt (va_wsS RX2 106 yX2_checkChord wsX2_checkChord) := goodIn_app (goodIn_of _ (by decide +kernel)) ggX2_faultsAt_X2_checkChord
set_option maxRecDepth 20000 in
theorem ggX2_faultsAt_X0_faultsInto : GoodIn wsX2_faultsAt wsX0_faultsInto := goodIn_r _ [22, 23, 28, 29, 30, 31, 32] (by decide +kernel) (by decide +kernel)
set_option maxRecDepth 20000 in
theorem gX2_faultsAt_X0_faultsInto : GoodIn wsX2_faultsAt (wsV RX2 125 RX0 yX0_faultsInto wsX0_faultsInto) := goodIn_app (goodIn_of _ (by decide +kernel)) ggX2_faultsAt_X0_faultsInto
set_option maxRecDepth 20000 in
theorem ggX2_faults_X2_pieceAt : GoodIn wsX2_faults wsX2_pieceAt := goodIn_ca (goodIn_r _ [5, 6, 7, 8, 9, 17, 18, 19, 20] (by decide +kernel) (by decide +kernel)) (goodIn_sub (fun _ h => List.mem_cons_of_mem _ (List.mem_append_right _ h)) (by decide +kernel))
set_option maxRecDepth 20000 in
theorem gX2_faults_X2_pieceAt : GoodIn wsX2_faults (wsV RX2 102 RX2 yX2_pieceAt wsX2_pieceAt) := goodIn_app (goodIn_of _ (by decide +kernel)) ggX2_faults_X2_pieceAt
set_option maxRecDepth 20000 in
theorem ggX2_faults_X0_faultSum : GoodIn wsX2_faults wsX0_faultSum := goodIn_r _ [14, 15, 16, 21, 22, 23, 24, 25] (by decide +kernel) (by decide +kernel)
set_option maxRecDepth 20000 in
theorem gX2_faults_X0_faultSum : GoodIn wsX2_faults (wsV RX2 129 RX0 yX0_faultSum wsX0_faultSum) := goodIn_app (goodIn_of _ (by decide +kernel)) ggX2_faults_X0_faultSum
set_option maxRecDepth 20000 in
theorem ggX2_leastFaults_X2_pieceAt : GoodIn wsX2_leastFaults wsX2_pieceAt := goodIn_ca (goodIn_r _ [7, 1, 2, 8, 9, 76, 77, 78, 79] (by decide +kernel) (by decide +kernel)) (goodIn_sub (fun _ h => List.mem_cons_of_mem _ (List.mem_append_left _ (List.mem_append_right _ h))) (by decide +kernel))
