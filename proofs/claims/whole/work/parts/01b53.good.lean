set_option maxRecDepth 20000 in
theorem gX3_weakestOf_X3_weaknessOf : GoodIn wsX3_weakestOf (wsV RX3 123 RX3 yX3_weaknessOf wsX3_weaknessOf) := goodIn_app (goodIn_of _ (by decide +kernel)) ggX3_weakestOf_X3_weaknessOf
set_option maxRecDepth 20000 in
theorem ggX3_rehearse_X3_isPiece : GoodIn wsX3_rehearse wsX3_isPiece := goodIn_r _ [7, 8, 9, 10, 6, 11, 38, 39, 40, 41, 42, 43, 44, 45, 46, 47, 48] (by decide +kernel) (by decide +kernel)
set_option maxRecDepth 20000 in
theorem gX3_rehearse_X3_isPiece : GoodIn wsX3_rehearse (wsV RX3 48 RX3 yX3_isPiece wsX3_isPiece) := goodIn_app (goodIn_of _ (by decide +kernel)) ggX3_rehearse_X3_isPiece
set_option maxRecDepth 20000 in
theorem ggX3_rehearse_X3_in : GoodIn wsX3_rehearse wsX3_in := goodIn_r _ [11] (by decide +kernel) (by decide +kernel)
set_option maxRecDepth 20000 in
theorem gX3_rehearse_X3_in : GoodIn wsX3_rehearse (va_wsS RX3 38 yX3_in wsX3_in) := goodIn_app (goodIn_of _ (by decide +kernel)) ggX3_rehearse_X3_in
set_option maxRecDepth 20000 in
theorem ggX3_rehearse_X3_refused : GoodIn wsX3_rehearse wsX3_refused := goodIn_r _ [15, 16, 38, 39, 40, 41, 42, 43, 44, 45, 46, 47, 48] (by decide +kernel) (by decide +kernel)
set_option maxRecDepth 20000 in
theorem gX3_rehearse_X3_refused : GoodIn wsX3_rehearse (wsV RX3 58 RX3 yX3_refused wsX3_refused) := goodIn_app (goodIn_of _ (by decide +kernel)) ggX3_rehearse_X3_refused
set_option maxRecDepth 20000 in
theorem ggX3_rehearse_X3_weakestOf : GoodIn wsX3_rehearse wsX3_weakestOf := goodIn_r _ [20, 2, 21, 22, 23, 6, 24, 1, 25, 26, 27, 28, 29, 30, 31, 32, 33, 9, 10, 11, 34, 35, 36, 37, 38, 39, 40, 41, 42, 43, 44, 45, 46, 47, 48] (by decide +kernel) (by decide +kernel)
set_option maxRecDepth 20000 in
theorem gX3_rehearse_X3_weakestOf : GoodIn wsX3_rehearse (wsV RX3 126 RX3 yX3_weakestOf wsX3_weakestOf) := goodIn_app (goodIn_of _ (by decide +kernel)) ggX3_rehearse_X3_weakestOf
set_option maxRecDepth 20000 in
theorem ggX3_rehearse_X3_weaknessOf : GoodIn wsX3_rehearse wsX3_weaknessOf := goodIn_r _ [24, 1, 25, 26, 27, 6, 28, 29, 30, 31, 32, 33, 9, 10, 11, 34, 35, 36, 37, 38, 39, 40, 41, 42, 43, 44, 45, 46, 47, 48] (by decide +kernel) (by decide +kernel)
set_option maxRecDepth 20000 in
theorem gX3_rehearse_X3_weaknessOf : GoodIn wsX3_rehearse (wsV RX3 123 RX3 yX3_weaknessOf wsX3_weaknessOf) := goodIn_app (goodIn_of _ (by decide +kernel)) ggX3_rehearse_X3_weaknessOf
set_option maxRecDepth 20000 in
theorem ggX3_weakness_X3_isChord : GoodIn wsX3_weakness wsX3_isChord := goodIn_r _ [5, 6, 7, 8, 9, 4, 10, 11, 12, 13, 14, 38, 39, 40, 41, 42, 43, 44, 45, 46, 47, 48] (by decide +kernel) (by decide +kernel)
set_option maxRecDepth 20000 in
theorem gX3_weakness_X3_isChord : GoodIn wsX3_weakness (wsV RX3 82 RX3 yX3_isChord wsX3_isChord) := goodIn_app (goodIn_of _ (by decide +kernel)) ggX3_weakness_X3_isChord
set_option maxRecDepth 20000 in
theorem ggX3_weakness_X3_refused : GoodIn wsX3_weakness wsX3_refused := goodIn_r _ [18, 19, 38, 39, 40, 41, 42, 43, 44, 45, 46, 47, 48] (by decide +kernel) (by decide +kernel)
set_option maxRecDepth 20000 in
theorem gX3_weakness_X3_refused : GoodIn wsX3_weakness (wsV RX3 58 RX3 yX3_refused wsX3_refused) := goodIn_app (goodIn_of _ (by decide +kernel)) ggX3_weakness_X3_refused
set_option maxRecDepth 20000 in
theorem ggX3_weakness_X3_weaknessOf : GoodIn wsX3_weakness wsX3_weaknessOf := goodIn_r _ [23, 24, 25, 26, 27, 4, 28, 29, 30, 31, 32, 33, 12, 13, 14, 34, 35, 36, 37, 38, 39, 40, 41, 42, 43, 44, 45, 46, 47, 48] (by decide +kernel) (by decide +kernel)
set_option maxRecDepth 20000 in
theorem gX3_weakness_X3_weaknessOf : GoodIn wsX3_weakness (wsV RX3 123 RX3 yX3_weaknessOf wsX3_weaknessOf) := goodIn_app (goodIn_of _ (by decide +kernel)) ggX3_weakness_X3_weaknessOf
set_option maxRecDepth 20000 in
theorem ggX3_weakest_X3_isPiece : GoodIn wsX3_weakest wsX3_isPiece := goodIn_r _ [5, 6, 7, 8, 4, 9, 38, 39, 40, 41, 42, 43, 44, 45, 46, 47, 48] (by decide +kernel) (by decide +kernel)
set_option maxRecDepth 20000 in
theorem gX3_weakest_X3_isPiece : GoodIn wsX3_weakest (wsV RX3 48 RX3 yX3_isPiece wsX3_isPiece) := goodIn_app (goodIn_of _ (by decide +kernel)) ggX3_weakest_X3_isPiece
set_option maxRecDepth 20000 in
theorem ggX3_weakest_X3_refused : GoodIn wsX3_weakest wsX3_refused := goodIn_r _ [13, 14, 38, 39, 40, 41, 42, 43, 44, 45, 46, 47, 48] (by decide +kernel) (by decide +kernel)
set_option maxRecDepth 20000 in
theorem gX3_weakest_X3_refused : GoodIn wsX3_weakest (wsV RX3 58 RX3 yX3_refused wsX3_refused) := goodIn_app (goodIn_of _ (by decide +kernel)) ggX3_weakest_X3_refused
set_option maxRecDepth 20000 in
theorem ggX3_weakest_X3_weakestOf : GoodIn wsX3_weakest wsX3_weakestOf := goodIn_r _ [18, 19, 20, 21, 22, 4, 23, 24, 25, 26, 27, 28, 29, 30, 31, 32, 33, 7, 8, 9, 34, 35, 36, 37, 38, 39, 40, 41, 42, 43, 44, 45, 46, 47, 48] (by decide +kernel) (by decide +kernel)
set_option maxRecDepth 20000 in
theorem gX3_weakest_X3_weakestOf : GoodIn wsX3_weakest (wsV RX3 126 RX3 yX3_weakestOf wsX3_weakestOf) := goodIn_app (goodIn_of _ (by decide +kernel)) ggX3_weakest_X3_weakestOf
set_option maxRecDepth 20000 in
theorem ggL_addSinger_X2_addSinger : GoodIn wsL_addSinger wsX2_addSinger := goodIn_ca (goodIn_ca (goodIn_r _ [7, 8, 9, 10, 11, 12, 13, 14, 6, 15, 16, 17, 18, 19, 20, 21, 22, 23, 24, 25, 26, 27, 28, 29, 30, 31, 32, 33, 34, 35, 36, 37, 38, 39, 40] (by decide +kernel) (by decide +kernel)) (goodIn_sub (fun _ h => List.mem_cons_of_mem _ (List.mem_append_left _ (List.mem_append_right _ h))) (by decide +kernel))) (goodIn_sub (fun _ h => List.mem_cons_of_mem _ (List.mem_append_right _ h)) (by decide +kernel))
set_option maxRecDepth 20000 in
theorem gL_addSinger_X2_addSinger : GoodIn wsL_addSinger (wsV RL 7 RX2 yX2_addSinger wsX2_addSinger) := goodIn_app (goodIn_of _ (by decide +kernel)) ggL_addSinger_X2_addSinger
set_option maxRecDepth 20000 in
theorem ggL_tell_X2_tell : GoodIn wsL_tell wsX2_tell := goodIn_ca (goodIn_ca (goodIn_r _ [7, 8, 9, 10, 11, 6, 12, 13, 14, 15, 16, 17, 18, 19, 20, 21, 22, 23, 24, 25, 26, 27, 28, 29, 30, 31, 32, 33, 34, 35, 36, 37, 38, 39, 40, 41, 42, 43] (by decide +kernel) (by decide +kernel)) (goodIn_sub (fun _ h => List.mem_cons_of_mem _ (List.mem_append_left _ (List.mem_append_right _ h))) (by decide +kernel))) (goodIn_sub (fun _ h => List.mem_cons_of_mem _ (List.mem_append_right _ h)) (by decide +kernel))
set_option maxRecDepth 20000 in
theorem gL_tell_X2_tell : GoodIn wsL_tell (wsV RL 17 RX2 yX2_tell wsX2_tell) := goodIn_app (goodIn_of _ (by decide +kernel)) ggL_tell_X2_tell
set_option maxRecDepth 20000 in
theorem ggL_change_X2_change : GoodIn wsL_change wsX2_change := goodIn_ca (goodIn_ca (goodIn_r _ [7, 8, 9, 10, 11, 6, 12, 13, 14, 15, 16, 17, 18, 19, 20, 21, 22, 23, 24, 25, 26, 27, 28, 29, 30, 31, 32, 33, 34, 35, 36, 37, 38, 39] (by decide +kernel) (by decide +kernel)) (goodIn_sub (fun _ h => List.mem_cons_of_mem _ (List.mem_append_left _ (List.mem_append_right _ h))) (by decide +kernel))) (goodIn_sub (fun _ h => List.mem_cons_of_mem _ (List.mem_append_right _ h)) (by decide +kernel))
set_option maxRecDepth 20000 in
theorem gL_change_X2_change : GoodIn wsL_change (wsV RL 23 RX2 yX2_change wsX2_change) := goodIn_app (goodIn_of _ (by decide +kernel)) ggL_change_X2_change
set_option maxRecDepth 20000 in
theorem ggL_range_X2_range : GoodIn wsL_range wsX2_range := goodIn_ca (goodIn_r _ [6, 7, 8, 9, 5, 10, 11, 12, 13, 14, 15, 16, 17, 18, 19, 20, 21, 22, 23, 24, 25, 26, 27, 28, 29, 30, 31, 32, 33, 34, 35, 36, 37, 38, 39, 40, 41, 42, 43, 44, 45, 46, 47, 48, 49, 50, 51, 52, 53] (by decide +kernel) (by decide +kernel)) (goodIn_sub (fun _ h => List.mem_cons_of_mem _ (List.mem_append_right _ h)) (by decide +kernel))
set_option maxRecDepth 20000 in
theorem gL_range_X2_range : GoodIn wsL_range (wsV RL 27 RX2 yX2_range wsX2_range) := goodIn_app (goodIn_of _ (by decide +kernel)) ggL_range_X2_range
set_option maxRecDepth 20000 in
theorem ggL_chord_X2_chord : GoodIn wsL_chord wsX2_chord := goodIn_ca (goodIn_ca (goodIn_r _ [7, 8, 9, 10, 11, 12, 6, 13, 14, 15, 16, 17, 18, 19, 20, 21, 22, 23, 24, 25, 26, 27, 28, 29, 30, 31, 32, 33, 34, 35, 36, 37, 38, 39, 40, 41, 42, 43, 44, 45, 46, 47, 48, 49, 50, 51, 52, 53, 54, 55, 56, 57, 58, 59] (by decide +kernel) (by decide +kernel)) (goodIn_sub (fun _ h => List.mem_cons_of_mem _ (List.mem_append_left _ (List.mem_append_right _ h))) (by decide +kernel))) (goodIn_sub (fun _ h => List.mem_cons_of_mem _ (List.mem_append_right _ h)) (by decide +kernel))
set_option maxRecDepth 20000 in
theorem gL_chord_X2_chord : GoodIn wsL_chord (wsV RL 30 RX2 yX2_chord wsX2_chord) := goodIn_app (goodIn_of _ (by decide +kernel)) ggL_chord_X2_chord
set_option maxRecDepth 20000 in
theorem ggL_addPiece_X2_addPiece : GoodIn wsL_addPiece wsX2_addPiece := goodIn_ca (goodIn_ca (goodIn_r _ [7, 8, 9, 10, 11, 12, 13, 14, 15, 16, 17, 18, 19, 20, 21, 22, 23, 24, 25, 26, 27, 28, 29, 30, 31, 32, 33, 34, 35, 36, 37, 38, 39, 40, 41, 42, 43, 44, 45] (by decide +kernel) (by decide +kernel)) (goodIn_sub (fun _ h => List.mem_cons_of_mem _ (List.mem_append_left _ (List.mem_append_right _ h))) (by decide +kernel))) (goodIn_sub (fun _ h => List.mem_cons_of_mem _ (List.mem_append_right _ h)) (by decide +kernel))
set_option maxRecDepth 20000 in
theorem gL_addPiece_X2_addPiece : GoodIn wsL_addPiece (wsV RL 34 RX2 yX2_addPiece wsX2_addPiece) := goodIn_app (goodIn_of _ (by decide +kernel)) ggL_addPiece_X2_addPiece
set_option maxRecDepth 20000 in
theorem ggL_setTone_X2_setTone : GoodIn wsL_setTone wsX2_setTone := goodIn_ca (goodIn_ca (goodIn_ca (goodIn_r _ [8, 9, 10, 11, 12, 13, 7, 14, 15, 16, 17, 18, 19, 20, 21, 22, 23, 24, 25, 26, 27, 28, 29, 30, 31, 32, 33, 34, 35, 36, 37, 38, 39, 40, 41, 42, 43, 44, 45, 46, 47, 48, 49, 50, 51, 52, 53, 54, 55, 56, 57, 58, 59, 60, 61, 62, 63, 64, 65, 66, 67, 68, 69, 70, 71, 72, 73, 74, 75, 76, 77, 78, 79, 80, 81, 82] (by decide +kernel) (by decide +kernel)) (goodIn_sub (fun _ h => List.mem_cons_of_mem _ (List.mem_append_left _ (List.mem_append_left _ (List.mem_append_right _ h)))) (by decide +kernel))) (goodIn_sub (fun _ h => List.mem_cons_of_mem _ (List.mem_append_left _ (List.mem_append_right _ h))) (by decide +kernel))) (goodIn_sub (fun _ h => List.mem_cons_of_mem _ (List.mem_append_right _ h)) (by decide +kernel))
set_option maxRecDepth 20000 in
theorem gL_setTone_X2_setTone : GoodIn wsL_setTone (wsV RL 38 RX2 yX2_setTone wsX2_setTone) := goodIn_app (goodIn_of _ (by decide +kernel)) ggL_setTone_X2_setTone
set_option maxRecDepth 20000 in
theorem ggL_faultsAt_X2_faultsAt : GoodIn wsL_faultsAt wsX2_faultsAt := goodIn_ca (goodIn_r _ [6, 7, 8, 9, 5, 10, 11, 12, 13, 14, 15, 16, 17, 18, 19, 20, 21, 22, 23, 24, 25, 26, 27, 28, 29, 30, 31, 32, 33, 34, 35, 36, 37] (by decide +kernel) (by decide +kernel)) (goodIn_sub (fun _ h => List.mem_cons_of_mem _ (List.mem_append_right _ h)) (by decide +kernel))
set_option maxRecDepth 20000 in
theorem gL_faultsAt_X2_faultsAt : GoodIn wsL_faultsAt (wsV RL 41 RX2 yX2_faultsAt wsX2_faultsAt) := goodIn_app (goodIn_of _ (by decide +kernel)) ggL_faultsAt_X2_faultsAt
set_option maxRecDepth 20000 in
theorem ggL_faults_X2_faults : GoodIn wsL_faults wsX2_faults := goodIn_ca (goodIn_r _ [6, 7, 8, 9, 5, 10, 11, 12, 13, 14, 15, 16, 17, 18, 19, 20, 21, 22, 23, 24, 25, 26, 27, 28, 29, 30] (by decide +kernel) (by decide +kernel)) (goodIn_sub (fun _ h => List.mem_cons_of_mem _ (List.mem_append_right _ h)) (by decide +kernel))
set_option maxRecDepth 20000 in
theorem gL_faults_X2_faults : GoodIn wsL_faults (wsV RL 44 RX2 yX2_faults wsX2_faults) := goodIn_app (goodIn_of _ (by decide +kernel)) ggL_faults_X2_faults
set_option maxRecDepth 20000 in
theorem ggL_leastFaults_X2_leastFaults : GoodIn wsL_leastFaults wsX2_leastFaults := goodIn_ca (goodIn_ca (goodIn_r _ [7, 8, 9, 10, 11, 12, 6, 13, 14, 15, 16, 17, 18, 19, 20, 21, 22, 23, 24, 25, 26, 27, 28, 29, 30, 31, 32, 33, 34, 35, 36, 37, 38, 39, 40, 41, 42, 43, 44, 45, 46, 47, 48, 49, 50, 51, 52, 53, 54, 55, 56, 57, 58, 59, 60, 61, 62, 63, 64, 65, 66, 67, 68, 69, 70, 71, 72, 73, 74, 75, 76, 77, 78, 79, 80, 81, 82, 83, 84, 85, 86, 87, 88, 89, 90] (by decide +kernel) (by decide +kernel)) (goodIn_sub (fun _ h => List.mem_cons_of_mem _ (List.mem_append_left _ (List.mem_append_right _ h))) (by decide +kernel))) (goodIn_sub (fun _ h => List.mem_cons_of_mem _ (List.mem_append_right _ h)) (by decide +kernel))
set_option maxRecDepth 20000 in
theorem gL_leastFaults_X2_leastFaults : GoodIn wsL_leastFaults (wsV RL 47 RX2 yX2_leastFaults wsX2_leastFaults) := goodIn_app (goodIn_of _ (by decide +kernel)) ggL_leastFaults_X2_leastFaults
set_option maxRecDepth 20000 in
theorem ggL_shift_X2_shift : GoodIn wsL_shift wsX2_shift := goodIn_ca (goodIn_ca (goodIn_ca (goodIn_r _ [8, 9, 10, 11, 12, 13, 7, 14, 15, 16, 17, 18, 19, 20, 21, 22, 23, 24, 25, 26, 27, 28, 29, 30, 31, 32, 33, 34, 35, 36, 37, 38, 39, 40, 41, 42, 43, 44, 45, 46, 47, 48, 49, 50, 51, 52, 53, 54, 55, 56, 57, 58, 59, 60, 61, 62, 63, 64, 65, 66, 67, 68, 69, 70, 71, 72, 73, 74, 75, 76, 77, 78, 79, 80, 81, 82, 83, 84, 85, 86, 87, 88, 89, 90] (by decide +kernel) (by decide +kernel)) (goodIn_sub (fun _ h => List.mem_cons_of_mem _ (List.mem_append_left _ (List.mem_append_left _ (List.mem_append_right _ h)))) (by decide +kernel))) (goodIn_sub (fun _ h => List.mem_cons_of_mem _ (List.mem_append_left _ (List.mem_append_right _ h))) (by decide +kernel))) (goodIn_sub (fun _ h => List.mem_cons_of_mem _ (List.mem_append_right _ h)) (by decide +kernel))
set_option maxRecDepth 20000 in
theorem gL_shift_X2_shift : GoodIn wsL_shift (wsV RL 50 RX2 yX2_shift wsX2_shift) := goodIn_app (goodIn_of _ (by decide +kernel)) ggL_shift_X2_shift
set_option maxRecDepth 20000 in
theorem ggL_dates_X2_dates : GoodIn wsL_dates wsX2_dates := goodIn_ca (goodIn_r _ [6, 7, 8, 9, 5, 10, 11, 12, 13, 14, 15, 16, 17, 18, 19, 20, 21, 22, 23, 24, 25, 26, 27, 28, 29, 30, 31, 32, 33, 34, 35, 36, 37, 38, 39, 40, 41, 42, 43, 44, 45, 46, 47, 48, 49, 50, 51, 52, 53, 54, 55, 56, 57, 58, 59, 60, 61, 62, 63, 64, 65, 66, 67, 68, 69, 70, 71, 72, 73, 74, 75, 76, 77, 78, 79, 80, 81] (by decide +kernel) (by decide +kernel)) (goodIn_sub (fun _ h => List.mem_cons_of_mem _ (List.mem_append_right _ h)) (by decide +kernel))
set_option maxRecDepth 20000 in
theorem gL_dates_X2_dates : GoodIn wsL_dates (wsV RL 53 RX2 yX2_dates wsX2_dates) := goodIn_app (goodIn_of _ (by decide +kernel)) ggL_dates_X2_dates
set_option maxRecDepth 20000 in
theorem ggL_missed_X2_missed : GoodIn wsL_missed wsX2_missed := goodIn_ca (goodIn_r _ [6, 7, 8, 9, 5, 10, 11, 12, 13, 14, 15, 16, 17, 18, 19, 20, 21, 22, 23, 24, 25, 26, 27, 28, 29, 30, 31, 32, 33, 34, 35, 36, 37, 38, 39, 40, 41, 42, 43, 44, 45, 46] (by decide +kernel) (by decide +kernel)) (goodIn_sub (fun _ h => List.mem_cons_of_mem _ (List.mem_append_right _ h)) (by decide +kernel))
set_option maxRecDepth 20000 in
theorem gL_missed_X2_missed : GoodIn wsL_missed (wsV RL 56 RX2 yX2_missed wsX2_missed) := goodIn_app (goodIn_of _ (by decide +kernel)) ggL_missed_X2_missed
set_option maxRecDepth 20000 in
theorem ggL_programme_X2_programme : GoodIn wsL_programme wsX2_programme := goodIn_ca (goodIn_ca (goodIn_r _ [6, 7, 8, 5, 9, 10, 11, 12, 13, 14, 15, 16, 17, 18, 19, 20, 21, 22, 23, 24, 25, 26, 27, 28, 29, 30, 31, 32, 33, 34, 35, 36, 37, 38, 39, 40, 41, 42, 43, 44, 45, 46, 47, 48, 49, 50, 51, 52, 53, 54, 55, 56, 57, 58, 59, 60, 61, 62, 63, 64, 65, 66, 67, 68, 69, 70, 71, 72, 73, 74, 75, 76, 77, 78, 79, 80, 81, 82, 83, 84, 85, 86, 87, 88, 89, 90, 91, 92, 93, 94, 95, 96, 97, 98, 99, 100, 101, 102, 103, 104, 105, 106, 107, 108, 109, 110, 111, 112, 113, 114, 115, 116, 117] (by decide +kernel) (by decide +kernel)) (goodIn_sub (fun _ h => List.mem_cons_of_mem _ (List.mem_append_left _ (List.mem_append_right _ h))) (by decide +kernel))) (goodIn_sub (fun _ h => List.mem_cons_of_mem _ (List.mem_append_right _ h)) (by decide +kernel))
set_option maxRecDepth 20000 in
theorem gL_programme_X2_programme : GoodIn wsL_programme (wsV RL 59 RX2 yX2_programme wsX2_programme) := goodIn_app (goodIn_of _ (by decide +kernel)) ggL_programme_X2_programme
set_option maxRecDepth 20000 in
theorem ggL_duration_X2_duration : GoodIn wsL_duration wsX2_duration := goodIn_ca (goodIn_ca (goodIn_r _ [6, 7, 8, 5, 9, 10, 11, 12, 13, 14, 15, 16, 17, 18, 19, 20, 21, 22, 23, 24, 25, 26, 27, 28, 29, 30, 31, 32, 33, 34, 35, 36, 37, 38, 39, 40, 41, 42, 43, 44, 45, 46, 47, 48, 49, 50, 51, 52, 53, 54, 55, 56, 57, 58, 59, 60, 61, 62, 63, 64, 65, 66, 67, 68, 69, 70, 71, 72, 73, 74, 75, 76, 77, 78, 79, 80, 81, 82, 83, 84, 85, 86, 87, 88, 89, 90, 91, 92, 93, 94, 95, 96, 97, 98, 99, 100, 101, 102, 103, 104, 105, 106, 107, 108, 109, 110, 111, 112, 113, 114, 115, 116, 117] (by decide +kernel) (by decide +kernel)) (goodIn_sub (fun _ h => List.mem_cons_of_mem _ (List.mem_append_left _ (List.mem_append_right _ h))) (by decide +kernel))) (goodIn_sub (fun _ h => List.mem_cons_of_mem _ (List.mem_append_right _ h)) (by decide +kernel))
set_option maxRecDepth 20000 in
theorem gL_duration_X2_duration : GoodIn wsL_duration (wsV RL 62 RX2 yX2_duration wsX2_duration) := goodIn_app (goodIn_of _ (by decide +kernel)) ggL_duration_X2_duration
set_option maxRecDepth 20000 in
theorem ggL_rehearse_X2_rehearse : GoodIn wsL_rehearse wsX2_rehearse := goodIn_ca (goodIn_ca (goodIn_r _ [7, 8, 9, 10, 11, 12, 6, 13, 14, 15, 16, 17, 18, 19, 20, 21, 22, 23, 24, 25, 26, 27, 28, 29, 30, 31, 32, 33, 34, 35, 36, 37, 38, 39, 40, 41, 42, 43, 44, 45, 46, 47, 48, 49, 50] (by decide +kernel) (by decide +kernel)) (goodIn_sub (fun _ h => List.mem_cons_of_mem _ (List.mem_append_left _ (List.mem_append_right _ h))) (by decide +kernel))) (goodIn_sub (fun _ h => List.mem_cons_of_mem _ (List.mem_append_right _ h)) (by decide +kernel))
set_option maxRecDepth 20000 in
theorem gL_rehearse_X2_rehearse : GoodIn wsL_rehearse (wsV RL 65 RX2 yX2_rehearse wsX2_rehearse) := goodIn_app (goodIn_of _ (by decide +kernel)) ggL_rehearse_X2_rehearse
set_option maxRecDepth 20000 in
theorem ggL_weakness_X2_weakness : GoodIn wsL_weakness wsX2_weakness := goodIn_ca (goodIn_r _ [6, 7, 8, 9, 5, 10, 11, 12, 13, 14, 15, 16, 17, 18, 19, 20, 21, 22, 23, 24, 25, 26, 27, 28, 29, 30, 31, 32, 33, 34, 35, 36, 37, 38, 39, 40, 41, 42] (by decide +kernel) (by decide +kernel)) (goodIn_sub (fun _ h => List.mem_cons_of_mem _ (List.mem_append_right _ h)) (by decide +kernel))
set_option maxRecDepth 20000 in
theorem gL_weakness_X2_weakness : GoodIn wsL_weakness (wsV RL 68 RX2 yX2_weakness wsX2_weakness) := goodIn_app (goodIn_of _ (by decide +kernel)) ggL_weakness_X2_weakness
set_option maxRecDepth 20000 in
theorem ggL_weakest_X2_weakest : GoodIn wsL_weakest wsX2_weakest := goodIn_ca (goodIn_r _ [6, 7, 8, 9, 5, 10, 11, 12, 13, 14, 15, 16, 17, 18, 19, 20, 21, 22, 23, 24, 25, 26, 27, 28, 29, 30, 31, 32, 33, 34, 35, 36, 37, 38, 39] (by decide +kernel) (by decide +kernel)) (goodIn_sub (fun _ h => List.mem_cons_of_mem _ (List.mem_append_right _ h)) (by decide +kernel))
set_option maxRecDepth 20000 in
theorem gL_weakest_X2_weakest : GoodIn wsL_weakest (wsV RL 71 RX2 yX2_weakest wsX2_weakest) := goodIn_app (goodIn_of _ (by decide +kernel)) ggL_weakest_X2_weakest
set_option maxRecDepth 20000 in
theorem ggL_law_X2_init : GoodIn wsL_law wsX2_init := goodIn_r _ [9, 10, 11, 12, 13, 14, 15, 16, 17, 18, 19, 20, 21, 22, 23, 24, 25, 26, 27, 28, 29, 30, 31, 32, 33, 34, 35, 589, 590, 591, 592, 593, 574, 575, 576, 577, 594, 595, 596, 597, 598] (by decide +kernel) (by decide +kernel)
set_option maxRecDepth 20000 in
theorem gL_law_X2_init : GoodIn wsL_law (wsX2_init) := ggL_law_X2_init
set_option maxRecDepth 20000 in
theorem ggL_law_X3_init : GoodIn wsL_law wsX3_init := goodIn_r _ [38, 39, 11, 12, 25, 40, 41, 42, 43, 44, 45, 46, 47, 578, 579, 580, 581, 582, 583, 584, 585, 586, 587, 588] (by decide +kernel) (by decide +kernel)
set_option maxRecDepth 20000 in
theorem gL_law_X3_init : GoodIn wsL_law (wsX3_init) := ggL_law_X3_init
set_option maxRecDepth 20000 in
theorem ggL_law_L_addSinger : GoodIn wsL_law wsL_addSinger := goodIn_ca (goodIn_ca (goodIn_r _ [51, 52, 53, 54, 55, 56, 2, 57, 58, 59, 60, 61, 16, 62, 63, 64, 65, 66, 67, 68, 69, 70, 15, 71, 72, 73, 74, 75, 76, 26, 27, 28, 574, 575, 576, 577, 589, 590, 591, 592, 593] (by decide +kernel) (by decide +kernel)) (goodIn_sub (fun _ h => List.mem_append_left _ (List.mem_append_left _ (List.mem_append_right _ h))) (by decide +kernel))) (goodIn_sub (fun _ h => List.mem_append_left _ (List.mem_append_right _ h)) (by decide +kernel))
set_option maxRecDepth 20000 in
theorem gL_law_L_addSinger : GoodIn wsL_law (va_wsS RL 78 yL_addSinger wsL_addSinger) := goodIn_app (goodIn_of _ (by decide +kernel)) ggL_law_L_addSinger
set_option maxRecDepth 20000 in
theorem ggL_law_X3_addSinger : GoodIn wsL_law wsX3_addSinger := goodIn_r _ [80, 81, 40, 41, 42, 82, 83, 5, 84, 85, 86, 87, 88, 89, 90, 91, 92, 93, 94, 95, 578, 579, 580, 581, 582, 583, 584, 585, 586, 587, 588] (by decide +kernel) (by decide +kernel)
set_option maxRecDepth 20000 in
theorem gL_law_X3_addSinger : GoodIn wsL_law (wsV RL 83 RX3 yX3_addSinger wsX3_addSinger) := goodIn_app (goodIn_of _ (by decide +kernel)) ggL_law_X3_addSinger
set_option maxRecDepth 20000 in
theorem ggL_law_X3_thrown : GoodIn wsL_law wsX3_thrown := goodIn_r _ [99, 95, 578, 579, 580, 581, 582, 583, 584, 585, 586, 587, 588] (by decide +kernel) (by decide +kernel)
set_option maxRecDepth 20000 in
theorem gL_law_X3_thrown : GoodIn wsL_law (wsV RL 84 RX3 yX3_thrown wsX3_thrown) := goodIn_app (goodIn_of _ (by decide +kernel)) ggL_law_X3_thrown
set_option maxRecDepth 20000 in
theorem ggL_law_L_tell : GoodIn wsL_law wsL_tell := goodIn_ca (goodIn_ca (goodIn_r _ [102, 103, 52, 104, 105, 106, 2, 107, 16, 108, 109, 110, 111, 112, 113, 114, 115, 116, 15, 117, 72, 118, 119, 120, 58, 59, 121, 122, 123, 124, 29, 125, 126, 127, 128, 574, 575, 576, 577, 589, 590, 591, 592, 593] (by decide +kernel) (by decide +kernel)) (goodIn_sub (fun _ h => List.mem_append_right _ h) (by decide +kernel))) (goodIn_sub (fun _ h => List.mem_append_left _ (List.mem_append_left _ (List.mem_append_right _ h))) (by decide +kernel))
set_option maxRecDepth 20000 in
theorem gL_law_L_tell : GoodIn wsL_law (va_wsS RL 88 yL_tell wsL_tell) := goodIn_app (goodIn_of _ (by decide +kernel)) ggL_law_L_tell
set_option maxRecDepth 20000 in
theorem ggL_law_X3_tell : GoodIn wsL_law wsX3_tell := goodIn_r _ [132, 43, 133, 134, 135, 5, 136, 81, 85, 86, 87, 137, 138, 139, 91, 92, 93, 94, 95, 140, 141, 142, 143, 578, 579, 580, 581, 582, 583, 584, 585, 586, 587, 588] (by decide +kernel) (by decide +kernel)
set_option maxRecDepth 20000 in
theorem gL_law_X3_tell : GoodIn wsL_law (wsV RL 91 RX3 yX3_tell wsX3_tell) := goodIn_app (goodIn_of _ (by decide +kernel)) ggL_law_X3_tell
set_option maxRecDepth 20000 in
theorem ggL_law_L_change : GoodIn wsL_law wsL_change := goodIn_ca (goodIn_ca (goodIn_r _ [146, 103, 52, 147, 148, 149, 2, 150, 16, 108, 109, 110, 111, 112, 113, 114, 115, 116, 15, 117, 72, 62, 63, 64, 58, 59, 151, 152, 153, 154, 26, 574, 575, 576, 577, 589, 590, 591, 592, 593] (by decide +kernel) (by decide +kernel)) (goodIn_sub (fun _ h => List.mem_append_right _ h) (by decide +kernel))) (goodIn_sub (fun _ h => List.mem_append_left _ (List.mem_append_left _ (List.mem_append_right _ h))) (by decide +kernel))
set_option maxRecDepth 20000 in
theorem gL_law_L_change : GoodIn wsL_law (va_wsS RL 92 yL_change wsL_change) := goodIn_app (goodIn_of _ (by decide +kernel)) ggL_law_L_change
set_option maxRecDepth 20000 in
theorem ggL_law_X3_change : GoodIn wsL_law wsX3_change := goodIn_r _ [158, 40, 133, 134, 135, 5, 136, 81, 85, 86, 87, 82, 83, 84, 91, 92, 93, 94, 95, 578, 579, 580, 581, 582, 583, 584, 585, 586, 587, 588] (by decide +kernel) (by decide +kernel)
set_option maxRecDepth 20000 in
theorem gL_law_X3_change : GoodIn wsL_law (wsV RL 95 RX3 yX3_change wsX3_change) := goodIn_app (goodIn_of _ (by decide +kernel)) ggL_law_X3_change
set_option maxRecDepth 20000 in
theorem ggL_law_L_range : GoodIn wsL_law wsL_range := goodIn_ca (goodIn_r _ [161, 52, 162, 163, 164, 2, 165, 16, 62, 63, 64, 58, 59, 118, 119, 120, 166, 167, 168, 15, 169, 72, 27, 170, 171, 172, 173, 174, 175, 176, 177, 26, 178, 122, 123, 124, 29, 179, 180, 181, 182, 28, 183, 184, 185, 574, 575, 576, 577, 589, 590, 591, 592, 593] (by decide +kernel) (by decide +kernel)) (goodIn_sub (fun _ h => List.mem_append_left _ (List.mem_append_left _ (List.mem_append_right _ h))) (by decide +kernel))
set_option maxRecDepth 20000 in
theorem gL_law_L_range : GoodIn wsL_law (va_wsS RL 96 yL_range wsL_range) := goodIn_app (goodIn_of _ (by decide +kernel)) ggL_law_L_range
set_option maxRecDepth 20000 in
theorem ggL_law_X3_range : GoodIn wsL_law wsX3_range := goodIn_r _ [189, 82, 83, 5, 84, 85, 86, 87, 137, 138, 139, 91, 92, 93, 94, 95, 190, 191, 192, 193, 81, 40, 41, 140, 141, 142, 143, 43, 194, 195, 196, 197, 42, 578, 579, 580, 581, 582, 583, 584, 585, 586, 587, 588] (by decide +kernel) (by decide +kernel)
set_option maxRecDepth 20000 in
theorem gL_law_X3_range : GoodIn wsL_law (wsV RL 98 RX3 yX3_range wsX3_range) := goodIn_app (goodIn_of _ (by decide +kernel)) ggL_law_X3_range
set_option maxRecDepth 20000 in
theorem ggL_law_L_chord : GoodIn wsL_law wsL_chord := goodIn_ca (goodIn_ca (goodIn_r _ [200, 52, 53, 201, 202, 203, 2, 204, 60, 61, 21, 65, 66, 67, 58, 59, 205, 206, 207, 20, 208, 209, 210, 211, 212, 213, 33, 214, 215, 216, 217, 218, 219, 172, 220, 35, 221, 222, 223, 224, 225, 226, 227, 228, 229, 230, 231, 232, 233, 234, 235, 574, 575, 576, 577, 594, 595, 596, 597, 598] (by decide +kernel) (by decide +kernel)) (goodIn_sub (fun _ h => List.mem_append_left _ (List.mem_append_right _ h)) (by decide +kernel))) (goodIn_sub (fun _ h => List.mem_append_left _ (List.mem_append_left _ (List.mem_append_right _ h))) (by decide +kernel))
set_option maxRecDepth 20000 in
theorem gL_law_L_chord : GoodIn wsL_law (va_wsS RL 99 yL_chord wsL_chord) := goodIn_app (goodIn_of _ (by decide +kernel)) ggL_law_L_chord
set_option maxRecDepth 20000 in
theorem ggL_law_X3_chord : GoodIn wsL_law wsX3_chord := goodIn_r _ [239, 45, 240, 44, 88, 89, 5, 90, 85, 86, 87, 91, 92, 93, 94, 95, 578, 579, 580, 581, 582, 583, 584, 585, 586, 587, 588] (by decide +kernel) (by decide +kernel)
set_option maxRecDepth 20000 in
theorem gL_law_X3_chord : GoodIn wsL_law (wsV RL 102 RX3 yX3_chord wsX3_chord) := goodIn_app (goodIn_of _ (by decide +kernel)) ggL_law_X3_chord
set_option maxRecDepth 20000 in
theorem ggL_law_L_addPiece : GoodIn wsL_law wsL_addPiece := goodIn_ca (goodIn_ca (goodIn_r _ [243, 52, 53, 244, 245, 246, 2, 247, 58, 59, 60, 61, 21, 248, 18, 17, 19, 20, 249, 250, 251, 252, 209, 253, 254, 255, 256, 257, 30, 31, 32, 11, 12, 25, 33, 34, 35, 574, 575, 576, 577, 594, 595, 596, 597, 598] (by decide +kernel) (by decide +kernel)) (goodIn_sub (fun _ h => List.mem_append_left _ (List.mem_append_left _ (List.mem_append_right _ h))) (by decide +kernel))) (goodIn_sub (fun _ h => List.mem_append_left _ (List.mem_append_right _ h)) (by decide +kernel))
set_option maxRecDepth 20000 in
theorem gL_law_L_addPiece : GoodIn wsL_law (va_wsS RL 103 yL_addPiece wsL_addPiece) := goodIn_app (goodIn_of _ (by decide +kernel)) ggL_law_L_addPiece
set_option maxRecDepth 20000 in
theorem ggL_law_X3_addPiece : GoodIn wsL_law wsX3_addPiece := goodIn_r _ [261, 45, 240, 46, 85, 86, 5, 87, 91, 92, 93, 94, 95, 578, 579, 580, 581, 582, 583, 584, 585, 586, 587, 588] (by decide +kernel) (by decide +kernel)
set_option maxRecDepth 20000 in
theorem gL_law_X3_addPiece : GoodIn wsL_law (wsV RL 106 RX3 yX3_addPiece wsX3_addPiece) := goodIn_app (goodIn_of _ (by decide +kernel)) ggL_law_X3_addPiece
set_option maxRecDepth 20000 in
theorem ggL_law_L_setTone : GoodIn wsL_law wsL_setTone := goodIn_ca (goodIn_ca (goodIn_ca (goodIn_r _ [264, 103, 52, 53, 265, 266, 267, 2, 268, 60, 61, 269, 270, 271, 272, 112, 113, 248, 18, 273, 274, 275, 276, 277, 278, 20, 279, 209, 62, 63, 64, 58, 59, 65, 66, 67, 280, 281, 282, 283, 225, 226, 227, 228, 33, 284, 285, 286, 287, 288, 289, 290, 291, 292, 214, 215, 216, 217, 218, 219, 172, 220, 35, 221, 222, 223, 224, 229, 230, 231, 232, 233, 234, 235, 574, 575, 576, 577, 594, 595, 596, 597, 598] (by decide +kernel) (by decide +kernel)) (goodIn_sub (fun _ h => List.mem_append_left _ (List.mem_append_right _ h)) (by decide +kernel))) (goodIn_sub (fun _ h => List.mem_append_right _ h) (by decide +kernel))) (goodIn_sub (fun _ h => List.mem_append_left _ (List.mem_append_left _ (List.mem_append_right _ h))) (by decide +kernel))
set_option maxRecDepth 20000 in
theorem gL_law_L_setTone : GoodIn wsL_law (va_wsS RL 107 yL_setTone wsL_setTone) := goodIn_app (goodIn_of _ (by decide +kernel)) ggL_law_L_setTone
set_option maxRecDepth 20000 in
theorem ggL_law_X3_setTone : GoodIn wsL_law wsX3_setTone := goodIn_r _ [296, 44, 82, 83, 5, 84, 85, 86, 87, 88, 89, 90, 297, 298, 299, 300, 45, 301, 302, 303, 304, 240, 305, 306, 307, 308, 309, 310, 311, 312, 313, 314, 315, 316, 91, 92, 93, 94, 95, 578, 579, 580, 581, 582, 583, 584, 585, 586, 587, 588] (by decide +kernel) (by decide +kernel)
set_option maxRecDepth 20000 in
theorem gL_law_X3_setTone : GoodIn wsL_law (wsV RL 109 RX3 yX3_setTone wsX3_setTone) := goodIn_app (goodIn_of _ (by decide +kernel)) ggL_law_X3_setTone
set_option maxRecDepth 20000 in
theorem ggL_law_L_faultsAt : GoodIn wsL_law wsL_faultsAt := goodIn_ca (goodIn_r _ [319, 103, 320, 321, 322, 2, 323, 269, 270, 271, 272, 112, 113, 248, 18, 273, 274, 275, 276, 277, 278, 20, 279, 209, 324, 325, 326, 327, 35, 574, 575, 576, 577, 594, 595, 596, 597, 598] (by decide +kernel) (by decide +kernel)) (goodIn_sub (fun _ h => List.mem_append_right _ h) (by decide +kernel))
set_option maxRecDepth 20000 in
theorem gL_law_L_faultsAt : GoodIn wsL_law (va_wsS RL 110 yL_faultsAt wsL_faultsAt) := goodIn_app (goodIn_of _ (by decide +kernel)) ggL_law_L_faultsAt
set_option maxRecDepth 20000 in
theorem ggL_law_X3_faultsAt : GoodIn wsL_law wsX3_faultsAt := goodIn_r _ [331, 297, 298, 299, 5, 300, 45, 301, 302, 303, 304, 240, 85, 86, 87, 91, 92, 93, 94, 95, 332, 333, 334, 335, 309, 310, 311, 312, 44, 336, 337, 338, 339, 578, 579, 580, 581, 582, 583, 584, 585, 586, 587, 588] (by decide +kernel) (by decide +kernel)
set_option maxRecDepth 20000 in
theorem gL_law_X3_faultsAt : GoodIn wsL_law (wsV RL 112 RX3 yX3_faultsAt wsX3_faultsAt) := goodIn_app (goodIn_of _ (by decide +kernel)) ggL_law_X3_faultsAt
set_option maxRecDepth 20000 in
theorem ggL_law_L_faults : GoodIn wsL_law wsL_faults := goodIn_ca (goodIn_r _ [342, 103, 343, 344, 345, 2, 346, 269, 270, 271, 272, 112, 113, 248, 18, 347, 348, 349, 20, 350, 209, 35, 574, 575, 576, 577, 594, 595, 596, 597, 598] (by decide +kernel) (by decide +kernel)) (goodIn_sub (fun _ h => List.mem_append_right _ h) (by decide +kernel))
set_option maxRecDepth 20000 in
theorem gL_law_L_faults : GoodIn wsL_law (va_wsS RL 113 yL_faults wsL_faults) := goodIn_app (goodIn_of _ (by decide +kernel)) ggL_law_L_faults
set_option maxRecDepth 20000 in
theorem ggL_law_X3_faults : GoodIn wsL_law wsX3_faults := goodIn_r _ [354, 301, 302, 303, 5, 304, 240, 85, 86, 87, 91, 92, 93, 94, 95, 355, 356, 357, 358, 45, 332, 333, 334, 335, 309, 310, 311, 312, 44, 336, 337, 338, 339, 578, 579, 580, 581, 582, 583, 584, 585, 586, 587, 588] (by decide +kernel) (by decide +kernel)
set_option maxRecDepth 20000 in
theorem gL_law_X3_faults : GoodIn wsL_law (wsV RL 115 RX3 yX3_faults wsX3_faults) := goodIn_app (goodIn_of _ (by decide +kernel)) ggL_law_X3_faults
set_option maxRecDepth 20000 in
theorem ggL_law_L_leastFaults : GoodIn wsL_law wsL_leastFaults := goodIn_ca (goodIn_ca (goodIn_r _ [361, 103, 52, 362, 363, 364, 2, 365, 112, 113, 269, 270, 271, 272, 248, 18, 273, 274, 275, 276, 277, 278, 20, 279, 209, 366, 367, 368, 369, 62, 63, 64, 58, 59, 370, 371, 372, 373, 374, 184, 172, 185, 225, 226, 227, 228, 33, 375, 281, 282, 283, 376, 348, 349, 350, 35, 377, 285, 286, 287, 378, 290, 291, 292, 214, 215, 216, 217, 218, 219, 220, 221, 222, 223, 224, 229, 230, 231, 232, 233, 234, 235, 574, 575, 576, 577, 594, 595, 596, 597, 598] (by decide +kernel) (by decide +kernel)) (goodIn_sub (fun _ h => List.mem_append_right _ h) (by decide +kernel))) (goodIn_sub (fun _ h => List.mem_append_left _ (List.mem_append_left _ (List.mem_append_right _ h))) (by decide +kernel))
set_option maxRecDepth 20000 in
theorem gL_law_L_leastFaults : GoodIn wsL_law (va_wsS RL 116 yL_leastFaults wsL_leastFaults) := goodIn_app (goodIn_of _ (by decide +kernel)) ggL_law_L_leastFaults
set_option maxRecDepth 20000 in
theorem ggL_law_X3_leastFaults : GoodIn wsL_law wsX3_leastFaults := goodIn_r _ [382, 45, 44, 297, 298, 299, 5, 300, 301, 302, 303, 304, 240, 85, 86, 87, 82, 83, 84, 91, 92, 93, 94, 95, 309, 310, 311, 312, 355, 356, 357, 358, 332, 333, 334, 335, 336, 337, 338, 339, 313, 314, 315, 316, 305, 306, 307, 308, 578, 579, 580, 581, 582, 583, 584, 585, 586, 587, 588] (by decide +kernel) (by decide +kernel)
set_option maxRecDepth 20000 in
theorem gL_law_X3_leastFaults : GoodIn wsL_law (wsV RL 118 RX3 yX3_leastFaults wsX3_leastFaults) := goodIn_app (goodIn_of _ (by decide +kernel)) ggL_law_X3_leastFaults
set_option maxRecDepth 20000 in
theorem ggL_law_L_shift : GoodIn wsL_law wsL_shift := goodIn_ca (goodIn_ca (goodIn_ca (goodIn_r _ [385, 103, 52, 53, 386, 387, 388, 2, 389, 60, 61, 269, 270, 271, 272, 112, 113, 248, 18, 118, 119, 120, 58, 59, 390, 391, 392, 393, 16, 394, 171, 172, 173, 395, 184, 185, 166, 167, 168, 15, 169, 72, 27, 170, 174, 175, 176, 177, 26, 178, 122, 123, 124, 29, 396, 397, 398, 20, 399, 209, 374, 225, 226, 227, 228, 33, 179, 180, 181, 182, 28, 183, 400, 401, 402, 403, 404, 574, 575, 576, 577, 589, 590, 591, 592, 593, 594, 595, 596, 597, 598] (by decide +kernel) (by decide +kernel)) (goodIn_sub (fun _ h => List.mem_append_left _ (List.mem_append_right _ h)) (by decide +kernel))) (goodIn_sub (fun _ h => List.mem_append_right _ h) (by decide +kernel))) (goodIn_sub (fun _ h => List.mem_append_left _ (List.mem_append_left _ (List.mem_append_right _ h))) (by decide +kernel))
set_option maxRecDepth 20000 in
theorem gL_law_L_shift : GoodIn wsL_law (va_wsS RL 119 yL_shift wsL_shift) := goodIn_app (goodIn_of _ (by decide +kernel)) ggL_law_L_shift
set_option maxRecDepth 20000 in
theorem ggL_law_X3_shift : GoodIn wsL_law wsX3_shift := goodIn_r _ [408, 301, 302, 303, 5, 304, 240, 85, 86, 87, 137, 138, 139, 409, 410, 411, 412, 413, 414, 415, 416, 45, 190, 191, 192, 193, 81, 40, 41, 140, 141, 142, 143, 43, 194, 195, 196, 197, 42, 309, 310, 311, 312, 44, 91, 92, 93, 94, 95, 578, 579, 580, 581, 582, 583, 584, 585, 586, 587, 588] (by decide +kernel) (by decide +kernel)
set_option maxRecDepth 20000 in
theorem gL_law_X3_shift : GoodIn wsL_law (wsV RL 121 RX3 yX3_shift wsX3_shift) := goodIn_app (goodIn_of _ (by decide +kernel)) ggL_law_X3_shift
set_option maxRecDepth 20000 in
theorem ggL_law_L_dates : GoodIn wsL_law wsL_dates := goodIn_ca (goodIn_r _ [419, 103, 420, 421, 422, 2, 423, 269, 270, 271, 272, 112, 113, 248, 18, 390, 391, 392, 393, 16, 394, 171, 172, 173, 395, 184, 185, 166, 167, 168, 15, 169, 72, 27, 170, 174, 175, 176, 177, 26, 178, 122, 123, 124, 29, 396, 397, 398, 20, 399, 209, 374, 225, 226, 227, 228, 33, 179, 180, 181, 182, 28, 183, 400, 401, 402, 403, 404, 574, 575, 576, 577, 589, 590, 591, 592, 593, 594, 595, 596, 597, 598] (by decide +kernel) (by decide +kernel)) (goodIn_sub (fun _ h => List.mem_append_right _ h) (by decide +kernel))
set_option maxRecDepth 20000 in
theorem gL_law_L_dates : GoodIn wsL_law (va_wsS RL 122 yL_dates wsL_dates) := goodIn_app (goodIn_of _ (by decide +kernel)) ggL_law_L_dates
set_option maxRecDepth 20000 in
theorem ggL_law_X3_dates : GoodIn wsL_law wsX3_dates := goodIn_r _ [427, 301, 302, 303, 5, 304, 240, 85, 86, 87, 91, 92, 93, 94, 95, 409, 410, 411, 412, 413, 414, 415, 416, 45, 190, 191, 192, 193, 81, 40, 41, 140, 141, 142, 143, 43, 194, 195, 196, 197, 42, 309, 310, 311, 312, 44, 578, 579, 580, 581, 582, 583, 584, 585, 586, 587, 588] (by decide +kernel) (by decide +kernel)
set_option maxRecDepth 20000 in
theorem gL_law_X3_dates : GoodIn wsL_law (wsV RL 124 RX3 yX3_dates wsX3_dates) := goodIn_app (goodIn_of _ (by decide +kernel)) ggL_law_X3_dates
set_option maxRecDepth 20000 in
theorem ggL_law_L_missed : GoodIn wsL_law wsL_missed := goodIn_ca (goodIn_r _ [430, 52, 431, 432, 433, 2, 434, 16, 118, 119, 120, 58, 59, 435, 436, 437, 15, 438, 72, 26, 178, 122, 123, 124, 29, 439, 180, 181, 182, 28, 183, 184, 172, 185, 174, 175, 176, 177, 574, 575, 576, 577, 589, 590, 591, 592, 593] (by decide +kernel) (by decide +kernel)) (goodIn_sub (fun _ h => List.mem_append_left _ (List.mem_append_left _ (List.mem_append_right _ h))) (by decide +kernel))
set_option maxRecDepth 20000 in
theorem gL_law_L_missed : GoodIn wsL_law (va_wsS RL 125 yL_missed wsL_missed) := goodIn_app (goodIn_of _ (by decide +kernel)) ggL_law_L_missed
set_option maxRecDepth 20000 in
theorem ggL_law_X3_missed : GoodIn wsL_law wsX3_missed := goodIn_r _ [443, 81, 40, 137, 138, 5, 139, 85, 86, 87, 91, 92, 93, 94, 95, 140, 141, 142, 143, 43, 190, 191, 192, 193, 41, 578, 579, 580, 581, 582, 583, 584, 585, 586, 587, 588] (by decide +kernel) (by decide +kernel)
set_option maxRecDepth 20000 in
theorem gL_law_X3_missed : GoodIn wsL_law (wsV RL 127 RX3 yX3_missed wsX3_missed) := goodIn_app (goodIn_of _ (by decide +kernel)) ggL_law_X3_missed
set_option maxRecDepth 20000 in
theorem ggL_law_L_programme : GoodIn wsL_law wsL_programme := goodIn_ca (goodIn_ca (goodIn_r _ [446, 52, 447, 448, 449, 2, 450, 118, 119, 120, 58, 59, 451, 452, 453, 454, 455, 456, 457, 248, 458, 459, 460, 461, 269, 270, 271, 272, 112, 113, 18, 390, 391, 392, 393, 16, 394, 171, 172, 173, 395, 184, 185, 166, 167, 168, 15, 169, 72, 27, 170, 174, 175, 176, 177, 26, 178, 122, 123, 124, 29, 396, 397, 398, 20, 399, 209, 374, 225, 226, 227, 228, 33, 179, 180, 181, 182, 28, 183, 400, 401, 402, 403, 404, 462, 463, 464, 465, 466, 467, 468, 469, 257, 470, 471, 472, 473, 474, 475, 476, 477, 478, 479, 480, 574, 575, 576, 577, 589, 590, 591, 592, 593, 594, 595, 596, 597, 598] (by decide +kernel) (by decide +kernel)) (goodIn_sub (fun _ h => List.mem_append_left _ (List.mem_append_left _ (List.mem_append_right _ h))) (by decide +kernel))) (goodIn_sub (fun _ h => List.mem_append_right _ h) (by decide +kernel))
set_option maxRecDepth 20000 in
theorem gL_law_L_programme : GoodIn wsL_law (va_wsS RL 128 yL_programme wsL_programme) := goodIn_app (goodIn_of _ (by decide +kernel)) ggL_law_L_programme
set_option maxRecDepth 20000 in
theorem ggL_law_X3_programme : GoodIn wsL_law wsX3_programme := goodIn_r _ [484, 485, 486, 487, 5, 488, 137, 138, 139, 85, 86, 87, 91, 92, 93, 94, 95, 489, 490, 491, 492, 240, 409, 410, 411, 412, 413, 414, 415, 416, 45, 190, 191, 192, 193, 81, 40, 41, 140, 141, 142, 143, 43, 194, 195, 196, 197, 42, 309, 310, 311, 312, 44, 493, 494, 495, 496, 46, 497, 498, 499, 500, 501, 502, 503, 578, 579, 580, 581, 582, 583, 584, 585, 586, 587, 588] (by decide +kernel) (by decide +kernel)
set_option maxRecDepth 20000 in
theorem gL_law_X3_programme : GoodIn wsL_law (wsV RL 130 RX3 yX3_programme wsX3_programme) := goodIn_app (goodIn_of _ (by decide +kernel)) ggL_law_X3_programme
set_option maxRecDepth 20000 in
theorem ggL_law_L_duration : GoodIn wsL_law wsL_duration := goodIn_ca (goodIn_ca (goodIn_r _ [506, 52, 507, 508, 509, 2, 510, 118, 119, 120, 58, 59, 451, 452, 453, 454, 455, 456, 457, 248, 458, 459, 460, 461, 269, 270, 271, 272, 112, 113, 18, 390, 391, 392, 393, 16, 394, 171, 172, 173, 395, 184, 185, 166, 167, 168, 15, 169, 72, 27, 170, 174, 175, 176, 177, 26, 178, 122, 123, 124, 29, 396, 397, 398, 20, 399, 209, 374, 225, 226, 227, 228, 33, 179, 180, 181, 182, 28, 183, 400, 401, 402, 403, 404, 462, 463, 464, 465, 466, 467, 468, 469, 257, 470, 471, 472, 473, 474, 475, 476, 477, 478, 479, 480, 574, 575, 576, 577, 589, 590, 591, 592, 593, 594, 595, 596, 597, 598] (by decide +kernel) (by decide +kernel)) (goodIn_sub (fun _ h => List.mem_append_left _ (List.mem_append_left _ (List.mem_append_right _ h))) (by decide +kernel))) (goodIn_sub (fun _ h => List.mem_append_right _ h) (by decide +kernel))
set_option maxRecDepth 20000 in
theorem gL_law_L_duration : GoodIn wsL_law (va_wsS RL 131 yL_duration wsL_duration) := goodIn_app (goodIn_of _ (by decide +kernel)) ggL_law_L_duration
set_option maxRecDepth 20000 in
theorem ggL_law_X3_duration : GoodIn wsL_law wsX3_duration := goodIn_r _ [514, 485, 486, 487, 5, 488, 137, 138, 139, 85, 86, 87, 91, 92, 93, 94, 95, 489, 490, 491, 492, 240, 409, 410, 411, 412, 413, 414, 415, 416, 45, 190, 191, 192, 193, 81, 40, 41, 140, 141, 142, 143, 43, 194, 195, 196, 197, 42, 309, 310, 311, 312, 44, 493, 494, 495, 496, 46, 497, 498, 499, 500, 501, 502, 503, 578, 579, 580, 581, 582, 583, 584, 585, 586, 587, 588] (by decide +kernel) (by decide +kernel)
set_option maxRecDepth 20000 in
theorem gL_law_X3_duration : GoodIn wsL_law (wsV RL 133 RX3 yX3_duration wsX3_duration) := goodIn_app (goodIn_of _ (by decide +kernel)) ggL_law_X3_duration
set_option maxRecDepth 20000 in
theorem ggL_law_L_rehearse : GoodIn wsL_law wsL_rehearse := goodIn_ca (goodIn_ca (goodIn_r _ [517, 103, 52, 518, 519, 520, 2, 521, 58, 59, 269, 270, 271, 272, 112, 113, 248, 18, 522, 523, 524, 20, 525, 34, 526, 527, 528, 529, 209, 530, 531, 532, 533, 35, 404, 171, 172, 173, 534, 535, 536, 537, 574, 575, 576, 577, 594, 595, 596, 597, 598] (by decide +kernel) (by decide +kernel)) (goodIn_sub (fun _ h => List.mem_append_left _ (List.mem_append_left _ (List.mem_append_right _ h))) (by decide +kernel))) (goodIn_sub (fun _ h => List.mem_append_right _ h) (by decide +kernel))
set_option maxRecDepth 20000 in
theorem gL_law_L_rehearse : GoodIn wsL_law (va_wsS RL 134 yL_rehearse wsL_rehearse) := goodIn_app (goodIn_of _ (by decide +kernel)) ggL_law_L_rehearse
set_option maxRecDepth 20000 in
theorem ggL_law_X3_rehearse : GoodIn wsL_law wsX3_rehearse := goodIn_r _ [541, 47, 45, 301, 302, 303, 5, 304, 240, 85, 86, 87, 91, 92, 93, 94, 95, 542, 543, 544, 545, 546, 547, 548, 549, 332, 333, 334, 335, 309, 310, 311, 312, 44, 336, 337, 338, 339, 578, 579, 580, 581, 582, 583, 584, 585, 586, 587, 588] (by decide +kernel) (by decide +kernel)
set_option maxRecDepth 20000 in
theorem gL_law_X3_rehearse : GoodIn wsL_law (wsV RL 136 RX3 yX3_rehearse wsX3_rehearse) := goodIn_app (goodIn_of _ (by decide +kernel)) ggL_law_X3_rehearse
set_option maxRecDepth 20000 in
theorem ggL_law_L_weakness : GoodIn wsL_law wsL_weakness := goodIn_ca (goodIn_r _ [552, 103, 553, 554, 555, 2, 556, 269, 270, 271, 272, 112, 113, 248, 18, 273, 274, 275, 276, 277, 278, 20, 279, 209, 557, 531, 532, 533, 35, 34, 404, 171, 172, 173, 574, 575, 576, 577, 594, 595, 596, 597, 598] (by decide +kernel) (by decide +kernel)) (goodIn_sub (fun _ h => List.mem_append_right _ h) (by decide +kernel))
