set_option maxRecDepth 20000 in
theorem gX2_leastFaults_X2_pieceAt : GoodIn wsX2_leastFaults (wsV RX2 102 RX2 yX2_pieceAt wsX2_pieceAt) := goodIn_app (goodIn_of _ (by decide +kernel)) ggX2_leastFaults_X2_pieceAt
set_option maxRecDepth 20000 in
theorem ggX2_leastFaults_X2_checkChord : GoodIn wsX2_leastFaults wsX2_checkChord := goodIn_ca (goodIn_r _ [12, 1, 2, 13, 14, 15, 16, 17, 18, 80, 81, 82, 83, 84] (by decide +kernel) (by decide +kernel)) (goodIn_sub (fun _ h => List.mem_cons_of_mem _ (List.mem_append_left _ (List.mem_append_right _ h))) (by decide +kernel))
set_option maxRecDepth 20000 in
theorem gX2_leastFaults_X2_checkChord : GoodIn wsX2_leastFaults (va_wsS RX2 106 yX2_checkChord wsX2_checkChord) := goodIn_app (goodIn_of _ (by decide +kernel)) ggX2_leastFaults_X2_checkChord
set_option maxRecDepth 20000 in
theorem ggX2_leastFaults_X0_isLast : GoodIn wsX2_leastFaults wsX0_isLast := goodIn_r _ [22, 18, 80, 81, 82, 83, 84] (by decide +kernel) (by decide +kernel)
set_option maxRecDepth 20000 in
theorem gX2_leastFaults_X0_isLast : GoodIn wsX2_leastFaults (wsV RX2 133 RX0 yX0_isLast wsX0_isLast) := goodIn_app (goodIn_of _ (by decide +kernel)) ggX2_leastFaults_X0_isLast
set_option maxRecDepth 20000 in
theorem ggX2_leastFaults_X2_checkVoice : GoodIn wsX2_leastFaults wsX2_checkVoice := goodIn_ca (goodIn_r _ [25, 26, 27] (by decide +kernel) (by decide +kernel)) (goodIn_sub (fun _ h => List.mem_cons_of_mem _ (List.mem_append_right _ h)) (by decide +kernel))
set_option maxRecDepth 20000 in
theorem gX2_leastFaults_X2_checkVoice : GoodIn wsX2_leastFaults (va_wsS RX2 27 yX2_checkVoice wsX2_checkVoice) := goodIn_app (goodIn_of _ (by decide +kernel)) ggX2_leastFaults_X2_checkVoice
set_option maxRecDepth 20000 in
theorem ggX2_leastFaults_X0_leastFaultSum : GoodIn wsX2_leastFaults wsX0_leastFaultSum := goodIn_r _ [31, 32, 33, 34, 35, 36, 37, 38, 16, 39, 40, 41, 42, 43, 44, 45, 46, 47, 48, 18, 49, 50, 51, 52, 53, 54, 55, 56, 57, 58, 59, 60, 61, 62, 63, 64, 65, 66, 67, 68, 69, 70, 71, 72, 73, 74, 75, 80, 81, 82, 83, 84] (by decide +kernel) (by decide +kernel)
set_option maxRecDepth 20000 in
theorem gX2_leastFaults_X0_leastFaultSum : GoodIn wsX2_leastFaults (wsV RX2 142 RX0 yX0_leastFaultSum wsX0_leastFaultSum) := goodIn_app (goodIn_of _ (by decide +kernel)) ggX2_leastFaults_X0_leastFaultSum
set_option maxRecDepth 20000 in
theorem ggX2_shift_X2_pieceAt : GoodIn wsX2_shift wsX2_pieceAt := goodIn_ca (goodIn_r _ [7, 8, 9, 10, 11, 70, 71, 72, 73] (by decide +kernel) (by decide +kernel)) (goodIn_sub (fun _ h => List.mem_cons_of_mem _ (List.mem_append_left _ (List.mem_append_right _ h))) (by decide +kernel))
set_option maxRecDepth 20000 in
theorem gX2_shift_X2_pieceAt : GoodIn wsX2_shift (wsV RX2 102 RX2 yX2_pieceAt wsX2_pieceAt) := goodIn_app (goodIn_of _ (by decide +kernel)) ggX2_shift_X2_pieceAt
set_option maxRecDepth 20000 in
theorem ggX2_shift_X2_checkDate : GoodIn wsX2_shift wsX2_checkDate := goodIn_ca (goodIn_r _ [14, 15, 16] (by decide +kernel) (by decide +kernel)) (goodIn_sub (fun _ h => List.mem_cons_of_mem _ (List.mem_append_right _ h)) (by decide +kernel))
set_option maxRecDepth 20000 in
theorem gX2_shift_X2_checkDate : GoodIn wsX2_shift (va_wsS RX2 58 yX2_checkDate wsX2_checkDate) := goodIn_app (goodIn_of _ (by decide +kernel)) ggX2_shift_X2_checkDate
set_option maxRecDepth 20000 in
theorem ggX2_shift_X2_nearestShift : GoodIn wsX2_shift wsX2_nearestShift := goodIn_r _ [20, 21, 22, 23, 24, 25, 26, 27, 28, 29, 30, 31, 32, 33, 34, 35, 36, 37, 38, 39, 40, 41, 42, 43, 44, 45, 46, 47, 48, 49, 50, 51, 52, 53, 54, 55, 56, 57, 58, 59, 60, 61, 62, 63, 64, 65, 66, 67, 68, 69, 70, 71, 72, 73, 74, 75, 76, 77, 78, 79, 80, 81, 82, 83] (by decide +kernel) (by decide +kernel)
set_option maxRecDepth 20000 in
theorem gX2_shift_X2_nearestShift : GoodIn wsX2_shift (wsV RX2 145 RX2 yX2_nearestShift wsX2_nearestShift) := goodIn_app (goodIn_of _ (by decide +kernel)) ggX2_shift_X2_nearestShift
set_option maxRecDepth 20000 in
theorem ggX2_dates_X2_pieceAt : GoodIn wsX2_dates wsX2_pieceAt := goodIn_ca (goodIn_r _ [5, 6, 7, 8, 9, 63, 64, 65, 66] (by decide +kernel) (by decide +kernel)) (goodIn_sub (fun _ h => List.mem_cons_of_mem _ (List.mem_append_right _ h)) (by decide +kernel))
set_option maxRecDepth 20000 in
theorem gX2_dates_X2_pieceAt : GoodIn wsX2_dates (wsV RX2 102 RX2 yX2_pieceAt wsX2_pieceAt) := goodIn_app (goodIn_of _ (by decide +kernel)) ggX2_dates_X2_pieceAt
set_option maxRecDepth 20000 in
theorem ggX2_dates_X2_nearestShift : GoodIn wsX2_dates wsX2_nearestShift := goodIn_r _ [13, 14, 15, 16, 17, 18, 19, 20, 21, 22, 23, 24, 25, 26, 27, 28, 29, 30, 31, 32, 33, 34, 35, 36, 37, 38, 39, 40, 41, 42, 43, 44, 45, 46, 47, 48, 49, 50, 51, 52, 53, 54, 55, 56, 57, 58, 59, 60, 61, 62, 63, 64, 65, 66, 67, 68, 69, 70, 71, 72, 73, 74, 75, 76] (by decide +kernel) (by decide +kernel)
set_option maxRecDepth 20000 in
theorem gX2_dates_X2_nearestShift : GoodIn wsX2_dates (wsV RX2 145 RX2 yX2_nearestShift wsX2_nearestShift) := goodIn_app (goodIn_of _ (by decide +kernel)) ggX2_dates_X2_nearestShift
set_option maxRecDepth 20000 in
theorem ggX2_missed_X2_checkDate : GoodIn wsX2_missed wsX2_checkDate := goodIn_ca (goodIn_r _ [5, 6, 7] (by decide +kernel) (by decide +kernel)) (goodIn_sub (fun _ h => List.mem_cons_of_mem _ (List.mem_append_right _ h)) (by decide +kernel))
set_option maxRecDepth 20000 in
theorem gX2_missed_X2_checkDate : GoodIn wsX2_missed (va_wsS RX2 58 yX2_checkDate wsX2_checkDate) := goodIn_app (goodIn_of _ (by decide +kernel)) ggX2_missed_X2_checkDate
set_option maxRecDepth 20000 in
theorem ggX2_missed_X1_countMissed : GoodIn wsX2_missed wsX1_countMissed := goodIn_r _ [12, 13, 14, 15, 16, 17, 11, 18, 19, 20, 21, 22, 23, 24, 25, 26, 27, 28, 29, 30, 31, 32, 37, 38, 39, 40, 41] (by decide +kernel) (by decide +kernel)
set_option maxRecDepth 20000 in
theorem gX2_missed_X1_countMissed : GoodIn wsX2_missed (wsV RX2 151 RX1 yX1_countMissed wsX1_countMissed) := goodIn_app (goodIn_of _ (by decide +kernel)) ggX2_missed_X1_countMissed
set_option maxRecDepth 20000 in
theorem ggX2_programme_X2_checkDate : GoodIn wsX2_programme wsX2_checkDate := goodIn_ca (goodIn_r _ [4, 5, 6] (by decide +kernel) (by decide +kernel)) (goodIn_sub (fun _ h => List.mem_cons_of_mem _ (List.mem_append_left _ (List.mem_append_right _ h))) (by decide +kernel))
set_option maxRecDepth 20000 in
theorem gX2_programme_X2_checkDate : GoodIn wsX2_programme (va_wsS RX2 58 yX2_checkDate wsX2_checkDate) := goodIn_app (goodIn_of _ (by decide +kernel)) ggX2_programme_X2_checkDate
set_option maxRecDepth 20000 in
theorem ggX2_programme_X2_checkTime : GoodIn wsX2_programme wsX2_checkTime := goodIn_ca (goodIn_r _ [9, 5, 6] (by decide +kernel) (by decide +kernel)) (goodIn_sub (fun _ h => List.mem_cons_of_mem _ (List.mem_append_left _ (List.mem_append_right _ h))) (by decide +kernel))
set_option maxRecDepth 20000 in
theorem gX2_programme_X2_checkTime : GoodIn wsX2_programme (va_wsS RX2 154 yX2_checkTime wsX2_checkTime) := goodIn_app (goodIn_of _ (by decide +kernel)) ggX2_programme_X2_checkTime
set_option maxRecDepth 20000 in
theorem ggX2_programme_X2_bestSet : GoodIn wsX2_programme wsX2_bestSet := goodIn_ca (goodIn_r _ [13, 14, 15, 16, 17, 3, 18, 19, 20, 21, 22, 23, 24, 25, 26, 27, 28, 29, 30, 31, 32, 33, 34, 35, 36, 37, 38, 39, 40, 41, 42, 43, 44, 45, 46, 47, 48, 49, 50, 51, 52, 53, 54, 55, 56, 57, 58, 59, 60, 61, 62, 63, 64, 65, 66, 67, 68, 69, 70, 71, 72, 73, 74, 75, 76, 77, 78, 79, 80, 81, 82, 83, 84, 85, 86, 87, 88, 89, 90, 91, 92, 93, 94, 95, 96, 97, 98, 99, 100, 101, 102, 103, 104, 105, 106, 107, 108, 109, 110, 111, 112] (by decide +kernel) (by decide +kernel)) (goodIn_sub (fun _ h => List.mem_cons_of_mem _ (List.mem_append_right _ h)) (by decide +kernel))
set_option maxRecDepth 20000 in
theorem gX2_programme_X2_bestSet : GoodIn wsX2_programme (wsV RX2 157 RX2 yX2_bestSet wsX2_bestSet) := goodIn_app (goodIn_of _ (by decide +kernel)) ggX2_programme_X2_bestSet
set_option maxRecDepth 20000 in
theorem ggX2_duration_X2_checkDate : GoodIn wsX2_duration wsX2_checkDate := goodIn_ca (goodIn_r _ [4, 5, 6] (by decide +kernel) (by decide +kernel)) (goodIn_sub (fun _ h => List.mem_cons_of_mem _ (List.mem_append_left _ (List.mem_append_right _ h))) (by decide +kernel))
set_option maxRecDepth 20000 in
theorem gX2_duration_X2_checkDate : GoodIn wsX2_duration (va_wsS RX2 58 yX2_checkDate wsX2_checkDate) := goodIn_app (goodIn_of _ (by decide +kernel)) ggX2_duration_X2_checkDate
set_option maxRecDepth 20000 in
theorem ggX2_duration_X2_checkTime : GoodIn wsX2_duration wsX2_checkTime := goodIn_ca (goodIn_r _ [9, 5, 6] (by decide +kernel) (by decide +kernel)) (goodIn_sub (fun _ h => List.mem_cons_of_mem _ (List.mem_append_left _ (List.mem_append_right _ h))) (by decide +kernel))
set_option maxRecDepth 20000 in
theorem gX2_duration_X2_checkTime : GoodIn wsX2_duration (va_wsS RX2 154 yX2_checkTime wsX2_checkTime) := goodIn_app (goodIn_of _ (by decide +kernel)) ggX2_duration_X2_checkTime
set_option maxRecDepth 20000 in
theorem ggX2_duration_X2_bestSet : GoodIn wsX2_duration wsX2_bestSet := goodIn_ca (goodIn_r _ [13, 14, 15, 16, 17, 3, 18, 19, 20, 21, 22, 23, 24, 25, 26, 27, 28, 29, 30, 31, 32, 33, 34, 35, 36, 37, 38, 39, 40, 41, 42, 43, 44, 45, 46, 47, 48, 49, 50, 51, 52, 53, 54, 55, 56, 57, 58, 59, 60, 61, 62, 63, 64, 65, 66, 67, 68, 69, 70, 71, 72, 73, 74, 75, 76, 77, 78, 79, 80, 81, 82, 83, 84, 85, 86, 87, 88, 89, 90, 91, 92, 93, 94, 95, 96, 97, 98, 99, 100, 101, 102, 103, 104, 105, 106, 107, 108, 109, 110, 111, 112] (by decide +kernel) (by decide +kernel)) (goodIn_sub (fun _ h => List.mem_cons_of_mem _ (List.mem_append_right _ h)) (by decide +kernel))
set_option maxRecDepth 20000 in
theorem gX2_duration_X2_bestSet : GoodIn wsX2_duration (wsV RX2 157 RX2 yX2_bestSet wsX2_bestSet) := goodIn_app (goodIn_of _ (by decide +kernel)) ggX2_duration_X2_bestSet
set_option maxRecDepth 20000 in
theorem ggX2_duration_X2_lengthOf : GoodIn wsX2_duration wsX2_lengthOf := goodIn_ca (goodIn_r _ [82, 14, 19, 20, 21, 3, 22, 23, 24, 25, 83, 84, 85, 59, 86, 87, 99, 100, 101, 102, 108, 109, 110, 111, 112] (by decide +kernel) (by decide +kernel)) (goodIn_sub (fun _ h => List.mem_cons_of_mem _ (List.mem_append_right _ h)) (by decide +kernel))
set_option maxRecDepth 20000 in
theorem gX2_duration_X2_lengthOf : GoodIn wsX2_duration (wsV RX2 160 RX2 yX2_lengthOf wsX2_lengthOf) := goodIn_app (goodIn_of _ (by decide +kernel)) ggX2_duration_X2_lengthOf
set_option maxRecDepth 20000 in
theorem ggX2_rehearse_X2_pieceAt : GoodIn wsX2_rehearse wsX2_pieceAt := goodIn_ca (goodIn_r _ [7, 8, 9, 10, 11, 36, 37, 38, 39] (by decide +kernel) (by decide +kernel)) (goodIn_sub (fun _ h => List.mem_cons_of_mem _ (List.mem_append_right _ h)) (by decide +kernel))
set_option maxRecDepth 20000 in
theorem gX2_rehearse_X2_pieceAt : GoodIn wsX2_rehearse (wsV RX2 102 RX2 yX2_pieceAt wsX2_pieceAt) := goodIn_app (goodIn_of _ (by decide +kernel)) ggX2_rehearse_X2_pieceAt
set_option maxRecDepth 20000 in
theorem ggX2_rehearse_X0_practiseWeakest : GoodIn wsX2_rehearse wsX0_practiseWeakest := goodIn_r _ [16, 17, 18, 19, 20, 15, 21, 22, 23, 24, 25, 26, 27, 28, 29, 30, 31, 40, 41, 42, 43, 44] (by decide +kernel) (by decide +kernel)
set_option maxRecDepth 20000 in
theorem gX2_rehearse_X0_practiseWeakest : GoodIn wsX2_rehearse (wsV RX2 165 RX0 yX0_practiseWeakest wsX0_practiseWeakest) := goodIn_app (goodIn_of _ (by decide +kernel)) ggX2_rehearse_X0_practiseWeakest
set_option maxRecDepth 20000 in
theorem ggX2_rehearse_X0_weaknessSum : GoodIn wsX2_rehearse wsX0_weaknessSum := goodIn_r _ [35, 22, 23, 24, 25, 15, 26, 27, 17, 28, 29, 30, 31, 40, 41, 42, 43, 44] (by decide +kernel) (by decide +kernel)
set_option maxRecDepth 20000 in
theorem gX2_rehearse_X0_weaknessSum : GoodIn wsX2_rehearse (wsV RX2 168 RX0 yX0_weaknessSum wsX0_weaknessSum) := goodIn_app (goodIn_of _ (by decide +kernel)) ggX2_rehearse_X0_weaknessSum
set_option maxRecDepth 20000 in
theorem ggX2_weakness_X2_pieceAt : GoodIn wsX2_weakness wsX2_pieceAt := goodIn_ca (goodIn_r _ [5, 6, 7, 8, 9, 29, 30, 31, 32] (by decide +kernel) (by decide +kernel)) (goodIn_sub (fun _ h => List.mem_cons_of_mem _ (List.mem_append_right _ h)) (by decide +kernel))
set_option maxRecDepth 20000 in
theorem gX2_weakness_X2_pieceAt : GoodIn wsX2_weakness (wsV RX2 102 RX2 yX2_pieceAt wsX2_pieceAt) := goodIn_app (goodIn_of _ (by decide +kernel)) ggX2_weakness_X2_pieceAt
set_option maxRecDepth 20000 in
theorem ggX2_weakness_X2_checkChord : GoodIn wsX2_weakness wsX2_checkChord := goodIn_ca (goodIn_r _ [12, 6, 7, 13, 14, 15, 16, 17, 18, 33, 34, 35, 36, 37] (by decide +kernel) (by decide +kernel)) (goodIn_sub (fun _ h => List.mem_cons_of_mem _ (List.mem_append_right _ h)) (by decide +kernel))
set_option maxRecDepth 20000 in
theorem gX2_weakness_X2_checkChord : GoodIn wsX2_weakness (va_wsS RX2 106 yX2_checkChord wsX2_checkChord) := goodIn_app (goodIn_of _ (by decide +kernel)) ggX2_weakness_X2_checkChord
set_option maxRecDepth 20000 in
theorem ggX2_weakness_X0_weaknessOf : GoodIn wsX2_weakness wsX0_weaknessOf := goodIn_r _ [22, 23, 24, 25, 26, 27, 28, 33, 34, 35, 36, 37] (by decide +kernel) (by decide +kernel)
set_option maxRecDepth 20000 in
theorem gX2_weakness_X0_weaknessOf : GoodIn wsX2_weakness (wsV RX2 171 RX0 yX0_weaknessOf wsX0_weaknessOf) := goodIn_app (goodIn_of _ (by decide +kernel)) ggX2_weakness_X0_weaknessOf
set_option maxRecDepth 20000 in
theorem ggX2_weakest_X2_pieceAt : GoodIn wsX2_weakest wsX2_pieceAt := goodIn_ca (goodIn_r _ [5, 6, 7, 8, 9, 26, 27, 28, 29] (by decide +kernel) (by decide +kernel)) (goodIn_sub (fun _ h => List.mem_cons_of_mem _ (List.mem_append_right _ h)) (by decide +kernel))
set_option maxRecDepth 20000 in
theorem gX2_weakest_X2_pieceAt : GoodIn wsX2_weakest (wsV RX2 102 RX2 yX2_pieceAt wsX2_pieceAt) := goodIn_app (goodIn_of _ (by decide +kernel)) ggX2_weakest_X2_pieceAt
set_option maxRecDepth 20000 in
theorem ggX2_weakest_X0_weakestChord : GoodIn wsX2_weakest wsX0_weakestChord := goodIn_r _ [14, 15, 16, 17, 18, 13, 19, 20, 21, 22, 23, 24, 25, 30, 31, 32, 33, 34] (by decide +kernel) (by decide +kernel)
set_option maxRecDepth 20000 in
theorem gX2_weakest_X0_weakestChord : GoodIn wsX2_weakest (wsV RX2 174 RX0 yX0_weakestChord wsX0_weakestChord) := goodIn_app (goodIn_of _ (by decide +kernel)) ggX2_weakest_X0_weakestChord
set_option maxRecDepth 20000 in
theorem ggX2_checkSinger_X1_has : GoodIn wsX2_checkSinger wsX1_has := goodIn_r _ [8, 9, 14, 15, 16, 17, 18] (by decide +kernel) (by decide +kernel)
set_option maxRecDepth 20000 in
theorem gX2_checkSinger_X1_has : GoodIn wsX2_checkSinger (wsV RX2 185 RX1 yX1_has wsX1_has) := goodIn_app (goodIn_of _ (by decide +kernel)) ggX2_checkSinger_X1_has
set_option maxRecDepth 20000 in
theorem ggX2_checkChord_X0_has : GoodIn wsX2_checkChord wsX0_has := goodIn_r _ [7, 8, 9, 10, 11, 12, 13] (by decide +kernel) (by decide +kernel)
set_option maxRecDepth 20000 in
theorem gX2_checkChord_X0_has : GoodIn wsX2_checkChord (wsV RX2 190 RX0 yX0_has wsX0_has) := goodIn_app (goodIn_of _ (by decide +kernel)) ggX2_checkChord_X0_has
set_option maxRecDepth 20000 in
theorem ggX2_nearestShift_X1_firstTone : GoodIn wsX2_nearestShift wsX1_firstTone := goodIn_r _ [13, 14, 15, 16, 3, 4, 5, 17, 18, 19, 12, 20, 21, 22, 23, 24, 25, 26, 54, 55, 56, 57, 58] (by decide +kernel) (by decide +kernel)
set_option maxRecDepth 20000 in
theorem gX2_nearestShift_X1_firstTone : GoodIn wsX2_nearestShift (wsV RX2 73 RX1 yX1_firstTone wsX1_firstTone) := goodIn_app (goodIn_of _ (by decide +kernel)) ggX2_nearestShift_X1_firstTone
set_option maxRecDepth 20000 in
theorem ggX2_nearestShift_X0_lowestTone : GoodIn wsX2_nearestShift wsX0_lowestTone := goodIn_r _ [31, 32, 33, 7, 4, 8, 34, 35, 36, 30, 37, 38, 59, 60, 61, 62, 63] (by decide +kernel) (by decide +kernel)
set_option maxRecDepth 20000 in
theorem gX2_nearestShift_X0_lowestTone : GoodIn wsX2_nearestShift (wsV RX2 195 RX0 yX0_lowestTone wsX0_lowestTone) := goodIn_app (goodIn_of _ (by decide +kernel)) ggX2_nearestShift_X0_lowestTone
set_option maxRecDepth 20000 in
theorem ggX2_nearestShift_X1_lastTone : GoodIn wsX2_nearestShift wsX1_lastTone := goodIn_r _ [42, 14, 43, 44, 7, 4, 8, 17, 18, 19, 12, 20, 21, 22, 23, 24, 25, 26, 54, 55, 56, 57, 58] (by decide +kernel) (by decide +kernel)
set_option maxRecDepth 20000 in
theorem gX2_nearestShift_X1_lastTone : GoodIn wsX2_nearestShift (wsV RX2 76 RX1 yX1_lastTone wsX1_lastTone) := goodIn_app (goodIn_of _ (by decide +kernel)) ggX2_nearestShift_X1_lastTone
set_option maxRecDepth 20000 in
theorem ggX2_nearestShift_X0_highestTone : GoodIn wsX2_nearestShift wsX0_highestTone := goodIn_r _ [48, 32, 49, 3, 4, 5, 34, 35, 36, 30, 37, 38, 59, 60, 61, 62, 63] (by decide +kernel) (by decide +kernel)
set_option maxRecDepth 20000 in
theorem gX2_nearestShift_X0_highestTone : GoodIn wsX2_nearestShift (wsV RX2 203 RX0 yX0_highestTone wsX0_highestTone) := goodIn_app (goodIn_of _ (by decide +kernel)) ggX2_nearestShift_X0_highestTone
set_option maxRecDepth 20000 in
theorem ggX2_bestSet_X2_singableSet : GoodIn wsX2_bestSet wsX2_singableSet := goodIn_ca (goodIn_r _ [6, 1, 7, 8, 9, 5, 10, 11, 12, 13, 14, 15, 16, 17, 18, 19, 20, 21, 22, 23, 24, 25, 26, 27, 28, 29, 30, 31, 32, 33, 34, 35, 36, 37, 38, 39, 40, 41, 42, 43, 44, 45, 46, 47, 48, 49, 50, 51, 52, 53, 54, 55, 56, 57, 58, 59, 60, 61, 62, 63, 64, 65, 66, 87, 88, 89, 90, 91, 92, 93, 94, 95, 96, 97, 98, 99, 100] (by decide +kernel) (by decide +kernel)) (goodIn_sub (fun _ h => List.mem_cons_of_mem _ (List.mem_append_right _ h)) (by decide +kernel))
set_option maxRecDepth 20000 in
theorem gX2_bestSet_X2_singableSet : GoodIn wsX2_bestSet (wsV RX2 209 RX2 yX2_singableSet wsX2_singableSet) := goodIn_app (goodIn_of _ (by decide +kernel)) ggX2_bestSet_X2_singableSet
set_option maxRecDepth 20000 in
theorem ggX2_bestSet_X2_lengthOf : GoodIn wsX2_bestSet wsX2_lengthOf := goodIn_ca (goodIn_r _ [70, 1, 7, 8, 9, 5, 10, 11, 12, 13, 71, 72, 73, 47, 74, 75, 87, 88, 89, 90, 96, 97, 98, 99, 100] (by decide +kernel) (by decide +kernel)) (goodIn_sub (fun _ h => List.mem_cons_of_mem _ (List.mem_append_right _ h)) (by decide +kernel))
set_option maxRecDepth 20000 in
theorem gX2_bestSet_X2_lengthOf : GoodIn wsX2_bestSet (wsV RX2 160 RX2 yX2_lengthOf wsX2_lengthOf) := goodIn_app (goodIn_of _ (by decide +kernel)) ggX2_bestSet_X2_lengthOf
set_option maxRecDepth 20000 in
theorem ggX2_bestSet_X2_isBetter : GoodIn wsX2_bestSet wsX2_isBetter := goodIn_ca (goodIn_r _ [79, 67, 68, 69, 5, 70, 1, 7, 8, 9, 10, 11, 12, 13, 71, 72, 73, 47, 74, 75, 80, 81, 82, 83, 84, 85, 86, 87, 88, 89, 90, 96, 97, 98, 99, 100] (by decide +kernel) (by decide +kernel)) (goodIn_sub (fun _ h => List.mem_cons_of_mem _ (List.mem_append_right _ h)) (by decide +kernel))
set_option maxRecDepth 20000 in
theorem gX2_bestSet_X2_isBetter : GoodIn wsX2_bestSet (wsV RX2 212 RX2 yX2_isBetter wsX2_isBetter) := goodIn_app (goodIn_of _ (by decide +kernel)) ggX2_bestSet_X2_isBetter
set_option maxRecDepth 20000 in
theorem ggX2_singableSet_X2_pieceAt : GoodIn wsX2_singableSet wsX2_pieceAt := goodIn_ca (goodIn_r _ [6, 7, 8, 1, 9, 63, 64, 65, 66] (by decide +kernel) (by decide +kernel)) (goodIn_sub (fun _ h => List.mem_cons_of_mem _ (List.mem_append_right _ h)) (by decide +kernel))
set_option maxRecDepth 20000 in
theorem gX2_singableSet_X2_pieceAt : GoodIn wsX2_singableSet (wsV RX2 102 RX2 yX2_pieceAt wsX2_pieceAt) := goodIn_app (goodIn_of _ (by decide +kernel)) ggX2_singableSet_X2_pieceAt
set_option maxRecDepth 20000 in
theorem ggX2_singableSet_X2_nearestShift : GoodIn wsX2_singableSet wsX2_nearestShift := goodIn_r _ [13, 14, 15, 16, 17, 18, 19, 20, 21, 22, 23, 24, 25, 26, 27, 28, 29, 30, 31, 32, 33, 34, 35, 36, 37, 38, 39, 40, 41, 42, 43, 44, 45, 46, 47, 48, 49, 50, 51, 52, 53, 54, 55, 56, 57, 58, 59, 60, 61, 62, 63, 64, 65, 66, 67, 68, 69, 70, 71, 72, 73, 74, 75, 76] (by decide +kernel) (by decide +kernel)
set_option maxRecDepth 20000 in
theorem gX2_singableSet_X2_nearestShift : GoodIn wsX2_singableSet (wsV RX2 145 RX2 yX2_nearestShift wsX2_nearestShift) := goodIn_app (goodIn_of _ (by decide +kernel)) ggX2_singableSet_X2_nearestShift
set_option maxRecDepth 20000 in
theorem ggX2_lengthOf_X2_pieceAt : GoodIn wsX2_lengthOf wsX2_pieceAt := goodIn_ca (goodIn_r _ [6, 7, 8, 1, 9, 16, 17, 18, 19] (by decide +kernel) (by decide +kernel)) (goodIn_sub (fun _ h => List.mem_cons_of_mem _ (List.mem_append_right _ h)) (by decide +kernel))
set_option maxRecDepth 20000 in
theorem gX2_lengthOf_X2_pieceAt : GoodIn wsX2_lengthOf (wsV RX2 102 RX2 yX2_pieceAt wsX2_pieceAt) := goodIn_app (goodIn_of _ (by decide +kernel)) ggX2_lengthOf_X2_pieceAt
set_option maxRecDepth 20000 in
theorem ggX2_lengthOf_X0_length : GoodIn wsX2_lengthOf wsX0_length := goodIn_r _ [14, 15, 20, 21, 22, 23, 24] (by decide +kernel) (by decide +kernel)
set_option maxRecDepth 20000 in
theorem gX2_lengthOf_X0_length : GoodIn wsX2_lengthOf (wsV RX2 215 RX0 yX0_length wsX0_length) := goodIn_app (goodIn_of _ (by decide +kernel)) ggX2_lengthOf_X0_length
set_option maxRecDepth 20000 in
theorem ggX2_isBetter_X2_lengthOf : GoodIn wsX2_isBetter wsX2_lengthOf := goodIn_ca (goodIn_r _ [5, 6, 7, 8, 9, 4, 10, 11, 12, 13, 14, 15, 16, 17, 18, 19, 27, 28, 29, 30, 31, 32, 33, 34, 35] (by decide +kernel) (by decide +kernel)) (goodIn_sub (fun _ h => List.mem_cons_of_mem _ (List.mem_append_right _ h)) (by decide +kernel))
set_option maxRecDepth 20000 in
theorem gX2_isBetter_X2_lengthOf : GoodIn wsX2_isBetter (wsV RX2 160 RX2 yX2_lengthOf wsX2_lengthOf) := goodIn_app (goodIn_of _ (by decide +kernel)) ggX2_isBetter_X2_lengthOf
set_option maxRecDepth 20000 in
theorem ggX2_isBetter_J6_bitCount_0f7a4 : GoodIn wsX2_isBetter wsJ6_bitCount_0f7a4 := goodIn_r _ [23, 24, 25, 26] (by decide +kernel) (by decide +kernel)
set_option maxRecDepth 20000 in
theorem gX2_isBetter_J6_bitCount_0f7a4 : GoodIn wsX2_isBetter (va_wsS RX2 218 yJ6_bitCount_0f7a4 wsJ6_bitCount_0f7a4) := goodIn_app (goodIn_of _ (by decide +kernel)) ggX2_isBetter_J6_bitCount_0f7a4
set_option maxRecDepth 20000 in
theorem ggL_singers_X2_addSinger : GoodIn wsL_singers wsX2_addSinger := goodIn_ca (goodIn_ca (goodIn_r _ [9, 10, 11, 12, 13, 14, 15, 16, 8, 17, 18, 19, 20, 21, 22, 23, 24, 25, 26, 27, 28, 29, 30, 31, 32, 33, 34, 35, 36, 37, 38, 39, 40, 41, 42] (by decide +kernel) (by decide +kernel)) (goodIn_sub (fun _ h => List.mem_cons_of_mem _ (List.mem_append_left _ (List.mem_append_right _ h))) (by decide +kernel))) (goodIn_sub (fun _ h => List.mem_cons_of_mem _ (List.mem_append_right _ h)) (by decide +kernel))
set_option maxRecDepth 20000 in
theorem gL_singers_X2_addSinger : GoodIn wsL_singers (wsV RL 7 RX2 yX2_addSinger wsX2_addSinger) := goodIn_app (goodIn_of _ (by decide +kernel)) ggL_singers_X2_addSinger
set_option maxRecDepth 20000 in
theorem ggL_tells_X2_tell : GoodIn wsL_tells wsX2_tell := goodIn_ca (goodIn_ca (goodIn_r _ [9, 10, 11, 12, 13, 8, 14, 15, 16, 17, 18, 19, 20, 21, 22, 23, 24, 25, 26, 27, 28, 29, 30, 31, 32, 33, 34, 35, 36, 37, 38, 39, 40, 41, 42, 43, 44, 45] (by decide +kernel) (by decide +kernel)) (goodIn_sub (fun _ h => List.mem_cons_of_mem _ (List.mem_append_left _ (List.mem_append_right _ h))) (by decide +kernel))) (goodIn_sub (fun _ h => List.mem_cons_of_mem _ (List.mem_append_right _ h)) (by decide +kernel))
set_option maxRecDepth 20000 in
theorem gL_tells_X2_tell : GoodIn wsL_tells (wsV RL 19 RX2 yX2_tell wsX2_tell) := goodIn_app (goodIn_of _ (by decide +kernel)) ggL_tells_X2_tell
set_option maxRecDepth 20000 in
theorem ggL_changes_X2_change : GoodIn wsL_changes wsX2_change := goodIn_ca (goodIn_ca (goodIn_r _ [9, 10, 11, 12, 13, 8, 14, 15, 16, 17, 18, 19, 20, 21, 22, 23, 24, 25, 26, 27, 28, 29, 30, 31, 32, 33, 34, 35, 36, 37, 38, 39, 40, 41] (by decide +kernel) (by decide +kernel)) (goodIn_sub (fun _ h => List.mem_cons_of_mem _ (List.mem_append_left _ (List.mem_append_right _ h))) (by decide +kernel))) (goodIn_sub (fun _ h => List.mem_cons_of_mem _ (List.mem_append_right _ h)) (by decide +kernel))
set_option maxRecDepth 20000 in
theorem gL_changes_X2_change : GoodIn wsL_changes (wsV RL 26 RX2 yX2_change wsX2_change) := goodIn_app (goodIn_of _ (by decide +kernel)) ggL_changes_X2_change
set_option maxRecDepth 20000 in
theorem ggL_range_X2_range : GoodIn wsL_range wsX2_range := goodIn_ca (goodIn_r _ [7, 8, 9, 10, 6, 11, 12, 13, 14, 15, 16, 17, 18, 19, 20, 21, 22, 23, 24, 25, 26, 27, 28, 29, 30, 31, 32, 33, 34, 35, 36, 37, 38, 39, 40, 41, 42, 43, 44, 45, 46, 47, 48, 49, 50, 51, 52, 53, 54] (by decide +kernel) (by decide +kernel)) (goodIn_sub (fun _ h => List.mem_cons_of_mem _ (List.mem_append_right _ h)) (by decide +kernel))
set_option maxRecDepth 20000 in
theorem gL_range_X2_range : GoodIn wsL_range (wsV RL 30 RX2 yX2_range wsX2_range) := goodIn_app (goodIn_of _ (by decide +kernel)) ggL_range_X2_range
set_option maxRecDepth 20000 in
theorem ggL_chords_X2_chord : GoodIn wsL_chords wsX2_chord := goodIn_ca (goodIn_ca (goodIn_r _ [9, 10, 11, 12, 13, 14, 8, 15, 16, 17, 18, 19, 20, 21, 22, 23, 24, 25, 26, 27, 28, 29, 30, 31, 32, 33, 34, 35, 36, 37, 38, 39, 40, 41, 42, 43, 44, 45, 46, 47, 48, 49, 50, 51, 52, 53, 54, 55, 56, 57, 58, 59, 60, 61] (by decide +kernel) (by decide +kernel)) (goodIn_sub (fun _ h => List.mem_cons_of_mem _ (List.mem_append_left _ (List.mem_append_right _ h))) (by decide +kernel))) (goodIn_sub (fun _ h => List.mem_cons_of_mem _ (List.mem_append_right _ h)) (by decide +kernel))
set_option maxRecDepth 20000 in
theorem gL_chords_X2_chord : GoodIn wsL_chords (wsV RL 33 RX2 yX2_chord wsX2_chord) := goodIn_app (goodIn_of _ (by decide +kernel)) ggL_chords_X2_chord
set_option maxRecDepth 20000 in
theorem ggL_pieces_X2_addPiece : GoodIn wsL_pieces wsX2_addPiece := goodIn_ca (goodIn_ca (goodIn_r _ [9, 10, 11, 12, 13, 14, 15, 16, 17, 18, 19, 20, 21, 22, 23, 24, 25, 26, 27, 28, 29, 30, 31, 32, 33, 34, 35, 36, 37, 38, 39, 40, 41, 42, 43, 44, 45, 46, 47] (by decide +kernel) (by decide +kernel)) (goodIn_sub (fun _ h => List.mem_cons_of_mem _ (List.mem_append_left _ (List.mem_append_right _ h))) (by decide +kernel))) (goodIn_sub (fun _ h => List.mem_cons_of_mem _ (List.mem_append_right _ h)) (by decide +kernel))
set_option maxRecDepth 20000 in
theorem gL_pieces_X2_addPiece : GoodIn wsL_pieces (wsV RL 37 RX2 yX2_addPiece wsX2_addPiece) := goodIn_app (goodIn_of _ (by decide +kernel)) ggL_pieces_X2_addPiece
set_option maxRecDepth 20000 in
theorem ggL_tones_X2_setTone : GoodIn wsL_tones wsX2_setTone := goodIn_ca (goodIn_ca (goodIn_ca (goodIn_r _ [11, 12, 13, 14, 15, 16, 10, 17, 18, 19, 20, 21, 22, 23, 24, 25, 26, 27, 28, 29, 30, 31, 32, 33, 34, 35, 36, 37, 38, 39, 40, 41, 42, 43, 44, 45, 46, 47, 48, 49, 50, 51, 52, 53, 54, 55, 56, 57, 58, 59, 60, 61, 62, 63, 64, 65, 66, 67, 68, 69, 70, 71, 72, 73, 74, 75, 76, 77, 78, 79, 80, 81, 82, 83, 84, 85] (by decide +kernel) (by decide +kernel)) (goodIn_sub (fun _ h => List.mem_cons_of_mem _ (List.mem_append_left _ (List.mem_append_left _ (List.mem_append_right _ h)))) (by decide +kernel))) (goodIn_sub (fun _ h => List.mem_cons_of_mem _ (List.mem_append_left _ (List.mem_append_right _ h))) (by decide +kernel))) (goodIn_sub (fun _ h => List.mem_cons_of_mem _ (List.mem_append_right _ h)) (by decide +kernel))
set_option maxRecDepth 20000 in
theorem gL_tones_X2_setTone : GoodIn wsL_tones (wsV RL 41 RX2 yX2_setTone wsX2_setTone) := goodIn_app (goodIn_of _ (by decide +kernel)) ggL_tones_X2_setTone
set_option maxRecDepth 20000 in
theorem ggL_faultsAt_X2_faultsAt : GoodIn wsL_faultsAt wsX2_faultsAt := goodIn_ca (goodIn_r _ [7, 8, 9, 10, 6, 11, 12, 13, 14, 15, 16, 17, 18, 19, 20, 21, 22, 23, 24, 25, 26, 27, 28, 29, 30, 31, 32, 33, 34, 35, 36, 37, 38] (by decide +kernel) (by decide +kernel)) (goodIn_sub (fun _ h => List.mem_cons_of_mem _ (List.mem_append_right _ h)) (by decide +kernel))
set_option maxRecDepth 20000 in
theorem gL_faultsAt_X2_faultsAt : GoodIn wsL_faultsAt (wsV RL 44 RX2 yX2_faultsAt wsX2_faultsAt) := goodIn_app (goodIn_of _ (by decide +kernel)) ggL_faultsAt_X2_faultsAt
set_option maxRecDepth 20000 in
theorem ggL_faults_X2_faults : GoodIn wsL_faults wsX2_faults := goodIn_ca (goodIn_r _ [7, 8, 9, 10, 6, 11, 12, 13, 14, 15, 16, 17, 18, 19, 20, 21, 22, 23, 24, 25, 26, 27, 28, 29, 30, 31] (by decide +kernel) (by decide +kernel)) (goodIn_sub (fun _ h => List.mem_cons_of_mem _ (List.mem_append_right _ h)) (by decide +kernel))
set_option maxRecDepth 20000 in
theorem gL_faults_X2_faults : GoodIn wsL_faults (wsV RL 47 RX2 yX2_faults wsX2_faults) := goodIn_app (goodIn_of _ (by decide +kernel)) ggL_faults_X2_faults
set_option maxRecDepth 20000 in
theorem ggL_least_X2_leastFaults : GoodIn wsL_least wsX2_leastFaults := goodIn_ca (goodIn_ca (goodIn_r _ [9, 10, 11, 12, 13, 14, 8, 15, 16, 17, 18, 19, 20, 21, 22, 23, 24, 25, 26, 27, 28, 29, 30, 31, 32, 33, 34, 35, 36, 37, 38, 39, 40, 41, 42, 43, 44, 45, 46, 47, 48, 49, 50, 51, 52, 53, 54, 55, 56, 57, 58, 59, 60, 61, 62, 63, 64, 65, 66, 67, 68, 69, 70, 71, 72, 73, 74, 75, 76, 77, 78, 79, 80, 81, 82, 83, 84, 85, 86, 87, 88, 89, 90, 91, 92] (by decide +kernel) (by decide +kernel)) (goodIn_sub (fun _ h => List.mem_cons_of_mem _ (List.mem_append_left _ (List.mem_append_right _ h))) (by decide +kernel))) (goodIn_sub (fun _ h => List.mem_cons_of_mem _ (List.mem_append_right _ h)) (by decide +kernel))
set_option maxRecDepth 20000 in
theorem gL_least_X2_leastFaults : GoodIn wsL_least (wsV RL 50 RX2 yX2_leastFaults wsX2_leastFaults) := goodIn_app (goodIn_of _ (by decide +kernel)) ggL_least_X2_leastFaults
set_option maxRecDepth 20000 in
theorem ggL_shift_X2_shift : GoodIn wsL_shift wsX2_shift := goodIn_ca (goodIn_ca (goodIn_ca (goodIn_r _ [11, 12, 13, 14, 15, 16, 10, 17, 18, 19, 20, 21, 22, 23, 24, 25, 26, 27, 28, 29, 30, 31, 32, 33, 34, 35, 36, 37, 38, 39, 40, 41, 42, 43, 44, 45, 46, 47, 48, 49, 50, 51, 52, 53, 54, 55, 56, 57, 58, 59, 60, 61, 62, 63, 64, 65, 66, 67, 68, 69, 70, 71, 72, 73, 74, 75, 76, 77, 78, 79, 80, 81, 82, 83, 84, 85, 86, 87, 88, 89, 90, 91, 92, 93] (by decide +kernel) (by decide +kernel)) (goodIn_sub (fun _ h => List.mem_cons_of_mem _ (List.mem_append_left _ (List.mem_append_left _ (List.mem_append_right _ h)))) (by decide +kernel))) (goodIn_sub (fun _ h => List.mem_cons_of_mem _ (List.mem_append_left _ (List.mem_append_right _ h))) (by decide +kernel))) (goodIn_sub (fun _ h => List.mem_cons_of_mem _ (List.mem_append_right _ h)) (by decide +kernel))
set_option maxRecDepth 20000 in
theorem gL_shift_X2_shift : GoodIn wsL_shift (wsV RL 53 RX2 yX2_shift wsX2_shift) := goodIn_app (goodIn_of _ (by decide +kernel)) ggL_shift_X2_shift
set_option maxRecDepth 20000 in
theorem ggL_dates_X2_dates : GoodIn wsL_dates wsX2_dates := goodIn_ca (goodIn_r _ [7, 8, 9, 10, 6, 11, 12, 13, 14, 15, 16, 17, 18, 19, 20, 21, 22, 23, 24, 25, 26, 27, 28, 29, 30, 31, 32, 33, 34, 35, 36, 37, 38, 39, 40, 41, 42, 43, 44, 45, 46, 47, 48, 49, 50, 51, 52, 53, 54, 55, 56, 57, 58, 59, 60, 61, 62, 63, 64, 65, 66, 67, 68, 69, 70, 71, 72, 73, 74, 75, 76, 77, 78, 79, 80, 81, 82] (by decide +kernel) (by decide +kernel)) (goodIn_sub (fun _ h => List.mem_cons_of_mem _ (List.mem_append_right _ h)) (by decide +kernel))
set_option maxRecDepth 20000 in
theorem gL_dates_X2_dates : GoodIn wsL_dates (wsV RL 56 RX2 yX2_dates wsX2_dates) := goodIn_app (goodIn_of _ (by decide +kernel)) ggL_dates_X2_dates
set_option maxRecDepth 20000 in
theorem ggL_missed_X2_missed : GoodIn wsL_missed wsX2_missed := goodIn_ca (goodIn_r _ [7, 8, 9, 10, 6, 11, 12, 13, 14, 15, 16, 17, 18, 19, 20, 21, 22, 23, 24, 25, 26, 27, 28, 29, 30, 31, 32, 33, 34, 35, 36, 37, 38, 39, 40, 41, 42, 43, 44, 45, 46, 47] (by decide +kernel) (by decide +kernel)) (goodIn_sub (fun _ h => List.mem_cons_of_mem _ (List.mem_append_right _ h)) (by decide +kernel))
set_option maxRecDepth 20000 in
theorem gL_missed_X2_missed : GoodIn wsL_missed (wsV RL 59 RX2 yX2_missed wsX2_missed) := goodIn_app (goodIn_of _ (by decide +kernel)) ggL_missed_X2_missed
set_option maxRecDepth 20000 in
theorem ggL_plan_X2_programme : GoodIn wsL_plan wsX2_programme := goodIn_ca (goodIn_ca (goodIn_r _ [7, 8, 9, 6, 10, 11, 12, 13, 14, 15, 16, 17, 18, 19, 20, 21, 22, 23, 24, 25, 26, 27, 28, 29, 30, 31, 32, 33, 34, 35, 36, 37, 38, 39, 40, 41, 42, 43, 44, 45, 46, 47, 48, 49, 50, 51, 52, 53, 54, 55, 56, 57, 58, 59, 60, 61, 62, 63, 64, 65, 66, 67, 68, 69, 70, 71, 72, 73, 74, 75, 76, 77, 78, 79, 80, 81, 82, 83, 84, 85, 86, 87, 88, 89, 90, 91, 92, 93, 94, 95, 96, 97, 98, 99, 100, 101, 102, 103, 104, 105, 106, 107, 108, 109, 110, 111, 112, 113, 114, 115, 116, 117, 118] (by decide +kernel) (by decide +kernel)) (goodIn_sub (fun _ h => List.mem_cons_of_mem _ (List.mem_append_left _ (List.mem_append_right _ h))) (by decide +kernel))) (goodIn_sub (fun _ h => List.mem_cons_of_mem _ (List.mem_append_right _ h)) (by decide +kernel))
set_option maxRecDepth 20000 in
theorem gL_plan_X2_programme : GoodIn wsL_plan (wsV RL 62 RX2 yX2_programme wsX2_programme) := goodIn_app (goodIn_of _ (by decide +kernel)) ggL_plan_X2_programme
set_option maxRecDepth 20000 in
theorem ggL_duration_X2_duration : GoodIn wsL_duration wsX2_duration := goodIn_ca (goodIn_ca (goodIn_r _ [7, 8, 9, 6, 10, 11, 12, 13, 14, 15, 16, 17, 18, 19, 20, 21, 22, 23, 24, 25, 26, 27, 28, 29, 30, 31, 32, 33, 34, 35, 36, 37, 38, 39, 40, 41, 42, 43, 44, 45, 46, 47, 48, 49, 50, 51, 52, 53, 54, 55, 56, 57, 58, 59, 60, 61, 62, 63, 64, 65, 66, 67, 68, 69, 70, 71, 72, 73, 74, 75, 76, 77, 78, 79, 80, 81, 82, 83, 84, 85, 86, 87, 88, 89, 90, 91, 92, 93, 94, 95, 96, 97, 98, 99, 100, 101, 102, 103, 104, 105, 106, 107, 108, 109, 110, 111, 112, 113, 114, 115, 116, 117, 118] (by decide +kernel) (by decide +kernel)) (goodIn_sub (fun _ h => List.mem_cons_of_mem _ (List.mem_append_left _ (List.mem_append_right _ h))) (by decide +kernel))) (goodIn_sub (fun _ h => List.mem_cons_of_mem _ (List.mem_append_right _ h)) (by decide +kernel))
set_option maxRecDepth 20000 in
theorem gL_duration_X2_duration : GoodIn wsL_duration (wsV RL 65 RX2 yX2_duration wsX2_duration) := goodIn_app (goodIn_of _ (by decide +kernel)) ggL_duration_X2_duration
set_option maxRecDepth 20000 in
theorem ggL_rehearses_X2_rehearse : GoodIn wsL_rehearses wsX2_rehearse := goodIn_ca (goodIn_ca (goodIn_r _ [9, 10, 11, 12, 13, 14, 8, 15, 16, 17, 18, 19, 20, 21, 22, 23, 24, 25, 26, 27, 28, 29, 30, 31, 32, 33, 34, 35, 36, 37, 38, 39, 40, 41, 42, 43, 44, 45, 46, 47, 48, 49, 50, 51, 52] (by decide +kernel) (by decide +kernel)) (goodIn_sub (fun _ h => List.mem_cons_of_mem _ (List.mem_append_left _ (List.mem_append_right _ h))) (by decide +kernel))) (goodIn_sub (fun _ h => List.mem_cons_of_mem _ (List.mem_append_right _ h)) (by decide +kernel))
set_option maxRecDepth 20000 in
theorem gL_rehearses_X2_rehearse : GoodIn wsL_rehearses (wsV RL 68 RX2 yX2_rehearse wsX2_rehearse) := goodIn_app (goodIn_of _ (by decide +kernel)) ggL_rehearses_X2_rehearse
set_option maxRecDepth 20000 in
theorem ggL_weakness_X2_weakness : GoodIn wsL_weakness wsX2_weakness := goodIn_ca (goodIn_r _ [7, 8, 9, 10, 6, 11, 12, 13, 14, 15, 16, 17, 18, 19, 20, 21, 22, 23, 24, 25, 26, 27, 28, 29, 30, 31, 32, 33, 34, 35, 36, 37, 38, 39, 40, 41, 42, 43] (by decide +kernel) (by decide +kernel)) (goodIn_sub (fun _ h => List.mem_cons_of_mem _ (List.mem_append_right _ h)) (by decide +kernel))
set_option maxRecDepth 20000 in
theorem gL_weakness_X2_weakness : GoodIn wsL_weakness (wsV RL 71 RX2 yX2_weakness wsX2_weakness) := goodIn_app (goodIn_of _ (by decide +kernel)) ggL_weakness_X2_weakness
set_option maxRecDepth 20000 in
theorem ggL_weakest_X2_weakest : GoodIn wsL_weakest wsX2_weakest := goodIn_ca (goodIn_r _ [7, 8, 9, 10, 6, 11, 12, 13, 14, 15, 16, 17, 18, 19, 20, 21, 22, 23, 24, 25, 26, 27, 28, 29, 30, 31, 32, 33, 34, 35, 36, 37, 38, 39, 40] (by decide +kernel) (by decide +kernel)) (goodIn_sub (fun _ h => List.mem_cons_of_mem _ (List.mem_append_right _ h)) (by decide +kernel))
set_option maxRecDepth 20000 in
theorem gL_weakest_X2_weakest : GoodIn wsL_weakest (wsV RL 74 RX2 yX2_weakest wsX2_weakest) := goodIn_app (goodIn_of _ (by decide +kernel)) ggL_weakest_X2_weakest
set_option maxRecDepth 20000 in
theorem ggL_refuses_L_singers : GoodIn wsL_refuses wsL_singers := goodIn_ca (goodIn_ca (goodIn_r _ [7, 8, 9, 1, 3, 10, 11, 12, 13, 14, 15, 16, 17, 18, 19, 20, 21, 22, 23, 24, 25, 26, 27, 28, 29, 30, 31, 32, 33, 34, 35, 36, 37, 38, 373, 374, 375, 376, 377, 378, 379, 380, 381] (by decide +kernel) (by decide +kernel)) (goodIn_sub (fun _ h => List.mem_cons_of_mem _ (List.mem_append_left _ (List.mem_append_left _ (List.mem_append_right _ h)))) (by decide +kernel))) (goodIn_sub (fun _ h => List.mem_cons_of_mem _ (List.mem_append_left _ (List.mem_append_right _ h))) (by decide +kernel))
set_option maxRecDepth 20000 in
theorem gL_refuses_L_singers : GoodIn wsL_refuses (va_wsS RL 79 yL_singers wsL_singers) := goodIn_app (goodIn_of _ (by decide +kernel)) ggL_refuses_L_singers
set_option maxRecDepth 20000 in
theorem ggL_refuses_L_tells : GoodIn wsL_refuses wsL_tells := goodIn_ca (goodIn_ca (goodIn_r _ [41, 42, 8, 2, 1, 43, 44, 45, 13, 46, 19, 47, 48, 49, 50, 51, 52, 53, 54, 55, 29, 56, 31, 57, 58, 59, 15, 16, 60, 61, 62, 63, 64, 65, 66, 67, 68, 373, 374, 375, 376, 377, 378, 379, 380, 381] (by decide +kernel) (by decide +kernel)) (goodIn_sub (fun _ h => List.mem_cons_of_mem _ (List.mem_append_right _ h)) (by decide +kernel))) (goodIn_sub (fun _ h => List.mem_cons_of_mem _ (List.mem_append_left _ (List.mem_append_left _ (List.mem_append_right _ h)))) (by decide +kernel))
set_option maxRecDepth 20000 in
theorem gL_refuses_L_tells : GoodIn wsL_refuses (va_wsS RL 85 yL_tells wsL_tells) := goodIn_app (goodIn_of _ (by decide +kernel)) ggL_refuses_L_tells
set_option maxRecDepth 20000 in
theorem ggL_refuses_L_changes : GoodIn wsL_refuses wsL_changes := goodIn_ca (goodIn_ca (goodIn_r _ [71, 42, 8, 2, 1, 72, 73, 74, 13, 75, 19, 47, 48, 49, 50, 51, 52, 53, 54, 55, 29, 56, 31, 20, 21, 22, 15, 16, 76, 77, 78, 79, 36, 373, 374, 375, 376, 377, 378, 379, 380, 381] (by decide +kernel) (by decide +kernel)) (goodIn_sub (fun _ h => List.mem_cons_of_mem _ (List.mem_append_right _ h)) (by decide +kernel))) (goodIn_sub (fun _ h => List.mem_cons_of_mem _ (List.mem_append_left _ (List.mem_append_left _ (List.mem_append_right _ h)))) (by decide +kernel))
set_option maxRecDepth 20000 in
theorem gL_refuses_L_changes : GoodIn wsL_refuses (va_wsS RL 89 yL_changes wsL_changes) := goodIn_app (goodIn_of _ (by decide +kernel)) ggL_refuses_L_changes
set_option maxRecDepth 20000 in
theorem ggL_refuses_L_range : GoodIn wsL_refuses wsL_range := goodIn_ca (goodIn_r _ [82, 8, 1, 83, 84, 85, 13, 86, 19, 20, 21, 22, 15, 16, 57, 58, 59, 87, 88, 89, 29, 90, 31, 37, 91, 92, 93, 94, 95, 96, 97, 98, 36, 99, 61, 62, 63, 64, 100, 101, 102, 103, 38, 104, 105, 106, 373, 374, 375, 376, 377, 378, 379, 380, 381] (by decide +kernel) (by decide +kernel)) (goodIn_sub (fun _ h => List.mem_cons_of_mem _ (List.mem_append_left _ (List.mem_append_left _ (List.mem_append_right _ h)))) (by decide +kernel))
set_option maxRecDepth 20000 in
theorem gL_refuses_L_range : GoodIn wsL_refuses (va_wsS RL 93 yL_range wsL_range) := goodIn_app (goodIn_of _ (by decide +kernel)) ggL_refuses_L_range
set_option maxRecDepth 20000 in
theorem ggL_refuses_L_chords : GoodIn wsL_refuses wsL_chords := goodIn_ca (goodIn_ca (goodIn_r _ [109, 8, 9, 1, 3, 110, 111, 112, 13, 113, 17, 18, 114, 23, 24, 25, 15, 16, 115, 116, 117, 118, 119, 120, 121, 122, 123, 124, 125, 126, 127, 128, 129, 130, 131, 93, 132, 133, 134, 135, 136, 137, 138, 139, 140, 141, 142, 143, 144, 145, 146, 147, 148, 373, 374, 375, 376, 382, 383, 384, 385, 386] (by decide +kernel) (by decide +kernel)) (goodIn_sub (fun _ h => List.mem_cons_of_mem _ (List.mem_append_left _ (List.mem_append_right _ h))) (by decide +kernel))) (goodIn_sub (fun _ h => List.mem_cons_of_mem _ (List.mem_append_left _ (List.mem_append_left _ (List.mem_append_right _ h)))) (by decide +kernel))
set_option maxRecDepth 20000 in
theorem gL_refuses_L_chords : GoodIn wsL_refuses (va_wsS RL 95 yL_chords wsL_chords) := goodIn_app (goodIn_of _ (by decide +kernel)) ggL_refuses_L_chords
set_option maxRecDepth 20000 in
theorem ggL_refuses_L_pieces : GoodIn wsL_refuses wsL_pieces := goodIn_ca (goodIn_ca (goodIn_r _ [151, 8, 9, 1, 3, 152, 153, 154, 13, 155, 15, 16, 17, 18, 114, 156, 157, 158, 159, 118, 160, 161, 162, 163, 120, 164, 165, 166, 167, 168, 169, 170, 171, 172, 173, 174, 125, 175, 133, 373, 374, 375, 376, 382, 383, 384, 385, 386] (by decide +kernel) (by decide +kernel)) (goodIn_sub (fun _ h => List.mem_cons_of_mem _ (List.mem_append_left _ (List.mem_append_left _ (List.mem_append_right _ h)))) (by decide +kernel))) (goodIn_sub (fun _ h => List.mem_cons_of_mem _ (List.mem_append_left _ (List.mem_append_right _ h))) (by decide +kernel))
