set_option maxRecDepth 20000 in
theorem gX2_leastFaults_X2_pieceAt : GoodIn wsX2_leastFaults (wsV RX2 102 RX2 yX2_pieceAt wsX2_pieceAt) := goodIn_app (goodIn_of _ (by decide +kernel)) ggX2_leastFaults_X2_pieceAt
set_option maxRecDepth 20000 in
theorem ggX2_leastFaults_X2_checkChord : GoodIn wsX2_leastFaults wsX2_checkChord := goodIn_ca (goodIn_r _ [12, 1, 2, 13, 14, 15, 16, 17, 18, 80, 81, 82, 83, 84] (by decide +kernel) (by decide +kernel)) (goodIn_sub (fun _ h => List.mem_cons_of_mem _ (List.mem_append_left _ (List.mem_append_right _ h))) (by decide +kernel))
set_option maxRecDepth 20000 in
theorem gX2_leastFaults_X2_checkChord : GoodIn wsX2_leastFaults (va_wsS RX2 106 yX2_checkChord wsX2_checkChord) := goodIn_app (goodIn_of _ (by decide +kernel)) ggX2_leastFaults_X2_checkChord
set_option maxRecDepth 20000 in
theorem ggX2_leastFaults_X0_isLast : GoodIn wsX2_leastFaults wsX0_isLast := goodIn_r _ [22, 18, 80, 81, 82, 83, 84] (by decide +kernel) (by decide +kernel)
set_option maxRecDepth 20000 in
theorem gX2_leastFaults_X0_isLast : GoodIn wsX2_leastFaults (wsV RX2 133 RX0 yX0_isLast wsX0_isLast) := goodIn_app (goodIn_of _ (by decide +kernel)) ggX2_leastFaults_X0_isLast
set_option maxRecDepth 20000 in
theorem ggX2_leastFaults_X2_checkVoice : GoodIn wsX2_leastFaults wsX2_checkVoice := goodIn_ca (goodIn_r _ [25, 26, 27] (by decide +kernel) (by decide +kernel)) (goodIn_sub (fun _ h => List.mem_cons_of_mem _ (List.mem_append_right _ h)) (by decide +kernel))
set_option maxRecDepth 20000 in
theorem gX2_leastFaults_X2_checkVoice : GoodIn wsX2_leastFaults (va_wsS RX2 27 yX2_checkVoice wsX2_checkVoice) := goodIn_app (goodIn_of _ (by decide +kernel)) ggX2_leastFaults_X2_checkVoice
set_option maxRecDepth 20000 in
theorem ggX2_leastFaults_X0_leastFaultSum : GoodIn wsX2_leastFaults wsX0_leastFaultSum := goodIn_r _ [31, 32, 33, 34, 35, 36, 37, 38, 16, 39, 40, 41, 42, 43, 44, 45, 46, 47, 48, 18, 49, 50, 51, 52, 53, 54, 55, 56, 57, 58, 59, 60, 61, 62, 63, 64, 65, 66, 67, 68, 69, 70, 71, 72, 73, 74, 75, 80, 81, 82, 83, 84] (by decide +kernel) (by decide +kernel)
set_option maxRecDepth 20000 in
theorem gX2_leastFaults_X0_leastFaultSum : GoodIn wsX2_leastFaults (wsV RX2 142 RX0 yX0_leastFaultSum wsX0_leastFaultSum) := goodIn_app (goodIn_of _ (by decide +kernel)) ggX2_leastFaults_X0_leastFaultSum
set_option maxRecDepth 20000 in
theorem ggX2_shift_X2_pieceAt : GoodIn wsX2_shift wsX2_pieceAt := goodIn_ca (goodIn_r _ [7, 8, 9, 10, 11, 70, 71, 72, 73] (by decide +kernel) (by decide +kernel)) (goodIn_sub (fun _ h => List.mem_cons_of_mem _ (List.mem_append_left _ (List.mem_append_right _ h))) (by decide +kernel))
set_option maxRecDepth 20000 in
theorem gX2_shift_X2_pieceAt : GoodIn wsX2_shift (wsV RX2 102 RX2 yX2_pieceAt wsX2_pieceAt) := goodIn_app (goodIn_of _ (by decide +kernel)) ggX2_shift_X2_pieceAt
set_option maxRecDepth 20000 in
theorem ggX2_shift_X2_checkDate : GoodIn wsX2_shift wsX2_checkDate := goodIn_ca (goodIn_r _ [14, 15, 16] (by decide +kernel) (by decide +kernel)) (goodIn_sub (fun _ h => List.mem_cons_of_mem _ (List.mem_append_right _ h)) (by decide +kernel))
set_option maxRecDepth 20000 in
theorem gX2_shift_X2_checkDate : GoodIn wsX2_shift (va_wsS RX2 58 yX2_checkDate wsX2_checkDate) := goodIn_app (goodIn_of _ (by decide +kernel)) ggX2_shift_X2_checkDate
set_option maxRecDepth 20000 in
theorem ggX2_shift_X2_nearestShift : GoodIn wsX2_shift wsX2_nearestShift := goodIn_r _ [20, 21, 22, 23, 24, 25, 26, 27, 28, 29, 30, 31, 32, 33, 34, 35, 36, 37, 38, 39, 40, 41, 42, 43, 44, 45, 46, 47, 48, 49, 50, 51, 52, 53, 54, 55, 56, 57, 58, 59, 60, 61, 62, 63, 64, 65, 66, 67, 68, 69, 70, 71, 72, 73, 74, 75, 76, 77, 78, 79, 80, 81, 82, 83] (by decide +kernel) (by decide +kernel)
set_option maxRecDepth 20000 in
theorem gX2_shift_X2_nearestShift : GoodIn wsX2_shift (wsV RX2 145 RX2 yX2_nearestShift wsX2_nearestShift) := goodIn_app (goodIn_of _ (by decide +kernel)) ggX2_shift_X2_nearestShift
set_option maxRecDepth 20000 in
theorem ggX2_dates_X2_pieceAt : GoodIn wsX2_dates wsX2_pieceAt := goodIn_ca (goodIn_r _ [5, 6, 7, 8, 9, 63, 64, 65, 66] (by decide +kernel) (by decide +kernel)) (goodIn_sub (fun _ h => List.mem_cons_of_mem _ (List.mem_append_right _ h)) (by decide +kernel))
set_option maxRecDepth 20000 in
theorem gX2_dates_X2_pieceAt : GoodIn wsX2_dates (wsV RX2 102 RX2 yX2_pieceAt wsX2_pieceAt) := goodIn_app (goodIn_of _ (by decide +kernel)) ggX2_dates_X2_pieceAt
set_option maxRecDepth 20000 in
theorem ggX2_dates_X2_nearestShift : GoodIn wsX2_dates wsX2_nearestShift := goodIn_r _ [13, 14, 15, 16, 17, 18, 19, 20, 21, 22, 23, 24, 25, 26, 27, 28, 29, 30, 31, 32, 33, 34, 35, 36, 37, 38, 39, 40, 41, 42, 43, 44, 45, 46, 47, 48, 49, 50, 51, 52, 53, 54, 55, 56, 57, 58, 59, 60, 61, 62, 63, 64, 65, 66, 67, 68, 69, 70, 71, 72, 73, 74, 75, 76] (by decide +kernel) (by decide +kernel)
set_option maxRecDepth 20000 in
theorem gX2_dates_X2_nearestShift : GoodIn wsX2_dates (wsV RX2 145 RX2 yX2_nearestShift wsX2_nearestShift) := goodIn_app (goodIn_of _ (by decide +kernel)) ggX2_dates_X2_nearestShift
set_option maxRecDepth 20000 in
theorem ggX2_missed_X2_checkDate : GoodIn wsX2_missed wsX2_checkDate := goodIn_ca (goodIn_r _ [5, 6, 7] (by decide +kernel) (by decide +kernel)) (goodIn_sub (fun _ h => List.mem_cons_of_mem _ (List.mem_append_right _ h)) (by decide +kernel))
set_option maxRecDepth 20000 in
theorem gX2_missed_X2_checkDate : GoodIn wsX2_missed (va_wsS RX2 58 yX2_checkDate wsX2_checkDate) := goodIn_app (goodIn_of _ (by decide +kernel)) ggX2_missed_X2_checkDate
set_option maxRecDepth 20000 in
theorem ggX2_missed_X1_countMissed : GoodIn wsX2_missed wsX1_countMissed := goodIn_r _ [12, 13, 14, 15, 16, 17, 11, 18, 19, 20, 21, 22, 23, 24, 25, 26, 27, 28, 29, 30, 31, 32, 37, 38, 39, 40, 41] (by decide +kernel) (by decide +kernel)
set_option maxRecDepth 20000 in
theorem gX2_missed_X1_countMissed : GoodIn wsX2_missed (wsV RX2 151 RX1 yX1_countMissed wsX1_countMissed) := goodIn_app (goodIn_of _ (by decide +kernel)) ggX2_missed_X1_countMissed
set_option maxRecDepth 20000 in
theorem ggX2_programme_X2_checkDate : GoodIn wsX2_programme wsX2_checkDate := goodIn_ca (goodIn_r _ [4, 5, 6] (by decide +kernel) (by decide +kernel)) (goodIn_sub (fun _ h => List.mem_cons_of_mem _ (List.mem_append_left _ (List.mem_append_right _ h))) (by decide +kernel))
set_option maxRecDepth 20000 in
theorem gX2_programme_X2_checkDate : GoodIn wsX2_programme (va_wsS RX2 58 yX2_checkDate wsX2_checkDate) := goodIn_app (goodIn_of _ (by decide +kernel)) ggX2_programme_X2_checkDate
set_option maxRecDepth 20000 in
theorem ggX2_programme_X2_checkTime : GoodIn wsX2_programme wsX2_checkTime := goodIn_ca (goodIn_r _ [9, 5, 6] (by decide +kernel) (by decide +kernel)) (goodIn_sub (fun _ h => List.mem_cons_of_mem _ (List.mem_append_left _ (List.mem_append_right _ h))) (by decide +kernel))
set_option maxRecDepth 20000 in
theorem gX2_programme_X2_checkTime : GoodIn wsX2_programme (va_wsS RX2 154 yX2_checkTime wsX2_checkTime) := goodIn_app (goodIn_of _ (by decide +kernel)) ggX2_programme_X2_checkTime
set_option maxRecDepth 20000 in
theorem ggX2_programme_X2_bestSet : GoodIn wsX2_programme wsX2_bestSet := goodIn_ca (goodIn_r _ [13, 14, 15, 16, 17, 3, 18, 19, 20, 21, 22, 23, 24, 25, 26, 27, 28, 29, 30, 31, 32, 33, 34, 35, 36, 37, 38, 39, 40, 41, 42, 43, 44, 45, 46, 47, 48, 49, 50, 51, 52, 53, 54, 55, 56, 57, 58, 59, 60, 61, 62, 63, 64, 65, 66, 67, 68, 69, 70, 71, 72, 73, 74, 75, 76, 77, 78, 79, 80, 81, 82, 83, 84, 85, 86, 87, 88, 89, 90, 91, 92, 93, 94, 95, 96, 97, 98, 99, 100, 101, 102, 103, 104, 105, 106, 107, 108, 109, 110, 111, 112] (by decide +kernel) (by decide +kernel)) (goodIn_sub (fun _ h => List.mem_cons_of_mem _ (List.mem_append_right _ h)) (by decide +kernel))
set_option maxRecDepth 20000 in
theorem gX2_programme_X2_bestSet : GoodIn wsX2_programme (wsV RX2 157 RX2 yX2_bestSet wsX2_bestSet) := goodIn_app (goodIn_of _ (by decide +kernel)) ggX2_programme_X2_bestSet
set_option maxRecDepth 20000 in
theorem ggX2_duration_X2_checkDate : GoodIn wsX2_duration wsX2_checkDate := goodIn_ca (goodIn_r _ [4, 5, 6] (by decide +kernel) (by decide +kernel)) (goodIn_sub (fun _ h => List.mem_cons_of_mem _ (List.mem_append_left _ (List.mem_append_right _ h))) (by decide +kernel))
set_option maxRecDepth 20000 in
theorem gX2_duration_X2_checkDate : GoodIn wsX2_duration (va_wsS RX2 58 yX2_checkDate wsX2_checkDate) := goodIn_app (goodIn_of _ (by decide +kernel)) ggX2_duration_X2_checkDate
set_option maxRecDepth 20000 in
theorem ggX2_duration_X2_checkTime : GoodIn wsX2_duration wsX2_checkTime := goodIn_ca (goodIn_r _ [9, 5, 6] (by decide +kernel) (by decide +kernel)) (goodIn_sub (fun _ h => List.mem_cons_of_mem _ (List.mem_append_left _ (List.mem_append_right _ h))) (by decide +kernel))
set_option maxRecDepth 20000 in
theorem gX2_duration_X2_checkTime : GoodIn wsX2_duration (va_wsS RX2 154 yX2_checkTime wsX2_checkTime) := goodIn_app (goodIn_of _ (by decide +kernel)) ggX2_duration_X2_checkTime
set_option maxRecDepth 20000 in
theorem ggX2_duration_X2_bestSet : GoodIn wsX2_duration wsX2_bestSet := goodIn_ca (goodIn_r _ [13, 14, 15, 16, 17, 3, 18, 19, 20, 21, 22, 23, 24, 25, 26, 27, 28, 29, 30, 31, 32, 33, 34, 35, 36, 37, 38, 39, 40, 41, 42, 43, 44, 45, 46, 47, 48, 49, 50, 51, 52, 53, 54, 55, 56, 57, 58, 59, 60, 61, 62, 63, 64, 65, 66, 67, 68, 69, 70, 71, 72, 73, 74, 75, 76, 77, 78, 79, 80, 81, 82, 83, 84, 85, 86, 87, 88, 89, 90, 91, 92, 93, 94, 95, 96, 97, 98, 99, 100, 101, 102, 103, 104, 105, 106, 107, 108, 109, 110, 111, 112] (by decide +kernel) (by decide +kernel)) (goodIn_sub (fun _ h => List.mem_cons_of_mem _ (List.mem_append_right _ h)) (by decide +kernel))
set_option maxRecDepth 20000 in
theorem gX2_duration_X2_bestSet : GoodIn wsX2_duration (wsV RX2 157 RX2 yX2_bestSet wsX2_bestSet) := goodIn_app (goodIn_of _ (by decide +kernel)) ggX2_duration_X2_bestSet
set_option maxRecDepth 20000 in
theorem ggX2_duration_X2_lengthOf : GoodIn wsX2_duration wsX2_lengthOf := goodIn_ca (goodIn_r _ [82, 14, 19, 20, 21, 3, 22, 23, 24, 25, 83, 84, 85, 59, 86, 87, 99, 100, 101, 102, 108, 109, 110, 111, 112] (by decide +kernel) (by decide +kernel)) (goodIn_sub (fun _ h => List.mem_cons_of_mem _ (List.mem_append_right _ h)) (by decide +kernel))
set_option maxRecDepth 20000 in
theorem gX2_duration_X2_lengthOf : GoodIn wsX2_duration (wsV RX2 160 RX2 yX2_lengthOf wsX2_lengthOf) := goodIn_app (goodIn_of _ (by decide +kernel)) ggX2_duration_X2_lengthOf
set_option maxRecDepth 20000 in
theorem ggX2_rehearse_X2_pieceAt : GoodIn wsX2_rehearse wsX2_pieceAt := goodIn_ca (goodIn_r _ [7, 8, 9, 10, 11, 36, 37, 38, 39] (by decide +kernel) (by decide +kernel)) (goodIn_sub (fun _ h => List.mem_cons_of_mem _ (List.mem_append_right _ h)) (by decide +kernel))
set_option maxRecDepth 20000 in
theorem gX2_rehearse_X2_pieceAt : GoodIn wsX2_rehearse (wsV RX2 102 RX2 yX2_pieceAt wsX2_pieceAt) := goodIn_app (goodIn_of _ (by decide +kernel)) ggX2_rehearse_X2_pieceAt
set_option maxRecDepth 20000 in
theorem ggX2_rehearse_X0_practiseWeakest : GoodIn wsX2_rehearse wsX0_practiseWeakest := goodIn_r _ [16, 17, 18, 19, 20, 15, 21, 22, 23, 24, 25, 26, 27, 28, 29, 30, 31, 40, 41, 42, 43, 44] (by decide +kernel) (by decide +kernel)
set_option maxRecDepth 20000 in
theorem gX2_rehearse_X0_practiseWeakest : GoodIn wsX2_rehearse (wsV RX2 165 RX0 yX0_practiseWeakest wsX0_practiseWeakest) := goodIn_app (goodIn_of _ (by decide +kernel)) ggX2_rehearse_X0_practiseWeakest
set_option maxRecDepth 20000 in
theorem ggX2_rehearse_X0_weaknessSum : GoodIn wsX2_rehearse wsX0_weaknessSum := goodIn_r _ [35, 22, 23, 24, 25, 15, 26, 27, 17, 28, 29, 30, 31, 40, 41, 42, 43, 44] (by decide +kernel) (by decide +kernel)
set_option maxRecDepth 20000 in
theorem gX2_rehearse_X0_weaknessSum : GoodIn wsX2_rehearse (wsV RX2 168 RX0 yX0_weaknessSum wsX0_weaknessSum) := goodIn_app (goodIn_of _ (by decide +kernel)) ggX2_rehearse_X0_weaknessSum
set_option maxRecDepth 20000 in
theorem ggX2_weakness_X2_pieceAt : GoodIn wsX2_weakness wsX2_pieceAt := goodIn_ca (goodIn_r _ [5, 6, 7, 8, 9, 29, 30, 31, 32] (by decide +kernel) (by decide +kernel)) (goodIn_sub (fun _ h => List.mem_cons_of_mem _ (List.mem_append_right _ h)) (by decide +kernel))
set_option maxRecDepth 20000 in
theorem gX2_weakness_X2_pieceAt : GoodIn wsX2_weakness (wsV RX2 102 RX2 yX2_pieceAt wsX2_pieceAt) := goodIn_app (goodIn_of _ (by decide +kernel)) ggX2_weakness_X2_pieceAt
set_option maxRecDepth 20000 in
theorem ggX2_weakness_X2_checkChord : GoodIn wsX2_weakness wsX2_checkChord := goodIn_ca (goodIn_r _ [12, 6, 7, 13, 14, 15, 16, 17, 18, 33, 34, 35, 36, 37] (by decide +kernel) (by decide +kernel)) (goodIn_sub (fun _ h => List.mem_cons_of_mem _ (List.mem_append_right _ h)) (by decide +kernel))
set_option maxRecDepth 20000 in
theorem gX2_weakness_X2_checkChord : GoodIn wsX2_weakness (va_wsS RX2 106 yX2_checkChord wsX2_checkChord) := goodIn_app (goodIn_of _ (by decide +kernel)) ggX2_weakness_X2_checkChord
set_option maxRecDepth 20000 in
theorem ggX2_weakness_X0_weaknessOf : GoodIn wsX2_weakness wsX0_weaknessOf := goodIn_r _ [22, 23, 24, 25, 26, 27, 28, 33, 34, 35, 36, 37] (by decide +kernel) (by decide +kernel)
set_option maxRecDepth 20000 in
theorem gX2_weakness_X0_weaknessOf : GoodIn wsX2_weakness (wsV RX2 171 RX0 yX0_weaknessOf wsX0_weaknessOf) := goodIn_app (goodIn_of _ (by decide +kernel)) ggX2_weakness_X0_weaknessOf
set_option maxRecDepth 20000 in
theorem ggX2_weakest_X2_pieceAt : GoodIn wsX2_weakest wsX2_pieceAt := goodIn_ca (goodIn_r _ [5, 6, 7, 8, 9, 26, 27, 28, 29] (by decide +kernel) (by decide +kernel)) (goodIn_sub (fun _ h => List.mem_cons_of_mem _ (List.mem_append_right _ h)) (by decide +kernel))
set_option maxRecDepth 20000 in
theorem gX2_weakest_X2_pieceAt : GoodIn wsX2_weakest (wsV RX2 102 RX2 yX2_pieceAt wsX2_pieceAt) := goodIn_app (goodIn_of _ (by decide +kernel)) ggX2_weakest_X2_pieceAt
set_option maxRecDepth 20000 in
theorem ggX2_weakest_X0_weakestChord : GoodIn wsX2_weakest wsX0_weakestChord := goodIn_r _ [14, 15, 16, 17, 18, 13, 19, 20, 21, 22, 23, 24, 25, 30, 31, 32, 33, 34] (by decide +kernel) (by decide +kernel)
set_option maxRecDepth 20000 in
theorem gX2_weakest_X0_weakestChord : GoodIn wsX2_weakest (wsV RX2 174 RX0 yX0_weakestChord wsX0_weakestChord) := goodIn_app (goodIn_of _ (by decide +kernel)) ggX2_weakest_X0_weakestChord
set_option maxRecDepth 20000 in
theorem ggX2_checkSinger_X1_has : GoodIn wsX2_checkSinger wsX1_has := goodIn_r _ [8, 9, 14, 15, 16, 17, 18] (by decide +kernel) (by decide +kernel)
set_option maxRecDepth 20000 in
theorem gX2_checkSinger_X1_has : GoodIn wsX2_checkSinger (wsV RX2 185 RX1 yX1_has wsX1_has) := goodIn_app (goodIn_of _ (by decide +kernel)) ggX2_checkSinger_X1_has
set_option maxRecDepth 20000 in
theorem ggX2_checkChord_X0_has : GoodIn wsX2_checkChord wsX0_has := goodIn_r _ [7, 8, 9, 10, 11, 12, 13] (by decide +kernel) (by decide +kernel)
set_option maxRecDepth 20000 in
theorem gX2_checkChord_X0_has : GoodIn wsX2_checkChord (wsV RX2 190 RX0 yX0_has wsX0_has) := goodIn_app (goodIn_of _ (by decide +kernel)) ggX2_checkChord_X0_has
set_option maxRecDepth 20000 in
theorem ggX2_nearestShift_X1_firstTone : GoodIn wsX2_nearestShift wsX1_firstTone := goodIn_r _ [13, 14, 15, 16, 3, 4, 5, 17, 18, 19, 12, 20, 21, 22, 23, 24, 25, 26, 54, 55, 56, 57, 58] (by decide +kernel) (by decide +kernel)
set_option maxRecDepth 20000 in
theorem gX2_nearestShift_X1_firstTone : GoodIn wsX2_nearestShift (wsV RX2 73 RX1 yX1_firstTone wsX1_firstTone) := goodIn_app (goodIn_of _ (by decide +kernel)) ggX2_nearestShift_X1_firstTone
set_option maxRecDepth 20000 in
theorem ggX2_nearestShift_X0_lowestTone : GoodIn wsX2_nearestShift wsX0_lowestTone := goodIn_r _ [31, 32, 33, 7, 4, 8, 34, 35, 36, 30, 37, 38, 59, 60, 61, 62, 63] (by decide +kernel) (by decide +kernel)
set_option maxRecDepth 20000 in
theorem gX2_nearestShift_X0_lowestTone : GoodIn wsX2_nearestShift (wsV RX2 195 RX0 yX0_lowestTone wsX0_lowestTone) := goodIn_app (goodIn_of _ (by decide +kernel)) ggX2_nearestShift_X0_lowestTone
set_option maxRecDepth 20000 in
theorem ggX2_nearestShift_X1_lastTone : GoodIn wsX2_nearestShift wsX1_lastTone := goodIn_r _ [42, 14, 43, 44, 7, 4, 8, 17, 18, 19, 12, 20, 21, 22, 23, 24, 25, 26, 54, 55, 56, 57, 58] (by decide +kernel) (by decide +kernel)
set_option maxRecDepth 20000 in
theorem gX2_nearestShift_X1_lastTone : GoodIn wsX2_nearestShift (wsV RX2 76 RX1 yX1_lastTone wsX1_lastTone) := goodIn_app (goodIn_of _ (by decide +kernel)) ggX2_nearestShift_X1_lastTone
set_option maxRecDepth 20000 in
theorem ggX2_nearestShift_X0_highestTone : GoodIn wsX2_nearestShift wsX0_highestTone := goodIn_r _ [48, 32, 49, 3, 4, 5, 34, 35, 36, 30, 37, 38, 59, 60, 61, 62, 63] (by decide +kernel) (by decide +kernel)
set_option maxRecDepth 20000 in
theorem gX2_nearestShift_X0_highestTone : GoodIn wsX2_nearestShift (wsV RX2 203 RX0 yX0_highestTone wsX0_highestTone) := goodIn_app (goodIn_of _ (by decide +kernel)) ggX2_nearestShift_X0_highestTone
set_option maxRecDepth 20000 in
theorem ggX2_bestSet_X2_singableSet : GoodIn wsX2_bestSet wsX2_singableSet := goodIn_ca (goodIn_r _ [6, 1, 7, 8, 9, 5, 10, 11, 12, 13, 14, 15, 16, 17, 18, 19, 20, 21, 22, 23, 24, 25, 26, 27, 28, 29, 30, 31, 32, 33, 34, 35, 36, 37, 38, 39, 40, 41, 42, 43, 44, 45, 46, 47, 48, 49, 50, 51, 52, 53, 54, 55, 56, 57, 58, 59, 60, 61, 62, 63, 64, 65, 66, 87, 88, 89, 90, 91, 92, 93, 94, 95, 96, 97, 98, 99, 100] (by decide +kernel) (by decide +kernel)) (goodIn_sub (fun _ h => List.mem_cons_of_mem _ (List.mem_append_right _ h)) (by decide +kernel))
set_option maxRecDepth 20000 in
theorem gX2_bestSet_X2_singableSet : GoodIn wsX2_bestSet (wsV RX2 209 RX2 yX2_singableSet wsX2_singableSet) := goodIn_app (goodIn_of _ (by decide +kernel)) ggX2_bestSet_X2_singableSet
set_option maxRecDepth 20000 in
theorem ggX2_bestSet_X2_lengthOf : GoodIn wsX2_bestSet wsX2_lengthOf := goodIn_ca (goodIn_r _ [70, 1, 7, 8, 9, 5, 10, 11, 12, 13, 71, 72, 73, 47, 74, 75, 87, 88, 89, 90, 96, 97, 98, 99, 100] (by decide +kernel) (by decide +kernel)) (goodIn_sub (fun _ h => List.mem_cons_of_mem _ (List.mem_append_right _ h)) (by decide +kernel))
set_option maxRecDepth 20000 in
theorem gX2_bestSet_X2_lengthOf : GoodIn wsX2_bestSet (wsV RX2 160 RX2 yX2_lengthOf wsX2_lengthOf) := goodIn_app (goodIn_of _ (by decide +kernel)) ggX2_bestSet_X2_lengthOf
set_option maxRecDepth 20000 in
theorem ggX2_bestSet_X2_isBetter : GoodIn wsX2_bestSet wsX2_isBetter := goodIn_ca (goodIn_r _ [79, 67, 68, 69, 5, 70, 1, 7, 8, 9, 10, 11, 12, 13, 71, 72, 73, 47, 74, 75, 80, 81, 82, 83, 84, 85, 86, 87, 88, 89, 90, 96, 97, 98, 99, 100] (by decide +kernel) (by decide +kernel)) (goodIn_sub (fun _ h => List.mem_cons_of_mem _ (List.mem_append_right _ h)) (by decide +kernel))
set_option maxRecDepth 20000 in
theorem gX2_bestSet_X2_isBetter : GoodIn wsX2_bestSet (wsV RX2 212 RX2 yX2_isBetter wsX2_isBetter) := goodIn_app (goodIn_of _ (by decide +kernel)) ggX2_bestSet_X2_isBetter
set_option maxRecDepth 20000 in
theorem ggX2_singableSet_X2_pieceAt : GoodIn wsX2_singableSet wsX2_pieceAt := goodIn_ca (goodIn_r _ [6, 7, 8, 1, 9, 63, 64, 65, 66] (by decide +kernel) (by decide +kernel)) (goodIn_sub (fun _ h => List.mem_cons_of_mem _ (List.mem_append_right _ h)) (by decide +kernel))
set_option maxRecDepth 20000 in
theorem gX2_singableSet_X2_pieceAt : GoodIn wsX2_singableSet (wsV RX2 102 RX2 yX2_pieceAt wsX2_pieceAt) := goodIn_app (goodIn_of _ (by decide +kernel)) ggX2_singableSet_X2_pieceAt
set_option maxRecDepth 20000 in
theorem ggX2_singableSet_X2_nearestShift : GoodIn wsX2_singableSet wsX2_nearestShift := goodIn_r _ [13, 14, 15, 16, 17, 18, 19, 20, 21, 22, 23, 24, 25, 26, 27, 28, 29, 30, 31, 32, 33, 34, 35, 36, 37, 38, 39, 40, 41, 42, 43, 44, 45, 46, 47, 48, 49, 50, 51, 52, 53, 54, 55, 56, 57, 58, 59, 60, 61, 62, 63, 64, 65, 66, 67, 68, 69, 70, 71, 72, 73, 74, 75, 76] (by decide +kernel) (by decide +kernel)
set_option maxRecDepth 20000 in
theorem gX2_singableSet_X2_nearestShift : GoodIn wsX2_singableSet (wsV RX2 145 RX2 yX2_nearestShift wsX2_nearestShift) := goodIn_app (goodIn_of _ (by decide +kernel)) ggX2_singableSet_X2_nearestShift
set_option maxRecDepth 20000 in
theorem ggX2_lengthOf_X2_pieceAt : GoodIn wsX2_lengthOf wsX2_pieceAt := goodIn_ca (goodIn_r _ [6, 7, 8, 1, 9, 16, 17, 18, 19] (by decide +kernel) (by decide +kernel)) (goodIn_sub (fun _ h => List.mem_cons_of_mem _ (List.mem_append_right _ h)) (by decide +kernel))
set_option maxRecDepth 20000 in
theorem gX2_lengthOf_X2_pieceAt : GoodIn wsX2_lengthOf (wsV RX2 102 RX2 yX2_pieceAt wsX2_pieceAt) := goodIn_app (goodIn_of _ (by decide +kernel)) ggX2_lengthOf_X2_pieceAt
set_option maxRecDepth 20000 in
theorem ggX2_lengthOf_X0_length : GoodIn wsX2_lengthOf wsX0_length := goodIn_r _ [14, 15, 20, 21, 22, 23, 24] (by decide +kernel) (by decide +kernel)
set_option maxRecDepth 20000 in
theorem gX2_lengthOf_X0_length : GoodIn wsX2_lengthOf (wsV RX2 215 RX0 yX0_length wsX0_length) := goodIn_app (goodIn_of _ (by decide +kernel)) ggX2_lengthOf_X0_length
set_option maxRecDepth 20000 in
theorem ggX2_isBetter_X2_lengthOf : GoodIn wsX2_isBetter wsX2_lengthOf := goodIn_ca (goodIn_r _ [5, 6, 7, 8, 9, 4, 10, 11, 12, 13, 14, 15, 16, 17, 18, 19, 27, 28, 29, 30, 31, 32, 33, 34, 35] (by decide +kernel) (by decide +kernel)) (goodIn_sub (fun _ h => List.mem_cons_of_mem _ (List.mem_append_right _ h)) (by decide +kernel))
set_option maxRecDepth 20000 in
theorem gX2_isBetter_X2_lengthOf : GoodIn wsX2_isBetter (wsV RX2 160 RX2 yX2_lengthOf wsX2_lengthOf) := goodIn_app (goodIn_of _ (by decide +kernel)) ggX2_isBetter_X2_lengthOf
set_option maxRecDepth 20000 in
theorem ggX2_isBetter_J6_bitCount_0f7a4 : GoodIn wsX2_isBetter wsJ6_bitCount_0f7a4 := goodIn_r _ [23, 24, 25, 26] (by decide +kernel) (by decide +kernel)
set_option maxRecDepth 20000 in
theorem gX2_isBetter_J6_bitCount_0f7a4 : GoodIn wsX2_isBetter (va_wsS RX2 218 yJ6_bitCount_0f7a4 wsJ6_bitCount_0f7a4) := goodIn_app (goodIn_of _ (by decide +kernel)) ggX2_isBetter_J6_bitCount_0f7a4
set_option maxRecDepth 20000 in
theorem ggX3_isVoice_X3_in : GoodIn wsX3_isVoice wsX3_in := goodIn_r _ [4] (by decide +kernel) (by decide +kernel)
set_option maxRecDepth 20000 in
theorem gX3_isVoice_X3_in : GoodIn wsX3_isVoice (va_wsS RX3 38 yX3_in wsX3_in) := goodIn_app (goodIn_of _ (by decide +kernel)) ggX3_isVoice_X3_in
set_option maxRecDepth 20000 in
theorem ggX3_isDate_X3_in : GoodIn wsX3_isDate wsX3_in := goodIn_r _ [4] (by decide +kernel) (by decide +kernel)
set_option maxRecDepth 20000 in
theorem gX3_isDate_X3_in : GoodIn wsX3_isDate (va_wsS RX3 38 yX3_in wsX3_in) := goodIn_app (goodIn_of _ (by decide +kernel)) ggX3_isDate_X3_in
set_option maxRecDepth 20000 in
theorem ggX3_isTone_X3_in : GoodIn wsX3_isTone wsX3_in := goodIn_r _ [4] (by decide +kernel) (by decide +kernel)
set_option maxRecDepth 20000 in
theorem gX3_isTone_X3_in : GoodIn wsX3_isTone (va_wsS RX3 38 yX3_in wsX3_in) := goodIn_app (goodIn_of _ (by decide +kernel)) ggX3_isTone_X3_in
set_option maxRecDepth 20000 in
theorem ggX3_isSinger_X3_in : GoodIn wsX3_isSinger wsX3_in := goodIn_r _ [5] (by decide +kernel) (by decide +kernel)
set_option maxRecDepth 20000 in
theorem gX3_isSinger_X3_in : GoodIn wsX3_isSinger (va_wsS RX3 38 yX3_in wsX3_in) := goodIn_app (goodIn_of _ (by decide +kernel)) ggX3_isSinger_X3_in
set_option maxRecDepth 20000 in
theorem ggX3_isPiece_X3_in : GoodIn wsX3_isPiece wsX3_in := goodIn_r _ [5] (by decide +kernel) (by decide +kernel)
set_option maxRecDepth 20000 in
theorem gX3_isPiece_X3_in : GoodIn wsX3_isPiece (va_wsS RX3 38 yX3_in wsX3_in) := goodIn_app (goodIn_of _ (by decide +kernel)) ggX3_isPiece_X3_in
set_option maxRecDepth 20000 in
theorem ggX3_isChord_X3_isPiece : GoodIn wsX3_isChord wsX3_isPiece := goodIn_r _ [6, 7, 8, 9, 5, 10, 11, 12, 13, 14, 15, 16, 17, 18, 19, 20, 21] (by decide +kernel) (by decide +kernel)
set_option maxRecDepth 20000 in
theorem gX3_isChord_X3_isPiece : GoodIn wsX3_isChord (wsV RX3 48 RX3 yX3_isPiece wsX3_isPiece) := goodIn_app (goodIn_of _ (by decide +kernel)) ggX3_isChord_X3_isPiece
set_option maxRecDepth 20000 in
theorem ggX3_isChord_X3_in : GoodIn wsX3_isChord wsX3_in := goodIn_r _ [10] (by decide +kernel) (by decide +kernel)
set_option maxRecDepth 20000 in
theorem gX3_isChord_X3_in : GoodIn wsX3_isChord (va_wsS RX3 38 yX3_in wsX3_in) := goodIn_app (goodIn_of _ (by decide +kernel)) ggX3_isChord_X3_in
set_option maxRecDepth 20000 in
theorem ggX3_addSinger_X3_isVoice : GoodIn wsX3_addSinger wsX3_isVoice := goodIn_r _ [8, 9, 10, 7, 11] (by decide +kernel) (by decide +kernel)
set_option maxRecDepth 20000 in
theorem gX3_addSinger_X3_isVoice : GoodIn wsX3_addSinger (va_wsS RX3 52 yX3_isVoice wsX3_isVoice) := goodIn_app (goodIn_of _ (by decide +kernel)) ggX3_addSinger_X3_isVoice
set_option maxRecDepth 20000 in
theorem ggX3_addSinger_X3_isTone : GoodIn wsX3_addSinger wsX3_isTone := goodIn_r _ [14, 9, 10, 7, 11] (by decide +kernel) (by decide +kernel)
set_option maxRecDepth 20000 in
theorem gX3_addSinger_X3_isTone : GoodIn wsX3_addSinger (va_wsS RX3 55 yX3_isTone wsX3_isTone) := goodIn_app (goodIn_of _ (by decide +kernel)) ggX3_addSinger_X3_isTone
set_option maxRecDepth 20000 in
theorem ggX3_addSinger_X3_in : GoodIn wsX3_addSinger wsX3_in := goodIn_r _ [11] (by decide +kernel) (by decide +kernel)
set_option maxRecDepth 20000 in
theorem gX3_addSinger_X3_in : GoodIn wsX3_addSinger (va_wsS RX3 38 yX3_in wsX3_in) := goodIn_app (goodIn_of _ (by decide +kernel)) ggX3_addSinger_X3_in
set_option maxRecDepth 20000 in
theorem ggX3_addSinger_X3_refused : GoodIn wsX3_addSinger wsX3_refused := goodIn_r _ [18, 19, 20, 21, 22, 23, 24, 25, 26, 27, 28, 29, 30] (by decide +kernel) (by decide +kernel)
set_option maxRecDepth 20000 in
theorem gX3_addSinger_X3_refused : GoodIn wsX3_addSinger (wsV RX3 58 RX3 yX3_refused wsX3_refused) := goodIn_app (goodIn_of _ (by decide +kernel)) ggX3_addSinger_X3_refused
set_option maxRecDepth 20000 in
theorem ggX3_tell_X3_isSinger : GoodIn wsX3_tell wsX3_isSinger := goodIn_r _ [6, 7, 8, 9, 5, 10, 23, 24, 25, 26, 27, 28, 29, 30, 31, 32, 33] (by decide +kernel) (by decide +kernel)
set_option maxRecDepth 20000 in
theorem gX3_tell_X3_isSinger : GoodIn wsX3_tell (wsV RX3 61 RX3 yX3_isSinger wsX3_isSinger) := goodIn_app (goodIn_of _ (by decide +kernel)) ggX3_tell_X3_isSinger
set_option maxRecDepth 20000 in
theorem ggX3_tell_X3_isDate : GoodIn wsX3_tell wsX3_isDate := goodIn_r _ [13, 8, 9, 5, 10] (by decide +kernel) (by decide +kernel)
set_option maxRecDepth 20000 in
theorem gX3_tell_X3_isDate : GoodIn wsX3_tell (va_wsS RX3 64 yX3_isDate wsX3_isDate) := goodIn_app (goodIn_of _ (by decide +kernel)) ggX3_tell_X3_isDate
set_option maxRecDepth 20000 in
theorem ggX3_tell_X3_refused : GoodIn wsX3_tell wsX3_refused := goodIn_r _ [17, 18, 23, 24, 25, 26, 27, 28, 29, 30, 31, 32, 33] (by decide +kernel) (by decide +kernel)
set_option maxRecDepth 20000 in
theorem gX3_tell_X3_refused : GoodIn wsX3_tell (wsV RX3 58 RX3 yX3_refused wsX3_refused) := goodIn_app (goodIn_of _ (by decide +kernel)) ggX3_tell_X3_refused
set_option maxRecDepth 20000 in
theorem ggX3_tell_X3_isThere : GoodIn wsX3_tell wsX3_isThere := goodIn_r _ [22, 1, 23, 24, 25, 26, 27, 28, 29, 30, 31, 32, 33] (by decide +kernel) (by decide +kernel)
set_option maxRecDepth 20000 in
theorem gX3_tell_X3_isThere : GoodIn wsX3_tell (wsV RX3 67 RX3 yX3_isThere wsX3_isThere) := goodIn_app (goodIn_of _ (by decide +kernel)) ggX3_tell_X3_isThere
set_option maxRecDepth 20000 in
theorem ggX3_change_X3_isSinger : GoodIn wsX3_change wsX3_isSinger := goodIn_r _ [6, 7, 8, 9, 5, 10, 19, 20, 21, 22, 23, 24, 25, 26, 27, 28, 29] (by decide +kernel) (by decide +kernel)
set_option maxRecDepth 20000 in
theorem gX3_change_X3_isSinger : GoodIn wsX3_change (wsV RX3 61 RX3 yX3_isSinger wsX3_isSinger) := goodIn_app (goodIn_of _ (by decide +kernel)) ggX3_change_X3_isSinger
set_option maxRecDepth 20000 in
theorem ggX3_change_X3_isVoice : GoodIn wsX3_change wsX3_isVoice := goodIn_r _ [13, 8, 9, 5, 10] (by decide +kernel) (by decide +kernel)
set_option maxRecDepth 20000 in
theorem gX3_change_X3_isVoice : GoodIn wsX3_change (va_wsS RX3 52 yX3_isVoice wsX3_isVoice) := goodIn_app (goodIn_of _ (by decide +kernel)) ggX3_change_X3_isVoice
set_option maxRecDepth 20000 in
theorem ggX3_change_X3_refused : GoodIn wsX3_change wsX3_refused := goodIn_r _ [17, 18, 19, 20, 21, 22, 23, 24, 25, 26, 27, 28, 29] (by decide +kernel) (by decide +kernel)
set_option maxRecDepth 20000 in
theorem gX3_change_X3_refused : GoodIn wsX3_change (wsV RX3 58 RX3 yX3_refused wsX3_refused) := goodIn_app (goodIn_of _ (by decide +kernel)) ggX3_change_X3_refused
set_option maxRecDepth 20000 in
theorem ggX3_firstOf_X3_isThere : GoodIn wsX3_firstOf wsX3_isThere := goodIn_r _ [8, 9, 10, 11, 12, 13, 14, 15, 16, 17, 18, 19, 20] (by decide +kernel) (by decide +kernel)
set_option maxRecDepth 20000 in
theorem gX3_firstOf_X3_isThere : GoodIn wsX3_firstOf (wsV RX3 67 RX3 yX3_isThere wsX3_isThere) := goodIn_app (goodIn_of _ (by decide +kernel)) ggX3_firstOf_X3_isThere
set_option maxRecDepth 20000 in
theorem ggX3_lastOf_X3_isThere : GoodIn wsX3_lastOf wsX3_isThere := goodIn_r _ [8, 9, 10, 11, 12, 13, 14, 15, 16, 17, 18, 19, 20] (by decide +kernel) (by decide +kernel)
set_option maxRecDepth 20000 in
theorem gX3_lastOf_X3_isThere : GoodIn wsX3_lastOf (wsV RX3 67 RX3 yX3_isThere wsX3_isThere) := goodIn_app (goodIn_of _ (by decide +kernel)) ggX3_lastOf_X3_isThere
set_option maxRecDepth 20000 in
theorem ggX3_range_X3_isVoice : GoodIn wsX3_range wsX3_isVoice := goodIn_r _ [4, 5, 6, 3, 7] (by decide +kernel) (by decide +kernel)
set_option maxRecDepth 20000 in
theorem gX3_range_X3_isVoice : GoodIn wsX3_range (va_wsS RX3 52 yX3_isVoice wsX3_isVoice) := goodIn_app (goodIn_of _ (by decide +kernel)) ggX3_range_X3_isVoice
set_option maxRecDepth 20000 in
theorem ggX3_range_X3_isDate : GoodIn wsX3_range wsX3_isDate := goodIn_r _ [10, 5, 6, 3, 7] (by decide +kernel) (by decide +kernel)
set_option maxRecDepth 20000 in
theorem gX3_range_X3_isDate : GoodIn wsX3_range (va_wsS RX3 64 yX3_isDate wsX3_isDate) := goodIn_app (goodIn_of _ (by decide +kernel)) ggX3_range_X3_isDate
set_option maxRecDepth 20000 in
theorem ggX3_range_X3_refused : GoodIn wsX3_range wsX3_refused := goodIn_r _ [14, 15, 33, 34, 35, 36, 37, 38, 39, 40, 41, 42, 43] (by decide +kernel) (by decide +kernel)
set_option maxRecDepth 20000 in
theorem gX3_range_X3_refused : GoodIn wsX3_range (wsV RX3 58 RX3 yX3_refused wsX3_refused) := goodIn_app (goodIn_of _ (by decide +kernel)) ggX3_range_X3_refused
set_option maxRecDepth 20000 in
theorem ggX3_range_X3_firstOf : GoodIn wsX3_range wsX3_firstOf := goodIn_r _ [19, 20, 21, 22, 23, 24, 25, 3, 26, 27, 33, 34, 35, 36, 37, 38, 39, 40, 41, 42, 43] (by decide +kernel) (by decide +kernel)
