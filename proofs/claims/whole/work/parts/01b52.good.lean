set_option maxRecDepth 20000 in
theorem gX3_range_X3_firstOf : GoodIn wsX3_range (wsV RX3 71 RX3 yX3_firstOf wsX3_firstOf) := goodIn_app (goodIn_of _ (by decide +kernel)) ggX3_range_X3_firstOf
set_option maxRecDepth 20000 in
theorem ggX3_range_X3_lastOf : GoodIn wsX3_range wsX3_lastOf := goodIn_r _ [31, 20, 21, 32, 23, 24, 25, 3, 26, 27, 33, 34, 35, 36, 37, 38, 39, 40, 41, 42, 43] (by decide +kernel) (by decide +kernel)
set_option maxRecDepth 20000 in
theorem gX3_range_X3_lastOf : GoodIn wsX3_range (wsV RX3 75 RX3 yX3_lastOf wsX3_lastOf) := goodIn_app (goodIn_of _ (by decide +kernel)) ggX3_range_X3_lastOf
set_option maxRecDepth 20000 in
theorem ggX3_chord_X3_isTone : GoodIn wsX3_chord wsX3_isTone := goodIn_r _ [7, 8, 9, 6, 10] (by decide +kernel) (by decide +kernel)
set_option maxRecDepth 20000 in
theorem gX3_chord_X3_isTone : GoodIn wsX3_chord (va_wsS RX3 55 yX3_isTone wsX3_isTone) := goodIn_app (goodIn_of _ (by decide +kernel)) ggX3_chord_X3_isTone
set_option maxRecDepth 20000 in
theorem ggX3_chord_X3_in : GoodIn wsX3_chord wsX3_in := goodIn_r _ [10] (by decide +kernel) (by decide +kernel)
set_option maxRecDepth 20000 in
theorem gX3_chord_X3_in : GoodIn wsX3_chord (va_wsS RX3 38 yX3_in wsX3_in) := goodIn_app (goodIn_of _ (by decide +kernel)) ggX3_chord_X3_in
set_option maxRecDepth 20000 in
theorem ggX3_chord_X3_refused : GoodIn wsX3_chord wsX3_refused := goodIn_r _ [14, 15, 16, 17, 18, 19, 20, 21, 22, 23, 24, 25, 26] (by decide +kernel) (by decide +kernel)
set_option maxRecDepth 20000 in
theorem gX3_chord_X3_refused : GoodIn wsX3_chord (wsV RX3 58 RX3 yX3_refused wsX3_refused) := goodIn_app (goodIn_of _ (by decide +kernel)) ggX3_chord_X3_refused
set_option maxRecDepth 20000 in
theorem ggX3_addPiece_X3_in : GoodIn wsX3_addPiece wsX3_in := goodIn_r _ [7] (by decide +kernel) (by decide +kernel)
set_option maxRecDepth 20000 in
theorem gX3_addPiece_X3_in : GoodIn wsX3_addPiece (va_wsS RX3 38 yX3_in wsX3_in) := goodIn_app (goodIn_of _ (by decide +kernel)) ggX3_addPiece_X3_in
set_option maxRecDepth 20000 in
theorem ggX3_addPiece_X3_refused : GoodIn wsX3_addPiece wsX3_refused := goodIn_r _ [11, 12, 13, 14, 15, 16, 17, 18, 19, 20, 21, 22, 23] (by decide +kernel) (by decide +kernel)
set_option maxRecDepth 20000 in
theorem gX3_addPiece_X3_refused : GoodIn wsX3_addPiece (wsV RX3 58 RX3 yX3_refused wsX3_refused) := goodIn_app (goodIn_of _ (by decide +kernel)) ggX3_addPiece_X3_refused
set_option maxRecDepth 20000 in
theorem ggX3_floorOf_X3_toneAt : GoodIn wsX3_floorOf wsX3_toneAt := goodIn_r _ [5, 6, 7, 8, 9, 10, 11, 12, 13, 14, 15, 16, 17] (by decide +kernel) (by decide +kernel)
set_option maxRecDepth 20000 in
theorem gX3_floorOf_X3_toneAt : GoodIn wsX3_floorOf (wsV RX3 78 RX3 yX3_toneAt wsX3_toneAt) := goodIn_app (goodIn_of _ (by decide +kernel)) ggX3_floorOf_X3_toneAt
set_option maxRecDepth 20000 in
theorem ggX3_roofOf_X3_toneAt : GoodIn wsX3_roofOf wsX3_toneAt := goodIn_r _ [5, 6, 7, 8, 9, 10, 11, 12, 13, 14, 15, 16, 17] (by decide +kernel) (by decide +kernel)
set_option maxRecDepth 20000 in
theorem gX3_roofOf_X3_toneAt : GoodIn wsX3_roofOf (wsV RX3 78 RX3 yX3_toneAt wsX3_toneAt) := goodIn_app (goodIn_of _ (by decide +kernel)) ggX3_roofOf_X3_toneAt
set_option maxRecDepth 20000 in
theorem ggX3_setTone_X3_isVoice : GoodIn wsX3_setTone wsX3_isVoice := goodIn_r _ [5, 6, 7, 4, 8] (by decide +kernel) (by decide +kernel)
set_option maxRecDepth 20000 in
theorem gX3_setTone_X3_isVoice : GoodIn wsX3_setTone (va_wsS RX3 52 yX3_isVoice wsX3_isVoice) := goodIn_app (goodIn_of _ (by decide +kernel)) ggX3_setTone_X3_isVoice
set_option maxRecDepth 20000 in
theorem ggX3_setTone_X3_isTone : GoodIn wsX3_setTone wsX3_isTone := goodIn_r _ [11, 6, 7, 4, 8] (by decide +kernel) (by decide +kernel)
set_option maxRecDepth 20000 in
theorem gX3_setTone_X3_isTone : GoodIn wsX3_setTone (va_wsS RX3 55 yX3_isTone wsX3_isTone) := goodIn_app (goodIn_of _ (by decide +kernel)) ggX3_setTone_X3_isTone
set_option maxRecDepth 20000 in
theorem ggX3_setTone_X3_isChord : GoodIn wsX3_setTone wsX3_isChord := goodIn_r _ [15, 16, 17, 18, 19, 4, 20, 21, 6, 7, 8, 39, 40, 41, 42, 43, 44, 45, 46, 47, 48, 49] (by decide +kernel) (by decide +kernel)
set_option maxRecDepth 20000 in
theorem gX3_setTone_X3_isChord : GoodIn wsX3_setTone (wsV RX3 82 RX3 yX3_isChord wsX3_isChord) := goodIn_app (goodIn_of _ (by decide +kernel)) ggX3_setTone_X3_isChord
set_option maxRecDepth 20000 in
theorem ggX3_setTone_X3_floorOf : GoodIn wsX3_setTone wsX3_floorOf := goodIn_r _ [25, 26, 27, 28, 4, 29, 1, 39, 40, 41, 42, 43, 44, 45, 46, 47, 48, 49] (by decide +kernel) (by decide +kernel)
set_option maxRecDepth 20000 in
theorem gX3_setTone_X3_floorOf : GoodIn wsX3_setTone (wsV RX3 85 RX3 yX3_floorOf wsX3_floorOf) := goodIn_app (goodIn_of _ (by decide +kernel)) ggX3_setTone_X3_floorOf
set_option maxRecDepth 20000 in
theorem ggX3_setTone_X3_roofOf : GoodIn wsX3_setTone wsX3_roofOf := goodIn_r _ [33, 26, 27, 28, 4, 29, 1, 39, 40, 41, 42, 43, 44, 45, 46, 47, 48, 49] (by decide +kernel) (by decide +kernel)
set_option maxRecDepth 20000 in
theorem gX3_setTone_X3_roofOf : GoodIn wsX3_setTone (wsV RX3 88 RX3 yX3_roofOf wsX3_roofOf) := goodIn_app (goodIn_of _ (by decide +kernel)) ggX3_setTone_X3_roofOf
set_option maxRecDepth 20000 in
theorem ggX3_setTone_X3_in : GoodIn wsX3_setTone wsX3_in := goodIn_r _ [8] (by decide +kernel) (by decide +kernel)
set_option maxRecDepth 20000 in
theorem gX3_setTone_X3_in : GoodIn wsX3_setTone (va_wsS RX3 38 yX3_in wsX3_in) := goodIn_app (goodIn_of _ (by decide +kernel)) ggX3_setTone_X3_in
set_option maxRecDepth 20000 in
theorem ggX3_setTone_X3_refused : GoodIn wsX3_setTone wsX3_refused := goodIn_r _ [37, 38, 39, 40, 41, 42, 43, 44, 45, 46, 47, 48, 49] (by decide +kernel) (by decide +kernel)
set_option maxRecDepth 20000 in
theorem gX3_setTone_X3_refused : GoodIn wsX3_setTone (wsV RX3 58 RX3 yX3_refused wsX3_refused) := goodIn_app (goodIn_of _ (by decide +kernel)) ggX3_setTone_X3_refused
set_option maxRecDepth 20000 in
theorem ggX3_setTone_X3_toneAt : GoodIn wsX3_setTone wsX3_toneAt := goodIn_r _ [29, 1, 39, 40, 41, 42, 43, 44, 45, 46, 47, 48, 49] (by decide +kernel) (by decide +kernel)
set_option maxRecDepth 20000 in
theorem gX3_setTone_X3_toneAt : GoodIn wsX3_setTone (wsV RX3 78 RX3 yX3_toneAt wsX3_toneAt) := goodIn_app (goodIn_of _ (by decide +kernel)) ggX3_setTone_X3_toneAt
set_option maxRecDepth 20000 in
theorem ggX3_isParallel_X3_toneAt : GoodIn wsX3_isParallel wsX3_toneAt := goodIn_r _ [5, 6, 7, 8, 9, 10, 11, 12, 13, 14, 15, 16, 17] (by decide +kernel) (by decide +kernel)
set_option maxRecDepth 20000 in
theorem gX3_isParallel_X3_toneAt : GoodIn wsX3_isParallel (wsV RX3 78 RX3 yX3_toneAt wsX3_toneAt) := goodIn_app (goodIn_of _ (by decide +kernel)) ggX3_isParallel_X3_toneAt
set_option maxRecDepth 20000 in
theorem ggX3_faultsOf_X3_toneAt : GoodIn wsX3_faultsOf wsX3_toneAt := goodIn_r _ [5, 6, 14, 15, 16, 17, 18, 19, 20, 21, 22, 23, 24] (by decide +kernel) (by decide +kernel)
set_option maxRecDepth 20000 in
theorem gX3_faultsOf_X3_toneAt : GoodIn wsX3_faultsOf (wsV RX3 78 RX3 yX3_toneAt wsX3_toneAt) := goodIn_app (goodIn_of _ (by decide +kernel)) ggX3_faultsOf_X3_toneAt
set_option maxRecDepth 20000 in
theorem ggX3_faultsOf_X3_in : GoodIn wsX3_faultsOf wsX3_in := goodIn_r _ [9] (by decide +kernel) (by decide +kernel)
set_option maxRecDepth 20000 in
theorem gX3_faultsOf_X3_in : GoodIn wsX3_faultsOf (va_wsS RX3 38 yX3_in wsX3_in) := goodIn_app (goodIn_of _ (by decide +kernel)) ggX3_faultsOf_X3_in
set_option maxRecDepth 20000 in
theorem ggX3_faultsOf_X3_isParallel : GoodIn wsX3_faultsOf wsX3_isParallel := goodIn_r _ [13, 1, 2, 3, 4, 5, 6, 14, 15, 16, 17, 18, 19, 20, 21, 22, 23, 24] (by decide +kernel) (by decide +kernel)
set_option maxRecDepth 20000 in
theorem gX3_faultsOf_X3_isParallel : GoodIn wsX3_faultsOf (wsV RX3 91 RX3 yX3_isParallel wsX3_isParallel) := goodIn_app (goodIn_of _ (by decide +kernel)) ggX3_faultsOf_X3_isParallel
set_option maxRecDepth 20000 in
theorem ggX3_faultsAt_X3_isChord : GoodIn wsX3_faultsAt wsX3_isChord := goodIn_r _ [5, 6, 7, 8, 9, 4, 10, 11, 12, 13, 14, 33, 34, 35, 36, 37, 38, 39, 40, 41, 42, 43] (by decide +kernel) (by decide +kernel)
set_option maxRecDepth 20000 in
theorem gX3_faultsAt_X3_isChord : GoodIn wsX3_faultsAt (wsV RX3 82 RX3 yX3_isChord wsX3_isChord) := goodIn_app (goodIn_of _ (by decide +kernel)) ggX3_faultsAt_X3_isChord
set_option maxRecDepth 20000 in
theorem ggX3_faultsAt_X3_refused : GoodIn wsX3_faultsAt wsX3_refused := goodIn_r _ [18, 19, 33, 34, 35, 36, 37, 38, 39, 40, 41, 42, 43] (by decide +kernel) (by decide +kernel)
set_option maxRecDepth 20000 in
theorem gX3_faultsAt_X3_refused : GoodIn wsX3_faultsAt (wsV RX3 58 RX3 yX3_refused wsX3_refused) := goodIn_app (goodIn_of _ (by decide +kernel)) ggX3_faultsAt_X3_refused
set_option maxRecDepth 20000 in
theorem ggX3_faultsAt_X3_faultsOf : GoodIn wsX3_faultsAt wsX3_faultsOf := goodIn_r _ [23, 24, 25, 26, 4, 27, 28, 12, 13, 14, 29, 30, 31, 32, 33, 34, 35, 36, 37, 38, 39, 40, 41, 42, 43] (by decide +kernel) (by decide +kernel)
set_option maxRecDepth 20000 in
theorem gX3_faultsAt_X3_faultsOf : GoodIn wsX3_faultsAt (wsV RX3 95 RX3 yX3_faultsOf wsX3_faultsOf) := goodIn_app (goodIn_of _ (by decide +kernel)) ggX3_faultsAt_X3_faultsOf
set_option maxRecDepth 20000 in
theorem ggX3_allFaults_X3_faultsOf : GoodIn wsX3_allFaults wsX3_faultsOf := goodIn_r _ [6, 7, 8, 9, 5, 10, 11, 12, 13, 14, 15, 16, 17, 18, 19, 20, 21, 22, 23, 24, 25, 26, 27, 28, 29] (by decide +kernel) (by decide +kernel)
set_option maxRecDepth 20000 in
theorem gX3_allFaults_X3_faultsOf : GoodIn wsX3_allFaults (wsV RX3 95 RX3 yX3_faultsOf wsX3_faultsOf) := goodIn_app (goodIn_of _ (by decide +kernel)) ggX3_allFaults_X3_faultsOf
set_option maxRecDepth 20000 in
theorem ggX3_faults_X3_isPiece : GoodIn wsX3_faults wsX3_isPiece := goodIn_r _ [5, 6, 7, 8, 4, 9, 33, 34, 35, 36, 37, 38, 39, 40, 41, 42, 43] (by decide +kernel) (by decide +kernel)
set_option maxRecDepth 20000 in
theorem gX3_faults_X3_isPiece : GoodIn wsX3_faults (wsV RX3 48 RX3 yX3_isPiece wsX3_isPiece) := goodIn_app (goodIn_of _ (by decide +kernel)) ggX3_faults_X3_isPiece
set_option maxRecDepth 20000 in
theorem ggX3_faults_X3_refused : GoodIn wsX3_faults wsX3_refused := goodIn_r _ [13, 14, 33, 34, 35, 36, 37, 38, 39, 40, 41, 42, 43] (by decide +kernel) (by decide +kernel)
set_option maxRecDepth 20000 in
theorem gX3_faults_X3_refused : GoodIn wsX3_faults (wsV RX3 58 RX3 yX3_refused wsX3_refused) := goodIn_app (goodIn_of _ (by decide +kernel)) ggX3_faults_X3_refused
set_option maxRecDepth 20000 in
theorem ggX3_faults_X3_allFaults : GoodIn wsX3_faults wsX3_allFaults := goodIn_r _ [18, 19, 20, 21, 22, 4, 23, 24, 25, 26, 27, 28, 7, 8, 9, 29, 30, 31, 32, 33, 34, 35, 36, 37, 38, 39, 40, 41, 42, 43] (by decide +kernel) (by decide +kernel)
set_option maxRecDepth 20000 in
theorem gX3_faults_X3_allFaults : GoodIn wsX3_faults (wsV RX3 98 RX3 yX3_allFaults wsX3_allFaults) := goodIn_app (goodIn_of _ (by decide +kernel)) ggX3_faults_X3_allFaults
set_option maxRecDepth 20000 in
theorem ggX3_leastFaults_X3_isChord : GoodIn wsX3_leastFaults wsX3_isChord := goodIn_r _ [7, 1, 8, 9, 10, 6, 11, 12, 13, 14, 15, 48, 49, 50, 51, 52, 53, 54, 55, 56, 57, 58] (by decide +kernel) (by decide +kernel)
set_option maxRecDepth 20000 in
theorem gX3_leastFaults_X3_isChord : GoodIn wsX3_leastFaults (wsV RX3 82 RX3 yX3_isChord wsX3_isChord) := goodIn_app (goodIn_of _ (by decide +kernel)) ggX3_leastFaults_X3_isChord
set_option maxRecDepth 20000 in
theorem ggX3_leastFaults_X3_isVoice : GoodIn wsX3_leastFaults wsX3_isVoice := goodIn_r _ [18, 13, 14, 6, 15] (by decide +kernel) (by decide +kernel)
set_option maxRecDepth 20000 in
theorem gX3_leastFaults_X3_isVoice : GoodIn wsX3_leastFaults (va_wsS RX3 52 yX3_isVoice wsX3_isVoice) := goodIn_app (goodIn_of _ (by decide +kernel)) ggX3_leastFaults_X3_isVoice
set_option maxRecDepth 20000 in
theorem ggX3_leastFaults_X3_refused : GoodIn wsX3_leastFaults wsX3_refused := goodIn_r _ [22, 23, 48, 49, 50, 51, 52, 53, 54, 55, 56, 57, 58] (by decide +kernel) (by decide +kernel)
set_option maxRecDepth 20000 in
theorem gX3_leastFaults_X3_refused : GoodIn wsX3_leastFaults (wsV RX3 58 RX3 yX3_refused wsX3_refused) := goodIn_app (goodIn_of _ (by decide +kernel)) ggX3_leastFaults_X3_refused
set_option maxRecDepth 20000 in
theorem ggX3_leastFaults_X3_toneAt : GoodIn wsX3_leastFaults wsX3_toneAt := goodIn_r _ [27, 2, 48, 49, 50, 51, 52, 53, 54, 55, 56, 57, 58] (by decide +kernel) (by decide +kernel)
set_option maxRecDepth 20000 in
theorem gX3_leastFaults_X3_toneAt : GoodIn wsX3_leastFaults (wsV RX3 78 RX3 yX3_toneAt wsX3_toneAt) := goodIn_app (goodIn_of _ (by decide +kernel)) ggX3_leastFaults_X3_toneAt
set_option maxRecDepth 20000 in
theorem ggX3_leastFaults_X3_allFaults : GoodIn wsX3_leastFaults wsX3_allFaults := goodIn_r _ [31, 1, 32, 33, 34, 6, 35, 24, 25, 26, 27, 2, 13, 14, 15, 36, 37, 38, 39, 48, 49, 50, 51, 52, 53, 54, 55, 56, 57, 58] (by decide +kernel) (by decide +kernel)
set_option maxRecDepth 20000 in
theorem gX3_leastFaults_X3_allFaults : GoodIn wsX3_leastFaults (wsV RX3 98 RX3 yX3_allFaults wsX3_allFaults) := goodIn_app (goodIn_of _ (by decide +kernel)) ggX3_leastFaults_X3_allFaults
set_option maxRecDepth 20000 in
theorem ggX3_leastFaults_X3_roofOf : GoodIn wsX3_leastFaults wsX3_roofOf := goodIn_r _ [43, 24, 25, 26, 6, 27, 2, 48, 49, 50, 51, 52, 53, 54, 55, 56, 57, 58] (by decide +kernel) (by decide +kernel)
set_option maxRecDepth 20000 in
theorem gX3_leastFaults_X3_roofOf : GoodIn wsX3_leastFaults (wsV RX3 88 RX3 yX3_roofOf wsX3_roofOf) := goodIn_app (goodIn_of _ (by decide +kernel)) ggX3_leastFaults_X3_roofOf
set_option maxRecDepth 20000 in
theorem ggX3_leastFaults_X3_floorOf : GoodIn wsX3_leastFaults wsX3_floorOf := goodIn_r _ [47, 24, 25, 26, 6, 27, 2, 48, 49, 50, 51, 52, 53, 54, 55, 56, 57, 58] (by decide +kernel) (by decide +kernel)
set_option maxRecDepth 20000 in
theorem gX3_leastFaults_X3_floorOf : GoodIn wsX3_leastFaults (wsV RX3 85 RX3 yX3_floorOf wsX3_floorOf) := goodIn_app (goodIn_of _ (by decide +kernel)) ggX3_leastFaults_X3_floorOf
set_option maxRecDepth 20000 in
theorem ggX3_fits_X3_firstOf : GoodIn wsX3_fits wsX3_firstOf := goodIn_r _ [6, 7, 8, 9, 10, 11, 12, 5, 13, 14, 28, 29, 30, 31, 32, 33, 34, 35, 36, 37, 38] (by decide +kernel) (by decide +kernel)
set_option maxRecDepth 20000 in
theorem gX3_fits_X3_firstOf : GoodIn wsX3_fits (wsV RX3 71 RX3 yX3_firstOf wsX3_firstOf) := goodIn_app (goodIn_of _ (by decide +kernel)) ggX3_fits_X3_firstOf
set_option maxRecDepth 20000 in
theorem ggX3_fits_X3_lastOf : GoodIn wsX3_fits wsX3_lastOf := goodIn_r _ [18, 7, 8, 19, 10, 11, 12, 5, 13, 14, 28, 29, 30, 31, 32, 33, 34, 35, 36, 37, 38] (by decide +kernel) (by decide +kernel)
set_option maxRecDepth 20000 in
theorem gX3_fits_X3_lastOf : GoodIn wsX3_fits (wsV RX3 75 RX3 yX3_lastOf wsX3_lastOf) := goodIn_app (goodIn_of _ (by decide +kernel)) ggX3_fits_X3_lastOf
set_option maxRecDepth 20000 in
theorem ggX3_fits_X3_toneAt : GoodIn wsX3_fits wsX3_toneAt := goodIn_r _ [23, 24, 28, 29, 30, 31, 32, 33, 34, 35, 36, 37, 38] (by decide +kernel) (by decide +kernel)
set_option maxRecDepth 20000 in
theorem gX3_fits_X3_toneAt : GoodIn wsX3_fits (wsV RX3 78 RX3 yX3_toneAt wsX3_toneAt) := goodIn_app (goodIn_of _ (by decide +kernel)) ggX3_fits_X3_toneAt
set_option maxRecDepth 20000 in
theorem ggX3_fits_X3_in : GoodIn wsX3_fits wsX3_in := goodIn_r _ [27] (by decide +kernel) (by decide +kernel)
set_option maxRecDepth 20000 in
theorem gX3_fits_X3_in : GoodIn wsX3_fits (va_wsS RX3 38 yX3_in wsX3_in) := goodIn_app (goodIn_of _ (by decide +kernel)) ggX3_fits_X3_in
set_option maxRecDepth 20000 in
theorem ggX3_shiftOf_X3_fits : GoodIn wsX3_shiftOf wsX3_fits := goodIn_r _ [5, 6, 7, 8, 9, 4, 10, 11, 12, 13, 14, 15, 16, 17, 18, 19, 20, 21, 22, 23, 24, 25, 26, 27, 28, 29, 30, 31, 32, 33, 34, 35, 36, 37, 38, 39, 40, 41, 42] (by decide +kernel) (by decide +kernel)
set_option maxRecDepth 20000 in
theorem gX3_shiftOf_X3_fits : GoodIn wsX3_shiftOf (wsV RX3 102 RX3 yX3_fits wsX3_fits) := goodIn_app (goodIn_of _ (by decide +kernel)) ggX3_shiftOf_X3_fits
set_option maxRecDepth 20000 in
theorem ggX3_shift_X3_isPiece : GoodIn wsX3_shift wsX3_isPiece := goodIn_r _ [5, 6, 7, 8, 4, 9, 49, 50, 51, 52, 53, 54, 55, 56, 57, 58, 59] (by decide +kernel) (by decide +kernel)
set_option maxRecDepth 20000 in
theorem gX3_shift_X3_isPiece : GoodIn wsX3_shift (wsV RX3 48 RX3 yX3_isPiece wsX3_isPiece) := goodIn_app (goodIn_of _ (by decide +kernel)) ggX3_shift_X3_isPiece
set_option maxRecDepth 20000 in
theorem ggX3_shift_X3_isDate : GoodIn wsX3_shift wsX3_isDate := goodIn_r _ [12, 7, 8, 4, 9] (by decide +kernel) (by decide +kernel)
set_option maxRecDepth 20000 in
theorem gX3_shift_X3_isDate : GoodIn wsX3_shift (va_wsS RX3 64 yX3_isDate wsX3_isDate) := goodIn_app (goodIn_of _ (by decide +kernel)) ggX3_shift_X3_isDate
set_option maxRecDepth 20000 in
theorem ggX3_shift_X3_shiftOf : GoodIn wsX3_shift wsX3_shiftOf := goodIn_r _ [16, 17, 18, 19, 4, 20, 21, 22, 23, 24, 25, 26, 27, 28, 29, 30, 31, 32, 33, 34, 35, 36, 37, 38, 39, 40, 41, 42, 43, 7, 8, 9, 49, 50, 51, 52, 53, 54, 55, 56, 57, 58, 59] (by decide +kernel) (by decide +kernel)
set_option maxRecDepth 20000 in
theorem gX3_shift_X3_shiftOf : GoodIn wsX3_shift (wsV RX3 105 RX3 yX3_shiftOf wsX3_shiftOf) := goodIn_app (goodIn_of _ (by decide +kernel)) ggX3_shift_X3_shiftOf
set_option maxRecDepth 20000 in
theorem ggX3_shift_X3_refused : GoodIn wsX3_shift wsX3_refused := goodIn_r _ [47, 48, 49, 50, 51, 52, 53, 54, 55, 56, 57, 58, 59] (by decide +kernel) (by decide +kernel)
set_option maxRecDepth 20000 in
theorem gX3_shift_X3_refused : GoodIn wsX3_shift (wsV RX3 58 RX3 yX3_refused wsX3_refused) := goodIn_app (goodIn_of _ (by decide +kernel)) ggX3_shift_X3_refused
set_option maxRecDepth 20000 in
theorem ggX3_dates_X3_isPiece : GoodIn wsX3_dates wsX3_isPiece := goodIn_r _ [5, 6, 7, 8, 4, 9, 46, 47, 48, 49, 50, 51, 52, 53, 54, 55, 56] (by decide +kernel) (by decide +kernel)
set_option maxRecDepth 20000 in
theorem gX3_dates_X3_isPiece : GoodIn wsX3_dates (wsV RX3 48 RX3 yX3_isPiece wsX3_isPiece) := goodIn_app (goodIn_of _ (by decide +kernel)) ggX3_dates_X3_isPiece
set_option maxRecDepth 20000 in
theorem ggX3_dates_X3_refused : GoodIn wsX3_dates wsX3_refused := goodIn_r _ [13, 14, 46, 47, 48, 49, 50, 51, 52, 53, 54, 55, 56] (by decide +kernel) (by decide +kernel)
set_option maxRecDepth 20000 in
theorem gX3_dates_X3_refused : GoodIn wsX3_dates (wsV RX3 58 RX3 yX3_refused wsX3_refused) := goodIn_app (goodIn_of _ (by decide +kernel)) ggX3_dates_X3_refused
set_option maxRecDepth 20000 in
theorem ggX3_dates_X3_shiftOf : GoodIn wsX3_dates wsX3_shiftOf := goodIn_r _ [18, 19, 20, 21, 4, 22, 23, 24, 25, 26, 27, 28, 29, 30, 31, 32, 33, 34, 35, 36, 37, 38, 39, 40, 41, 42, 43, 44, 45, 7, 8, 9, 46, 47, 48, 49, 50, 51, 52, 53, 54, 55, 56] (by decide +kernel) (by decide +kernel)
set_option maxRecDepth 20000 in
theorem gX3_dates_X3_shiftOf : GoodIn wsX3_dates (wsV RX3 105 RX3 yX3_shiftOf wsX3_shiftOf) := goodIn_app (goodIn_of _ (by decide +kernel)) ggX3_dates_X3_shiftOf
set_option maxRecDepth 20000 in
theorem ggX3_missed_X3_isDate : GoodIn wsX3_missed wsX3_isDate := goodIn_r _ [6, 7, 8, 5, 9] (by decide +kernel) (by decide +kernel)
set_option maxRecDepth 20000 in
theorem gX3_missed_X3_isDate : GoodIn wsX3_missed (va_wsS RX3 64 yX3_isDate wsX3_isDate) := goodIn_app (goodIn_of _ (by decide +kernel)) ggX3_missed_X3_isDate
set_option maxRecDepth 20000 in
theorem ggX3_missed_X3_refused : GoodIn wsX3_missed wsX3_refused := goodIn_r _ [13, 14, 25, 26, 27, 28, 29, 30, 31, 32, 33, 34, 35] (by decide +kernel) (by decide +kernel)
set_option maxRecDepth 20000 in
theorem gX3_missed_X3_refused : GoodIn wsX3_missed (wsV RX3 58 RX3 yX3_refused wsX3_refused) := goodIn_app (goodIn_of _ (by decide +kernel)) ggX3_missed_X3_refused
set_option maxRecDepth 20000 in
theorem ggX3_missed_X3_isThere : GoodIn wsX3_missed wsX3_isThere := goodIn_r _ [18, 19, 25, 26, 27, 28, 29, 30, 31, 32, 33, 34, 35] (by decide +kernel) (by decide +kernel)
set_option maxRecDepth 20000 in
theorem gX3_missed_X3_isThere : GoodIn wsX3_missed (wsV RX3 67 RX3 yX3_isThere wsX3_isThere) := goodIn_app (goodIn_of _ (by decide +kernel)) ggX3_missed_X3_isThere
set_option maxRecDepth 20000 in
theorem ggX3_missed_X3_firstOf : GoodIn wsX3_missed wsX3_firstOf := goodIn_r _ [23, 1, 2, 24, 15, 16, 17, 5, 18, 19, 25, 26, 27, 28, 29, 30, 31, 32, 33, 34, 35] (by decide +kernel) (by decide +kernel)
set_option maxRecDepth 20000 in
theorem gX3_missed_X3_firstOf : GoodIn wsX3_missed (wsV RX3 71 RX3 yX3_firstOf wsX3_firstOf) := goodIn_app (goodIn_of _ (by decide +kernel)) ggX3_missed_X3_firstOf
set_option maxRecDepth 20000 in
theorem ggX3_isBetter_X3_lengthOf : GoodIn wsX3_isBetter wsX3_lengthOf := goodIn_r _ [5, 6, 7, 11, 12, 13, 14, 15, 16, 17, 18, 19, 20, 21] (by decide +kernel) (by decide +kernel)
set_option maxRecDepth 20000 in
theorem gX3_isBetter_X3_lengthOf : GoodIn wsX3_isBetter (wsV RX3 108 RX3 yX3_lengthOf wsX3_lengthOf) := goodIn_app (goodIn_of _ (by decide +kernel)) ggX3_isBetter_X3_lengthOf
set_option maxRecDepth 20000 in
theorem ggX3_isBetter_X3_bits : GoodIn wsX3_isBetter wsX3_bits := goodIn_r _ [10] (by decide +kernel) (by decide +kernel)
set_option maxRecDepth 20000 in
theorem gX3_isBetter_X3_bits : GoodIn wsX3_isBetter (va_wsS RX3 111 yX3_bits wsX3_bits) := goodIn_app (goodIn_of _ (by decide +kernel)) ggX3_isBetter_X3_bits
set_option maxRecDepth 20000 in
theorem ggX3_planned_X3_shiftOf : GoodIn wsX3_planned wsX3_shiftOf := goodIn_r _ [6, 7, 8, 9, 5, 10, 11, 12, 13, 14, 15, 16, 17, 18, 19, 20, 21, 22, 23, 24, 25, 26, 27, 28, 29, 30, 31, 32, 33, 34, 35, 36, 49, 50, 51, 52, 53, 54, 55, 56, 57, 58, 59] (by decide +kernel) (by decide +kernel)
set_option maxRecDepth 20000 in
theorem gX3_planned_X3_shiftOf : GoodIn wsX3_planned (wsV RX3 105 RX3 yX3_shiftOf wsX3_shiftOf) := goodIn_app (goodIn_of _ (by decide +kernel)) ggX3_planned_X3_shiftOf
set_option maxRecDepth 20000 in
theorem ggX3_planned_X3_lengthOf : GoodIn wsX3_planned wsX3_lengthOf := goodIn_r _ [40, 1, 41, 49, 50, 51, 52, 53, 54, 55, 56, 57, 58, 59] (by decide +kernel) (by decide +kernel)
set_option maxRecDepth 20000 in
theorem gX3_planned_X3_lengthOf : GoodIn wsX3_planned (wsV RX3 108 RX3 yX3_lengthOf wsX3_lengthOf) := goodIn_app (goodIn_of _ (by decide +kernel)) ggX3_planned_X3_lengthOf
set_option maxRecDepth 20000 in
theorem ggX3_planned_X3_isBetter : GoodIn wsX3_planned wsX3_isBetter := goodIn_r _ [45, 37, 38, 39, 5, 40, 1, 41, 46, 47, 48, 49, 50, 51, 52, 53, 54, 55, 56, 57, 58, 59] (by decide +kernel) (by decide +kernel)
set_option maxRecDepth 20000 in
theorem gX3_planned_X3_isBetter : GoodIn wsX3_planned (wsV RX3 114 RX3 yX3_isBetter wsX3_isBetter) := goodIn_app (goodIn_of _ (by decide +kernel)) ggX3_planned_X3_isBetter
set_option maxRecDepth 20000 in
theorem ggX3_noDate_X3_isDate : GoodIn wsX3_noDate wsX3_isDate := goodIn_r _ [4, 5, 6, 3, 7] (by decide +kernel) (by decide +kernel)
set_option maxRecDepth 20000 in
theorem gX3_noDate_X3_isDate : GoodIn wsX3_noDate (va_wsS RX3 64 yX3_isDate wsX3_isDate) := goodIn_app (goodIn_of _ (by decide +kernel)) ggX3_noDate_X3_isDate
set_option maxRecDepth 20000 in
theorem ggX3_noDate_X3_in : GoodIn wsX3_noDate wsX3_in := goodIn_r _ [7] (by decide +kernel) (by decide +kernel)
set_option maxRecDepth 20000 in
theorem gX3_noDate_X3_in : GoodIn wsX3_noDate (va_wsS RX3 38 yX3_in wsX3_in) := goodIn_app (goodIn_of _ (by decide +kernel)) ggX3_noDate_X3_in
set_option maxRecDepth 20000 in
theorem ggX3_noDate_X3_refused : GoodIn wsX3_noDate wsX3_refused := goodIn_r _ [11, 12, 13, 14, 15, 16, 17, 18, 19, 20, 21, 22, 23] (by decide +kernel) (by decide +kernel)
set_option maxRecDepth 20000 in
theorem gX3_noDate_X3_refused : GoodIn wsX3_noDate (wsV RX3 58 RX3 yX3_refused wsX3_refused) := goodIn_app (goodIn_of _ (by decide +kernel)) ggX3_noDate_X3_refused
set_option maxRecDepth 20000 in
theorem ggX3_programme_X3_noDate : GoodIn wsX3_programme wsX3_noDate := goodIn_r _ [5, 6, 7, 4, 8, 9, 10, 11, 12, 13, 14, 15, 16, 65, 66, 67, 68, 69, 70, 71, 72, 73, 74, 75] (by decide +kernel) (by decide +kernel)
set_option maxRecDepth 20000 in
theorem gX3_programme_X3_noDate : GoodIn wsX3_programme (wsV RX3 117 RX3 yX3_noDate wsX3_noDate) := goodIn_app (goodIn_of _ (by decide +kernel)) ggX3_programme_X3_noDate
set_option maxRecDepth 20000 in
theorem ggX3_programme_X3_planned : GoodIn wsX3_programme wsX3_planned := goodIn_r _ [20, 21, 22, 23, 24, 4, 25, 26, 27, 28, 29, 30, 31, 32, 33, 34, 35, 36, 37, 38, 39, 40, 41, 42, 43, 44, 45, 46, 47, 48, 49, 50, 51, 52, 9, 10, 11, 53, 54, 55, 56, 57, 58, 59, 60, 61, 62, 63, 64, 65, 66, 67, 68, 69, 70, 71, 72, 73, 74, 75] (by decide +kernel) (by decide +kernel)
set_option maxRecDepth 20000 in
theorem gX3_programme_X3_planned : GoodIn wsX3_programme (wsV RX3 120 RX3 yX3_planned wsX3_planned) := goodIn_app (goodIn_of _ (by decide +kernel)) ggX3_programme_X3_planned
set_option maxRecDepth 20000 in
theorem ggX3_duration_X3_noDate : GoodIn wsX3_duration wsX3_noDate := goodIn_r _ [5, 6, 7, 4, 8, 9, 10, 11, 12, 13, 14, 15, 16, 65, 66, 67, 68, 69, 70, 71, 72, 73, 74, 75] (by decide +kernel) (by decide +kernel)
set_option maxRecDepth 20000 in
theorem gX3_duration_X3_noDate : GoodIn wsX3_duration (wsV RX3 117 RX3 yX3_noDate wsX3_noDate) := goodIn_app (goodIn_of _ (by decide +kernel)) ggX3_duration_X3_noDate
set_option maxRecDepth 20000 in
theorem ggX3_duration_X3_planned : GoodIn wsX3_duration wsX3_planned := goodIn_r _ [20, 21, 22, 23, 24, 4, 25, 26, 27, 28, 29, 30, 31, 32, 33, 34, 35, 36, 37, 38, 39, 40, 41, 42, 43, 44, 45, 46, 47, 48, 49, 50, 51, 52, 9, 10, 11, 53, 54, 55, 56, 57, 58, 59, 60, 61, 62, 63, 64, 65, 66, 67, 68, 69, 70, 71, 72, 73, 74, 75] (by decide +kernel) (by decide +kernel)
set_option maxRecDepth 20000 in
theorem gX3_duration_X3_planned : GoodIn wsX3_duration (wsV RX3 120 RX3 yX3_planned wsX3_planned) := goodIn_app (goodIn_of _ (by decide +kernel)) ggX3_duration_X3_planned
set_option maxRecDepth 20000 in
theorem ggX3_duration_X3_lengthOf : GoodIn wsX3_duration wsX3_lengthOf := goodIn_r _ [56, 21, 57, 65, 66, 67, 68, 69, 70, 71, 72, 73, 74, 75] (by decide +kernel) (by decide +kernel)
set_option maxRecDepth 20000 in
theorem gX3_duration_X3_lengthOf : GoodIn wsX3_duration (wsV RX3 108 RX3 yX3_lengthOf wsX3_lengthOf) := goodIn_app (goodIn_of _ (by decide +kernel)) ggX3_duration_X3_lengthOf
set_option maxRecDepth 20000 in
theorem ggX3_weaknessOf_X3_faultsOf : GoodIn wsX3_weaknessOf wsX3_faultsOf := goodIn_r _ [6, 7, 8, 9, 5, 10, 11, 12, 13, 14, 15, 16, 17, 18, 19, 20, 21, 22, 23, 24, 25, 26, 27, 28, 29] (by decide +kernel) (by decide +kernel)
set_option maxRecDepth 20000 in
theorem gX3_weaknessOf_X3_faultsOf : GoodIn wsX3_weaknessOf (wsV RX3 95 RX3 yX3_faultsOf wsX3_faultsOf) := goodIn_app (goodIn_of _ (by decide +kernel)) ggX3_weaknessOf_X3_faultsOf
set_option maxRecDepth 20000 in
theorem ggX3_weakestOf_X3_weaknessOf : GoodIn wsX3_weakestOf wsX3_weaknessOf := goodIn_r _ [6, 7, 8, 9, 10, 5, 11, 12, 13, 14, 15, 16, 17, 18, 19, 20, 21, 22, 23, 24, 25, 26, 27, 28, 29, 30, 31, 32, 33, 34] (by decide +kernel) (by decide +kernel)
