set_option maxRecDepth 20000 in
theorem ggX0_partner_X0_mustShow : GoodIn wsX0_partner wsX0_mustShow := goodIn_r _ [6, 7, 8, 9, 10, 11, 12, 13, 14, 15] (by decide +kernel) (by decide +kernel)
set_option maxRecDepth 20000 in
theorem gX0_partner_X0_mustShow : GoodIn wsX0_partner (wsV RX0 18 RX0 yX0_mustShow wsX0_mustShow) := goodIn_app (goodIn_of _ (by decide +kernel)) ggX0_partner_X0_mustShow
set_option maxRecDepth 20000 in
theorem ggX0_speakers_X0_partner : GoodIn wsX0_speakers wsX0_partner := goodIn_r _ [6, 1, 7, 8, 9, 5, 10, 11, 12, 13, 14, 15, 16, 17, 18, 19] (by decide +kernel) (by decide +kernel)
set_option maxRecDepth 20000 in
theorem gX0_speakers_X0_partner : GoodIn wsX0_speakers (wsV RX0 22 RX0 yX0_partner wsX0_partner) := goodIn_app (goodIn_of _ (by decide +kernel)) ggX0_speakers_X0_partner
set_option maxRecDepth 20000 in
theorem ggX1_fault_X6_someoneStepsAt : GoodIn wsX1_fault wsX6_someoneStepsAt := goodIn_r _ [8, 9, 10, 11, 12, 7, 13, 14, 76, 77, 78, 79, 80, 81] (by decide +kernel) (by decide +kernel)
set_option maxRecDepth 20000 in
theorem gX1_fault_X6_someoneStepsAt : GoodIn wsX1_fault (wsV RX1 24 RX6 yX6_someoneStepsAt wsX6_someoneStepsAt) := goodIn_app (goodIn_of _ (by decide +kernel)) ggX1_fault_X6_someoneStepsAt
set_option maxRecDepth 20000 in
theorem ggX1_fault_X1_faultAt : GoodIn wsX1_fault wsX1_faultAt := goodIn_r _ [19, 3, 20, 21, 22, 23, 1, 24, 25, 26, 27, 28, 29, 30, 31, 32, 7, 33, 34, 35, 36, 9, 37, 38, 39, 40, 41, 42, 43, 44, 45, 46, 47, 48, 49, 50, 51, 52, 53, 54, 55, 56, 57, 58, 59, 60, 61, 62, 63, 64, 18, 65, 66, 75, 76, 77, 78, 79, 80, 81, 67, 68, 69, 70, 71, 72, 73, 74] (by decide +kernel) (by decide +kernel)
set_option maxRecDepth 20000 in
theorem gX1_fault_X1_faultAt : GoodIn wsX1_fault (wsV RX1 30 RX1 yX1_faultAt wsX1_faultAt) := goodIn_app (goodIn_of _ (by decide +kernel)) ggX1_fault_X1_faultAt
set_option maxRecDepth 20000 in
theorem ggX1_faultAt_X0_mustShow : GoodIn wsX1_faultAt wsX0_mustShow := goodIn_r _ [11, 12, 60, 61, 62, 63, 64, 65, 66, 67] (by decide +kernel) (by decide +kernel)
set_option maxRecDepth 20000 in
theorem gX1_faultAt_X0_mustShow : GoodIn wsX1_faultAt (wsV RX1 37 RX0 yX0_mustShow wsX0_mustShow) := goodIn_app (goodIn_of _ (by decide +kernel)) ggX1_faultAt_X0_mustShow
set_option maxRecDepth 20000 in
theorem ggX1_faultAt_X6_hides : GoodIn wsX1_faultAt wsX6_hides := goodIn_r _ [17, 18, 19, 20, 21, 22, 23, 24, 16, 25, 26, 27, 28, 29, 30, 31, 32, 33, 34, 35, 36, 37, 38, 39, 54, 55, 56, 57, 58, 59] (by decide +kernel) (by decide +kernel)
set_option maxRecDepth 20000 in
theorem gX1_faultAt_X6_hides : GoodIn wsX1_faultAt (wsV RX1 40 RX6 yX6_hides wsX6_hides) := goodIn_app (goodIn_of _ (by decide +kernel)) ggX1_faultAt_X6_hides
set_option maxRecDepth 20000 in
theorem ggX1_faultAt_X6_placeOf : GoodIn wsX1_faultAt wsX6_placeOf := goodIn_r _ [25, 26, 54, 55, 56, 57, 58, 59] (by decide +kernel) (by decide +kernel)
set_option maxRecDepth 20000 in
theorem gX1_faultAt_X6_placeOf : GoodIn wsX1_faultAt (wsV RX1 47 RX6 yX6_placeOf wsX6_placeOf) := goodIn_app (goodIn_of _ (by decide +kernel)) ggX1_faultAt_X6_placeOf
set_option maxRecDepth 20000 in
theorem ggX1_faultAt_X2_inCone : GoodIn wsX1_faultAt wsX2_inCone := goodIn_r _ [43, 34, 35, 29, 36] (by decide +kernel) (by decide +kernel)
set_option maxRecDepth 20000 in
theorem gX1_faultAt_X2_inCone : GoodIn wsX1_faultAt (va_wsS RX1 51 yX2_inCone wsX2_inCone) := goodIn_app (goodIn_of _ (by decide +kernel)) ggX1_faultAt_X2_inCone
set_option maxRecDepth 20000 in
theorem ggX1_faultAt_X2_sizeSeen : GoodIn wsX1_faultAt wsX2_sizeSeen := goodIn_r _ [46, 34, 35, 29, 36] (by decide +kernel) (by decide +kernel)
set_option maxRecDepth 20000 in
theorem gX1_faultAt_X2_sizeSeen : GoodIn wsX1_faultAt (va_wsS RX1 59 yX2_sizeSeen wsX2_sizeSeen) := goodIn_app (goodIn_of _ (by decide +kernel)) ggX1_faultAt_X2_sizeSeen
set_option maxRecDepth 20000 in
theorem ggX1_faultAt_X1_someoneChangesSide : GoodIn wsX1_faultAt wsX1_someoneChangesSide := goodIn_r _ [51, 1, 3, 2, 40, 23, 24, 16, 25, 26, 7, 8, 9, 10, 11, 12, 52, 32, 29, 33, 53, 60, 61, 62, 63, 64, 65, 66, 67, 54, 55, 56, 57, 58, 59] (by decide +kernel) (by decide +kernel)
set_option maxRecDepth 20000 in
theorem gX1_faultAt_X1_someoneChangesSide : GoodIn wsX1_faultAt (wsV RX1 65 RX1 yX1_someoneChangesSide wsX1_someoneChangesSide) := goodIn_app (goodIn_of _ (by decide +kernel)) ggX1_faultAt_X1_someoneChangesSide
set_option maxRecDepth 20000 in
theorem ggX1_someoneChangesSide_X6_placeOf : GoodIn wsX1_someoneChangesSide wsX6_placeOf := goodIn_r _ [8, 9, 29, 30, 31, 32, 33, 34] (by decide +kernel) (by decide +kernel)
set_option maxRecDepth 20000 in
theorem gX1_someoneChangesSide_X6_placeOf : GoodIn wsX1_someoneChangesSide (wsV RX1 47 RX6 yX6_placeOf wsX6_placeOf) := goodIn_app (goodIn_of _ (by decide +kernel)) ggX1_someoneChangesSide_X6_placeOf
set_option maxRecDepth 20000 in
theorem ggX1_someoneChangesSide_X0_mustShow : GoodIn wsX1_someoneChangesSide wsX0_mustShow := goodIn_r _ [14, 15, 21, 22, 23, 24, 25, 26, 27, 28] (by decide +kernel) (by decide +kernel)
set_option maxRecDepth 20000 in
theorem gX1_someoneChangesSide_X0_mustShow : GoodIn wsX1_someoneChangesSide (wsV RX1 37 RX0 yX0_mustShow wsX0_mustShow) := goodIn_app (goodIn_of _ (by decide +kernel)) ggX1_someoneChangesSide_X0_mustShow
set_option maxRecDepth 20000 in
theorem ggX1_someoneChangesSide_X2_cross : GoodIn wsX1_someoneChangesSide wsX2_cross := goodIn_r _ [19] (by decide +kernel) (by decide +kernel)
set_option maxRecDepth 20000 in
theorem gX1_someoneChangesSide_X2_cross : GoodIn wsX1_someoneChangesSide (va_wsS RX1 69 yX2_cross wsX2_cross) := goodIn_app (goodIn_of _ (by decide +kernel)) ggX1_someoneChangesSide_X2_cross
set_option maxRecDepth 20000 in
theorem ggX1_sideOfMain_X6_placeOf : GoodIn wsX1_sideOfMain wsX6_placeOf := goodIn_r _ [8, 9, 38, 39, 40, 41, 42, 43] (by decide +kernel) (by decide +kernel)
set_option maxRecDepth 20000 in
theorem gX1_sideOfMain_X6_placeOf : GoodIn wsX1_sideOfMain (wsV RX1 47 RX6 yX6_placeOf wsX6_placeOf) := goodIn_app (goodIn_of _ (by decide +kernel)) ggX1_sideOfMain_X6_placeOf
set_option maxRecDepth 20000 in
theorem ggX1_sideOfMain_X0_partner : GoodIn wsX1_sideOfMain wsX0_partner := goodIn_r _ [14, 15, 16, 17, 18, 13, 19, 20, 30, 31, 32, 33, 34, 35, 36, 37] (by decide +kernel) (by decide +kernel)
set_option maxRecDepth 20000 in
theorem gX1_sideOfMain_X0_partner : GoodIn wsX1_sideOfMain (wsV RX1 73 RX0 yX0_partner wsX0_partner) := goodIn_app (goodIn_of _ (by decide +kernel)) ggX1_sideOfMain_X0_partner
set_option maxRecDepth 20000 in
theorem ggX1_sideOfMain_X2_cross : GoodIn wsX1_sideOfMain wsX2_cross := goodIn_r _ [24] (by decide +kernel) (by decide +kernel)
set_option maxRecDepth 20000 in
theorem gX1_sideOfMain_X2_cross : GoodIn wsX1_sideOfMain (va_wsS RX1 69 yX2_cross wsX2_cross) := goodIn_app (goodIn_of _ (by decide +kernel)) ggX1_sideOfMain_X2_cross
set_option maxRecDepth 20000 in
theorem ggX1_sideOfMain_J6_signum_0f7a4 : GoodIn wsX1_sideOfMain wsJ6_signum_0f7a4 := goodIn_r _ [28] (by decide +kernel) (by decide +kernel)
set_option maxRecDepth 20000 in
theorem gX1_sideOfMain_J6_signum_0f7a4 : GoodIn wsX1_sideOfMain (va_wsS RX1 77 yJ6_signum_0f7a4 wsJ6_signum_0f7a4) := goodIn_app (goodIn_of _ (by decide +kernel)) ggX1_sideOfMain_J6_signum_0f7a4
set_option maxRecDepth 20000 in
theorem ggX1_sideOfLesser_X1_sideOfMain : GoodIn wsX1_sideOfLesser wsX1_sideOfMain := goodIn_r _ [6, 7, 1, 8, 9, 10, 11, 12, 13, 14, 15, 16, 17, 18, 19, 20, 21, 22, 23, 24, 25, 26, 27, 28, 29, 30, 31, 32, 33, 42, 34, 35, 36, 37, 38, 39, 40, 41, 43, 44, 45, 46, 47, 48] (by decide +kernel) (by decide +kernel)
set_option maxRecDepth 20000 in
theorem gX1_sideOfLesser_X1_sideOfMain : GoodIn wsX1_sideOfLesser (wsV RX1 83 RX1 yX1_sideOfMain wsX1_sideOfMain) := goodIn_app (goodIn_of _ (by decide +kernel)) ggX1_sideOfLesser_X1_sideOfMain
set_option maxRecDepth 20000 in
theorem ggX1_sideOfLesser_X0_partner : GoodIn wsX1_sideOfLesser wsX0_partner := goodIn_r _ [19, 20, 21, 22, 23, 18, 24, 25, 34, 35, 36, 37, 38, 39, 40, 41] (by decide +kernel) (by decide +kernel)
set_option maxRecDepth 20000 in
theorem gX1_sideOfLesser_X0_partner : GoodIn wsX1_sideOfLesser (wsV RX1 73 RX0 yX0_partner wsX0_partner) := goodIn_app (goodIn_of _ (by decide +kernel)) ggX1_sideOfLesser_X0_partner
set_option maxRecDepth 20000 in
theorem ggX2_isBetween_X2_cross : GoodIn wsX2_isBetween wsX2_cross := goodIn_r _ [4] (by decide +kernel) (by decide +kernel)
set_option maxRecDepth 20000 in
theorem gX2_isBetween_X2_cross : GoodIn wsX2_isBetween (va_wsS RX2 7 yX2_cross wsX2_cross) := goodIn_app (goodIn_of _ (by decide +kernel)) ggX2_isBetween_X2_cross
set_option maxRecDepth 20000 in
theorem ggX2_isBetween_X2_dot : GoodIn wsX2_isBetween wsX2_dot := goodIn_r _ [7] (by decide +kernel) (by decide +kernel)
set_option maxRecDepth 20000 in
theorem gX2_isBetween_X2_dot : GoodIn wsX2_isBetween (va_wsS RX2 13 yX2_dot wsX2_dot) := goodIn_app (goodIn_of _ (by decide +kernel)) ggX2_isBetween_X2_dot
set_option maxRecDepth 20000 in
theorem ggX2_meet_X2_cross : GoodIn wsX2_meet wsX2_cross := goodIn_r _ [4] (by decide +kernel) (by decide +kernel)
set_option maxRecDepth 20000 in
theorem gX2_meet_X2_cross : GoodIn wsX2_meet (va_wsS RX2 7 yX2_cross wsX2_cross) := goodIn_app (goodIn_of _ (by decide +kernel)) ggX2_meet_X2_cross
set_option maxRecDepth 20000 in
theorem ggX2_meet_X2_dot : GoodIn wsX2_meet wsX2_dot := goodIn_r _ [7] (by decide +kernel) (by decide +kernel)
set_option maxRecDepth 20000 in
theorem gX2_meet_X2_dot : GoodIn wsX2_meet (va_wsS RX2 13 yX2_dot wsX2_dot) := goodIn_app (goodIn_of _ (by decide +kernel)) ggX2_meet_X2_dot
set_option maxRecDepth 20000 in
theorem ggX2_inCone_X2_dot : GoodIn wsX2_inCone wsX2_dot := goodIn_r _ [4] (by decide +kernel) (by decide +kernel)
set_option maxRecDepth 20000 in
theorem gX2_inCone_X2_dot : GoodIn wsX2_inCone (va_wsS RX2 13 yX2_dot wsX2_dot) := goodIn_app (goodIn_of _ (by decide +kernel)) ggX2_inCone_X2_dot
set_option maxRecDepth 20000 in
theorem ggX2_sizeSeen_X2_dot : GoodIn wsX2_sizeSeen wsX2_dot := goodIn_r _ [4] (by decide +kernel) (by decide +kernel)
set_option maxRecDepth 20000 in
theorem gX2_sizeSeen_X2_dot : GoodIn wsX2_sizeSeen (va_wsS RX2 13 yX2_dot wsX2_dot) := goodIn_app (goodIn_of _ (by decide +kernel)) ggX2_sizeSeen_X2_dot
set_option maxRecDepth 20000 in
theorem ggX3_refresh_X1_fault : GoodIn wsX3_refresh wsX1_fault := goodIn_r _ [17, 18, 19, 20, 21, 22, 23, 24, 25, 26, 27, 28, 29, 30, 31, 32, 33, 34, 16, 35, 36, 37, 38, 39, 40, 41, 42, 43, 44, 45, 46, 47, 48, 49, 50, 51, 52, 53, 54, 55, 56, 57, 58, 59, 60, 61, 62, 63, 64, 65, 66, 67, 68, 69, 70, 71, 72, 73, 74, 75, 76, 77, 78, 79, 80, 81, 82, 167, 168, 169, 170, 171, 172, 173, 174, 175, 176, 177, 178, 179, 180, 181] (by decide +kernel) (by decide +kernel)
set_option maxRecDepth 20000 in
theorem gX3_refresh_X1_fault : GoodIn wsX3_refresh (wsV RX3 62 RX1 yX1_fault wsX1_fault) := goodIn_app (goodIn_of _ (by decide +kernel)) ggX3_refresh_X1_fault
set_option maxRecDepth 20000 in
theorem ggX3_refresh_X1_sideOfLesser : GoodIn wsX3_refresh wsX1_sideOfLesser := goodIn_r _ [86, 37, 87, 88, 89, 16, 90, 20, 18, 71, 54, 55, 24, 56, 57, 91, 92, 93, 43, 94, 95, 96, 41, 42, 44, 45, 82, 63, 60, 64, 97, 98, 99, 100, 167, 168, 169, 170, 171, 172, 173, 174, 175, 176, 177, 178, 179, 180, 181] (by decide +kernel) (by decide +kernel)
set_option maxRecDepth 20000 in
theorem gX3_refresh_X1_sideOfLesser : GoodIn wsX3_refresh (wsV RX3 73 RX1 yX1_sideOfLesser wsX1_sideOfLesser) := goodIn_app (goodIn_of _ (by decide +kernel)) ggX3_refresh_X1_sideOfLesser
set_option maxRecDepth 20000 in
theorem ggX3_refresh_X3_search : GoodIn wsX3_refresh wsX3_search := goodIn_r _ [105, 6, 7, 106, 107, 108, 109, 104, 110, 2, 3, 111, 112, 113, 114, 115, 5, 116, 117, 118, 119, 10, 4, 120, 121, 122, 123, 124, 11, 125, 126, 99, 127, 128, 129, 130, 150, 151, 152, 153, 154, 155, 156, 157, 158, 159, 160, 164, 165, 166, 161, 162, 163, 167, 168, 169, 170, 171, 172, 173, 174] (by decide +kernel) (by decide +kernel)
set_option maxRecDepth 20000 in
theorem gX3_refresh_X3_search : GoodIn wsX3_refresh (wsV RX3 76 RX3 yX3_search wsX3_search) := goodIn_app (goodIn_of _ (by decide +kernel)) ggX3_refresh_X3_search
set_option maxRecDepth 20000 in
theorem ggX3_refresh_X3_writeRow : GoodIn wsX3_refresh wsX3_writeRow := goodIn_r _ [134, 2, 3, 106, 135, 136, 137, 138, 139, 112, 113, 114, 104, 115, 6, 7, 5, 116, 117, 118, 119, 10, 4, 120, 111, 121, 122, 123, 124, 11, 150, 151, 152, 153, 154, 155, 156, 157, 158, 159, 160, 161, 162, 163, 164, 165, 166, 167, 168, 169, 170, 171, 172, 173, 174] (by decide +kernel) (by decide +kernel)
set_option maxRecDepth 20000 in
theorem gX3_refresh_X3_writeRow : GoodIn wsX3_refresh (wsV RX3 83 RX3 yX3_writeRow wsX3_writeRow) := goodIn_app (goodIn_of _ (by decide +kernel)) ggX3_refresh_X3_writeRow
set_option maxRecDepth 20000 in
theorem ggX3_refresh_X3_writeSequence : GoodIn wsX3_refresh wsX3_writeSequence := goodIn_r _ [143, 106, 12, 135, 136, 137, 138, 144, 6, 145, 146, 147, 148, 104, 149, 7, 150, 151, 152, 153, 154, 155, 156, 157, 158, 159, 160, 164, 165, 166] (by decide +kernel) (by decide +kernel)
set_option maxRecDepth 20000 in
theorem gX3_refresh_X3_writeSequence : GoodIn wsX3_refresh (wsV RX3 86 RX3 yX3_writeSequence wsX3_writeSequence) := goodIn_app (goodIn_of _ (by decide +kernel)) ggX3_refresh_X3_writeSequence
set_option maxRecDepth 20000 in
theorem ggX3_search_X3_canFilm : GoodIn wsX3_search wsX3_canFilm := goodIn_r _ [8, 9, 10, 11, 12, 13, 14, 7, 15, 1, 2, 16, 17, 18, 19, 20, 21, 22, 23, 24, 25, 26, 27, 28, 36, 37, 38, 39, 40, 41, 42, 43, 44, 45, 46, 50, 51, 52, 47, 48, 49, 53, 54, 55, 56, 57, 58, 59, 60] (by decide +kernel) (by decide +kernel)
set_option maxRecDepth 20000 in
theorem gX3_search_X3_canFilm : GoodIn wsX3_search (wsV RX3 89 RX3 yX3_canFilm wsX3_canFilm) := goodIn_app (goodIn_of _ (by decide +kernel)) ggX3_search_X3_canFilm
set_option maxRecDepth 20000 in
theorem ggX3_search_J6_bitCount_0f7a4 : GoodIn wsX3_search wsJ6_bitCount_0f7a4 := goodIn_r _ [32, 33, 34, 35] (by decide +kernel) (by decide +kernel)
set_option maxRecDepth 20000 in
theorem gX3_search_J6_bitCount_0f7a4 : GoodIn wsX3_search (va_wsS RX3 93 yJ6_bitCount_0f7a4 wsJ6_bitCount_0f7a4) := goodIn_app (goodIn_of _ (by decide +kernel)) ggX3_search_J6_bitCount_0f7a4
set_option maxRecDepth 20000 in
theorem ggX3_canFilm_X3_firstFor : GoodIn wsX3_canFilm wsX3_firstFor := goodIn_r _ [8, 9, 10, 11, 12, 13, 14, 7, 15, 16, 1, 17, 18, 3, 19, 20, 21, 22, 23, 24, 25, 26, 27, 28, 29, 30, 31, 32, 33, 34, 38, 39, 40, 35, 36, 37, 41, 42, 43, 44, 45, 46, 47, 48] (by decide +kernel) (by decide +kernel)
set_option maxRecDepth 20000 in
theorem gX3_canFilm_X3_firstFor : GoodIn wsX3_canFilm (wsV RX3 102 RX3 yX3_firstFor wsX3_firstFor) := goodIn_app (goodIn_of _ (by decide +kernel)) ggX3_canFilm_X3_firstFor
set_option maxRecDepth 20000 in
theorem ggX3_firstFor_X3_fits : GoodIn wsX3_firstFor wsX3_fits := goodIn_r _ [8, 9, 10, 11, 12, 13, 14, 15, 16, 7, 17, 18, 19, 20, 21, 22, 23, 24, 25, 26, 27, 28, 29, 33, 34, 35, 36, 37, 38, 39, 40, 41, 42, 43] (by decide +kernel) (by decide +kernel)
set_option maxRecDepth 20000 in
theorem gX3_firstFor_X3_fits : GoodIn wsX3_firstFor (wsV RX3 106 RX3 yX3_fits wsX3_fits) := goodIn_app (goodIn_of _ (by decide +kernel)) ggX3_firstFor_X3_fits
set_option maxRecDepth 20000 in
theorem ggX3_fits_X3_sideAfter : GoodIn wsX3_fits wsX3_sideAfter := goodIn_r _ [10, 2, 3, 11, 1, 12, 13, 14, 15, 16, 17, 18, 19, 20, 21, 22, 23, 24, 25, 26, 27, 28, 29, 30, 31, 32, 33] (by decide +kernel) (by decide +kernel)
set_option maxRecDepth 20000 in
theorem gX3_fits_X3_sideAfter : GoodIn wsX3_fits (wsV RX3 113 RX3 yX3_sideAfter wsX3_sideAfter) := goodIn_app (goodIn_of _ (by decide +kernel)) ggX3_fits_X3_sideAfter
set_option maxRecDepth 20000 in
theorem ggX3_writeRow_X3_firstFor : GoodIn wsX3_writeRow wsX3_firstFor := goodIn_r _ [13, 14, 15, 16, 17, 18, 19, 12, 20, 21, 1, 22, 23, 24, 25, 26, 27, 28, 29, 30, 31, 32, 33, 34, 35, 36, 37, 38, 39, 40, 44, 45, 46, 41, 42, 43, 47, 48, 49, 50, 51, 52, 53, 54] (by decide +kernel) (by decide +kernel)
set_option maxRecDepth 20000 in
theorem gX3_writeRow_X3_firstFor : GoodIn wsX3_writeRow (wsV RX3 102 RX3 yX3_firstFor wsX3_firstFor) := goodIn_app (goodIn_of _ (by decide +kernel)) ggX3_writeRow_X3_firstFor
set_option maxRecDepth 20000 in
theorem ggX3_writeRow_X3_sideAfter : GoodIn wsX3_writeRow wsX3_sideAfter := goodIn_r _ [28, 1, 22, 29, 21, 30, 31, 32, 33, 34, 35, 36, 37, 38, 39, 40, 41, 42, 43, 47, 48, 49, 50, 51, 52, 53, 54] (by decide +kernel) (by decide +kernel)
set_option maxRecDepth 20000 in
theorem gX3_writeRow_X3_sideAfter : GoodIn wsX3_writeRow (wsV RX3 113 RX3 yX3_sideAfter wsX3_sideAfter) := goodIn_app (goodIn_of _ (by decide +kernel)) ggX3_writeRow_X3_sideAfter
set_option maxRecDepth 20000 in
theorem ggX3_writeSequence_X3_leastOf : GoodIn wsX3_writeSequence wsX3_leastOf := goodIn_r _ [14, 8, 15, 9, 16, 17, 18, 19, 20, 21, 22, 23, 24, 25, 26, 27, 28, 29] (by decide +kernel) (by decide +kernel)
set_option maxRecDepth 20000 in
theorem gX3_writeSequence_X3_leastOf : GoodIn wsX3_writeSequence (wsV RX3 122 RX3 yX3_leastOf wsX3_leastOf) := goodIn_app (goodIn_of _ (by decide +kernel)) ggX3_writeSequence_X3_leastOf
set_option maxRecDepth 20000 in
theorem ggX5_init_X0_init : GoodIn wsX5_init wsX0_init := goodIn_r _ [10, 11, 2, 3] (by decide +kernel) (by decide +kernel)
set_option maxRecDepth 20000 in
theorem gX5_init_X0_init_n21 : GoodIn wsX5_init (wsX0_init) := ggX5_init_X0_init
set_option maxRecDepth 20000 in
theorem ggX5_add_X5_speakersOfLastTwo : GoodIn wsX5_add wsX5_speakersOfLastTwo := goodIn_r _ [15, 2, 1, 3, 16, 17, 18, 19, 20, 21, 22, 23, 24, 25, 26, 27, 28, 29, 30, 31, 32, 33, 34, 35, 36, 37, 38, 39, 40, 41] (by decide +kernel) (by decide +kernel)
set_option maxRecDepth 20000 in
theorem gX5_add_X5_speakersOfLastTwo : GoodIn wsX5_add (wsV RX5 46 RX5 yX5_speakersOfLastTwo wsX5_speakersOfLastTwo) := goodIn_app (goodIn_of _ (by decide +kernel)) ggX5_add_X5_speakersOfLastTwo
set_option maxRecDepth 20000 in
theorem ggX5_add_X0_speakers : GoodIn wsX5_add wsX0_speakers := goodIn_r _ [20, 21, 22, 23, 24, 19, 25, 26, 27, 28, 29, 30, 34, 35, 36, 37, 38, 39, 40, 41] (by decide +kernel) (by decide +kernel)
set_option maxRecDepth 20000 in
theorem gX5_add_X0_speakers : GoodIn wsX5_add (wsV RX5 50 RX0 yX0_speakers wsX0_speakers) := goodIn_app (goodIn_of _ (by decide +kernel)) ggX5_add_X0_speakers
set_option maxRecDepth 20000 in
theorem ggX5_speakersOfLastTwo_X0_speakers : GoodIn wsX5_speakersOfLastTwo wsX0_speakers := goodIn_r _ [8, 9, 10, 11, 12, 7, 13, 14, 15, 16, 17, 18, 22, 23, 24, 25, 26, 27, 28, 29] (by decide +kernel) (by decide +kernel)
set_option maxRecDepth 20000 in
theorem gX5_speakersOfLastTwo_X0_speakers : GoodIn wsX5_speakersOfLastTwo (wsV RX5 50 RX0 yX0_speakers wsX0_speakers) := goodIn_app (goodIn_of _ (by decide +kernel)) ggX5_speakersOfLastTwo_X0_speakers
set_option maxRecDepth 20000 in
theorem ggX6_someoneStepsAt_X6_hasStep : GoodIn wsX6_someoneStepsAt wsX6_hasStep := goodIn_r _ [6, 7, 8, 9, 10, 11, 12, 13] (by decide +kernel) (by decide +kernel)
set_option maxRecDepth 20000 in
theorem gX6_someoneStepsAt_X6_hasStep : GoodIn wsX6_someoneStepsAt (wsV RX6 29 RX6 yX6_hasStep wsX6_hasStep) := goodIn_app (goodIn_of _ (by decide +kernel)) ggX6_someoneStepsAt_X6_hasStep
set_option maxRecDepth 20000 in
theorem ggX6_stepsOf_J13_bitCount_95d88 : GoodIn wsX6_stepsOf wsJ13_bitCount_95d88 := goodIn_r _ [5, 6, 7, 8] (by decide +kernel) (by decide +kernel)
set_option maxRecDepth 20000 in
theorem gX6_stepsOf_J13_bitCount_95d88 : GoodIn wsX6_stepsOf (va_wsS RX6 33 yJ13_bitCount_95d88 wsJ13_bitCount_95d88) := goodIn_app (goodIn_of _ (by decide +kernel)) ggX6_stepsOf_J13_bitCount_95d88
set_option maxRecDepth 20000 in
theorem ggX6_addStep_X6_hasStep : GoodIn wsX6_addStep wsX6_hasStep := goodIn_r _ [7, 1, 19, 20, 21, 22, 23, 24] (by decide +kernel) (by decide +kernel)
set_option maxRecDepth 20000 in
theorem gX6_addStep_X6_hasStep : GoodIn wsX6_addStep (wsV RX6 29 RX6 yX6_hasStep wsX6_hasStep) := goodIn_app (goodIn_of _ (by decide +kernel)) ggX6_addStep_X6_hasStep
set_option maxRecDepth 20000 in
theorem ggX6_addStep_X6_stepsOf : GoodIn wsX6_addStep wsX6_stepsOf := goodIn_r _ [11, 1, 12, 13, 14, 15, 16, 17, 18, 19, 20, 21, 22, 23, 24] (by decide +kernel) (by decide +kernel)
set_option maxRecDepth 20000 in
theorem gX6_addStep_X6_stepsOf : GoodIn wsX6_addStep (wsV RX6 39 RX6 yX6_stepsOf wsX6_stepsOf) := goodIn_app (goodIn_of _ (by decide +kernel)) ggX6_addStep_X6_stepsOf
set_option maxRecDepth 20000 in
theorem ggX6_hides_X6_placeOf : GoodIn wsX6_hides wsX6_placeOf := goodIn_r _ [9, 10, 24, 25, 26, 27, 28, 29] (by decide +kernel) (by decide +kernel)
set_option maxRecDepth 20000 in
theorem gX6_hides_X6_placeOf : GoodIn wsX6_hides (wsV RX6 46 RX6 yX6_placeOf wsX6_placeOf) := goodIn_app (goodIn_of _ (by decide +kernel)) ggX6_hides_X6_placeOf
set_option maxRecDepth 20000 in
theorem ggX6_hides_X2_meet : GoodIn wsX6_hides wsX2_meet := goodIn_r _ [14, 15, 16, 13, 17, 18, 19, 20] (by decide +kernel) (by decide +kernel)
set_option maxRecDepth 20000 in
theorem gX6_hides_X2_meet : GoodIn wsX6_hides (va_wsS RX6 50 yX2_meet wsX2_meet) := goodIn_app (goodIn_of _ (by decide +kernel)) ggX6_hides_X2_meet
set_option maxRecDepth 20000 in
theorem ggX6_hides_X2_isBetween : GoodIn wsX6_hides wsX2_isBetween := goodIn_r _ [23, 15, 16, 13, 17, 18, 19, 20] (by decide +kernel) (by decide +kernel)
set_option maxRecDepth 20000 in
theorem gX6_hides_X2_isBetween : GoodIn wsX6_hides (va_wsS RX6 56 yX2_isBetween wsX2_isBetween) := goodIn_app (goodIn_of _ (by decide +kernel)) ggX6_hides_X2_isBetween
set_option maxRecDepth 20000 in
theorem ggX7_init_X6_init : GoodIn wsX7_init wsX6_init := goodIn_r _ [27, 28, 2, 3, 24, 29, 30, 31, 32, 33, 69, 70, 71, 72, 73, 74] (by decide +kernel) (by decide +kernel)
set_option maxRecDepth 20000 in
theorem gX7_init_X6_init_n9 : GoodIn wsX7_init (wsX6_init) := ggX7_init_X6_init
set_option maxRecDepth 20000 in
theorem ggX7_init_X4_init : GoodIn wsX7_init wsX4_init := goodIn_r _ [35, 36, 2, 3, 24, 37, 38, 82, 83, 84] (by decide +kernel) (by decide +kernel)
set_option maxRecDepth 20000 in
theorem gX7_init_X4_init_n18 : GoodIn wsX7_init (wsX4_init) := ggX7_init_X4_init
set_option maxRecDepth 20000 in
theorem ggX7_init_X5_init : GoodIn wsX7_init wsX5_init := goodIn_r _ [41, 42, 2, 3, 43, 44, 45, 46, 47, 48, 49, 50, 85, 86, 87, 100, 101, 102, 103, 104, 105, 106, 107] (by decide +kernel) (by decide +kernel)
set_option maxRecDepth 20000 in
theorem gX7_init_X5_init : GoodIn wsX7_init (wsX5_init) := ggX7_init_X5_init
set_option maxRecDepth 20000 in
theorem ggX7_init_X1_init : GoodIn wsX7_init wsX1_init := goodIn_r _ [53, 54, 2, 3, 55, 88] (by decide +kernel) (by decide +kernel)
set_option maxRecDepth 20000 in
theorem gX7_init_X1_init : GoodIn wsX7_init (wsX1_init) := ggX7_init_X1_init
set_option maxRecDepth 20000 in
theorem ggX7_init_X3_init : GoodIn wsX7_init wsX3_init := goodIn_r _ [58, 59, 2, 3, 24, 60, 61, 62, 63, 64, 65, 66, 67, 68, 89, 90, 91, 92, 93, 94, 95, 96, 97, 98, 99] (by decide +kernel) (by decide +kernel)
set_option maxRecDepth 20000 in
theorem gX7_init_X3_init : GoodIn wsX7_init (wsX3_init) := ggX7_init_X3_init
set_option maxRecDepth 20000 in
theorem ggX7_person_X7_isPlace : GoodIn wsX7_person wsX7_isPlace := goodIn_r _ [7] (by decide +kernel) (by decide +kernel)
set_option maxRecDepth 20000 in
theorem gX7_person_X7_isPlace : GoodIn wsX7_person (va_wsS RX7 52 yX7_isPlace wsX7_isPlace) := goodIn_app (goodIn_of _ (by decide +kernel)) ggX7_person_X7_isPlace
set_option maxRecDepth 20000 in
theorem ggX7_person_X3_forget : GoodIn wsX7_person wsX3_forget := goodIn_r _ [12, 13, 34, 35, 36, 37, 38, 39, 40, 41, 42, 43, 44] (by decide +kernel) (by decide +kernel)
set_option maxRecDepth 20000 in
theorem gX7_person_X3_forget : GoodIn wsX7_person (wsV RX7 60 RX3 yX3_forget wsX3_forget) := goodIn_app (goodIn_of _ (by decide +kernel)) ggX7_person_X3_forget
set_option maxRecDepth 20000 in
theorem ggX7_person_X6_addPerson : GoodIn wsX7_person wsX6_addPerson := goodIn_r _ [18, 19, 20, 28, 29, 30, 31, 32, 33] (by decide +kernel) (by decide +kernel)
set_option maxRecDepth 20000 in
theorem gX7_person_X6_addPerson : GoodIn wsX7_person (wsV RX7 63 RX6 yX6_addPerson wsX6_addPerson) := goodIn_app (goodIn_of _ (by decide +kernel)) ggX7_person_X6_addPerson
set_option maxRecDepth 20000 in
theorem ggX7_step_X7_isPerson : GoodIn wsX7_step wsX7_isPerson := goodIn_r _ [7, 1, 8, 45, 46, 47, 48, 49, 50, 51, 52, 53, 54, 55, 56, 57] (by decide +kernel) (by decide +kernel)
set_option maxRecDepth 20000 in
theorem gX7_step_X7_isPerson : GoodIn wsX7_step (wsV RX7 67 RX7 yX7_isPerson wsX7_isPerson) := goodIn_app (goodIn_of _ (by decide +kernel)) ggX7_step_X7_isPerson
set_option maxRecDepth 20000 in
theorem ggX7_step_X7_isTick : GoodIn wsX7_step wsX7_isTick := goodIn_r _ [11] (by decide +kernel) (by decide +kernel)
set_option maxRecDepth 20000 in
theorem gX7_step_X7_isTick : GoodIn wsX7_step (va_wsS RX7 70 yX7_isTick wsX7_isTick) := goodIn_app (goodIn_of _ (by decide +kernel)) ggX7_step_X7_isTick
set_option maxRecDepth 20000 in
theorem ggX7_step_X7_isPlace : GoodIn wsX7_step wsX7_isPlace := goodIn_r _ [14] (by decide +kernel) (by decide +kernel)
set_option maxRecDepth 20000 in
theorem gX7_step_X7_isPlace : GoodIn wsX7_step (va_wsS RX7 52 yX7_isPlace wsX7_isPlace) := goodIn_app (goodIn_of _ (by decide +kernel)) ggX7_step_X7_isPlace
set_option maxRecDepth 20000 in
theorem ggX7_step_X6_hasStep : GoodIn wsX7_step wsX6_hasStep := goodIn_r _ [19, 20, 52, 53, 54, 55, 56, 57] (by decide +kernel) (by decide +kernel)
set_option maxRecDepth 20000 in
theorem gX7_step_X6_hasStep : GoodIn wsX7_step (wsV RX7 73 RX6 yX6_hasStep wsX6_hasStep) := goodIn_app (goodIn_of _ (by decide +kernel)) ggX7_step_X6_hasStep
set_option maxRecDepth 20000 in
theorem ggX7_step_X6_stepsOf : GoodIn wsX7_step wsX6_stepsOf := goodIn_r _ [24, 20, 25, 26, 27, 28, 29, 30, 31, 52, 53, 54, 55, 56, 57] (by decide +kernel) (by decide +kernel)
set_option maxRecDepth 20000 in
theorem gX7_step_X6_stepsOf : GoodIn wsX7_step (wsV RX7 77 RX6 yX6_stepsOf wsX6_stepsOf) := goodIn_app (goodIn_of _ (by decide +kernel)) ggX7_step_X6_stepsOf
set_option maxRecDepth 20000 in
theorem ggX7_step_X3_forget : GoodIn wsX7_step wsX3_forget := goodIn_r _ [36, 37, 58, 59, 60, 61, 62, 63, 64, 65, 66, 67, 68] (by decide +kernel) (by decide +kernel)
set_option maxRecDepth 20000 in
theorem gX7_step_X3_forget : GoodIn wsX7_step (wsV RX7 60 RX3 yX3_forget wsX3_forget) := goodIn_app (goodIn_of _ (by decide +kernel)) ggX7_step_X3_forget
set_option maxRecDepth 20000 in
theorem ggX7_step_X6_addStep : GoodIn wsX7_step wsX6_addStep := goodIn_r _ [41, 20, 42, 43, 16, 17, 18, 19, 44, 22, 23, 24, 25, 26, 27, 28, 29, 30, 31, 52, 53, 54, 55, 56, 57] (by decide +kernel) (by decide +kernel)
set_option maxRecDepth 20000 in
theorem gX7_step_X6_addStep : GoodIn wsX7_step (wsV RX7 80 RX6 yX6_addStep wsX6_addStep) := goodIn_app (goodIn_of _ (by decide +kernel)) ggX7_step_X6_addStep
set_option maxRecDepth 20000 in
theorem ggX7_wall_X7_isPlace : GoodIn wsX7_wall wsX7_isPlace := goodIn_r _ [7] (by decide +kernel) (by decide +kernel)
set_option maxRecDepth 20000 in
theorem gX7_wall_X7_isPlace : GoodIn wsX7_wall (va_wsS RX7 52 yX7_isPlace wsX7_isPlace) := goodIn_app (goodIn_of _ (by decide +kernel)) ggX7_wall_X7_isPlace
set_option maxRecDepth 20000 in
theorem ggX7_wall_X3_forget : GoodIn wsX7_wall wsX3_forget := goodIn_r _ [12, 13, 35, 36, 37, 38, 39, 40, 41, 42, 43, 44, 45] (by decide +kernel) (by decide +kernel)
set_option maxRecDepth 20000 in
theorem gX7_wall_X3_forget : GoodIn wsX7_wall (wsV RX7 60 RX3 yX3_forget wsX3_forget) := goodIn_app (goodIn_of _ (by decide +kernel)) ggX7_wall_X3_forget
set_option maxRecDepth 20000 in
theorem ggX7_wall_X6_addWall : GoodIn wsX7_wall wsX6_addWall := goodIn_r _ [18, 19, 20, 21, 29, 30, 31, 32, 33, 34] (by decide +kernel) (by decide +kernel)
set_option maxRecDepth 20000 in
theorem gX7_wall_X6_addWall : GoodIn wsX7_wall (wsV RX7 87 RX6 yX6_addWall wsX6_addWall) := goodIn_app (goodIn_of _ (by decide +kernel)) ggX7_wall_X6_addWall
set_option maxRecDepth 20000 in
theorem ggX7_open_X3_forget : GoodIn wsX7_open wsX3_forget := goodIn_r _ [8, 9, 23, 24, 25, 26, 27, 28, 29, 30, 31, 32, 33] (by decide +kernel) (by decide +kernel)
set_option maxRecDepth 20000 in
theorem gX7_open_X3_forget : GoodIn wsX7_open (wsV RX7 60 RX3 yX3_forget wsX3_forget) := goodIn_app (goodIn_of _ (by decide +kernel)) ggX7_open_X3_forget
set_option maxRecDepth 20000 in
theorem ggX7_camera_X7_isPlace : GoodIn wsX7_camera wsX7_isPlace := goodIn_r _ [7] (by decide +kernel) (by decide +kernel)
set_option maxRecDepth 20000 in
theorem gX7_camera_X7_isPlace : GoodIn wsX7_camera (va_wsS RX7 52 yX7_isPlace wsX7_isPlace) := goodIn_app (goodIn_of _ (by decide +kernel)) ggX7_camera_X7_isPlace
set_option maxRecDepth 20000 in
theorem ggX7_camera_X3_forget : GoodIn wsX7_camera wsX3_forget := goodIn_r _ [12, 13, 32, 33, 34, 35, 36, 37, 38, 39, 40, 41, 42] (by decide +kernel) (by decide +kernel)
set_option maxRecDepth 20000 in
theorem gX7_camera_X3_forget : GoodIn wsX7_camera (wsV RX7 60 RX3 yX3_forget wsX3_forget) := goodIn_app (goodIn_of _ (by decide +kernel)) ggX7_camera_X3_forget
set_option maxRecDepth 20000 in
theorem ggX7_camera_X4_add : GoodIn wsX7_camera wsX4_add := goodIn_r _ [18, 19, 20, 21, 29, 30, 31] (by decide +kernel) (by decide +kernel)
set_option maxRecDepth 20000 in
theorem gX7_camera_X4_add : GoodIn wsX7_camera (wsV RX7 94 RX4 yX4_add wsX4_add) := goodIn_app (goodIn_of _ (by decide +kernel)) ggX7_camera_X4_add
set_option maxRecDepth 20000 in
theorem ggX7_board_X7_isWho : GoodIn wsX7_board wsX7_isWho := goodIn_r _ [8, 9, 10, 11, 12, 13, 7, 14, 61, 62, 63, 64, 65, 66, 67, 71, 72, 73, 74, 75, 76] (by decide +kernel) (by decide +kernel)
set_option maxRecDepth 20000 in
theorem gX7_board_X7_isWho : GoodIn wsX7_board (wsV RX7 97 RX7 yX7_isWho wsX7_isWho) := goodIn_app (goodIn_of _ (by decide +kernel)) ggX7_board_X7_isWho
set_option maxRecDepth 20000 in
theorem ggX7_board_X7_isSpan : GoodIn wsX7_board wsX7_isSpan := goodIn_r _ [17, 18, 19, 7, 20] (by decide +kernel) (by decide +kernel)
