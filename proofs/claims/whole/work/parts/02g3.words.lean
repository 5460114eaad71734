set_option maxRecDepth 20000 in
theorem ggX8_isOn_X8_isBetween : GoodIn wsX8_isOn wsX8_isBetween := goodIn_r _ [13, 14, 15, 3, 16] (by decide +kernel) (by decide +kernel)
set_option maxRecDepth 20000 in
theorem gX8_isOn_X8_isBetween : GoodIn wsX8_isOn (va_wsS RX8 113 yX8_isBetween wsX8_isBetween) := goodIn_app (goodIn_of _ (by decide +kernel)) ggX8_isOn_X8_isBetween
set_option maxRecDepth 20000 in
theorem ggX8_isOn_X8_y : GoodIn wsX8_isOn wsX8_y := goodIn_r _ [10] (by decide +kernel) (by decide +kernel)
set_option maxRecDepth 20000 in
theorem gX8_isOn_X8_y : GoodIn wsX8_isOn (va_wsS RX8 106 yX8_y wsX8_y) := goodIn_app (goodIn_of _ (by decide +kernel)) ggX8_isOn_X8_y
set_option maxRecDepth 20000 in
theorem ggX8_meet_X8_turn : GoodIn wsX8_meet wsX8_turn := goodIn_r _ [4, 5, 6, 3, 7, 8, 9, 10] (by decide +kernel) (by decide +kernel)
set_option maxRecDepth 20000 in
theorem gX8_meet_X8_turn : GoodIn wsX8_meet (va_wsS RX8 109 yX8_turn wsX8_turn) := goodIn_app (goodIn_of _ (by decide +kernel)) ggX8_meet_X8_turn
set_option maxRecDepth 20000 in
theorem ggX8_meet_X8_isOn : GoodIn wsX8_meet wsX8_isOn := goodIn_r _ [13, 1, 2, 3, 4, 5, 6, 7, 8, 9, 10, 14, 15, 16, 17, 18, 19] (by decide +kernel) (by decide +kernel)
set_option maxRecDepth 20000 in
theorem gX8_meet_X8_isOn : GoodIn wsX8_meet (va_wsS RX8 116 yX8_isOn wsX8_isOn) := goodIn_app (goodIn_of _ (by decide +kernel)) ggX8_meet_X8_isOn
set_option maxRecDepth 20000 in
theorem ggX8_isHidden_X8_placeOf : GoodIn wsX8_isHidden wsX8_placeOf := goodIn_r _ [9, 10, 11, 12, 13, 35, 36, 37, 38, 39, 40, 41, 42, 43, 44, 45, 46, 47, 48, 49, 50, 51, 52, 53, 54, 55, 56, 57, 58, 59, 60] (by decide +kernel) (by decide +kernel)
set_option maxRecDepth 20000 in
theorem gX8_isHidden_X8_placeOf : GoodIn wsX8_isHidden (wsV RX8 98 RX8 yX8_placeOf wsX8_placeOf) := goodIn_app (goodIn_of _ (by decide +kernel)) ggX8_isHidden_X8_placeOf
set_option maxRecDepth 20000 in
theorem ggX8_isHidden_X8_meet : GoodIn wsX8_isHidden wsX8_meet := goodIn_r _ [16, 17, 18, 8, 19, 20, 21, 22, 23, 24, 25, 26, 27, 28, 29, 30, 31, 32, 33, 34] (by decide +kernel) (by decide +kernel)
set_option maxRecDepth 20000 in
theorem gX8_isHidden_X8_meet : GoodIn wsX8_isHidden (va_wsS RX8 119 yX8_meet wsX8_meet) := goodIn_app (goodIn_of _ (by decide +kernel)) ggX8_isHidden_X8_meet
set_option maxRecDepth 20000 in
theorem ggX8_isHidden_X8_isOn : GoodIn wsX8_isHidden wsX8_isOn := goodIn_r _ [28, 17, 18, 8, 19, 20, 21, 22, 23, 24, 25, 29, 30, 31, 32, 33, 34] (by decide +kernel) (by decide +kernel)
set_option maxRecDepth 20000 in
theorem gX8_isHidden_X8_isOn : GoodIn wsX8_isHidden (va_wsS RX8 116 yX8_isOn wsX8_isOn) := goodIn_app (goodIn_of _ (by decide +kernel)) ggX8_isHidden_X8_isOn
set_option maxRecDepth 20000 in
theorem ggX8_hidden_X8_isPerson : GoodIn wsX8_hidden wsX8_isPerson := goodIn_r _ [5, 6, 7, 8, 4, 9, 49, 50, 51, 52, 53, 54, 55, 56, 57, 58, 59, 60, 61, 62, 63, 64, 65, 66, 67, 68, 69, 70, 71, 72, 73, 74] (by decide +kernel) (by decide +kernel)
set_option maxRecDepth 20000 in
theorem gX8_hidden_X8_isPerson : GoodIn wsX8_hidden (wsV RX8 89 RX8 yX8_isPerson wsX8_isPerson) := goodIn_app (goodIn_of _ (by decide +kernel)) ggX8_hidden_X8_isPerson
set_option maxRecDepth 20000 in
theorem ggX8_hidden_X8_isTick : GoodIn wsX8_hidden wsX8_isTick := goodIn_r _ [12, 7, 8, 4, 9] (by decide +kernel) (by decide +kernel)
set_option maxRecDepth 20000 in
theorem gX8_hidden_X8_isTick : GoodIn wsX8_hidden (va_wsS RX8 95 yX8_isTick wsX8_isTick) := goodIn_app (goodIn_of _ (by decide +kernel)) ggX8_hidden_X8_isTick
set_option maxRecDepth 20000 in
theorem ggX8_hidden_X8_isPlace : GoodIn wsX8_hidden wsX8_isPlace := goodIn_r _ [15] (by decide +kernel) (by decide +kernel)
set_option maxRecDepth 20000 in
theorem gX8_hidden_X8_isPlace : GoodIn wsX8_hidden (va_wsS RX8 85 yX8_isPlace wsX8_isPlace) := goodIn_app (goodIn_of _ (by decide +kernel)) ggX8_hidden_X8_isPlace
set_option maxRecDepth 20000 in
theorem ggX8_hidden_X8_isHidden : GoodIn wsX8_hidden wsX8_isHidden := goodIn_r _ [19, 20, 21, 22, 6, 23, 24, 25, 4, 26, 27, 28, 29, 30, 31, 32, 33, 34, 35, 36, 37, 38, 39, 40, 41, 42, 43, 44, 45, 46, 47, 48, 7, 8, 9, 49, 50, 51, 52, 53, 54, 55, 56, 57, 58, 59, 60, 61, 62, 63, 64, 65, 66, 67, 68, 69, 70, 71, 72, 73, 74] (by decide +kernel) (by decide +kernel)
set_option maxRecDepth 20000 in
theorem gX8_hidden_X8_isHidden : GoodIn wsX8_hidden (wsV RX8 123 RX8 yX8_isHidden wsX8_isHidden) := goodIn_app (goodIn_of _ (by decide +kernel)) ggX8_hidden_X8_isHidden
set_option maxRecDepth 20000 in
theorem ggX8_isBefore_X8_placeOf : GoodIn wsX8_isBefore wsX8_placeOf := goodIn_r _ [6, 7, 8, 9, 10, 17, 18, 19, 20, 21, 22, 23, 24, 25, 26, 27, 28, 29, 30, 31, 32, 33, 34, 35, 36, 37, 38, 39, 40, 41, 42] (by decide +kernel) (by decide +kernel)
set_option maxRecDepth 20000 in
theorem gX8_isBefore_X8_placeOf : GoodIn wsX8_isBefore (wsV RX8 98 RX8 yX8_placeOf wsX8_placeOf) := goodIn_app (goodIn_of _ (by decide +kernel)) ggX8_isBefore_X8_placeOf
set_option maxRecDepth 20000 in
theorem ggX8_isBefore_X8_x : GoodIn wsX8_isBefore wsX8_x := goodIn_r _ [13] (by decide +kernel) (by decide +kernel)
set_option maxRecDepth 20000 in
theorem gX8_isBefore_X8_x : GoodIn wsX8_isBefore (va_wsS RX8 102 yX8_x wsX8_x) := goodIn_app (goodIn_of _ (by decide +kernel)) ggX8_isBefore_X8_x
set_option maxRecDepth 20000 in
theorem ggX8_isBefore_X8_y : GoodIn wsX8_isBefore wsX8_y := goodIn_r _ [16] (by decide +kernel) (by decide +kernel)
set_option maxRecDepth 20000 in
theorem gX8_isBefore_X8_y : GoodIn wsX8_isBefore (va_wsS RX8 106 yX8_y wsX8_y) := goodIn_app (goodIn_of _ (by decide +kernel)) ggX8_isBefore_X8_y
set_option maxRecDepth 20000 in
theorem ggX8_sees_X8_isCamera : GoodIn wsX8_sees wsX8_isCamera := goodIn_r _ [6, 7, 8, 9, 5, 10, 56, 57, 58, 59, 60, 61, 62, 63, 64, 65, 66, 67, 68, 69, 70, 71, 72, 73, 74, 75, 76, 77, 78, 79, 80, 81] (by decide +kernel) (by decide +kernel)
set_option maxRecDepth 20000 in
theorem gX8_sees_X8_isCamera : GoodIn wsX8_sees (wsV RX8 126 RX8 yX8_isCamera wsX8_isCamera) := goodIn_app (goodIn_of _ (by decide +kernel)) ggX8_sees_X8_isCamera
set_option maxRecDepth 20000 in
theorem ggX8_sees_X8_isPerson : GoodIn wsX8_sees wsX8_isPerson := goodIn_r _ [14, 15, 8, 9, 5, 10, 56, 57, 58, 59, 60, 61, 62, 63, 64, 65, 66, 67, 68, 69, 70, 71, 72, 73, 74, 75, 76, 77, 78, 79, 80, 81] (by decide +kernel) (by decide +kernel)
set_option maxRecDepth 20000 in
theorem gX8_sees_X8_isPerson : GoodIn wsX8_sees (wsV RX8 89 RX8 yX8_isPerson wsX8_isPerson) := goodIn_app (goodIn_of _ (by decide +kernel)) ggX8_sees_X8_isPerson
set_option maxRecDepth 20000 in
theorem ggX8_sees_X8_isTick : GoodIn wsX8_sees wsX8_isTick := goodIn_r _ [18, 8, 9, 5, 10] (by decide +kernel) (by decide +kernel)
set_option maxRecDepth 20000 in
theorem gX8_sees_X8_isTick : GoodIn wsX8_sees (va_wsS RX8 95 yX8_isTick wsX8_isTick) := goodIn_app (goodIn_of _ (by decide +kernel)) ggX8_sees_X8_isTick
set_option maxRecDepth 20000 in
theorem ggX8_sees_X8_isHidden : GoodIn wsX8_sees wsX8_isHidden := goodIn_r _ [22, 23, 24, 25, 15, 26, 27, 28, 5, 29, 30, 31, 32, 33, 34, 35, 36, 37, 38, 39, 40, 41, 42, 43, 44, 45, 46, 47, 48, 49, 50, 51, 8, 9, 10, 56, 57, 58, 59, 60, 61, 62, 63, 64, 65, 66, 67, 68, 69, 70, 71, 72, 73, 74, 75, 76, 77, 78, 79, 80, 81] (by decide +kernel) (by decide +kernel)
set_option maxRecDepth 20000 in
theorem gX8_sees_X8_isHidden : GoodIn wsX8_sees (wsV RX8 123 RX8 yX8_isHidden wsX8_isHidden) := goodIn_app (goodIn_of _ (by decide +kernel)) ggX8_sees_X8_isHidden
set_option maxRecDepth 20000 in
theorem ggX8_sees_X8_isBefore : GoodIn wsX8_sees wsX8_isBefore := goodIn_r _ [55, 1, 26, 27, 28, 5, 29, 30, 31, 32, 33, 40, 41, 42, 43, 44, 45, 56, 57, 58, 59, 60, 61, 62, 63, 64, 65, 66, 67, 68, 69, 70, 71, 72, 73, 74, 75, 76, 77, 78, 79, 80, 81] (by decide +kernel) (by decide +kernel)
set_option maxRecDepth 20000 in
theorem gX8_sees_X8_isBefore : GoodIn wsX8_sees (wsV RX8 129 RX8 yX8_isBefore wsX8_isBefore) := goodIn_app (goodIn_of _ (by decide +kernel)) ggX8_sees_X8_isBefore
set_option maxRecDepth 20000 in
theorem ggX8_sizeOf_X8_placeOf : GoodIn wsX8_sizeOf wsX8_placeOf := goodIn_r _ [6, 7, 8, 9, 10, 17, 18, 19, 20, 21, 22, 23, 24, 25, 26, 27, 28, 29, 30, 31, 32, 33, 34, 35, 36, 37, 38, 39, 40, 41, 42] (by decide +kernel) (by decide +kernel)
set_option maxRecDepth 20000 in
theorem gX8_sizeOf_X8_placeOf : GoodIn wsX8_sizeOf (wsV RX8 98 RX8 yX8_placeOf wsX8_placeOf) := goodIn_app (goodIn_of _ (by decide +kernel)) ggX8_sizeOf_X8_placeOf
set_option maxRecDepth 20000 in
theorem ggX8_sizeOf_X8_x : GoodIn wsX8_sizeOf wsX8_x := goodIn_r _ [13] (by decide +kernel) (by decide +kernel)
set_option maxRecDepth 20000 in
theorem gX8_sizeOf_X8_x : GoodIn wsX8_sizeOf (va_wsS RX8 102 yX8_x wsX8_x) := goodIn_app (goodIn_of _ (by decide +kernel)) ggX8_sizeOf_X8_x
set_option maxRecDepth 20000 in
theorem ggX8_sizeOf_X8_y : GoodIn wsX8_sizeOf wsX8_y := goodIn_r _ [16] (by decide +kernel) (by decide +kernel)
set_option maxRecDepth 20000 in
theorem gX8_sizeOf_X8_y : GoodIn wsX8_sizeOf (va_wsS RX8 106 yX8_y wsX8_y) := goodIn_app (goodIn_of _ (by decide +kernel)) ggX8_sizeOf_X8_y
set_option maxRecDepth 20000 in
theorem ggX8_size_X8_isCamera : GoodIn wsX8_size wsX8_isCamera := goodIn_r _ [5, 6, 7, 8, 4, 9, 37, 38, 39, 40, 41, 42, 43, 44, 45, 46, 47, 48, 49, 50, 51, 52, 53, 54, 55, 56, 57, 58, 59, 60, 61, 62] (by decide +kernel) (by decide +kernel)
set_option maxRecDepth 20000 in
theorem gX8_size_X8_isCamera : GoodIn wsX8_size (wsV RX8 126 RX8 yX8_isCamera wsX8_isCamera) := goodIn_app (goodIn_of _ (by decide +kernel)) ggX8_size_X8_isCamera
set_option maxRecDepth 20000 in
theorem ggX8_size_X8_isPerson : GoodIn wsX8_size wsX8_isPerson := goodIn_r _ [13, 14, 7, 8, 4, 9, 37, 38, 39, 40, 41, 42, 43, 44, 45, 46, 47, 48, 49, 50, 51, 52, 53, 54, 55, 56, 57, 58, 59, 60, 61, 62] (by decide +kernel) (by decide +kernel)
set_option maxRecDepth 20000 in
theorem gX8_size_X8_isPerson : GoodIn wsX8_size (wsV RX8 89 RX8 yX8_isPerson wsX8_isPerson) := goodIn_app (goodIn_of _ (by decide +kernel)) ggX8_size_X8_isPerson
set_option maxRecDepth 20000 in
theorem ggX8_size_X8_isTick : GoodIn wsX8_size wsX8_isTick := goodIn_r _ [17, 7, 8, 4, 9] (by decide +kernel) (by decide +kernel)
set_option maxRecDepth 20000 in
theorem gX8_size_X8_isTick : GoodIn wsX8_size (va_wsS RX8 95 yX8_isTick wsX8_isTick) := goodIn_app (goodIn_of _ (by decide +kernel)) ggX8_size_X8_isTick
set_option maxRecDepth 20000 in
theorem ggX8_size_X8_sizeOf : GoodIn wsX8_size wsX8_sizeOf := goodIn_r _ [21, 22, 23, 24, 25, 4, 26, 27, 28, 29, 30, 31, 32, 33, 34, 35, 36, 37, 38, 39, 40, 41, 42, 43, 44, 45, 46, 47, 48, 49, 50, 51, 52, 53, 54, 55, 56, 57, 58, 59, 60, 61, 62] (by decide +kernel) (by decide +kernel)
set_option maxRecDepth 20000 in
theorem gX8_size_X8_sizeOf : GoodIn wsX8_size (wsV RX8 132 RX8 yX8_sizeOf wsX8_sizeOf) := goodIn_app (goodIn_of _ (by decide +kernel)) ggX8_size_X8_sizeOf
set_option maxRecDepth 20000 in
theorem ggX8_views_X8_isPerson : GoodIn wsX8_views wsX8_isPerson := goodIn_r _ [5, 6, 7, 8, 4, 9, 46, 47, 48, 49, 50, 51, 52, 53, 54, 55, 56, 57, 58, 59, 60, 61, 62, 63, 64, 65, 66, 67, 68, 69, 70, 71] (by decide +kernel) (by decide +kernel)
set_option maxRecDepth 20000 in
theorem gX8_views_X8_isPerson : GoodIn wsX8_views (wsV RX8 89 RX8 yX8_isPerson wsX8_isPerson) := goodIn_app (goodIn_of _ (by decide +kernel)) ggX8_views_X8_isPerson
set_option maxRecDepth 20000 in
theorem ggX8_views_X8_isTick : GoodIn wsX8_views wsX8_isTick := goodIn_r _ [12, 7, 8, 4, 9] (by decide +kernel) (by decide +kernel)
set_option maxRecDepth 20000 in
theorem gX8_views_X8_isTick : GoodIn wsX8_views (va_wsS RX8 95 yX8_isTick wsX8_isTick) := goodIn_app (goodIn_of _ (by decide +kernel)) ggX8_views_X8_isTick
set_option maxRecDepth 20000 in
theorem ggX8_views_X8_isHidden : GoodIn wsX8_views wsX8_isHidden := goodIn_r _ [16, 17, 18, 19, 6, 20, 21, 22, 4, 23, 24, 25, 26, 27, 28, 29, 30, 31, 32, 33, 34, 35, 36, 37, 38, 39, 40, 41, 42, 43, 44, 45, 7, 8, 9, 46, 47, 48, 49, 50, 51, 52, 53, 54, 55, 56, 57, 58, 59, 60, 61, 62, 63, 64, 65, 66, 67, 68, 69, 70, 71] (by decide +kernel) (by decide +kernel)
set_option maxRecDepth 20000 in
theorem gX8_views_X8_isHidden : GoodIn wsX8_views (wsV RX8 123 RX8 yX8_isHidden wsX8_isHidden) := goodIn_app (goodIn_of _ (by decide +kernel)) ggX8_views_X8_isHidden
set_option maxRecDepth 20000 in
theorem ggX8_fails_X8_isHidden : GoodIn wsX8_fails wsX8_isHidden := goodIn_r _ [12, 13, 14, 15, 2, 16, 17, 18, 11, 19, 20, 21, 22, 23, 24, 25, 26, 27, 28, 29, 30, 31, 32, 33, 34, 35, 36, 37, 38, 39, 40, 41, 42, 43, 44, 53, 54, 55, 56, 57, 58, 59, 60, 61, 62, 63, 64, 65, 66, 67, 68, 69, 70, 71, 72, 73, 74, 75, 76, 77, 78] (by decide +kernel) (by decide +kernel)
set_option maxRecDepth 20000 in
theorem gX8_fails_X8_isHidden : GoodIn wsX8_fails (wsV RX8 123 RX8 yX8_isHidden wsX8_isHidden) := goodIn_app (goodIn_of _ (by decide +kernel)) ggX8_fails_X8_isHidden
set_option maxRecDepth 20000 in
theorem ggX8_fails_X8_isBefore : GoodIn wsX8_fails wsX8_isBefore := goodIn_r _ [48, 4, 16, 17, 18, 11, 19, 20, 21, 22, 23, 30, 31, 32, 33, 34, 35, 53, 54, 55, 56, 57, 58, 59, 60, 61, 62, 63, 64, 65, 66, 67, 68, 69, 70, 71, 72, 73, 74, 75, 76, 77, 78] (by decide +kernel) (by decide +kernel)
set_option maxRecDepth 20000 in
theorem gX8_fails_X8_isBefore : GoodIn wsX8_fails (wsV RX8 129 RX8 yX8_isBefore wsX8_isBefore) := goodIn_app (goodIn_of _ (by decide +kernel)) ggX8_fails_X8_isBefore
set_option maxRecDepth 20000 in
theorem ggX8_fails_X8_sizeOf : GoodIn wsX8_fails wsX8_sizeOf := goodIn_r _ [52, 4, 16, 17, 18, 11, 19, 20, 21, 22, 23, 30, 31, 32, 33, 34, 35, 53, 54, 55, 56, 57, 58, 59, 60, 61, 62, 63, 64, 65, 66, 67, 68, 69, 70, 71, 72, 73, 74, 75, 76, 77, 78] (by decide +kernel) (by decide +kernel)
set_option maxRecDepth 20000 in
theorem gX8_fails_X8_sizeOf : GoodIn wsX8_fails (wsV RX8 132 RX8 yX8_sizeOf wsX8_sizeOf) := goodIn_app (goodIn_of _ (by decide +kernel)) ggX8_fails_X8_sizeOf
set_option maxRecDepth 20000 in
theorem ggX8_fails_X8_placeOf : GoodIn wsX8_fails wsX8_placeOf := goodIn_r _ [19, 20, 21, 22, 23, 53, 54, 55, 56, 57, 58, 59, 60, 61, 62, 63, 64, 65, 66, 67, 68, 69, 70, 71, 72, 73, 74, 75, 76, 77, 78] (by decide +kernel) (by decide +kernel)
set_option maxRecDepth 20000 in
theorem gX8_fails_X8_placeOf : GoodIn wsX8_fails (wsV RX8 98 RX8 yX8_placeOf wsX8_placeOf) := goodIn_app (goodIn_of _ (by decide +kernel)) ggX8_fails_X8_placeOf
set_option maxRecDepth 20000 in
theorem ggX8_fails_X8_turn : GoodIn wsX8_fails wsX8_turn := goodIn_r _ [29, 30, 31, 11, 32, 33, 34, 35] (by decide +kernel) (by decide +kernel)
set_option maxRecDepth 20000 in
theorem gX8_fails_X8_turn : GoodIn wsX8_fails (va_wsS RX8 109 yX8_turn wsX8_turn) := goodIn_app (goodIn_of _ (by decide +kernel)) ggX8_fails_X8_turn
set_option maxRecDepth 20000 in
theorem ggX8_whyNot_X8_fails : GoodIn wsX8_whyNot wsX8_fails := goodIn_r _ [7, 8, 9, 10, 11, 12, 13, 1, 14, 15, 16, 6, 17, 18, 19, 20, 21, 22, 23, 24, 25, 26, 27, 28, 29, 30, 31, 32, 33, 34, 35, 36, 37, 38, 39, 40, 41, 42, 43, 44, 45, 46, 47, 48, 49, 50, 51, 52, 53, 54, 55, 56, 57, 58, 59, 60, 61, 62, 63, 64, 65, 66, 67, 68, 69, 70, 71, 72, 73, 74, 75, 76, 77, 78, 79, 80, 81, 82, 83] (by decide +kernel) (by decide +kernel)
set_option maxRecDepth 20000 in
theorem gX8_whyNot_X8_fails : GoodIn wsX8_whyNot (wsV RX8 135 RX8 yX8_fails wsX8_fails) := goodIn_app (goodIn_of _ (by decide +kernel)) ggX8_whyNot_X8_fails
set_option maxRecDepth 20000 in
theorem ggX8_gives_X8_isCamera : GoodIn wsX8_gives wsX8_isCamera := goodIn_r _ [5, 6, 7, 8, 4, 9, 72, 73, 74, 75, 76, 77, 78, 79, 80, 81, 82, 83, 84, 85, 86, 87, 88, 89, 90, 91, 92, 93, 94, 95, 96, 97] (by decide +kernel) (by decide +kernel)
set_option maxRecDepth 20000 in
theorem gX8_gives_X8_isCamera : GoodIn wsX8_gives (wsV RX8 126 RX8 yX8_isCamera wsX8_isCamera) := goodIn_app (goodIn_of _ (by decide +kernel)) ggX8_gives_X8_isCamera
set_option maxRecDepth 20000 in
theorem ggX8_gives_X8_isBoard : GoodIn wsX8_gives wsX8_isBoard := goodIn_r _ [13, 14, 7, 8, 4, 9, 72, 73, 74, 75, 76, 77, 78, 79, 80, 81, 82, 83, 84, 85, 86, 87, 88, 89, 90, 91, 92, 93, 94, 95, 96, 97] (by decide +kernel) (by decide +kernel)
set_option maxRecDepth 20000 in
theorem gX8_gives_X8_isBoard : GoodIn wsX8_gives (wsV RX8 138 RX8 yX8_isBoard wsX8_isBoard) := goodIn_app (goodIn_of _ (by decide +kernel)) ggX8_gives_X8_isBoard
set_option maxRecDepth 20000 in
theorem ggX8_gives_X8_whyNot : GoodIn wsX8_gives wsX8_whyNot := goodIn_r _ [18, 19, 20, 21, 22, 23, 4, 24, 25, 26, 27, 28, 29, 30, 31, 32, 33, 34, 35, 36, 37, 38, 39, 40, 41, 42, 43, 44, 45, 46, 47, 48, 49, 50, 51, 52, 53, 54, 55, 56, 57, 58, 59, 60, 61, 62, 63, 7, 8, 9, 64, 65, 66, 67, 68, 69, 70, 71, 72, 73, 74, 75, 76, 77, 78, 79, 80, 81, 82, 83, 84, 85, 86, 87, 88, 89, 90, 91, 92, 93, 94, 95, 96, 97] (by decide +kernel) (by decide +kernel)
set_option maxRecDepth 20000 in
theorem gX8_gives_X8_whyNot : GoodIn wsX8_gives (wsV RX8 141 RX8 yX8_whyNot wsX8_whyNot) := goodIn_app (goodIn_of _ (by decide +kernel)) ggX8_gives_X8_whyNot
set_option maxRecDepth 20000 in
theorem ggX8_why_X8_isCamera : GoodIn wsX8_why wsX8_isCamera := goodIn_r _ [5, 6, 7, 8, 4, 9, 72, 73, 74, 75, 76, 77, 78, 79, 80, 81, 82, 83, 84, 85, 86, 87, 88, 89, 90, 91, 92, 93, 94, 95, 96, 97] (by decide +kernel) (by decide +kernel)
set_option maxRecDepth 20000 in
theorem gX8_why_X8_isCamera : GoodIn wsX8_why (wsV RX8 126 RX8 yX8_isCamera wsX8_isCamera) := goodIn_app (goodIn_of _ (by decide +kernel)) ggX8_why_X8_isCamera
set_option maxRecDepth 20000 in
theorem ggX8_why_X8_isBoard : GoodIn wsX8_why wsX8_isBoard := goodIn_r _ [13, 14, 7, 8, 4, 9, 72, 73, 74, 75, 76, 77, 78, 79, 80, 81, 82, 83, 84, 85, 86, 87, 88, 89, 90, 91, 92, 93, 94, 95, 96, 97] (by decide +kernel) (by decide +kernel)
set_option maxRecDepth 20000 in
theorem gX8_why_X8_isBoard : GoodIn wsX8_why (wsV RX8 138 RX8 yX8_isBoard wsX8_isBoard) := goodIn_app (goodIn_of _ (by decide +kernel)) ggX8_why_X8_isBoard
set_option maxRecDepth 20000 in
theorem ggX8_why_X8_whyNot : GoodIn wsX8_why wsX8_whyNot := goodIn_r _ [18, 19, 20, 21, 22, 23, 4, 24, 25, 26, 27, 28, 29, 30, 31, 32, 33, 34, 35, 36, 37, 38, 39, 40, 41, 42, 43, 44, 45, 46, 47, 48, 49, 50, 51, 52, 53, 54, 55, 56, 57, 58, 59, 60, 61, 62, 63, 7, 8, 9, 64, 65, 66, 67, 68, 69, 70, 71, 72, 73, 74, 75, 76, 77, 78, 79, 80, 81, 82, 83, 84, 85, 86, 87, 88, 89, 90, 91, 92, 93, 94, 95, 96, 97] (by decide +kernel) (by decide +kernel)
set_option maxRecDepth 20000 in
theorem gX8_why_X8_whyNot : GoodIn wsX8_why (wsV RX8 141 RX8 yX8_whyNot wsX8_whyNot) := goodIn_app (goodIn_of _ (by decide +kernel)) ggX8_why_X8_whyNot
set_option maxRecDepth 20000 in
theorem ggX8_sideOf_X8_placeOf : GoodIn wsX8_sideOf wsX8_placeOf := goodIn_r _ [7, 8, 9, 10, 11, 21, 22, 23, 24, 25, 26, 27, 28, 29, 30, 31, 32, 33, 34, 35, 36, 37, 38, 39, 40, 41, 42, 43, 44, 45, 46] (by decide +kernel) (by decide +kernel)
set_option maxRecDepth 20000 in
theorem gX8_sideOf_X8_placeOf : GoodIn wsX8_sideOf (wsV RX8 98 RX8 yX8_placeOf wsX8_placeOf) := goodIn_app (goodIn_of _ (by decide +kernel)) ggX8_sideOf_X8_placeOf
set_option maxRecDepth 20000 in
theorem ggX8_sideOf_X8_turn : GoodIn wsX8_sideOf wsX8_turn := goodIn_r _ [14, 15, 16, 6, 17, 18, 19, 20] (by decide +kernel) (by decide +kernel)
set_option maxRecDepth 20000 in
theorem gX8_sideOf_X8_turn : GoodIn wsX8_sideOf (va_wsS RX8 109 yX8_turn wsX8_turn) := goodIn_app (goodIn_of _ (by decide +kernel)) ggX8_sideOf_X8_turn
set_option maxRecDepth 20000 in
theorem ggX8_side_X8_isCamera : GoodIn wsX8_side wsX8_isCamera := goodIn_r _ [7, 8, 9, 10, 6, 11, 45, 46, 47, 48, 49, 50, 51, 52, 53, 54, 55, 56, 57, 58, 59, 60, 61, 62, 63, 64, 65, 66, 67, 68, 69, 70] (by decide +kernel) (by decide +kernel)
set_option maxRecDepth 20000 in
theorem gX8_side_X8_isCamera : GoodIn wsX8_side (wsV RX8 126 RX8 yX8_isCamera wsX8_isCamera) := goodIn_app (goodIn_of _ (by decide +kernel)) ggX8_side_X8_isCamera
set_option maxRecDepth 20000 in
theorem ggX8_side_X8_isBoard : GoodIn wsX8_side wsX8_isBoard := goodIn_r _ [15, 16, 9, 10, 6, 11, 45, 46, 47, 48, 49, 50, 51, 52, 53, 54, 55, 56, 57, 58, 59, 60, 61, 62, 63, 64, 65, 66, 67, 68, 69, 70] (by decide +kernel) (by decide +kernel)
set_option maxRecDepth 20000 in
theorem gX8_side_X8_isBoard : GoodIn wsX8_side (wsV RX8 138 RX8 yX8_isBoard wsX8_isBoard) := goodIn_app (goodIn_of _ (by decide +kernel)) ggX8_side_X8_isBoard
set_option maxRecDepth 20000 in
theorem ggX8_side_X8_other : GoodIn wsX8_side wsX8_other := goodIn_r _ [20, 2, 21, 45, 46, 47, 48, 49, 50, 51, 52, 53, 54, 55, 56, 57, 58, 59, 60, 61, 62, 63, 64, 65, 66, 67, 68, 69, 70] (by decide +kernel) (by decide +kernel)
set_option maxRecDepth 20000 in
theorem gX8_side_X8_other : GoodIn wsX8_side (wsV RX8 144 RX8 yX8_other wsX8_other) := goodIn_app (goodIn_of _ (by decide +kernel)) ggX8_side_X8_other
set_option maxRecDepth 20000 in
theorem ggX8_side_X8_sideOf : GoodIn wsX8_side wsX8_sideOf := goodIn_r _ [25, 26, 27, 28, 29, 30, 6, 31, 32, 33, 34, 35, 36, 37, 38, 39, 40, 41, 42, 43, 44, 45, 46, 47, 48, 49, 50, 51, 52, 53, 54, 55, 56, 57, 58, 59, 60, 61, 62, 63, 64, 65, 66, 67, 68, 69, 70] (by decide +kernel) (by decide +kernel)
set_option maxRecDepth 20000 in
theorem gX8_side_X8_sideOf : GoodIn wsX8_side (wsV RX8 147 RX8 yX8_sideOf wsX8_sideOf) := goodIn_app (goodIn_of _ (by decide +kernel)) ggX8_side_X8_sideOf
set_option maxRecDepth 20000 in
theorem ggX8_length_X8_isBoard : GoodIn wsX8_length wsX8_isBoard := goodIn_r _ [5, 6, 7, 8, 4, 9, 18, 19, 20, 21, 22, 23, 24, 25, 26, 27, 28, 29, 30, 31, 32, 33, 34, 35, 36, 37, 38, 39, 40, 41, 42, 43] (by decide +kernel) (by decide +kernel)
set_option maxRecDepth 20000 in
theorem gX8_length_X8_isBoard : GoodIn wsX8_length (wsV RX8 138 RX8 yX8_isBoard wsX8_isBoard) := goodIn_app (goodIn_of _ (by decide +kernel)) ggX8_length_X8_isBoard
set_option maxRecDepth 20000 in
theorem ggX8_length_X8_lengthOf : GoodIn wsX8_length wsX8_lengthOf := goodIn_r _ [13, 14, 15, 16, 17, 18, 19, 20, 21, 22, 23, 24, 25, 26, 27, 28, 29, 30, 31, 32, 33, 34, 35, 36, 37, 38, 39, 40, 41, 42, 43] (by decide +kernel) (by decide +kernel)
set_option maxRecDepth 20000 in
theorem gX8_length_X8_lengthOf : GoodIn wsX8_length (wsV RX8 151 RX8 yX8_lengthOf wsX8_lengthOf) := goodIn_app (goodIn_of _ (by decide +kernel)) ggX8_length_X8_lengthOf
set_option maxRecDepth 20000 in
theorem ggX8_crosses_X8_other : GoodIn wsX8_crosses wsX8_other := goodIn_r _ [6, 1, 7, 31, 32, 33, 34, 35, 36, 37, 38, 39, 40, 41, 42, 43, 44, 45, 46, 47, 48, 49, 50, 51, 52, 53, 54, 55, 56] (by decide +kernel) (by decide +kernel)
set_option maxRecDepth 20000 in
theorem gX8_crosses_X8_other : GoodIn wsX8_crosses (wsV RX8 144 RX8 yX8_other wsX8_other) := goodIn_app (goodIn_of _ (by decide +kernel)) ggX8_crosses_X8_other
set_option maxRecDepth 20000 in
theorem ggX8_crosses_X8_sideOf : GoodIn wsX8_crosses wsX8_sideOf := goodIn_r _ [11, 12, 13, 14, 15, 16, 5, 17, 18, 19, 20, 21, 22, 23, 24, 25, 26, 27, 28, 29, 30, 31, 32, 33, 34, 35, 36, 37, 38, 39, 40, 41, 42, 43, 44, 45, 46, 47, 48, 49, 50, 51, 52, 53, 54, 55, 56] (by decide +kernel) (by decide +kernel)
set_option maxRecDepth 20000 in
theorem gX8_crosses_X8_sideOf : GoodIn wsX8_crosses (wsV RX8 147 RX8 yX8_sideOf wsX8_sideOf) := goodIn_app (goodIn_of _ (by decide +kernel)) ggX8_crosses_X8_sideOf
set_option maxRecDepth 20000 in
theorem ggX8_goes_X8_twoAhead : GoodIn wsX8_goes wsX8_twoAhead := goodIn_r _ [8, 2, 42, 43, 44, 45, 46, 47, 48, 49, 50, 51, 52, 53, 54, 55, 56, 57, 58, 59, 60, 61, 62, 63, 64, 65, 66, 67] (by decide +kernel) (by decide +kernel)
set_option maxRecDepth 20000 in
theorem gX8_goes_X8_twoAhead : GoodIn wsX8_goes (wsV RX8 154 RX8 yX8_twoAhead wsX8_twoAhead) := goodIn_app (goodIn_of _ (by decide +kernel)) ggX8_goes_X8_twoAhead
set_option maxRecDepth 20000 in
theorem ggX8_goes_X8_crosses : GoodIn wsX8_goes wsX8_crosses := goodIn_r _ [12, 13, 14, 15, 16, 7, 17, 18, 19, 20, 21, 22, 23, 24, 25, 26, 27, 28, 29, 30, 31, 32, 33, 34, 35, 36, 37, 38, 39, 40, 41, 42, 43, 44, 45, 46, 47, 48, 49, 50, 51, 52, 53, 54, 55, 56, 57, 58, 59, 60, 61, 62, 63, 64, 65, 66, 67] (by decide +kernel) (by decide +kernel)
set_option maxRecDepth 20000 in
theorem gX8_goes_X8_crosses : GoodIn wsX8_goes (wsV RX8 157 RX8 yX8_crosses wsX8_crosses) := goodIn_app (goodIn_of _ (by decide +kernel)) ggX8_goes_X8_crosses
set_option maxRecDepth 20000 in
theorem ggX8_plans_X8_goes : GoodIn wsX8_plans wsX8_goes := goodIn_r _ [10, 11, 5, 2, 12, 13, 14, 9, 15, 16, 17, 18, 19, 20, 21, 22, 23, 24, 25, 26, 27, 28, 29, 30, 31, 32, 33, 34, 35, 36, 37, 38, 39, 40, 41, 42, 43, 44, 45, 46, 47, 48, 49, 50, 51, 52, 53, 54, 55, 56, 57, 58, 59, 60, 61, 62, 63, 64, 65, 66, 67, 68, 69, 70, 71, 72, 73, 74] (by decide +kernel) (by decide +kernel)
set_option maxRecDepth 20000 in
theorem gX8_plans_X8_goes : GoodIn wsX8_plans (wsV RX8 160 RX8 yX8_goes wsX8_goes) := goodIn_app (goodIn_of _ (by decide +kernel)) ggX8_plans_X8_goes
set_option maxRecDepth 20000 in
theorem ggX8_finds_X8_whyNot : GoodIn wsX8_finds wsX8_whyNot := goodIn_r _ [9, 10, 11, 12, 13, 14, 8, 15, 16, 17, 18, 19, 20, 21, 22, 23, 24, 25, 26, 27, 28, 29, 30, 31, 32, 33, 34, 35, 36, 37, 38, 39, 40, 41, 42, 43, 44, 45, 46, 47, 48, 49, 50, 51, 52, 53, 54, 55, 56, 57, 58, 59, 60, 61, 62, 63, 64, 65, 95, 96, 97, 98, 99, 100, 101, 102, 103, 104, 105, 106, 107, 108, 109, 110, 111, 112, 113, 114, 115, 116, 117, 118, 119, 120] (by decide +kernel) (by decide +kernel)
set_option maxRecDepth 20000 in
theorem gX8_finds_X8_whyNot : GoodIn wsX8_finds (wsV RX8 141 RX8 yX8_whyNot wsX8_whyNot) := goodIn_app (goodIn_of _ (by decide +kernel)) ggX8_finds_X8_whyNot
set_option maxRecDepth 20000 in
theorem ggX8_finds_X8_bits : GoodIn wsX8_finds wsX8_bits := goodIn_r _ [68] (by decide +kernel) (by decide +kernel)
set_option maxRecDepth 20000 in
theorem gX8_finds_X8_bits : GoodIn wsX8_finds (va_wsS RX8 163 yX8_bits wsX8_bits) := goodIn_app (goodIn_of _ (by decide +kernel)) ggX8_finds_X8_bits
set_option maxRecDepth 20000 in
theorem ggX8_finds_X8_plans : GoodIn wsX8_finds wsX8_plans := goodIn_r _ [72, 2, 73, 1, 74, 21, 75, 76, 77, 8, 78, 3, 79, 80, 81, 82, 83, 84, 85, 86, 16, 87, 88, 89, 90, 18, 91, 92, 93, 94, 10, 19, 29, 30, 31, 32, 33, 34, 35, 36, 40, 41, 42, 43, 44, 45, 46, 47, 48, 95, 96, 97, 98, 99, 100, 101, 102, 103, 104, 105, 106, 107, 108, 109, 110, 111, 112, 113, 114, 115, 116, 117, 118, 119, 120] (by decide +kernel) (by decide +kernel)
set_option maxRecDepth 20000 in
theorem gX8_finds_X8_plans : GoodIn wsX8_finds (wsV RX8 166 RX8 yX8_plans wsX8_plans) := goodIn_app (goodIn_of _ (by decide +kernel)) ggX8_finds_X8_plans
set_option maxRecDepth 20000 in
theorem ggX8_fewest_X8_finds : GoodIn wsX8_fewest wsX8_finds := goodIn_r _ [5, 6, 7, 8, 9, 10, 11, 12, 4, 13, 14, 15, 16, 17, 18, 19, 20, 21, 22, 23, 24, 25, 26, 27, 28, 29, 30, 31, 32, 33, 34, 35, 36, 37, 38, 39, 40, 41, 42, 43, 44, 45, 46, 47, 48, 49, 50, 51, 52, 53, 54, 55, 56, 57, 58, 59, 60, 61, 62, 63, 64, 65, 66, 67, 68, 69, 70, 71, 72, 73, 74, 75, 76, 77, 78, 79, 80, 81, 82, 83, 84, 85, 86, 87, 88, 89, 90, 91, 92, 93, 94, 95, 96, 97, 98, 99, 100, 101, 102, 103, 104, 105, 106, 107, 108, 109, 110, 111, 112, 113, 114, 115, 116, 117, 118, 119, 120, 121, 122, 123, 124] (by decide +kernel) (by decide +kernel)
set_option maxRecDepth 20000 in
theorem gX8_fewest_X8_finds : GoodIn wsX8_fewest (wsV RX8 172 RX8 yX8_finds wsX8_finds) := goodIn_app (goodIn_of _ (by decide +kernel)) ggX8_fewest_X8_finds
set_option maxRecDepth 20000 in
theorem ggX8_plan_X8_isBoard : GoodIn wsX8_plan wsX8_isBoard := goodIn_r _ [6, 7, 8, 9, 5, 10, 103, 104, 105, 106, 107, 108, 109, 110, 111, 112, 113, 114, 115, 116, 117, 118, 119, 120, 121, 122, 123, 124, 125, 126, 127, 128] (by decide +kernel) (by decide +kernel)
set_option maxRecDepth 20000 in
theorem gX8_plan_X8_isBoard : GoodIn wsX8_plan (wsV RX8 138 RX8 yX8_isBoard wsX8_isBoard) := goodIn_app (goodIn_of _ (by decide +kernel)) ggX8_plan_X8_isBoard
set_option maxRecDepth 20000 in
theorem ggX8_plan_X8_finds : GoodIn wsX8_plan wsX8_finds := goodIn_r _ [14, 15, 7, 16, 17, 18, 19, 20, 5, 21, 22, 23, 24, 25, 26, 27, 28, 29, 30, 31, 32, 33, 34, 35, 36, 37, 38, 39, 40, 41, 42, 43, 44, 45, 46, 47, 48, 49, 50, 51, 52, 53, 54, 55, 56, 57, 58, 59, 60, 61, 62, 63, 64, 65, 66, 8, 9, 10, 67, 68, 69, 70, 71, 72, 73, 74, 75, 76, 77, 78, 79, 80, 81, 82, 1, 83, 84, 85, 86, 87, 88, 89, 90, 91, 92, 93, 94, 95, 96, 97, 98, 99, 100, 101, 102, 103, 104, 105, 106, 107, 108, 109, 110, 111, 112, 113, 114, 115, 116, 117, 118, 119, 120, 121, 122, 123, 124, 125, 126, 127, 128] (by decide +kernel) (by decide +kernel)
set_option maxRecDepth 20000 in
theorem gX8_plan_X8_finds : GoodIn wsX8_plan (wsV RX8 172 RX8 yX8_finds wsX8_finds) := goodIn_app (goodIn_of _ (by decide +kernel)) ggX8_plan_X8_finds
set_option maxRecDepth 20000 in
theorem ggX8_swings_X8_finds : GoodIn wsX8_swings wsX8_finds := goodIn_r _ [8, 9, 1, 10, 11, 12, 13, 14, 7, 15, 16, 17, 18, 19, 20, 21, 22, 23, 24, 25, 26, 27, 28, 29, 30, 31, 32, 33, 34, 35, 36, 37, 38, 39, 40, 41, 42, 43, 44, 45, 46, 47, 48, 49, 50, 51, 52, 53, 54, 55, 56, 57, 58, 59, 60, 61, 62, 63, 64, 65, 66, 67, 68, 69, 70, 71, 72, 73, 74, 75, 76, 77, 78, 79, 3, 80, 81, 82, 83, 84, 85, 86, 87, 88, 89, 90, 91, 92, 93, 94, 95, 96, 97, 98, 99, 100, 101, 102, 103, 104, 105, 106, 107, 108, 109, 110, 111, 112, 113, 114, 115, 116, 117, 118, 119, 120, 121, 122, 123, 124, 125] (by decide +kernel) (by decide +kernel)
set_option maxRecDepth 20000 in
theorem gX8_swings_X8_finds : GoodIn wsX8_swings (wsV RX8 172 RX8 yX8_finds wsX8_finds) := goodIn_app (goodIn_of _ (by decide +kernel)) ggX8_swings_X8_finds
set_option maxRecDepth 20000 in
theorem ggX8_order_X8_finds : GoodIn wsX8_order wsX8_finds := goodIn_r _ [7, 8, 9, 10, 1, 11, 12, 13, 6, 14, 15, 16, 17, 18, 19, 20, 21, 22, 23, 24, 25, 26, 27, 28, 29, 30, 31, 32, 33, 34, 35, 36, 37, 38, 39, 40, 41, 42, 43, 44, 45, 46, 47, 48, 49, 50, 51, 52, 53, 54, 55, 56, 57, 58, 59, 60, 61, 62, 63, 64, 65, 66, 67, 68, 69, 70, 71, 72, 73, 74, 75, 76, 77, 78, 79, 80, 81, 82, 83, 84, 85, 86, 87, 88, 89, 90, 91, 92, 93, 94, 95, 96, 97, 98, 99, 104, 105, 106, 107, 108, 109, 110, 111, 112, 113, 114, 115, 116, 117, 118, 119, 120, 121, 122, 123, 124, 125, 126, 127, 128, 129] (by decide +kernel) (by decide +kernel)
set_option maxRecDepth 20000 in
theorem gX8_order_X8_finds : GoodIn wsX8_order (wsV RX8 172 RX8 yX8_finds wsX8_finds) := goodIn_app (goodIn_of _ (by decide +kernel)) ggX8_order_X8_finds
set_option maxRecDepth 20000 in
theorem ggX8_order_X8_in : GoodIn wsX8_order wsX8_in := goodIn_r _ [62] (by decide +kernel) (by decide +kernel)
set_option maxRecDepth 20000 in
theorem gX8_order_X8_in : GoodIn wsX8_order (va_wsS RX8 75 yX8_in wsX8_in) := goodIn_app (goodIn_of _ (by decide +kernel)) ggX8_order_X8_in
set_option maxRecDepth 20000 in
theorem ggX8_order_X8_changes : GoodIn wsX8_order wsX8_changes := goodIn_r _ [103, 8, 2, 104, 105, 106, 107, 108, 109, 110, 111, 112, 113, 114, 115, 116, 117, 118, 119, 120, 121, 122, 123, 124, 125, 126, 127, 128, 129] (by decide +kernel) (by decide +kernel)
set_option maxRecDepth 20000 in
theorem gX8_order_X8_changes : GoodIn wsX8_order (wsV RX8 176 RX8 yX8_changes wsX8_changes) := goodIn_app (goodIn_of _ (by decide +kernel)) ggX8_order_X8_changes
set_option maxRecDepth 20000 in
theorem ggX8_crossings_X8_whyNot : GoodIn wsX8_crossings wsX8_whyNot := goodIn_r _ [9, 10, 11, 12, 13, 14, 8, 15, 16, 17, 18, 19, 20, 4, 21, 22, 23, 24, 25, 26, 27, 28, 29, 30, 31, 32, 33, 34, 35, 36, 37, 38, 39, 40, 41, 42, 43, 44, 45, 46, 47, 48, 49, 50, 51, 52, 53, 54, 55, 56, 57, 58, 59, 60, 61, 62, 63, 64, 81, 82, 83, 84, 85, 86, 87, 88, 89, 90, 91, 92, 93, 94, 95, 96, 97, 98, 99, 100, 101, 102, 103, 104, 105, 106] (by decide +kernel) (by decide +kernel)
set_option maxRecDepth 20000 in
theorem gX8_crossings_X8_whyNot : GoodIn wsX8_crossings (wsV RX8 141 RX8 yX8_whyNot wsX8_whyNot) := goodIn_app (goodIn_of _ (by decide +kernel)) ggX8_crossings_X8_whyNot
set_option maxRecDepth 20000 in
theorem ggX8_crossings_X8_twoAhead : GoodIn wsX8_crossings wsX8_twoAhead := goodIn_r _ [68, 4, 81, 82, 83, 84, 85, 86, 87, 88, 89, 90, 91, 92, 93, 94, 95, 96, 97, 98, 99, 100, 101, 102, 103, 104, 105, 106] (by decide +kernel) (by decide +kernel)
set_option maxRecDepth 20000 in
theorem gX8_crossings_X8_twoAhead : GoodIn wsX8_crossings (wsV RX8 154 RX8 yX8_twoAhead wsX8_twoAhead) := goodIn_app (goodIn_of _ (by decide +kernel)) ggX8_crossings_X8_twoAhead
set_option maxRecDepth 20000 in
theorem ggX8_crossings_X8_crosses : GoodIn wsX8_crossings wsX8_crosses := goodIn_r _ [72, 16, 73, 74, 75, 8, 76, 18, 77, 78, 79, 80, 10, 19, 28, 29, 30, 31, 32, 33, 34, 35, 39, 40, 41, 42, 43, 44, 45, 46, 47, 81, 82, 83, 84, 85, 86, 87, 88, 89, 90, 91, 92, 93, 94, 95, 96, 97, 98, 99, 100, 101, 102, 103, 104, 105, 106] (by decide +kernel) (by decide +kernel)
set_option maxRecDepth 20000 in
theorem gX8_crossings_X8_crosses : GoodIn wsX8_crossings (wsV RX8 157 RX8 yX8_crosses wsX8_crosses) := goodIn_app (goodIn_of _ (by decide +kernel)) ggX8_crossings_X8_crosses
set_option maxRecDepth 20000 in
theorem ggX8_list_X8_isCamera : GoodIn wsX8_list wsX8_isCamera := goodIn_r _ [7, 8, 9, 10, 6, 11, 12, 13, 14, 15, 16, 17, 18, 19, 20, 21, 22, 23, 24, 25, 26, 27, 28, 29, 30, 31, 32, 33, 34, 35, 36, 37] (by decide +kernel) (by decide +kernel)
set_option maxRecDepth 20000 in
theorem gX8_list_X8_isCamera : GoodIn wsX8_list (wsV RX8 126 RX8 yX8_isCamera wsX8_isCamera) := goodIn_app (goodIn_of _ (by decide +kernel)) ggX8_list_X8_isCamera
set_option maxRecDepth 20000 in
theorem ggX8_all_X8_lengthOf : GoodIn wsX8_all wsX8_lengthOf := goodIn_r _ [6, 7, 8, 9, 10, 11, 12, 13, 14, 15, 16, 17, 18, 19, 20, 21, 22, 23, 24, 25, 26, 27, 28, 29, 30, 31, 32, 33, 34, 35, 36] (by decide +kernel) (by decide +kernel)
set_option maxRecDepth 20000 in
theorem gX8_all_X8_lengthOf : GoodIn wsX8_all (wsV RX8 151 RX8 yX8_lengthOf wsX8_lengthOf) := goodIn_app (goodIn_of _ (by decide +kernel)) ggX8_all_X8_lengthOf
set_option maxRecDepth 20000 in
theorem ggX8_run_X8_all : GoodIn wsX8_run wsX8_all := goodIn_r _ [5, 6, 7, 8, 9, 4, 10, 11, 12, 13, 14, 15, 16, 17, 18, 19, 20, 21, 22, 23, 24, 25, 26, 27, 28, 29, 30, 31, 32, 33, 34, 35, 36, 37, 38, 39, 40] (by decide +kernel) (by decide +kernel)
set_option maxRecDepth 20000 in
theorem gX8_run_X8_all : GoodIn wsX8_run (wsV RX8 182 RX8 yX8_all wsX8_all) := goodIn_app (goodIn_of _ (by decide +kernel)) ggX8_run_X8_all
set_option maxRecDepth 20000 in
theorem ggX8_frame_X8_all : GoodIn wsX8_frame wsX8_all := goodIn_r _ [5, 6, 7, 8, 9, 4, 10, 11, 12, 13, 14, 18, 19, 20, 21, 22, 23, 24, 25, 26, 27, 28, 29, 30, 31, 32, 33, 34, 35, 36, 37, 38, 39, 40, 41, 42, 43] (by decide +kernel) (by decide +kernel)
set_option maxRecDepth 20000 in
theorem gX8_frame_X8_all : GoodIn wsX8_frame (wsV RX8 182 RX8 yX8_all wsX8_all) := goodIn_app (goodIn_of _ (by decide +kernel)) ggX8_frame_X8_all
set_option maxRecDepth 20000 in
theorem ggX8_frame_X8_in : GoodIn wsX8_frame wsX8_in := goodIn_r _ [17] (by decide +kernel) (by decide +kernel)
set_option maxRecDepth 20000 in
theorem gX8_frame_X8_in : GoodIn wsX8_frame (va_wsS RX8 75 yX8_in wsX8_in) := goodIn_app (goodIn_of _ (by decide +kernel)) ggX8_frame_X8_in
set_option maxRecDepth 20000 in
theorem ggX8_frame_X8_lengthOf : GoodIn wsX8_frame wsX8_lengthOf := goodIn_r _ [10, 11, 12, 13, 14, 18, 19, 20, 21, 22, 23, 24, 25, 26, 27, 28, 29, 30, 31, 32, 33, 34, 35, 36, 37, 38, 39, 40, 41, 42, 43] (by decide +kernel) (by decide +kernel)
set_option maxRecDepth 20000 in
theorem gX8_frame_X8_lengthOf : GoodIn wsX8_frame (wsV RX8 151 RX8 yX8_lengthOf wsX8_lengthOf) := goodIn_app (goodIn_of _ (by decide +kernel)) ggX8_frame_X8_lengthOf
