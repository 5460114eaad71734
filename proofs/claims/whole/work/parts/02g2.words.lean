set_option maxRecDepth 20000 in
theorem gX7_board_X7_isSpan : GoodIn wsX7_board (va_wsS RX7 100 yX7_isSpan wsX7_isSpan) := goodIn_app (goodIn_of _ (by decide +kernel)) ggX7_board_X7_isSpan
set_option maxRecDepth 20000 in
theorem ggX7_board_X3_forget : GoodIn wsX7_board wsX3_forget := goodIn_r _ [25, 26, 77, 78, 79, 80, 81, 82, 83, 84, 85, 86, 87] (by decide +kernel) (by decide +kernel)
set_option maxRecDepth 20000 in
theorem gX7_board_X3_forget : GoodIn wsX7_board (wsV RX7 60 RX3 yX3_forget wsX3_forget) := goodIn_app (goodIn_of _ (by decide +kernel)) ggX7_board_X3_forget
set_option maxRecDepth 20000 in
theorem ggX7_board_X5_add : GoodIn wsX7_board wsX5_add := goodIn_r _ [31, 32, 33, 34, 35, 36, 37, 38, 39, 40, 41, 42, 43, 44, 30, 45, 46, 47, 48, 49, 50, 51, 52, 53, 54, 55, 56, 57, 58, 59, 60, 68, 69, 70, 88, 89, 90, 91, 92, 93, 94, 95] (by decide +kernel) (by decide +kernel)
set_option maxRecDepth 20000 in
theorem gX7_board_X5_add : GoodIn wsX7_board (wsV RX7 106 RX5 yX5_add wsX5_add) := goodIn_app (goodIn_of _ (by decide +kernel)) ggX7_board_X5_add
set_option maxRecDepth 20000 in
theorem ggX7_drop_X3_forget : GoodIn wsX7_drop wsX3_forget := goodIn_r _ [8, 9, 20, 21, 22, 23, 24, 25, 26, 27, 28, 29, 30] (by decide +kernel) (by decide +kernel)
set_option maxRecDepth 20000 in
theorem gX7_drop_X3_forget : GoodIn wsX7_drop (wsV RX7 60 RX3 yX3_forget wsX3_forget) := goodIn_app (goodIn_of _ (by decide +kernel)) ggX7_drop_X3_forget
set_option maxRecDepth 20000 in
theorem ggX7_where_X7_isPerson : GoodIn wsX7_where wsX7_isPerson := goodIn_r _ [6, 1, 7, 17, 18, 19, 20, 21, 22, 23, 24, 25, 26, 27, 28, 29] (by decide +kernel) (by decide +kernel)
set_option maxRecDepth 20000 in
theorem gX7_where_X7_isPerson : GoodIn wsX7_where (wsV RX7 67 RX7 yX7_isPerson wsX7_isPerson) := goodIn_app (goodIn_of _ (by decide +kernel)) ggX7_where_X7_isPerson
set_option maxRecDepth 20000 in
theorem ggX7_where_X7_isTick : GoodIn wsX7_where wsX7_isTick := goodIn_r _ [10] (by decide +kernel) (by decide +kernel)
set_option maxRecDepth 20000 in
theorem gX7_where_X7_isTick : GoodIn wsX7_where (va_wsS RX7 70 yX7_isTick wsX7_isTick) := goodIn_app (goodIn_of _ (by decide +kernel)) ggX7_where_X7_isTick
set_option maxRecDepth 20000 in
theorem ggX7_where_X6_placeOf : GoodIn wsX7_where wsX6_placeOf := goodIn_r _ [15, 16, 24, 25, 26, 27, 28, 29] (by decide +kernel) (by decide +kernel)
set_option maxRecDepth 20000 in
theorem gX7_where_X6_placeOf : GoodIn wsX7_where (wsV RX7 112 RX6 yX6_placeOf wsX6_placeOf) := goodIn_app (goodIn_of _ (by decide +kernel)) ggX7_where_X6_placeOf
set_option maxRecDepth 20000 in
theorem ggX7_hidden_X7_isPerson : GoodIn wsX7_hidden wsX7_isPerson := goodIn_r _ [6, 1, 7, 41, 42, 43, 44, 45, 46, 47, 48, 49, 50, 51, 52, 53] (by decide +kernel) (by decide +kernel)
set_option maxRecDepth 20000 in
theorem gX7_hidden_X7_isPerson : GoodIn wsX7_hidden (wsV RX7 67 RX7 yX7_isPerson wsX7_isPerson) := goodIn_app (goodIn_of _ (by decide +kernel)) ggX7_hidden_X7_isPerson
set_option maxRecDepth 20000 in
theorem ggX7_hidden_X7_isTick : GoodIn wsX7_hidden wsX7_isTick := goodIn_r _ [10] (by decide +kernel) (by decide +kernel)
set_option maxRecDepth 20000 in
theorem gX7_hidden_X7_isTick : GoodIn wsX7_hidden (va_wsS RX7 70 yX7_isTick wsX7_isTick) := goodIn_app (goodIn_of _ (by decide +kernel)) ggX7_hidden_X7_isTick
set_option maxRecDepth 20000 in
theorem ggX7_hidden_X7_isPlace : GoodIn wsX7_hidden wsX7_isPlace := goodIn_r _ [13] (by decide +kernel) (by decide +kernel)
set_option maxRecDepth 20000 in
theorem gX7_hidden_X7_isPlace : GoodIn wsX7_hidden (va_wsS RX7 52 yX7_isPlace wsX7_isPlace) := goodIn_app (goodIn_of _ (by decide +kernel)) ggX7_hidden_X7_isPlace
set_option maxRecDepth 20000 in
theorem ggX7_hidden_X6_hides : GoodIn wsX7_hidden wsX6_hides := goodIn_r _ [18, 19, 20, 21, 22, 23, 24, 25, 17, 26, 27, 28, 29, 30, 31, 32, 33, 34, 35, 36, 37, 38, 39, 40, 48, 49, 50, 51, 52, 53] (by decide +kernel) (by decide +kernel)
set_option maxRecDepth 20000 in
theorem gX7_hidden_X6_hides : GoodIn wsX7_hidden (wsV RX7 115 RX6 yX6_hides wsX6_hides) := goodIn_app (goodIn_of _ (by decide +kernel)) ggX7_hidden_X6_hides
set_option maxRecDepth 20000 in
theorem ggX7_sees_X7_isCamera : GoodIn wsX7_sees wsX7_isCamera := goodIn_r _ [8, 1, 9, 49, 50, 51, 52, 53, 54, 55, 56, 57, 58] (by decide +kernel) (by decide +kernel)
set_option maxRecDepth 20000 in
theorem gX7_sees_X7_isCamera : GoodIn wsX7_sees (wsV RX7 119 RX7 yX7_isCamera wsX7_isCamera) := goodIn_app (goodIn_of _ (by decide +kernel)) ggX7_sees_X7_isCamera
set_option maxRecDepth 20000 in
theorem ggX7_sees_X7_isPerson : GoodIn wsX7_sees wsX7_isPerson := goodIn_r _ [13, 3, 14, 49, 50, 51, 52, 53, 54, 55, 59, 60, 61, 62, 63, 64] (by decide +kernel) (by decide +kernel)
set_option maxRecDepth 20000 in
theorem gX7_sees_X7_isPerson : GoodIn wsX7_sees (wsV RX7 67 RX7 yX7_isPerson wsX7_isPerson) := goodIn_app (goodIn_of _ (by decide +kernel)) ggX7_sees_X7_isPerson
set_option maxRecDepth 20000 in
theorem ggX7_sees_X7_isTick : GoodIn wsX7_sees wsX7_isTick := goodIn_r _ [17] (by decide +kernel) (by decide +kernel)
set_option maxRecDepth 20000 in
theorem gX7_sees_X7_isTick : GoodIn wsX7_sees (va_wsS RX7 70 yX7_isTick wsX7_isTick) := goodIn_app (goodIn_of _ (by decide +kernel)) ggX7_sees_X7_isTick
set_option maxRecDepth 20000 in
theorem ggX7_sees_X6_placeOf : GoodIn wsX7_sees wsX6_placeOf := goodIn_r _ [22, 23, 59, 60, 61, 62, 63, 64] (by decide +kernel) (by decide +kernel)
set_option maxRecDepth 20000 in
theorem gX7_sees_X6_placeOf : GoodIn wsX7_sees (wsV RX7 112 RX6 yX6_placeOf wsX6_placeOf) := goodIn_app (goodIn_of _ (by decide +kernel)) ggX7_sees_X6_placeOf
set_option maxRecDepth 20000 in
theorem ggX7_sees_X2_inCone : GoodIn wsX7_sees wsX2_inCone := goodIn_r _ [27, 28, 29, 26, 30] (by decide +kernel) (by decide +kernel)
set_option maxRecDepth 20000 in
theorem gX7_sees_X2_inCone : GoodIn wsX7_sees (va_wsS RX7 125 yX2_inCone wsX2_inCone) := goodIn_app (goodIn_of _ (by decide +kernel)) ggX7_sees_X2_inCone
set_option maxRecDepth 20000 in
theorem ggX7_sees_X6_hides : GoodIn wsX7_sees wsX6_hides := goodIn_r _ [34, 35, 36, 37, 38, 39, 19, 20, 21, 22, 23, 40, 41, 26, 42, 43, 44, 45, 28, 29, 30, 46, 47, 48, 59, 60, 61, 62, 63, 64] (by decide +kernel) (by decide +kernel)
set_option maxRecDepth 20000 in
theorem gX7_sees_X6_hides : GoodIn wsX7_sees (wsV RX7 115 RX6 yX6_hides wsX6_hides) := goodIn_app (goodIn_of _ (by decide +kernel)) ggX7_sees_X6_hides
set_option maxRecDepth 20000 in
theorem ggX7_size_X7_isCamera : GoodIn wsX7_size wsX7_isCamera := goodIn_r _ [8, 1, 9, 31, 32, 33, 34, 35, 36, 37, 38, 39, 40] (by decide +kernel) (by decide +kernel)
set_option maxRecDepth 20000 in
theorem gX7_size_X7_isCamera : GoodIn wsX7_size (wsV RX7 119 RX7 yX7_isCamera wsX7_isCamera) := goodIn_app (goodIn_of _ (by decide +kernel)) ggX7_size_X7_isCamera
set_option maxRecDepth 20000 in
theorem ggX7_size_X7_isPerson : GoodIn wsX7_size wsX7_isPerson := goodIn_r _ [13, 3, 14, 31, 32, 33, 34, 35, 36, 37, 41, 42, 43, 44, 45, 46] (by decide +kernel) (by decide +kernel)
set_option maxRecDepth 20000 in
theorem gX7_size_X7_isPerson : GoodIn wsX7_size (wsV RX7 67 RX7 yX7_isPerson wsX7_isPerson) := goodIn_app (goodIn_of _ (by decide +kernel)) ggX7_size_X7_isPerson
set_option maxRecDepth 20000 in
theorem ggX7_size_X7_isTick : GoodIn wsX7_size wsX7_isTick := goodIn_r _ [17] (by decide +kernel) (by decide +kernel)
set_option maxRecDepth 20000 in
theorem gX7_size_X7_isTick : GoodIn wsX7_size (va_wsS RX7 70 yX7_isTick wsX7_isTick) := goodIn_app (goodIn_of _ (by decide +kernel)) ggX7_size_X7_isTick
set_option maxRecDepth 20000 in
theorem ggX7_size_X6_placeOf : GoodIn wsX7_size wsX6_placeOf := goodIn_r _ [22, 23, 41, 42, 43, 44, 45, 46] (by decide +kernel) (by decide +kernel)
set_option maxRecDepth 20000 in
theorem gX7_size_X6_placeOf : GoodIn wsX7_size (wsV RX7 112 RX6 yX6_placeOf wsX6_placeOf) := goodIn_app (goodIn_of _ (by decide +kernel)) ggX7_size_X6_placeOf
set_option maxRecDepth 20000 in
theorem ggX7_size_X2_sizeSeen : GoodIn wsX7_size wsX2_sizeSeen := goodIn_r _ [27, 28, 29, 26, 30] (by decide +kernel) (by decide +kernel)
set_option maxRecDepth 20000 in
theorem gX7_size_X2_sizeSeen : GoodIn wsX7_size (va_wsS RX7 130 yX2_sizeSeen wsX2_sizeSeen) := goodIn_app (goodIn_of _ (by decide +kernel)) ggX7_size_X2_sizeSeen
set_option maxRecDepth 20000 in
theorem ggX7_views_X7_isPerson : GoodIn wsX7_views wsX7_isPerson := goodIn_r _ [6, 1, 7, 38, 39, 40, 41, 42, 43, 44, 45, 46, 47, 48, 49, 50] (by decide +kernel) (by decide +kernel)
set_option maxRecDepth 20000 in
theorem gX7_views_X7_isPerson : GoodIn wsX7_views (wsV RX7 67 RX7 yX7_isPerson wsX7_isPerson) := goodIn_app (goodIn_of _ (by decide +kernel)) ggX7_views_X7_isPerson
set_option maxRecDepth 20000 in
theorem ggX7_views_X7_isTick : GoodIn wsX7_views wsX7_isTick := goodIn_r _ [10] (by decide +kernel) (by decide +kernel)
set_option maxRecDepth 20000 in
theorem gX7_views_X7_isTick : GoodIn wsX7_views (va_wsS RX7 70 yX7_isTick wsX7_isTick) := goodIn_app (goodIn_of _ (by decide +kernel)) ggX7_views_X7_isTick
set_option maxRecDepth 20000 in
theorem ggX7_views_X6_hides : GoodIn wsX7_views wsX6_hides := goodIn_r _ [15, 16, 17, 18, 19, 20, 21, 22, 14, 23, 24, 25, 26, 27, 28, 29, 30, 31, 32, 33, 34, 35, 36, 37, 45, 46, 47, 48, 49, 50] (by decide +kernel) (by decide +kernel)
set_option maxRecDepth 20000 in
theorem gX7_views_X6_hides : GoodIn wsX7_views (wsV RX7 115 RX6 yX6_hides wsX6_hides) := goodIn_app (goodIn_of _ (by decide +kernel)) ggX7_views_X6_hides
set_option maxRecDepth 20000 in
theorem ggX7_gives_X7_isCamera : GoodIn wsX7_gives wsX7_isCamera := goodIn_r _ [10, 2, 11, 87, 88, 89, 90, 91, 92, 93, 94, 95, 96] (by decide +kernel) (by decide +kernel)
set_option maxRecDepth 20000 in
theorem gX7_gives_X7_isCamera : GoodIn wsX7_gives (wsV RX7 119 RX7 yX7_isCamera wsX7_isCamera) := goodIn_app (goodIn_of _ (by decide +kernel)) ggX7_gives_X7_isCamera
set_option maxRecDepth 20000 in
theorem ggX7_gives_X7_isBoard : GoodIn wsX7_gives wsX7_isBoard := goodIn_r _ [15, 4, 16, 87, 88, 89, 90, 91, 92, 93, 97, 98, 99] (by decide +kernel) (by decide +kernel)
set_option maxRecDepth 20000 in
theorem gX7_gives_X7_isBoard : GoodIn wsX7_gives (wsV RX7 133 RX7 yX7_isBoard wsX7_isBoard) := goodIn_app (goodIn_of _ (by decide +kernel)) ggX7_gives_X7_isBoard
set_option maxRecDepth 20000 in
theorem ggX7_gives_X1_fault : GoodIn wsX7_gives wsX1_fault := goodIn_r _ [21, 22, 23, 24, 25, 26, 27, 28, 29, 30, 31, 32, 33, 34, 35, 36, 37, 38, 20, 39, 40, 41, 42, 43, 44, 45, 46, 47, 48, 49, 50, 51, 52, 53, 54, 55, 56, 57, 58, 59, 60, 61, 62, 63, 64, 65, 66, 67, 68, 69, 70, 71, 72, 73, 74, 75, 76, 77, 78, 79, 80, 81, 82, 83, 84, 85, 86, 100, 101, 102, 103, 104, 105, 106, 107, 108, 109, 110, 111, 112, 113, 114] (by decide +kernel) (by decide +kernel)
set_option maxRecDepth 20000 in
theorem gX7_gives_X1_fault : GoodIn wsX7_gives (wsV RX7 140 RX1 yX1_fault wsX1_fault) := goodIn_app (goodIn_of _ (by decide +kernel)) ggX7_gives_X1_fault
set_option maxRecDepth 20000 in
theorem ggX7_why_X7_isCamera : GoodIn wsX7_why wsX7_isCamera := goodIn_r _ [10, 2, 11, 87, 88, 89, 90, 91, 92, 93, 94, 95, 96] (by decide +kernel) (by decide +kernel)
set_option maxRecDepth 20000 in
theorem gX7_why_X7_isCamera : GoodIn wsX7_why (wsV RX7 119 RX7 yX7_isCamera wsX7_isCamera) := goodIn_app (goodIn_of _ (by decide +kernel)) ggX7_why_X7_isCamera
set_option maxRecDepth 20000 in
theorem ggX7_why_X7_isBoard : GoodIn wsX7_why wsX7_isBoard := goodIn_r _ [15, 4, 16, 87, 88, 89, 90, 91, 92, 93, 97, 98, 99] (by decide +kernel) (by decide +kernel)
set_option maxRecDepth 20000 in
theorem gX7_why_X7_isBoard : GoodIn wsX7_why (wsV RX7 133 RX7 yX7_isBoard wsX7_isBoard) := goodIn_app (goodIn_of _ (by decide +kernel)) ggX7_why_X7_isBoard
set_option maxRecDepth 20000 in
theorem ggX7_why_X1_fault : GoodIn wsX7_why wsX1_fault := goodIn_r _ [21, 22, 23, 24, 25, 26, 27, 28, 29, 30, 31, 32, 33, 34, 35, 36, 37, 38, 20, 39, 40, 41, 42, 43, 44, 45, 46, 47, 48, 49, 50, 51, 52, 53, 54, 55, 56, 57, 58, 59, 60, 61, 62, 63, 64, 65, 66, 67, 68, 69, 70, 71, 72, 73, 74, 75, 76, 77, 78, 79, 80, 81, 82, 83, 84, 85, 86, 100, 101, 102, 103, 104, 105, 106, 107, 108, 109, 110, 111, 112, 113, 114] (by decide +kernel) (by decide +kernel)
set_option maxRecDepth 20000 in
theorem gX7_why_X1_fault : GoodIn wsX7_why (wsV RX7 140 RX1 yX1_fault wsX1_fault) := goodIn_app (goodIn_of _ (by decide +kernel)) ggX7_why_X1_fault
set_option maxRecDepth 20000 in
theorem ggX7_side_X7_isCamera : GoodIn wsX7_side wsX7_isCamera := goodIn_r _ [11, 5, 12, 51, 52, 53, 54, 55, 56, 57, 69, 70, 71] (by decide +kernel) (by decide +kernel)
set_option maxRecDepth 20000 in
theorem gX7_side_X7_isCamera : GoodIn wsX7_side (wsV RX7 119 RX7 yX7_isCamera wsX7_isCamera) := goodIn_app (goodIn_of _ (by decide +kernel)) ggX7_side_X7_isCamera
set_option maxRecDepth 20000 in
theorem ggX7_side_X7_isBoard : GoodIn wsX7_side wsX7_isBoard := goodIn_r _ [16, 1, 17, 51, 52, 53, 54, 55, 56, 57, 58, 59, 60] (by decide +kernel) (by decide +kernel)
set_option maxRecDepth 20000 in
theorem gX7_side_X7_isBoard : GoodIn wsX7_side (wsV RX7 133 RX7 yX7_isBoard wsX7_isBoard) := goodIn_app (goodIn_of _ (by decide +kernel)) ggX7_side_X7_isBoard
set_option maxRecDepth 20000 in
theorem ggX7_side_X1_sideOfMain : GoodIn wsX7_side wsX1_sideOfMain := goodIn_r _ [22, 23, 24, 25, 26, 27, 28, 29, 30, 31, 32, 33, 34, 35, 36, 37, 38, 39, 40, 41, 42, 43, 44, 45, 46, 47, 48, 49, 50, 72, 61, 62, 63, 64, 65, 66, 67, 68, 73, 74, 75, 76, 77, 78] (by decide +kernel) (by decide +kernel)
set_option maxRecDepth 20000 in
theorem gX7_side_X1_sideOfMain : GoodIn wsX7_side (wsV RX7 149 RX1 yX1_sideOfMain wsX1_sideOfMain) := goodIn_app (goodIn_of _ (by decide +kernel)) ggX7_side_X1_sideOfMain
set_option maxRecDepth 20000 in
theorem ggX7_length_X7_isBoard : GoodIn wsX7_length wsX7_isBoard := goodIn_r _ [6, 1, 7, 22, 23, 24, 25, 26, 27, 28, 29, 30, 31] (by decide +kernel) (by decide +kernel)
set_option maxRecDepth 20000 in
theorem gX7_length_X7_isBoard : GoodIn wsX7_length (wsV RX7 133 RX7 yX7_isBoard wsX7_isBoard) := goodIn_app (goodIn_of _ (by decide +kernel)) ggX7_length_X7_isBoard
set_option maxRecDepth 20000 in
theorem ggX7_length_X5_lengthOf : GoodIn wsX7_length wsX5_lengthOf := goodIn_r _ [12, 13, 14, 15, 16, 17, 18, 19, 20, 21, 29, 30, 31, 32, 33, 34, 35, 36, 37, 38, 39] (by decide +kernel) (by decide +kernel)
set_option maxRecDepth 20000 in
theorem gX7_length_X5_lengthOf : GoodIn wsX7_length (wsV RX7 152 RX5 yX5_lengthOf wsX5_lengthOf) := goodIn_app (goodIn_of _ (by decide +kernel)) ggX7_length_X5_lengthOf
set_option maxRecDepth 20000 in
theorem ggX7_fewest_X3_refresh : GoodIn wsX7_fewest wsX3_refresh := goodIn_r _ [7, 8, 9, 10, 11, 12, 13, 14, 15, 16, 17, 18, 19, 20, 21, 22, 23, 24, 25, 26, 27, 28, 29, 30, 31, 32, 33, 34, 35, 36, 37, 38, 39, 40, 41, 42, 43, 44, 45, 46, 47, 48, 49, 50, 51, 52, 53, 54, 55, 56, 57, 58, 59, 60, 61, 62, 63, 64, 65, 66, 67, 68, 69, 70, 71, 72, 73, 74, 75, 76, 77, 78, 79, 80, 81, 82, 83, 84, 85, 86, 87, 88, 89, 90, 91, 92, 93, 94, 95, 96, 97, 98, 99, 100, 101, 102, 103, 104, 105, 106, 107, 108, 109, 110, 6, 111, 112, 113, 114, 115, 116, 117, 118, 119, 120, 121, 122, 123, 124, 125, 126, 127, 128, 129, 130, 131, 132, 133, 134, 135, 136, 137, 138, 139, 140, 141, 142, 143, 144, 145, 146, 147, 148, 149, 150, 151, 152, 153, 154, 155, 163, 164, 165, 166, 167, 168, 169, 170, 171, 172, 173, 174, 175, 176, 177, 178, 179, 180, 181, 182, 183, 184, 185, 186, 187, 188, 189, 190, 191, 192, 193, 194] (by decide +kernel) (by decide +kernel)
set_option maxRecDepth 20000 in
theorem gX7_fewest_X3_refresh : GoodIn wsX7_fewest (wsV RX7 155 RX3 yX3_refresh wsX3_refresh) := goodIn_app (goodIn_of _ (by decide +kernel)) ggX7_fewest_X3_refresh
set_option maxRecDepth 20000 in
theorem ggX7_plan_X7_isBoard : GoodIn wsX7_plan wsX7_isBoard := goodIn_r _ [8, 9, 10, 164, 165, 166, 167, 168, 169, 170, 182, 183, 184] (by decide +kernel) (by decide +kernel)
set_option maxRecDepth 20000 in
theorem gX7_plan_X7_isBoard : GoodIn wsX7_plan (wsV RX7 133 RX7 yX7_isBoard wsX7_isBoard) := goodIn_app (goodIn_of _ (by decide +kernel)) ggX7_plan_X7_isBoard
set_option maxRecDepth 20000 in
theorem ggX7_plan_X3_refresh : GoodIn wsX7_plan wsX3_refresh := goodIn_r _ [15, 16, 17, 18, 19, 20, 21, 22, 23, 24, 25, 26, 27, 28, 29, 30, 31, 32, 33, 34, 35, 36, 37, 38, 39, 40, 41, 42, 43, 44, 45, 46, 47, 48, 49, 50, 51, 52, 53, 54, 55, 56, 57, 58, 59, 60, 61, 62, 63, 64, 65, 66, 67, 68, 69, 70, 71, 72, 73, 74, 75, 76, 77, 78, 79, 80, 81, 82, 83, 84, 85, 86, 87, 88, 89, 90, 91, 92, 93, 94, 95, 96, 97, 98, 99, 100, 101, 102, 103, 104, 105, 106, 107, 108, 109, 110, 111, 112, 113, 114, 115, 116, 117, 118, 14, 119, 120, 121, 122, 123, 124, 125, 126, 127, 128, 129, 130, 131, 132, 133, 134, 135, 136, 137, 138, 139, 140, 141, 142, 143, 144, 145, 146, 147, 148, 149, 150, 151, 152, 153, 154, 155, 156, 157, 158, 159, 160, 161, 162, 163, 171, 172, 173, 174, 175, 176, 177, 178, 179, 180, 181, 182, 183, 184, 185, 186, 187, 188, 189, 190, 191, 192, 193, 194, 195, 196, 197, 198, 199, 200, 201, 202] (by decide +kernel) (by decide +kernel)
set_option maxRecDepth 20000 in
theorem gX7_plan_X3_refresh : GoodIn wsX7_plan (wsV RX7 155 RX3 yX3_refresh wsX3_refresh) := goodIn_app (goodIn_of _ (by decide +kernel)) ggX7_plan_X3_refresh
set_option maxRecDepth 20000 in
theorem ggX7_swings_X3_refresh : GoodIn wsX7_swings wsX3_refresh := goodIn_r _ [7, 8, 9, 10, 11, 12, 13, 14, 15, 16, 17, 18, 19, 20, 21, 22, 23, 24, 25, 26, 27, 28, 29, 30, 31, 32, 33, 34, 35, 36, 37, 38, 39, 40, 41, 42, 43, 44, 45, 46, 47, 48, 49, 50, 51, 52, 53, 54, 55, 56, 57, 58, 59, 60, 61, 62, 63, 64, 65, 66, 67, 68, 69, 70, 71, 72, 73, 74, 75, 76, 77, 78, 79, 80, 81, 82, 83, 84, 85, 86, 87, 88, 89, 90, 91, 92, 93, 94, 95, 96, 97, 98, 99, 100, 101, 102, 103, 104, 105, 106, 107, 108, 109, 110, 6, 111, 112, 113, 114, 115, 116, 117, 118, 119, 120, 121, 122, 123, 124, 125, 126, 127, 128, 129, 130, 131, 132, 133, 134, 135, 136, 137, 138, 139, 140, 141, 142, 143, 144, 145, 146, 147, 148, 149, 150, 151, 152, 153, 154, 155, 167, 168, 169, 170, 171, 172, 173, 174, 175, 176, 177, 178, 179, 180, 181, 182, 183, 184, 185, 186, 187, 188, 189, 190, 191, 192, 193, 194, 195, 196, 197, 198] (by decide +kernel) (by decide +kernel)
set_option maxRecDepth 20000 in
theorem gX7_swings_X3_refresh : GoodIn wsX7_swings (wsV RX7 155 RX3 yX3_refresh wsX3_refresh) := goodIn_app (goodIn_of _ (by decide +kernel)) ggX7_swings_X3_refresh
set_option maxRecDepth 20000 in
theorem ggX7_swings_X3_turns : GoodIn wsX7_swings wsX3_turns := goodIn_r _ [159, 9, 10, 13, 151, 145, 167, 168, 169, 170, 171, 172, 173, 174, 175, 176, 177, 178, 179, 180, 181, 182, 183] (by decide +kernel) (by decide +kernel)
set_option maxRecDepth 20000 in
theorem gX7_swings_X3_turns : GoodIn wsX7_swings (wsV RX7 164 RX3 yX3_turns wsX3_turns) := goodIn_app (goodIn_of _ (by decide +kernel)) ggX7_swings_X3_turns
set_option maxRecDepth 20000 in
theorem ggX7_order_X3_refresh : GoodIn wsX7_order wsX3_refresh := goodIn_r _ [8, 9, 10, 11, 12, 13, 14, 15, 16, 17, 18, 19, 20, 21, 22, 23, 24, 25, 26, 27, 28, 29, 30, 31, 32, 33, 34, 35, 36, 37, 38, 39, 40, 41, 42, 43, 44, 45, 46, 47, 48, 49, 50, 51, 52, 53, 54, 55, 56, 57, 58, 59, 60, 61, 62, 63, 64, 65, 66, 67, 68, 69, 70, 71, 72, 73, 74, 75, 76, 77, 78, 79, 80, 81, 82, 83, 84, 85, 86, 87, 88, 89, 90, 91, 92, 93, 94, 95, 96, 97, 98, 99, 100, 101, 102, 103, 104, 105, 106, 107, 108, 109, 110, 111, 7, 112, 113, 114, 115, 116, 117, 118, 119, 120, 121, 122, 123, 124, 125, 126, 127, 128, 129, 130, 131, 132, 133, 134, 135, 136, 137, 138, 139, 140, 141, 142, 143, 144, 145, 146, 147, 148, 149, 150, 151, 152, 153, 154, 155, 156, 164, 165, 166, 167, 168, 169, 170, 171, 172, 173, 174, 175, 176, 177, 178, 179, 180, 181, 182, 183, 184, 185, 186, 187, 188, 189, 190, 191, 192, 193, 194, 195] (by decide +kernel) (by decide +kernel)
set_option maxRecDepth 20000 in
theorem gX7_order_X3_refresh : GoodIn wsX7_order (wsV RX7 155 RX3 yX3_refresh wsX3_refresh) := goodIn_app (goodIn_of _ (by decide +kernel)) ggX7_order_X3_refresh
set_option maxRecDepth 20000 in
theorem ggX7_crossings_X1_fault : GoodIn wsX7_crossings wsX1_fault := goodIn_r _ [13, 14, 15, 16, 17, 18, 19, 20, 21, 22, 23, 24, 25, 26, 27, 28, 29, 30, 12, 31, 32, 33, 34, 35, 36, 37, 38, 39, 40, 41, 42, 43, 44, 45, 46, 47, 48, 49, 50, 51, 52, 53, 54, 55, 56, 57, 58, 59, 60, 61, 62, 63, 64, 65, 66, 67, 68, 69, 70, 71, 72, 73, 74, 75, 76, 77, 78, 117, 118, 119, 120, 121, 122, 123, 124, 125, 126, 127, 128, 129, 130, 131] (by decide +kernel) (by decide +kernel)
set_option maxRecDepth 20000 in
theorem gX7_crossings_X1_fault : GoodIn wsX7_crossings (wsV RX7 140 RX1 yX1_fault wsX1_fault) := goodIn_app (goodIn_of _ (by decide +kernel)) ggX7_crossings_X1_fault
set_option maxRecDepth 20000 in
theorem ggX7_crossings_X7_crossingsOfTold : GoodIn wsX7_crossings wsX7_crossingsOfTold := goodIn_r _ [83, 2, 8, 84, 4, 5, 6, 7, 85, 86, 87, 88, 12, 89, 33, 90, 91, 92, 93, 16, 14, 67, 50, 51, 20, 52, 53, 94, 95, 96, 39, 97, 98, 99, 37, 38, 40, 41, 78, 59, 56, 60, 100, 101, 102, 103, 104, 105, 106, 107, 108, 109, 110, 111, 112, 113, 117, 118, 119, 120, 121, 122, 123, 124, 114, 115, 116, 125, 126, 127, 128, 129, 130, 131] (by decide +kernel) (by decide +kernel)
set_option maxRecDepth 20000 in
theorem gX7_crossings_X7_crossingsOfTold : GoodIn wsX7_crossings (wsV RX7 174 RX7 yX7_crossingsOfTold wsX7_crossingsOfTold) := goodIn_app (goodIn_of _ (by decide +kernel)) ggX7_crossings_X7_crossingsOfTold
set_option maxRecDepth 20000 in
theorem ggX7_list_X7_isCamera : GoodIn wsX7_list wsX7_isCamera := goodIn_r _ [7, 8, 9, 10, 11, 12, 13, 14, 15, 16, 17, 18, 19] (by decide +kernel) (by decide +kernel)
set_option maxRecDepth 20000 in
theorem gX7_list_X7_isCamera : GoodIn wsX7_list (wsV RX7 119 RX7 yX7_isCamera wsX7_isCamera) := goodIn_app (goodIn_of _ (by decide +kernel)) ggX7_list_X7_isCamera
set_option maxRecDepth 20000 in
theorem ggX7_run_X5_lengthOf : GoodIn wsX7_run wsX5_lengthOf := goodIn_r _ [7, 8, 9, 10, 11, 12, 13, 14, 15, 16, 24, 25, 26, 27, 28, 29, 30, 31, 32, 33, 34] (by decide +kernel) (by decide +kernel)
set_option maxRecDepth 20000 in
theorem gX7_run_X5_lengthOf : GoodIn wsX7_run (wsV RX7 152 RX5 yX5_lengthOf wsX5_lengthOf) := goodIn_app (goodIn_of _ (by decide +kernel)) ggX7_run_X5_lengthOf
set_option maxRecDepth 20000 in
theorem ggX7_frame_X5_lengthOf : GoodIn wsX7_frame wsX5_lengthOf := goodIn_r _ [7, 8, 9, 10, 11, 12, 13, 14, 15, 16, 24, 25, 26, 27, 28, 29, 30, 31, 32, 33, 34] (by decide +kernel) (by decide +kernel)
set_option maxRecDepth 20000 in
theorem gX7_frame_X5_lengthOf : GoodIn wsX7_frame (wsV RX7 152 RX5 yX5_lengthOf wsX5_lengthOf) := goodIn_app (goodIn_of _ (by decide +kernel)) ggX7_frame_X5_lengthOf
set_option maxRecDepth 20000 in
theorem ggX7_crossingsOfTold_X1_sideOfLesser : GoodIn wsX7_crossingsOfTold wsX1_sideOfLesser := goodIn_r _ [13, 14, 15, 16, 17, 12, 18, 19, 20, 21, 22, 23, 24, 25, 26, 27, 28, 29, 30, 31, 32, 33, 34, 35, 36, 37, 38, 39, 40, 41, 42, 43, 44, 45, 56, 57, 58, 59, 60, 61, 62, 63, 67, 68, 69, 70, 71, 72, 73] (by decide +kernel) (by decide +kernel)
set_option maxRecDepth 20000 in
theorem gX7_crossingsOfTold_X1_sideOfLesser : GoodIn wsX7_crossingsOfTold (wsV RX7 177 RX1 yX1_sideOfLesser wsX1_sideOfLesser) := goodIn_app (goodIn_of _ (by decide +kernel)) ggX7_crossingsOfTold_X1_sideOfLesser
set_option maxRecDepth 20000 in
theorem ggX7_isSpan_X7_isTick : GoodIn wsX7_isSpan wsX7_isTick := goodIn_r _ [4] (by decide +kernel) (by decide +kernel)
set_option maxRecDepth 20000 in
theorem gX7_isSpan_X7_isTick : GoodIn wsX7_isSpan (va_wsS RX7 70 yX7_isTick wsX7_isTick) := goodIn_app (goodIn_of _ (by decide +kernel)) ggX7_isSpan_X7_isTick
set_option maxRecDepth 20000 in
theorem ggX7_isWho_X7_isPerson : GoodIn wsX7_isWho wsX7_isPerson := goodIn_r _ [7, 1, 2, 8, 9, 10, 11, 12, 13, 14, 15, 16, 17, 18, 19, 20] (by decide +kernel) (by decide +kernel)
set_option maxRecDepth 20000 in
theorem gX7_isWho_X7_isPerson : GoodIn wsX7_isWho (wsV RX7 67 RX7 yX7_isPerson wsX7_isPerson) := goodIn_app (goodIn_of _ (by decide +kernel)) ggX7_isWho_X7_isPerson
set_option maxRecDepth 20000 in
theorem ggX8_isPerson_X8_in : GoodIn wsX8_isPerson wsX8_in := goodIn_r _ [5] (by decide +kernel) (by decide +kernel)
set_option maxRecDepth 20000 in
theorem gX8_isPerson_X8_in : GoodIn wsX8_isPerson (va_wsS RX8 75 yX8_in wsX8_in) := goodIn_app (goodIn_of _ (by decide +kernel)) ggX8_isPerson_X8_in
set_option maxRecDepth 20000 in
theorem ggX8_isCamera_X8_in : GoodIn wsX8_isCamera wsX8_in := goodIn_r _ [5] (by decide +kernel) (by decide +kernel)
set_option maxRecDepth 20000 in
theorem gX8_isCamera_X8_in : GoodIn wsX8_isCamera (va_wsS RX8 75 yX8_in wsX8_in) := goodIn_app (goodIn_of _ (by decide +kernel)) ggX8_isCamera_X8_in
set_option maxRecDepth 20000 in
theorem ggX8_isBoard_X8_in : GoodIn wsX8_isBoard wsX8_in := goodIn_r _ [5] (by decide +kernel) (by decide +kernel)
set_option maxRecDepth 20000 in
theorem gX8_isBoard_X8_in : GoodIn wsX8_isBoard (va_wsS RX8 75 yX8_in wsX8_in) := goodIn_app (goodIn_of _ (by decide +kernel)) ggX8_isBoard_X8_in
set_option maxRecDepth 20000 in
theorem ggX8_isTick_X8_in : GoodIn wsX8_isTick wsX8_in := goodIn_r _ [4] (by decide +kernel) (by decide +kernel)
set_option maxRecDepth 20000 in
theorem gX8_isTick_X8_in : GoodIn wsX8_isTick (va_wsS RX8 75 yX8_in wsX8_in) := goodIn_app (goodIn_of _ (by decide +kernel)) ggX8_isTick_X8_in
set_option maxRecDepth 20000 in
theorem ggX8_person_X8_isPlace : GoodIn wsX8_person wsX8_isPlace := goodIn_r _ [6] (by decide +kernel) (by decide +kernel)
set_option maxRecDepth 20000 in
theorem gX8_person_X8_isPlace : GoodIn wsX8_person (va_wsS RX8 85 yX8_isPlace wsX8_isPlace) := goodIn_app (goodIn_of _ (by decide +kernel)) ggX8_person_X8_isPlace
set_option maxRecDepth 20000 in
theorem ggX8_step_X8_isPerson : GoodIn wsX8_step wsX8_isPerson := goodIn_r _ [8, 9, 10, 11, 7, 12, 16, 17, 18, 19, 20, 21, 22, 23, 24, 25, 26, 27, 28, 29, 30, 31, 32, 33, 34, 35, 36, 37, 38, 39, 40, 41] (by decide +kernel) (by decide +kernel)
set_option maxRecDepth 20000 in
theorem gX8_step_X8_isPerson : GoodIn wsX8_step (wsV RX8 89 RX8 yX8_isPerson wsX8_isPerson) := goodIn_app (goodIn_of _ (by decide +kernel)) ggX8_step_X8_isPerson
set_option maxRecDepth 20000 in
theorem ggX8_step_X8_in : GoodIn wsX8_step wsX8_in := goodIn_r _ [12] (by decide +kernel) (by decide +kernel)
set_option maxRecDepth 20000 in
theorem gX8_step_X8_in : GoodIn wsX8_step (va_wsS RX8 75 yX8_in wsX8_in) := goodIn_app (goodIn_of _ (by decide +kernel)) ggX8_step_X8_in
set_option maxRecDepth 20000 in
theorem ggX8_step_X8_isPlace : GoodIn wsX8_step wsX8_isPlace := goodIn_r _ [15] (by decide +kernel) (by decide +kernel)
set_option maxRecDepth 20000 in
theorem gX8_step_X8_isPlace : GoodIn wsX8_step (va_wsS RX8 85 yX8_isPlace wsX8_isPlace) := goodIn_app (goodIn_of _ (by decide +kernel)) ggX8_step_X8_isPlace
set_option maxRecDepth 20000 in
theorem ggX8_wall_X8_isPlace : GoodIn wsX8_wall wsX8_isPlace := goodIn_r _ [7] (by decide +kernel) (by decide +kernel)
set_option maxRecDepth 20000 in
theorem gX8_wall_X8_isPlace : GoodIn wsX8_wall (va_wsS RX8 85 yX8_isPlace wsX8_isPlace) := goodIn_app (goodIn_of _ (by decide +kernel)) ggX8_wall_X8_isPlace
set_option maxRecDepth 20000 in
theorem ggX8_camera_X8_isPlace : GoodIn wsX8_camera wsX8_isPlace := goodIn_r _ [7] (by decide +kernel) (by decide +kernel)
set_option maxRecDepth 20000 in
theorem gX8_camera_X8_isPlace : GoodIn wsX8_camera (va_wsS RX8 85 yX8_isPlace wsX8_isPlace) := goodIn_app (goodIn_of _ (by decide +kernel)) ggX8_camera_X8_isPlace
set_option maxRecDepth 20000 in
theorem ggX8_camera_X8_in : GoodIn wsX8_camera wsX8_in := goodIn_r _ [10] (by decide +kernel) (by decide +kernel)
set_option maxRecDepth 20000 in
theorem gX8_camera_X8_in : GoodIn wsX8_camera (va_wsS RX8 75 yX8_in wsX8_in) := goodIn_app (goodIn_of _ (by decide +kernel)) ggX8_camera_X8_in
set_option maxRecDepth 20000 in
theorem ggX8_board_X8_in : GoodIn wsX8_board wsX8_in := goodIn_r _ [13] (by decide +kernel) (by decide +kernel)
set_option maxRecDepth 20000 in
theorem gX8_board_X8_in : GoodIn wsX8_board (va_wsS RX8 75 yX8_in wsX8_in) := goodIn_app (goodIn_of _ (by decide +kernel)) ggX8_board_X8_in
set_option maxRecDepth 20000 in
theorem ggX8_board_X8_isPerson : GoodIn wsX8_board wsX8_isPerson := goodIn_r _ [17, 1, 10, 11, 12, 13, 21, 22, 23, 24, 25, 26, 27, 28, 29, 30, 31, 32, 33, 34, 35, 36, 37, 38, 39, 40, 41, 42, 43, 44, 45, 46] (by decide +kernel) (by decide +kernel)
set_option maxRecDepth 20000 in
theorem gX8_board_X8_isPerson : GoodIn wsX8_board (wsV RX8 89 RX8 yX8_isPerson wsX8_isPerson) := goodIn_app (goodIn_of _ (by decide +kernel)) ggX8_board_X8_isPerson
set_option maxRecDepth 20000 in
theorem ggX8_board_X8_isTick : GoodIn wsX8_board wsX8_isTick := goodIn_r _ [20, 10, 11, 12, 13] (by decide +kernel) (by decide +kernel)
set_option maxRecDepth 20000 in
theorem gX8_board_X8_isTick : GoodIn wsX8_board (va_wsS RX8 95 yX8_isTick wsX8_isTick) := goodIn_app (goodIn_of _ (by decide +kernel)) ggX8_board_X8_isTick
set_option maxRecDepth 20000 in
theorem ggX8_rate_X8_in : GoodIn wsX8_rate wsX8_in := goodIn_r _ [5] (by decide +kernel) (by decide +kernel)
set_option maxRecDepth 20000 in
theorem gX8_rate_X8_in : GoodIn wsX8_rate (va_wsS RX8 75 yX8_in wsX8_in) := goodIn_app (goodIn_of _ (by decide +kernel)) ggX8_rate_X8_in
set_option maxRecDepth 20000 in
theorem ggX8_where_X8_isPerson : GoodIn wsX8_where wsX8_isPerson := goodIn_r _ [5, 6, 7, 8, 4, 9, 21, 22, 23, 24, 25, 26, 27, 28, 29, 30, 31, 32, 33, 34, 35, 36, 37, 38, 39, 40, 41, 42, 43, 44, 45, 46] (by decide +kernel) (by decide +kernel)
set_option maxRecDepth 20000 in
theorem gX8_where_X8_isPerson : GoodIn wsX8_where (wsV RX8 89 RX8 yX8_isPerson wsX8_isPerson) := goodIn_app (goodIn_of _ (by decide +kernel)) ggX8_where_X8_isPerson
set_option maxRecDepth 20000 in
theorem ggX8_where_X8_isTick : GoodIn wsX8_where wsX8_isTick := goodIn_r _ [12, 7, 8, 4, 9] (by decide +kernel) (by decide +kernel)
set_option maxRecDepth 20000 in
theorem gX8_where_X8_isTick : GoodIn wsX8_where (va_wsS RX8 95 yX8_isTick wsX8_isTick) := goodIn_app (goodIn_of _ (by decide +kernel)) ggX8_where_X8_isTick
set_option maxRecDepth 20000 in
theorem ggX8_where_X8_placeOf : GoodIn wsX8_where wsX8_placeOf := goodIn_r _ [16, 17, 18, 19, 20, 21, 22, 23, 24, 25, 26, 27, 28, 29, 30, 31, 32, 33, 34, 35, 36, 37, 38, 39, 40, 41, 42, 43, 44, 45, 46] (by decide +kernel) (by decide +kernel)
set_option maxRecDepth 20000 in
theorem gX8_where_X8_placeOf : GoodIn wsX8_where (wsV RX8 98 RX8 yX8_placeOf wsX8_placeOf) := goodIn_app (goodIn_of _ (by decide +kernel)) ggX8_where_X8_placeOf
set_option maxRecDepth 20000 in
theorem ggX8_turn_X8_x : GoodIn wsX8_turn wsX8_x := goodIn_r _ [4] (by decide +kernel) (by decide +kernel)
set_option maxRecDepth 20000 in
theorem gX8_turn_X8_x : GoodIn wsX8_turn (va_wsS RX8 102 yX8_x wsX8_x) := goodIn_app (goodIn_of _ (by decide +kernel)) ggX8_turn_X8_x
set_option maxRecDepth 20000 in
theorem ggX8_turn_X8_y : GoodIn wsX8_turn wsX8_y := goodIn_r _ [7] (by decide +kernel) (by decide +kernel)
set_option maxRecDepth 20000 in
theorem gX8_turn_X8_y : GoodIn wsX8_turn (va_wsS RX8 106 yX8_y wsX8_y) := goodIn_app (goodIn_of _ (by decide +kernel)) ggX8_turn_X8_y
set_option maxRecDepth 20000 in
theorem ggX8_isBetween_X8_in : GoodIn wsX8_isBetween wsX8_in := goodIn_r _ [4] (by decide +kernel) (by decide +kernel)
set_option maxRecDepth 20000 in
theorem gX8_isBetween_X8_in : GoodIn wsX8_isBetween (va_wsS RX8 75 yX8_in wsX8_in) := goodIn_app (goodIn_of _ (by decide +kernel)) ggX8_isBetween_X8_in
set_option maxRecDepth 20000 in
theorem ggX8_isOn_X8_turn : GoodIn wsX8_isOn wsX8_turn := goodIn_r _ [4, 5, 6, 3, 7, 8, 9, 10] (by decide +kernel) (by decide +kernel)
set_option maxRecDepth 20000 in
theorem gX8_isOn_X8_turn : GoodIn wsX8_isOn (va_wsS RX8 109 yX8_turn wsX8_turn) := goodIn_app (goodIn_of _ (by decide +kernel)) ggX8_isOn_X8_turn
set_option maxRecDepth 20000 in
theorem ggX8_isOn_X8_x : GoodIn wsX8_isOn wsX8_x := goodIn_r _ [7] (by decide +kernel) (by decide +kernel)
set_option maxRecDepth 20000 in
theorem gX8_isOn_X8_x : GoodIn wsX8_isOn (va_wsS RX8 102 yX8_x wsX8_x) := goodIn_app (goodIn_of _ (by decide +kernel)) ggX8_isOn_X8_x
