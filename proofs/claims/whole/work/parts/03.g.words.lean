set_option maxRecDepth 20000 in
theorem ggX12_least_X12_isBoat : GoodIn wsX12_least wsX12_isBoat := goodIn_r _ [8, 9, 10, 11, 7, 12, 43, 44, 45, 46, 47, 48, 49, 50, 51, 52, 53, 54, 55, 56, 57, 58, 59, 60, 61, 62, 63, 64, 65, 66, 67, 68, 69, 70, 71, 72, 73, 74, 75, 76, 77, 78, 79, 80, 81, 82, 83, 84, 85, 86] (by decide +kernel) (by decide +kernel)
set_option maxRecDepth 20000 in
theorem gX12_least_X12_isBoat : GoodIn wsX12_least (wsV RX12 201 RX12 yX12_isBoat wsX12_isBoat) := goodIn_app (goodIn_of _ (by decide +kernel)) ggX12_least_X12_isBoat
set_option maxRecDepth 20000 in
theorem ggX12_least_X12_isJunction : GoodIn wsX12_least wsX12_isJunction := goodIn_r _ [16, 17, 10, 11, 7, 12, 43, 44, 45, 46, 47, 48, 49, 50, 51, 52, 53, 54, 55, 56, 57, 58, 59, 60, 61, 62, 63, 64, 65, 66, 67, 68, 69, 70, 71, 72, 73, 74, 75, 76, 77, 78, 79, 80, 81, 82, 83, 84, 85, 86] (by decide +kernel) (by decide +kernel)
set_option maxRecDepth 20000 in
theorem gX12_least_X12_isJunction : GoodIn wsX12_least (wsV RX12 244 RX12 yX12_isJunction wsX12_isJunction) := goodIn_app (goodIn_of _ (by decide +kernel)) ggX12_least_X12_isJunction
set_option maxRecDepth 20000 in
theorem ggX12_least_X12_in : GoodIn wsX12_least wsX12_in := goodIn_r _ [12] (by decide +kernel) (by decide +kernel)
set_option maxRecDepth 20000 in
theorem gX12_least_X12_in : GoodIn wsX12_least (va_wsS RX12 96 yX12_in wsX12_in) := goodIn_app (goodIn_of _ (by decide +kernel)) ggX12_least_X12_in
set_option maxRecDepth 20000 in
theorem ggX12_least_X12_sitsAt : GoodIn wsX12_least wsX12_sitsAt := goodIn_r _ [21, 22, 23, 24, 25, 26, 27, 7, 28, 3, 29, 30, 31, 32, 33, 34, 35, 36, 37, 38, 39, 40, 41, 17, 42, 43, 44, 45, 46, 47, 48, 49, 50, 51, 52, 53, 54, 55, 56, 57, 58, 59, 60, 61, 62, 63, 64, 65, 66, 67, 68, 69, 70, 71, 72, 73, 74, 75, 76, 77, 78, 79, 80, 81, 82, 83, 84, 85, 86] (by decide +kernel) (by decide +kernel)
set_option maxRecDepth 20000 in
theorem gX12_least_X12_sitsAt : GoodIn wsX12_least (wsV RX12 254 RX12 yX12_sitsAt wsX12_sitsAt) := goodIn_app (goodIn_of _ (by decide +kernel)) ggX12_least_X12_sitsAt
set_option maxRecDepth 20000 in
theorem ggX12_allAtQuays_X12_board : GoodIn wsX12_allAtQuays wsX12_board := goodIn_r _ [12, 2, 7, 13, 4, 28, 29, 30, 31, 32, 33, 34, 35, 36, 37, 38, 39, 40, 41, 42, 43, 44, 45, 46, 47, 48, 49, 50, 51, 52, 53, 54, 55, 56, 57, 58, 59, 60, 61, 62, 63, 64, 65, 66, 67, 68, 69, 70, 71] (by decide +kernel) (by decide +kernel)
set_option maxRecDepth 20000 in
theorem gX12_allAtQuays_X12_board : GoodIn wsX12_allAtQuays (wsV RX12 190 RX12 yX12_board wsX12_board) := goodIn_app (goodIn_of _ (by decide +kernel)) ggX12_allAtQuays_X12_board
set_option maxRecDepth 20000 in
theorem ggX12_allAtQuays_X12_goOn : GoodIn wsX12_allAtQuays wsX12_goOn := goodIn_r _ [17, 18, 19, 20, 11, 21, 7, 13, 4, 22, 23, 24, 25, 26, 27, 28, 29, 30, 31, 32, 33, 34, 35, 36, 37, 38, 39, 40, 41, 42, 43, 44, 45, 46, 47, 48, 49, 50, 51, 52, 53, 54, 55, 56, 57, 58, 59, 60, 61, 62, 63, 64, 65, 66, 67, 68, 69, 70, 71] (by decide +kernel) (by decide +kernel)
set_option maxRecDepth 20000 in
theorem gX12_allAtQuays_X12_goOn : GoodIn wsX12_allAtQuays (wsV RX12 247 RX12 yX12_goOn wsX12_goOn) := goodIn_app (goodIn_of _ (by decide +kernel)) ggX12_allAtQuays_X12_goOn
set_option maxRecDepth 20000 in
theorem ggX12_changes_X12_isBoat : GoodIn wsX12_changes wsX12_isBoat := goodIn_r _ [11, 4, 12, 13, 10, 14, 51, 52, 53, 54, 55, 56, 57, 58, 59, 60, 61, 62, 63, 64, 65, 66, 67, 68, 69, 70, 71, 72, 73, 74, 75, 76, 77, 78, 79, 80, 81, 82, 83, 84, 85, 86, 87, 88, 89, 90, 91, 92, 93, 94] (by decide +kernel) (by decide +kernel)
set_option maxRecDepth 20000 in
theorem gX12_changes_X12_isBoat : GoodIn wsX12_changes (wsV RX12 201 RX12 yX12_isBoat wsX12_isBoat) := goodIn_app (goodIn_of _ (by decide +kernel)) ggX12_changes_X12_isBoat
set_option maxRecDepth 20000 in
theorem ggX12_changes_X12_in : GoodIn wsX12_changes wsX12_in := goodIn_r _ [14] (by decide +kernel) (by decide +kernel)
set_option maxRecDepth 20000 in
theorem gX12_changes_X12_in : GoodIn wsX12_changes (va_wsS RX12 96 yX12_in wsX12_in) := goodIn_app (goodIn_of _ (by decide +kernel)) ggX12_changes_X12_in
set_option maxRecDepth 20000 in
theorem ggX12_changes_X12_takeGiven : GoodIn wsX12_changes wsX12_takeGiven := goodIn_r _ [18, 4, 6, 51, 52, 53, 54, 55, 56, 57, 58, 59, 60, 61, 62, 63, 64, 65, 66, 67, 68, 69, 70, 71, 72, 73, 74, 75, 76, 77, 78, 79, 80, 81, 82, 83, 84, 85, 86, 87, 88, 89, 90, 91, 92, 93, 94] (by decide +kernel) (by decide +kernel)
set_option maxRecDepth 20000 in
theorem gX12_changes_X12_takeGiven : GoodIn wsX12_changes (wsV RX12 258 RX12 yX12_takeGiven wsX12_takeGiven) := goodIn_app (goodIn_of _ (by decide +kernel)) ggX12_changes_X12_takeGiven
set_option maxRecDepth 20000 in
theorem ggX12_changes_X12_changesOf : GoodIn wsX12_changes wsX12_changesOf := goodIn_r _ [22, 4, 6, 51, 52, 53, 54, 55, 56, 57, 58, 59, 60, 61, 62, 63, 64, 65, 66, 67, 68, 69, 70, 71, 72, 73, 74, 75, 76, 77, 78, 79, 80, 81, 82, 83, 84, 85, 86, 87, 88, 89, 90, 91, 92, 93, 94] (by decide +kernel) (by decide +kernel)
set_option maxRecDepth 20000 in
theorem gX12_changes_X12_changesOf : GoodIn wsX12_changes (wsV RX12 261 RX12 yX12_changesOf wsX12_changesOf) := goodIn_app (goodIn_of _ (by decide +kernel)) ggX12_changes_X12_changesOf
set_option maxRecDepth 20000 in
theorem ggX12_changes_X12_allAtQuays : GoodIn wsX12_changes wsX12_allAtQuays := goodIn_r _ [26, 4, 27, 6, 28, 29, 30, 31, 32, 33, 34, 10, 35, 36, 37, 38, 39, 40, 41, 42, 43, 44, 45, 46, 47, 48, 49, 50, 51, 52, 53, 54, 55, 56, 57, 58, 59, 60, 61, 62, 63, 64, 65, 66, 67, 68, 69, 70, 71, 72, 73, 74, 75, 76, 77, 78, 79, 80, 81, 82, 83, 84, 85, 86, 87, 88, 89, 90, 91, 92, 93, 94] (by decide +kernel) (by decide +kernel)
set_option maxRecDepth 20000 in
theorem gX12_changes_X12_allAtQuays : GoodIn wsX12_changes (wsV RX12 264 RX12 yX12_allAtQuays wsX12_allAtQuays) := goodIn_app (goodIn_of _ (by decide +kernel)) ggX12_changes_X12_allAtQuays
set_option maxRecDepth 20000 in
theorem ggX12_dry_X12_in : GoodIn wsX12_dry wsX12_in := goodIn_r _ [10] (by decide +kernel) (by decide +kernel)
set_option maxRecDepth 20000 in
theorem gX12_dry_X12_in : GoodIn wsX12_dry (va_wsS RX12 96 yX12_in wsX12_in) := goodIn_app (goodIn_of _ (by decide +kernel)) ggX12_dry_X12_in
set_option maxRecDepth 20000 in
theorem ggX12_dry_X12_board : GoodIn wsX12_dry wsX12_board := goodIn_r _ [14, 15, 5, 16, 17, 27, 28, 29, 30, 31, 32, 33, 34, 35, 36, 37, 38, 39, 40, 41, 42, 43, 44, 45, 46, 47, 48, 49, 50, 51, 52, 53, 54, 55, 56, 57, 58, 59, 60, 61, 62, 63, 64, 65, 66, 67, 68, 69, 70] (by decide +kernel) (by decide +kernel)
set_option maxRecDepth 20000 in
theorem gX12_dry_X12_board : GoodIn wsX12_dry (wsV RX12 190 RX12 yX12_board wsX12_board) := goodIn_app (goodIn_of _ (by decide +kernel)) ggX12_dry_X12_board
set_option maxRecDepth 20000 in
theorem ggX12_dry_X12_go : GoodIn wsX12_dry wsX12_go := goodIn_r _ [21, 5, 16, 17, 22, 23, 24, 9, 25, 3, 26, 27, 28, 29, 30, 31, 32, 33, 34, 35, 36, 37, 38, 39, 40, 41, 42, 43, 44, 45, 46, 47, 48, 49, 50, 51, 52, 53, 54, 55, 56, 57, 58, 59, 60, 61, 62, 63, 64, 65, 66, 67, 68, 69, 70] (by decide +kernel) (by decide +kernel)
set_option maxRecDepth 20000 in
theorem gX12_dry_X12_go : GoodIn wsX12_dry (wsV RX12 204 RX12 yX12_go wsX12_go) := goodIn_app (goodIn_of _ (by decide +kernel)) ggX12_dry_X12_go
set_option maxRecDepth 20000 in
theorem ggX12_towed_X12_isBoat : GoodIn wsX12_towed wsX12_isBoat := goodIn_r _ [8, 2, 9, 10, 7, 11, 12, 13, 14, 15, 16, 17, 18, 19, 20, 21, 22, 23, 24, 25, 26, 27, 28, 29, 30, 31, 32, 33, 34, 35, 36, 37, 38, 39, 40, 41, 42, 43, 44, 45, 46, 47, 48, 49, 50, 51, 52, 53, 54, 55] (by decide +kernel) (by decide +kernel)
set_option maxRecDepth 20000 in
theorem gX12_towed_X12_isBoat : GoodIn wsX12_towed (wsV RX12 201 RX12 yX12_isBoat wsX12_isBoat) := goodIn_app (goodIn_of _ (by decide +kernel)) ggX12_towed_X12_isBoat
set_option maxRecDepth 20000 in
theorem ggX12_mercy_X12_in : GoodIn wsX12_mercy wsX12_in := goodIn_r _ [8] (by decide +kernel) (by decide +kernel)
set_option maxRecDepth 20000 in
theorem gX12_mercy_X12_in : GoodIn wsX12_mercy (va_wsS RX12 96 yX12_in wsX12_in) := goodIn_app (goodIn_of _ (by decide +kernel)) ggX12_mercy_X12_in
set_option maxRecDepth 20000 in
theorem ggX12_see_X12_isBoat : GoodIn wsX12_see wsX12_isBoat := goodIn_r _ [13, 14, 15, 16, 12, 17, 23, 24, 25, 26, 27, 28, 29, 30, 31, 32, 33, 34, 35, 36, 37, 38, 39, 40, 41, 42, 43, 44, 45, 46, 47, 48, 49, 50, 51, 52, 53, 54, 55, 56, 57, 58, 59, 60, 61, 62, 63, 64, 65, 66] (by decide +kernel) (by decide +kernel)
set_option maxRecDepth 20000 in
theorem gX12_see_X12_isBoat : GoodIn wsX12_see (wsV RX12 201 RX12 yX12_isBoat wsX12_isBoat) := goodIn_app (goodIn_of _ (by decide +kernel)) ggX12_see_X12_isBoat
set_option maxRecDepth 20000 in
theorem ggX12_see_X12_isJunction : GoodIn wsX12_see wsX12_isJunction := goodIn_r _ [21, 22, 15, 16, 12, 17, 23, 24, 25, 26, 27, 28, 29, 30, 31, 32, 33, 34, 35, 36, 37, 38, 39, 40, 41, 42, 43, 44, 45, 46, 47, 48, 49, 50, 51, 52, 53, 54, 55, 56, 57, 58, 59, 60, 61, 62, 63, 64, 65, 66] (by decide +kernel) (by decide +kernel)
set_option maxRecDepth 20000 in
theorem gX12_see_X12_isJunction : GoodIn wsX12_see (wsV RX12 244 RX12 yX12_isJunction wsX12_isJunction) := goodIn_app (goodIn_of _ (by decide +kernel)) ggX12_see_X12_isJunction
set_option maxRecDepth 20000 in
theorem ggX12_see_X12_in : GoodIn wsX12_see wsX12_in := goodIn_r _ [17] (by decide +kernel) (by decide +kernel)
set_option maxRecDepth 20000 in
theorem gX12_see_X12_in : GoodIn wsX12_see (va_wsS RX12 96 yX12_in wsX12_in) := goodIn_app (goodIn_of _ (by decide +kernel)) ggX12_see_X12_in
set_option maxRecDepth 20000 in
theorem ggX12_findWay_X12_board : GoodIn wsX12_findWay wsX12_board := goodIn_r _ [10, 11, 4, 1, 2, 22, 23, 24, 25, 26, 27, 28, 29, 30, 31, 32, 33, 34, 35, 36, 37, 38, 39, 40, 41, 42, 43, 44, 45, 46, 47, 48, 49, 50, 51, 52, 53, 54, 55, 56, 57, 58, 59, 60, 61, 62, 63, 64, 65] (by decide +kernel) (by decide +kernel)
set_option maxRecDepth 20000 in
theorem gX12_findWay_X12_board : GoodIn wsX12_findWay (wsV RX12 190 RX12 yX12_board wsX12_board) := goodIn_app (goodIn_of _ (by decide +kernel)) ggX12_findWay_X12_board
set_option maxRecDepth 20000 in
theorem ggX12_findWay_X12_go : GoodIn wsX12_findWay wsX12_go := goodIn_r _ [15, 4, 1, 2, 16, 17, 18, 9, 19, 20, 21, 22, 23, 24, 25, 26, 27, 28, 29, 30, 31, 32, 33, 34, 35, 36, 37, 38, 39, 40, 41, 42, 43, 44, 45, 46, 47, 48, 49, 50, 51, 52, 53, 54, 55, 56, 57, 58, 59, 60, 61, 62, 63, 64, 65] (by decide +kernel) (by decide +kernel)
set_option maxRecDepth 20000 in
theorem gX12_findWay_X12_go : GoodIn wsX12_findWay (wsV RX12 204 RX12 yX12_go wsX12_go) := goodIn_app (goodIn_of _ (by decide +kernel)) ggX12_findWay_X12_go
set_option maxRecDepth 20000 in
theorem ggX12_couldBe_X12_findWay : GoodIn wsX12_couldBe wsX12_findWay := goodIn_r _ [10, 11, 12, 3, 13, 14, 15, 16, 17, 9, 18, 19, 20, 21, 22, 23, 24, 25, 26, 27, 28, 29, 30, 31, 32, 33, 34, 35, 36, 37, 38, 39, 40, 41, 42, 43, 44, 45, 46, 47, 48, 49, 50, 51, 52, 53, 54, 55, 56, 57, 58, 59, 60, 61, 62, 63, 64, 65, 66, 67, 68, 69, 70, 71, 72, 73] (by decide +kernel) (by decide +kernel)
set_option maxRecDepth 20000 in
theorem gX12_couldBe_X12_findWay : GoodIn wsX12_couldBe (wsV RX12 273 RX12 yX12_findWay wsX12_findWay) := goodIn_app (goodIn_of _ (by decide +kernel)) ggX12_couldBe_X12_findWay
set_option maxRecDepth 20000 in
theorem ggX12_left_X12_isBoat : GoodIn wsX12_left wsX12_isBoat := goodIn_r _ [6, 7, 8, 9, 5, 10, 43, 44, 45, 46, 47, 48, 49, 50, 51, 52, 53, 54, 55, 56, 57, 58, 59, 60, 61, 62, 63, 64, 65, 66, 67, 68, 69, 70, 71, 72, 73, 74, 75, 76, 77, 78, 79, 80, 81, 82, 83, 84, 85, 86] (by decide +kernel) (by decide +kernel)
set_option maxRecDepth 20000 in
theorem gX12_left_X12_isBoat : GoodIn wsX12_left (wsV RX12 201 RX12 yX12_isBoat wsX12_isBoat) := goodIn_app (goodIn_of _ (by decide +kernel)) ggX12_left_X12_isBoat
set_option maxRecDepth 20000 in
theorem ggX12_left_X12_couldBe : GoodIn wsX12_left wsX12_couldBe := goodIn_r _ [14, 15, 16, 17, 18, 19, 20, 21, 22, 5, 23, 24, 25, 26, 27, 28, 29, 30, 31, 32, 33, 34, 35, 36, 37, 38, 39, 40, 41, 42, 43, 44, 45, 46, 47, 48, 49, 50, 51, 52, 53, 54, 55, 56, 57, 58, 59, 60, 61, 62, 63, 64, 65, 66, 67, 68, 69, 70, 71, 72, 73, 74, 75, 76, 77, 78, 79, 80, 81, 82, 83, 84, 85, 86] (by decide +kernel) (by decide +kernel)
set_option maxRecDepth 20000 in
theorem gX12_left_X12_couldBe : GoodIn wsX12_left (wsV RX12 276 RX12 yX12_couldBe wsX12_couldBe) := goodIn_app (goodIn_of _ (by decide +kernel)) ggX12_left_X12_couldBe
set_option maxRecDepth 20000 in
theorem ggX12_look_X12_isBoat : GoodIn wsX12_look wsX12_isBoat := goodIn_r _ [8, 9, 10, 11, 7, 12, 44, 45, 46, 47, 48, 49, 50, 51, 52, 53, 54, 55, 56, 57, 58, 59, 60, 61, 62, 63, 64, 65, 66, 67, 68, 69, 70, 71, 72, 73, 74, 75, 76, 77, 78, 79, 80, 81, 82, 83, 84, 85, 86, 87] (by decide +kernel) (by decide +kernel)
set_option maxRecDepth 20000 in
theorem gX12_look_X12_isBoat : GoodIn wsX12_look (wsV RX12 201 RX12 yX12_isBoat wsX12_isBoat) := goodIn_app (goodIn_of _ (by decide +kernel)) ggX12_look_X12_isBoat
set_option maxRecDepth 20000 in
theorem ggX12_look_X12_couldBe : GoodIn wsX12_look wsX12_couldBe := goodIn_r _ [16, 17, 18, 3, 19, 20, 21, 22, 23, 7, 24, 25, 26, 27, 28, 29, 30, 31, 32, 33, 34, 35, 36, 37, 38, 39, 40, 41, 42, 43, 44, 45, 46, 47, 48, 49, 50, 51, 52, 53, 54, 55, 56, 57, 58, 59, 60, 61, 62, 63, 64, 65, 66, 67, 68, 69, 70, 71, 72, 73, 74, 75, 76, 77, 78, 79, 80, 81, 82, 83, 84, 85, 86, 87] (by decide +kernel) (by decide +kernel)
set_option maxRecDepth 20000 in
theorem gX12_look_X12_couldBe : GoodIn wsX12_look (wsV RX12 276 RX12 yX12_couldBe wsX12_couldBe) := goodIn_app (goodIn_of _ (by decide +kernel)) ggX12_look_X12_couldBe
set_option maxRecDepth 20000 in
theorem ggX12_write_X12_isBoat : GoodIn wsX12_write wsX12_isBoat := goodIn_r _ [10, 11, 12, 13, 9, 14, 20, 21, 22, 23, 24, 25, 26, 27, 28, 29, 30, 31, 32, 33, 34, 35, 36, 37, 38, 39, 40, 41, 42, 43, 44, 45, 46, 47, 48, 49, 50, 51, 52, 53, 54, 55, 56, 57, 58, 59, 60, 61, 62, 63] (by decide +kernel) (by decide +kernel)
set_option maxRecDepth 20000 in
theorem gX12_write_X12_isBoat : GoodIn wsX12_write (wsV RX12 201 RX12 yX12_isBoat wsX12_isBoat) := goodIn_app (goodIn_of _ (by decide +kernel)) ggX12_write_X12_isBoat
set_option maxRecDepth 20000 in
theorem ggX12_write_X12_isJunction : GoodIn wsX12_write wsX12_isJunction := goodIn_r _ [18, 19, 12, 13, 9, 14, 20, 21, 22, 23, 24, 25, 26, 27, 28, 29, 30, 31, 32, 33, 34, 35, 36, 37, 38, 39, 40, 41, 42, 43, 44, 45, 46, 47, 48, 49, 50, 51, 52, 53, 54, 55, 56, 57, 58, 59, 60, 61, 62, 63] (by decide +kernel) (by decide +kernel)
set_option maxRecDepth 20000 in
theorem gX12_write_X12_isJunction : GoodIn wsX12_write (wsV RX12 244 RX12 yX12_isJunction wsX12_isJunction) := goodIn_app (goodIn_of _ (by decide +kernel)) ggX12_write_X12_isJunction
set_option maxRecDepth 20000 in
theorem ggX12_keep_X12_in : GoodIn wsX12_keep wsX12_in := goodIn_r _ [10] (by decide +kernel) (by decide +kernel)
set_option maxRecDepth 20000 in
theorem gX12_keep_X12_in : GoodIn wsX12_keep (va_wsS RX12 96 yX12_in wsX12_in) := goodIn_app (goodIn_of _ (by decide +kernel)) ggX12_keep_X12_in
set_option maxRecDepth 20000 in
theorem ggX12_goBack_X12_in : GoodIn wsX12_goBack wsX12_in := goodIn_r _ [11] (by decide +kernel) (by decide +kernel)
set_option maxRecDepth 20000 in
theorem gX12_goBack_X12_in : GoodIn wsX12_goBack (va_wsS RX12 96 yX12_in wsX12_in) := goodIn_app (goodIn_of _ (by decide +kernel)) ggX12_goBack_X12_in
