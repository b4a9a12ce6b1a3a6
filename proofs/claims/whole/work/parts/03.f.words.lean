set_option maxRecDepth 20000 in
theorem ggX12_sitting_X12_board : GoodIn wsX12_sitting wsX12_board := goodIn_r _ [6, 7, 8, 9, 10, 17, 18, 19, 20, 21, 22, 23, 24, 25, 26, 27, 28, 29, 30, 31, 32, 33, 34, 35, 36, 37, 38, 39, 40, 41, 42, 43, 44, 45, 46, 47, 48, 49, 50, 51, 52, 53, 54, 55, 56, 57, 58, 59, 60] (by decide +kernel) (by decide +kernel)
set_option maxRecDepth 20000 in
theorem gX12_sitting_X12_board : GoodIn wsX12_sitting (wsV RX12 190 RX12 yX12_board wsX12_board) := goodIn_app (goodIn_of _ (by decide +kernel)) ggX12_sitting_X12_board
set_option maxRecDepth 20000 in
theorem ggX12_sitting_X12_goesTo : GoodIn wsX12_sitting wsX12_goesTo := goodIn_r _ [14, 15, 9, 16, 8, 10, 17, 18, 19, 20, 21, 22, 23, 24, 25, 26, 27, 28, 29, 30, 31, 32, 33, 34, 35, 36, 37, 38, 39, 40, 41, 42, 43, 44, 45, 46, 47, 48, 49, 50, 51, 52, 53, 54, 55, 56, 57, 58, 59, 60] (by decide +kernel) (by decide +kernel)
set_option maxRecDepth 20000 in
theorem gX12_sitting_X12_goesTo : GoodIn wsX12_sitting (wsV RX12 187 RX12 yX12_goesTo wsX12_goesTo) := goodIn_app (goodIn_of _ (by decide +kernel)) ggX12_sitting_X12_goesTo
set_option maxRecDepth 20000 in
theorem ggX12_told_X12_sitting : GoodIn wsX12_told wsX12_sitting := goodIn_r _ [14, 3, 15, 16, 17, 13, 18, 5, 19, 20, 21, 22, 23, 24, 25, 1, 26, 31, 32, 33, 34, 35, 36, 37, 38, 39, 40, 41, 42, 43, 44, 45, 46, 47, 48, 49, 50, 51, 52, 53, 54, 55, 56, 57, 58, 59, 60, 61, 62, 63, 64, 65, 66, 67, 68, 69, 70, 71, 72, 73, 74] (by decide +kernel) (by decide +kernel)
set_option maxRecDepth 20000 in
theorem gX12_told_X12_sitting : GoodIn wsX12_told (wsV RX12 194 RX12 yX12_sitting wsX12_sitting) := goodIn_app (goodIn_of _ (by decide +kernel)) ggX12_told_X12_sitting
set_option maxRecDepth 20000 in
theorem ggX12_told_X12_taken : GoodIn wsX12_told wsX12_taken := goodIn_r _ [30, 3, 5, 31, 32, 33, 34, 35, 36, 37, 38, 39, 40, 41, 42, 43, 44, 45, 46, 47, 48, 49, 50, 51, 52, 53, 54, 55, 56, 57, 58, 59, 60, 61, 62, 63, 64, 65, 66, 67, 68, 69, 70, 71, 72, 73, 74] (by decide +kernel) (by decide +kernel)
set_option maxRecDepth 20000 in
theorem gX12_told_X12_taken : GoodIn wsX12_told (wsV RX12 197 RX12 yX12_taken wsX12_taken) := goodIn_app (goodIn_of _ (by decide +kernel)) ggX12_told_X12_taken
set_option maxRecDepth 20000 in
theorem ggX12_cut_X12_in : GoodIn wsX12_cut wsX12_in := goodIn_r _ [10] (by decide +kernel) (by decide +kernel)
set_option maxRecDepth 20000 in
theorem gX12_cut_X12_in : GoodIn wsX12_cut (va_wsS RX12 96 yX12_in wsX12_in) := goodIn_app (goodIn_of _ (by decide +kernel)) ggX12_cut_X12_in
set_option maxRecDepth 20000 in
theorem ggX12_boat_X12_isBoat : GoodIn wsX12_boat wsX12_isBoat := goodIn_r _ [10, 11, 12, 13, 9, 14, 15, 16, 17, 18, 19, 20, 21, 22, 23, 24, 25, 26, 27, 28, 29, 30, 31, 32, 33, 34, 35, 36, 37, 38, 39, 40, 41, 42, 43, 44, 45, 46, 47, 48, 49, 50, 51, 52, 53, 54, 55, 56, 57, 58] (by decide +kernel) (by decide +kernel)
set_option maxRecDepth 20000 in
theorem gX12_boat_X12_isBoat : GoodIn wsX12_boat (wsV RX12 201 RX12 yX12_isBoat wsX12_isBoat) := goodIn_app (goodIn_of _ (by decide +kernel)) ggX12_boat_X12_isBoat
set_option maxRecDepth 20000 in
theorem ggX12_stepAll_X12_board : GoodIn wsX12_stepAll wsX12_board := goodIn_r _ [11, 2, 4, 5, 6, 22, 23, 24, 25, 26, 27, 28, 29, 30, 31, 32, 33, 34, 35, 36, 37, 38, 39, 40, 41, 42, 43, 44, 45, 46, 47, 48, 49, 50, 51, 52, 53, 54, 55, 56, 57, 58, 59, 60, 61, 62, 63, 64, 65] (by decide +kernel) (by decide +kernel)
set_option maxRecDepth 20000 in
theorem gX12_stepAll_X12_board : GoodIn wsX12_stepAll (wsV RX12 190 RX12 yX12_board wsX12_board) := goodIn_app (goodIn_of _ (by decide +kernel)) ggX12_stepAll_X12_board
set_option maxRecDepth 20000 in
theorem ggX12_stepAll_X12_go : GoodIn wsX12_stepAll wsX12_go := goodIn_r _ [15, 4, 5, 6, 16, 17, 18, 10, 19, 20, 21, 22, 23, 24, 25, 26, 27, 28, 29, 30, 31, 32, 33, 34, 35, 36, 37, 38, 39, 40, 41, 42, 43, 44, 45, 46, 47, 48, 49, 50, 51, 52, 53, 54, 55, 56, 57, 58, 59, 60, 61, 62, 63, 64, 65] (by decide +kernel) (by decide +kernel)
set_option maxRecDepth 20000 in
theorem gX12_stepAll_X12_go : GoodIn wsX12_stepAll (wsV RX12 204 RX12 yX12_go wsX12_go) := goodIn_app (goodIn_of _ (by decide +kernel)) ggX12_stepAll_X12_go
set_option maxRecDepth 20000 in
theorem ggX12_stepsRefused_X12_in : GoodIn wsX12_stepsRefused wsX12_in := goodIn_r _ [10] (by decide +kernel) (by decide +kernel)
set_option maxRecDepth 20000 in
theorem gX12_stepsRefused_X12_in : GoodIn wsX12_stepsRefused (va_wsS RX12 96 yX12_in wsX12_in) := goodIn_app (goodIn_of _ (by decide +kernel)) ggX12_stepsRefused_X12_in
set_option maxRecDepth 20000 in
theorem ggX12_step_X12_stepsRefused : GoodIn wsX12_step wsX12_stepsRefused := goodIn_r _ [5, 6, 7, 8, 9, 10, 11, 12, 13, 4, 14, 47, 48, 49, 50, 51, 52, 53, 54, 55, 56, 57, 58, 59, 60, 61, 62, 63, 64, 65, 66, 67, 68, 69, 70, 71, 72, 73, 74, 75, 76, 77, 78, 79, 80, 81, 82, 83, 84, 85, 86, 87, 88, 89, 90] (by decide +kernel) (by decide +kernel)
set_option maxRecDepth 20000 in
theorem gX12_step_X12_stepsRefused : GoodIn wsX12_step (wsV RX12 210 RX12 yX12_stepsRefused wsX12_stepsRefused) := goodIn_app (goodIn_of _ (by decide +kernel)) ggX12_step_X12_stepsRefused
set_option maxRecDepth 20000 in
theorem ggX12_step_X12_remember : GoodIn wsX12_step wsX12_remember := goodIn_r _ [18, 19, 20, 10, 47, 48, 49, 50, 51, 52, 53, 54, 55, 56, 57, 58, 59, 60, 61, 62, 63, 64, 65, 66, 67, 68, 69, 70, 71, 72, 73, 74, 75, 76, 77, 78, 79, 80, 81, 82, 83, 84, 85, 86, 87, 88, 89, 90] (by decide +kernel) (by decide +kernel)
set_option maxRecDepth 20000 in
theorem gX12_step_X12_remember : GoodIn wsX12_step (wsV RX12 214 RX12 yX12_remember wsX12_remember) := goodIn_app (goodIn_of _ (by decide +kernel)) ggX12_step_X12_remember
set_option maxRecDepth 20000 in
theorem ggX12_step_X12_stepAll : GoodIn wsX12_step wsX12_stepAll := goodIn_r _ [24, 25, 10, 26, 27, 28, 29, 30, 31, 32, 4, 33, 34, 35, 36, 37, 38, 39, 40, 41, 8, 42, 47, 48, 49, 50, 51, 52, 53, 54, 55, 56, 57, 58, 59, 60, 61, 62, 63, 64, 65, 66, 67, 68, 69, 70, 71, 72, 73, 74, 75, 76, 77, 78, 79, 80, 81, 82, 83, 84, 85, 86, 87, 88, 89, 90] (by decide +kernel) (by decide +kernel)
set_option maxRecDepth 20000 in
theorem gX12_step_X12_stepAll : GoodIn wsX12_step (wsV RX12 217 RX12 yX12_stepAll wsX12_stepAll) := goodIn_app (goodIn_of _ (by decide +kernel)) ggX12_step_X12_stepAll
set_option maxRecDepth 20000 in
theorem ggX12_step_X12_sitting : GoodIn wsX12_step wsX12_sitting := goodIn_r _ [46, 25, 30, 31, 32, 4, 33, 10, 27, 28, 29, 38, 39, 40, 41, 8, 42, 47, 48, 49, 50, 51, 52, 53, 54, 55, 56, 57, 58, 59, 60, 61, 62, 63, 64, 65, 66, 67, 68, 69, 70, 71, 72, 73, 74, 75, 76, 77, 78, 79, 80, 81, 82, 83, 84, 85, 86, 87, 88, 89, 90] (by decide +kernel) (by decide +kernel)
set_option maxRecDepth 20000 in
theorem gX12_step_X12_sitting : GoodIn wsX12_step (wsV RX12 194 RX12 yX12_sitting wsX12_sitting) := goodIn_app (goodIn_of _ (by decide +kernel)) ggX12_step_X12_sitting
set_option maxRecDepth 20000 in
theorem ggX12_forgive_X12_isBoat : GoodIn wsX12_forgive wsX12_isBoat := goodIn_r _ [9, 10, 11, 12, 8, 13, 23, 24, 25, 26, 27, 28, 29, 30, 31, 32, 33, 34, 35, 36, 37, 38, 39, 40, 41, 42, 43, 44, 45, 46, 47, 48, 49, 50, 51, 52, 53, 54, 55, 56, 57, 58, 59, 60, 61, 62, 63, 64, 65, 66] (by decide +kernel) (by decide +kernel)
set_option maxRecDepth 20000 in
theorem gX12_forgive_X12_isBoat : GoodIn wsX12_forgive (wsV RX12 201 RX12 yX12_isBoat wsX12_isBoat) := goodIn_app (goodIn_of _ (by decide +kernel)) ggX12_forgive_X12_isBoat
set_option maxRecDepth 20000 in
theorem ggX12_forgive_X12_in : GoodIn wsX12_forgive wsX12_in := goodIn_r _ [13] (by decide +kernel) (by decide +kernel)
set_option maxRecDepth 20000 in
theorem gX12_forgive_X12_in : GoodIn wsX12_forgive (va_wsS RX12 96 yX12_in wsX12_in) := goodIn_app (goodIn_of _ (by decide +kernel)) ggX12_forgive_X12_in
set_option maxRecDepth 20000 in
theorem ggX12_forgive_X12_remember : GoodIn wsX12_forgive wsX12_remember := goodIn_r _ [17, 18, 19, 4, 23, 24, 25, 26, 27, 28, 29, 30, 31, 32, 33, 34, 35, 36, 37, 38, 39, 40, 41, 42, 43, 44, 45, 46, 47, 48, 49, 50, 51, 52, 53, 54, 55, 56, 57, 58, 59, 60, 61, 62, 63, 64, 65, 66] (by decide +kernel) (by decide +kernel)
set_option maxRecDepth 20000 in
theorem gX12_forgive_X12_remember : GoodIn wsX12_forgive (wsV RX12 214 RX12 yX12_remember wsX12_remember) := goodIn_app (goodIn_of _ (by decide +kernel)) ggX12_forgive_X12_remember
set_option maxRecDepth 20000 in
theorem ggX12_forgive_X12_lighter : GoodIn wsX12_forgive wsX12_lighter := goodIn_r _ [22] (by decide +kernel) (by decide +kernel)
set_option maxRecDepth 20000 in
theorem gX12_forgive_X12_lighter : GoodIn wsX12_forgive (va_wsS RX12 222 yX12_lighter wsX12_lighter) := goodIn_app (goodIn_of _ (by decide +kernel)) ggX12_forgive_X12_lighter
set_option maxRecDepth 20000 in
theorem ggX12_weigh_X12_isBoat : GoodIn wsX12_weigh wsX12_isBoat := goodIn_r _ [9, 10, 11, 12, 8, 13, 23, 24, 25, 26, 27, 28, 29, 30, 31, 32, 33, 34, 35, 36, 37, 38, 39, 40, 41, 42, 43, 44, 45, 46, 47, 48, 49, 50, 51, 52, 53, 54, 55, 56, 57, 58, 59, 60, 61, 62, 63, 64, 65, 66] (by decide +kernel) (by decide +kernel)
set_option maxRecDepth 20000 in
theorem gX12_weigh_X12_isBoat : GoodIn wsX12_weigh (wsV RX12 201 RX12 yX12_isBoat wsX12_isBoat) := goodIn_app (goodIn_of _ (by decide +kernel)) ggX12_weigh_X12_isBoat
set_option maxRecDepth 20000 in
theorem ggX12_weigh_X12_in : GoodIn wsX12_weigh wsX12_in := goodIn_r _ [13] (by decide +kernel) (by decide +kernel)
set_option maxRecDepth 20000 in
theorem gX12_weigh_X12_in : GoodIn wsX12_weigh (va_wsS RX12 96 yX12_in wsX12_in) := goodIn_app (goodIn_of _ (by decide +kernel)) ggX12_weigh_X12_in
set_option maxRecDepth 20000 in
theorem ggX12_weigh_X12_remember : GoodIn wsX12_weigh wsX12_remember := goodIn_r _ [17, 18, 19, 4, 23, 24, 25, 26, 27, 28, 29, 30, 31, 32, 33, 34, 35, 36, 37, 38, 39, 40, 41, 42, 43, 44, 45, 46, 47, 48, 49, 50, 51, 52, 53, 54, 55, 56, 57, 58, 59, 60, 61, 62, 63, 64, 65, 66] (by decide +kernel) (by decide +kernel)
set_option maxRecDepth 20000 in
theorem gX12_weigh_X12_remember : GoodIn wsX12_weigh (wsV RX12 214 RX12 yX12_remember wsX12_remember) := goodIn_app (goodIn_of _ (by decide +kernel)) ggX12_weigh_X12_remember
set_option maxRecDepth 20000 in
theorem ggX12_weigh_X12_heavier : GoodIn wsX12_weigh wsX12_heavier := goodIn_r _ [22] (by decide +kernel) (by decide +kernel)
set_option maxRecDepth 20000 in
theorem gX12_weigh_X12_heavier : GoodIn wsX12_weigh (va_wsS RX12 225 yX12_heavier wsX12_heavier) := goodIn_app (goodIn_of _ (by decide +kernel)) ggX12_weigh_X12_heavier
set_option maxRecDepth 20000 in
theorem ggX12_change_X12_isBoat : GoodIn wsX12_change wsX12_isBoat := goodIn_r _ [7, 8, 9, 10, 6, 11, 18, 19, 20, 21, 22, 23, 24, 25, 26, 27, 28, 29, 30, 31, 32, 33, 34, 35, 36, 37, 38, 39, 40, 41, 42, 43, 44, 45, 46, 47, 48, 49, 50, 51, 52, 53, 54, 55, 56, 57, 58, 59, 60, 61] (by decide +kernel) (by decide +kernel)
set_option maxRecDepth 20000 in
theorem gX12_change_X12_isBoat : GoodIn wsX12_change (wsV RX12 201 RX12 yX12_isBoat wsX12_isBoat) := goodIn_app (goodIn_of _ (by decide +kernel)) ggX12_change_X12_isBoat
set_option maxRecDepth 20000 in
theorem ggX12_change_X12_remember : GoodIn wsX12_change wsX12_remember := goodIn_r _ [15, 16, 17, 2, 18, 19, 20, 21, 22, 23, 24, 25, 26, 27, 28, 29, 30, 31, 32, 33, 34, 35, 36, 37, 38, 39, 40, 41, 42, 43, 44, 45, 46, 47, 48, 49, 50, 51, 52, 53, 54, 55, 56, 57, 58, 59, 60, 61] (by decide +kernel) (by decide +kernel)
set_option maxRecDepth 20000 in
theorem gX12_change_X12_remember : GoodIn wsX12_change (wsV RX12 214 RX12 yX12_remember wsX12_remember) := goodIn_app (goodIn_of _ (by decide +kernel)) ggX12_change_X12_remember
set_option maxRecDepth 20000 in
theorem ggX12_turn_X12_isBoat : GoodIn wsX12_turn wsX12_isBoat := goodIn_r _ [7, 8, 9, 10, 6, 11, 18, 19, 20, 21, 22, 23, 24, 25, 26, 27, 28, 29, 30, 31, 32, 33, 34, 35, 36, 37, 38, 39, 40, 41, 42, 43, 44, 45, 46, 47, 48, 49, 50, 51, 52, 53, 54, 55, 56, 57, 58, 59, 60, 61] (by decide +kernel) (by decide +kernel)
set_option maxRecDepth 20000 in
theorem gX12_turn_X12_isBoat : GoodIn wsX12_turn (wsV RX12 201 RX12 yX12_isBoat wsX12_isBoat) := goodIn_app (goodIn_of _ (by decide +kernel)) ggX12_turn_X12_isBoat
set_option maxRecDepth 20000 in
theorem ggX12_turn_X12_remember : GoodIn wsX12_turn wsX12_remember := goodIn_r _ [15, 16, 17, 2, 18, 19, 20, 21, 22, 23, 24, 25, 26, 27, 28, 29, 30, 31, 32, 33, 34, 35, 36, 37, 38, 39, 40, 41, 42, 43, 44, 45, 46, 47, 48, 49, 50, 51, 52, 53, 54, 55, 56, 57, 58, 59, 60, 61] (by decide +kernel) (by decide +kernel)
set_option maxRecDepth 20000 in
theorem gX12_turn_X12_remember : GoodIn wsX12_turn (wsV RX12 214 RX12 yX12_remember wsX12_remember) := goodIn_app (goodIn_of _ (by decide +kernel)) ggX12_turn_X12_remember
set_option maxRecDepth 20000 in
theorem ggX12_chance_X12_draw : GoodIn wsX12_chance wsX12_draw := goodIn_r _ [7, 8, 9, 10, 11, 12, 19, 20, 21, 22, 23, 24, 25, 26, 27, 28, 29, 30, 31, 32, 33, 34, 35, 36, 37, 38, 39, 40, 41, 42, 43, 44, 45, 46, 47, 48, 49, 50, 51, 52, 53, 54, 55, 56, 57, 58, 59, 60, 61, 62] (by decide +kernel) (by decide +kernel)
set_option maxRecDepth 20000 in
theorem gX12_chance_X12_draw : GoodIn wsX12_chance (wsV RX12 238 RX12 yX12_draw wsX12_draw) := goodIn_app (goodIn_of _ (by decide +kernel)) ggX12_chance_X12_draw
set_option maxRecDepth 20000 in
theorem ggX12_chance_X12_lighter : GoodIn wsX12_chance wsX12_lighter := goodIn_r _ [15] (by decide +kernel) (by decide +kernel)
set_option maxRecDepth 20000 in
theorem gX12_chance_X12_lighter : GoodIn wsX12_chance (va_wsS RX12 222 yX12_lighter wsX12_lighter) := goodIn_app (goodIn_of _ (by decide +kernel)) ggX12_chance_X12_lighter
set_option maxRecDepth 20000 in
theorem ggX12_chance_X12_heavier : GoodIn wsX12_chance wsX12_heavier := goodIn_r _ [18] (by decide +kernel) (by decide +kernel)
set_option maxRecDepth 20000 in
theorem gX12_chance_X12_heavier : GoodIn wsX12_chance (va_wsS RX12 225 yX12_heavier wsX12_heavier) := goodIn_app (goodIn_of _ (by decide +kernel)) ggX12_chance_X12_heavier
set_option maxRecDepth 20000 in
theorem ggX12_drift_X12_stepsRefused : GoodIn wsX12_drift wsX12_stepsRefused := goodIn_r _ [6, 7, 8, 9, 10, 11, 12, 13, 14, 5, 15, 66, 67, 68, 69, 70, 71, 72, 73, 74, 75, 76, 77, 78, 79, 80, 81, 82, 83, 84, 85, 86, 87, 88, 89, 90, 91, 92, 93, 94, 95, 96, 97, 98, 99, 100, 101, 102, 103, 104, 105, 106, 107, 108, 109] (by decide +kernel) (by decide +kernel)
set_option maxRecDepth 20000 in
theorem gX12_drift_X12_stepsRefused : GoodIn wsX12_drift (wsV RX12 210 RX12 yX12_stepsRefused wsX12_stepsRefused) := goodIn_app (goodIn_of _ (by decide +kernel)) ggX12_drift_X12_stepsRefused
set_option maxRecDepth 20000 in
theorem ggX12_drift_X12_remember : GoodIn wsX12_drift wsX12_remember := goodIn_r _ [19, 20, 21, 11, 66, 67, 68, 69, 70, 71, 72, 73, 74, 75, 76, 77, 78, 79, 80, 81, 82, 83, 84, 85, 86, 87, 88, 89, 90, 91, 92, 93, 94, 95, 96, 97, 98, 99, 100, 101, 102, 103, 104, 105, 106, 107, 108, 109] (by decide +kernel) (by decide +kernel)
set_option maxRecDepth 20000 in
theorem gX12_drift_X12_remember : GoodIn wsX12_drift (wsV RX12 214 RX12 yX12_remember wsX12_remember) := goodIn_app (goodIn_of _ (by decide +kernel)) ggX12_drift_X12_remember
set_option maxRecDepth 20000 in
theorem ggX12_drift_X12_chance : GoodIn wsX12_drift wsX12_chance := goodIn_r _ [25, 1, 11, 26, 27, 28, 5, 29, 30, 31, 32, 33, 34, 35, 36, 37, 38, 39, 40, 66, 67, 68, 69, 70, 71, 72, 73, 74, 75, 76, 77, 78, 79, 80, 81, 82, 83, 84, 85, 86, 87, 88, 89, 90, 91, 92, 93, 94, 95, 96, 97, 98, 99, 100, 101, 102, 103, 104, 105, 106, 107, 108, 109] (by decide +kernel) (by decide +kernel)
set_option maxRecDepth 20000 in
theorem gX12_drift_X12_chance : GoodIn wsX12_drift (wsV RX12 241 RX12 yX12_chance wsX12_chance) := goodIn_app (goodIn_of _ (by decide +kernel)) ggX12_drift_X12_chance
set_option maxRecDepth 20000 in
theorem ggX12_drift_X12_stepAll : GoodIn wsX12_drift wsX12_stepAll := goodIn_r _ [44, 1, 11, 45, 46, 47, 48, 49, 50, 51, 5, 52, 53, 54, 55, 56, 57, 58, 59, 60, 9, 61, 66, 67, 68, 69, 70, 71, 72, 73, 74, 75, 76, 77, 78, 79, 80, 81, 82, 83, 84, 85, 86, 87, 88, 89, 90, 91, 92, 93, 94, 95, 96, 97, 98, 99, 100, 101, 102, 103, 104, 105, 106, 107, 108, 109] (by decide +kernel) (by decide +kernel)
set_option maxRecDepth 20000 in
theorem gX12_drift_X12_stepAll : GoodIn wsX12_drift (wsV RX12 217 RX12 yX12_stepAll wsX12_stepAll) := goodIn_app (goodIn_of _ (by decide +kernel)) ggX12_drift_X12_stepAll
set_option maxRecDepth 20000 in
theorem ggX12_drift_X12_sitting : GoodIn wsX12_drift wsX12_sitting := goodIn_r _ [65, 1, 49, 50, 51, 5, 52, 11, 46, 47, 48, 57, 58, 59, 60, 9, 61, 66, 67, 68, 69, 70, 71, 72, 73, 74, 75, 76, 77, 78, 79, 80, 81, 82, 83, 84, 85, 86, 87, 88, 89, 90, 91, 92, 93, 94, 95, 96, 97, 98, 99, 100, 101, 102, 103, 104, 105, 106, 107, 108, 109] (by decide +kernel) (by decide +kernel)
set_option maxRecDepth 20000 in
theorem gX12_drift_X12_sitting : GoodIn wsX12_drift (wsV RX12 194 RX12 yX12_sitting wsX12_sitting) := goodIn_app (goodIn_of _ (by decide +kernel)) ggX12_drift_X12_sitting
set_option maxRecDepth 20000 in
theorem ggX12_quay_X12_isBoat : GoodIn wsX12_quay wsX12_isBoat := goodIn_r _ [7, 8, 9, 10, 6, 11, 17, 18, 19, 20, 21, 22, 23, 24, 25, 26, 27, 28, 29, 30, 31, 32, 33, 34, 35, 36, 37, 38, 39, 40, 41, 42, 43, 44, 45, 46, 47, 48, 49, 50, 51, 52, 53, 54, 55, 56, 57, 58, 59, 60] (by decide +kernel) (by decide +kernel)
set_option maxRecDepth 20000 in
theorem gX12_quay_X12_isBoat : GoodIn wsX12_quay (wsV RX12 201 RX12 yX12_isBoat wsX12_isBoat) := goodIn_app (goodIn_of _ (by decide +kernel)) ggX12_quay_X12_isBoat
set_option maxRecDepth 20000 in
theorem ggX12_quay_X12_isJunction : GoodIn wsX12_quay wsX12_isJunction := goodIn_r _ [15, 16, 9, 10, 6, 11, 17, 18, 19, 20, 21, 22, 23, 24, 25, 26, 27, 28, 29, 30, 31, 32, 33, 34, 35, 36, 37, 38, 39, 40, 41, 42, 43, 44, 45, 46, 47, 48, 49, 50, 51, 52, 53, 54, 55, 56, 57, 58, 59, 60] (by decide +kernel) (by decide +kernel)
set_option maxRecDepth 20000 in
theorem gX12_quay_X12_isJunction : GoodIn wsX12_quay (wsV RX12 244 RX12 yX12_isJunction wsX12_isJunction) := goodIn_app (goodIn_of _ (by decide +kernel)) ggX12_quay_X12_isJunction
set_option maxRecDepth 20000 in
theorem ggX12_goOn_X12_go : GoodIn wsX12_goOn wsX12_go := goodIn_r _ [5, 6, 7, 8, 9, 10, 11, 4, 12, 13, 14, 15, 16, 17, 18, 19, 20, 21, 22, 23, 24, 25, 26, 27, 28, 29, 30, 31, 32, 33, 34, 35, 36, 37, 38, 39, 40, 41, 42, 43, 44, 45, 46, 47, 48, 49, 50, 51, 52, 53, 54, 55, 56, 57, 58] (by decide +kernel) (by decide +kernel)
set_option maxRecDepth 20000 in
theorem gX12_goOn_X12_go : GoodIn wsX12_goOn (wsV RX12 204 RX12 yX12_go wsX12_go) := goodIn_app (goodIn_of _ (by decide +kernel)) ggX12_goOn_X12_go
set_option maxRecDepth 20000 in
theorem ggX12_where_X12_isBoat : GoodIn wsX12_where wsX12_isBoat := goodIn_r _ [11, 12, 13, 14, 10, 15, 36, 37, 38, 39, 40, 41, 42, 43, 44, 45, 46, 47, 48, 49, 50, 51, 52, 53, 54, 55, 56, 57, 58, 59, 60, 61, 62, 63, 64, 65, 66, 67, 68, 69, 70, 71, 72, 73, 74, 75, 76, 77, 78, 79] (by decide +kernel) (by decide +kernel)
set_option maxRecDepth 20000 in
theorem gX12_where_X12_isBoat : GoodIn wsX12_where (wsV RX12 201 RX12 yX12_isBoat wsX12_isBoat) := goodIn_app (goodIn_of _ (by decide +kernel)) ggX12_where_X12_isBoat
set_option maxRecDepth 20000 in
theorem ggX12_where_X12_in : GoodIn wsX12_where wsX12_in := goodIn_r _ [15] (by decide +kernel) (by decide +kernel)
set_option maxRecDepth 20000 in
theorem gX12_where_X12_in : GoodIn wsX12_where (va_wsS RX12 96 yX12_in wsX12_in) := goodIn_app (goodIn_of _ (by decide +kernel)) ggX12_where_X12_in
set_option maxRecDepth 20000 in
theorem ggX12_where_X12_board : GoodIn wsX12_where wsX12_board := goodIn_r _ [19, 20, 5, 21, 6, 36, 37, 38, 39, 40, 41, 42, 43, 44, 45, 46, 47, 48, 49, 50, 51, 52, 53, 54, 55, 56, 57, 58, 59, 60, 61, 62, 63, 64, 65, 66, 67, 68, 69, 70, 71, 72, 73, 74, 75, 76, 77, 78, 79] (by decide +kernel) (by decide +kernel)
set_option maxRecDepth 20000 in
theorem gX12_where_X12_board : GoodIn wsX12_where (wsV RX12 190 RX12 yX12_board wsX12_board) := goodIn_app (goodIn_of _ (by decide +kernel)) ggX12_where_X12_board
set_option maxRecDepth 20000 in
theorem ggX12_where_X12_goOn : GoodIn wsX12_where wsX12_goOn := goodIn_r _ [25, 26, 27, 28, 10, 29, 5, 21, 6, 30, 31, 32, 33, 34, 35, 36, 37, 38, 39, 40, 41, 42, 43, 44, 45, 46, 47, 48, 49, 50, 51, 52, 53, 54, 55, 56, 57, 58, 59, 60, 61, 62, 63, 64, 65, 66, 67, 68, 69, 70, 71, 72, 73, 74, 75, 76, 77, 78, 79] (by decide +kernel) (by decide +kernel)
set_option maxRecDepth 20000 in
theorem gX12_where_X12_goOn : GoodIn wsX12_where (wsV RX12 247 RX12 yX12_goOn wsX12_goOn) := goodIn_app (goodIn_of _ (by decide +kernel)) ggX12_where_X12_goOn
set_option maxRecDepth 20000 in
theorem ggX12_sitsBehind_X12_go : GoodIn wsX12_sitsBehind wsX12_go := goodIn_r _ [5, 6, 7, 8, 9, 10, 11, 4, 12, 13, 14, 15, 16, 17, 18, 19, 20, 21, 22, 23, 24, 25, 26, 27, 28, 29, 30, 31, 32, 33, 34, 35, 36, 37, 38, 39, 40, 41, 42, 43, 44, 45, 46, 47, 48, 49, 50, 51, 52, 53, 54, 55, 56, 57, 58] (by decide +kernel) (by decide +kernel)
set_option maxRecDepth 20000 in
theorem gX12_sitsBehind_X12_go : GoodIn wsX12_sitsBehind (wsV RX12 204 RX12 yX12_go wsX12_go) := goodIn_app (goodIn_of _ (by decide +kernel)) ggX12_sitsBehind_X12_go
set_option maxRecDepth 20000 in
theorem ggX12_sits_X12_isBoat : GoodIn wsX12_sits wsX12_isBoat := goodIn_r _ [7, 8, 9, 10, 6, 11, 34, 35, 36, 37, 38, 39, 40, 41, 42, 43, 44, 45, 46, 47, 48, 49, 50, 51, 52, 53, 54, 55, 56, 57, 58, 59, 60, 61, 62, 63, 64, 65, 66, 67, 68, 69, 70, 71, 72, 73, 74, 75, 76, 77] (by decide +kernel) (by decide +kernel)
set_option maxRecDepth 20000 in
theorem gX12_sits_X12_isBoat : GoodIn wsX12_sits (wsV RX12 201 RX12 yX12_isBoat wsX12_isBoat) := goodIn_app (goodIn_of _ (by decide +kernel)) ggX12_sits_X12_isBoat
set_option maxRecDepth 20000 in
theorem ggX12_sits_X12_board : GoodIn wsX12_sits wsX12_board := goodIn_r _ [15, 16, 17, 18, 19, 34, 35, 36, 37, 38, 39, 40, 41, 42, 43, 44, 45, 46, 47, 48, 49, 50, 51, 52, 53, 54, 55, 56, 57, 58, 59, 60, 61, 62, 63, 64, 65, 66, 67, 68, 69, 70, 71, 72, 73, 74, 75, 76, 77] (by decide +kernel) (by decide +kernel)
set_option maxRecDepth 20000 in
theorem gX12_sits_X12_board : GoodIn wsX12_sits (wsV RX12 190 RX12 yX12_board wsX12_board) := goodIn_app (goodIn_of _ (by decide +kernel)) ggX12_sits_X12_board
set_option maxRecDepth 20000 in
theorem ggX12_sits_X12_sitsBehind : GoodIn wsX12_sits wsX12_sitsBehind := goodIn_r _ [23, 24, 25, 26, 6, 27, 17, 18, 19, 28, 29, 30, 31, 32, 33, 34, 35, 36, 37, 38, 39, 40, 41, 42, 43, 44, 45, 46, 47, 48, 49, 50, 51, 52, 53, 54, 55, 56, 57, 58, 59, 60, 61, 62, 63, 64, 65, 66, 67, 68, 69, 70, 71, 72, 73, 74, 75, 76, 77] (by decide +kernel) (by decide +kernel)
set_option maxRecDepth 20000 in
theorem gX12_sits_X12_sitsBehind : GoodIn wsX12_sits (wsV RX12 251 RX12 yX12_sitsBehind wsX12_sitsBehind) := goodIn_app (goodIn_of _ (by decide +kernel)) ggX12_sits_X12_sitsBehind
set_option maxRecDepth 20000 in
theorem ggX12_round_X12_isBoat : GoodIn wsX12_round wsX12_isBoat := goodIn_r _ [8, 9, 10, 11, 7, 12, 33, 34, 35, 36, 37, 38, 39, 40, 41, 42, 43, 44, 45, 46, 47, 48, 49, 50, 51, 52, 53, 54, 55, 56, 57, 58, 59, 60, 61, 62, 63, 64, 65, 66, 67, 68, 69, 70, 71, 72, 73, 74, 75, 76] (by decide +kernel) (by decide +kernel)
set_option maxRecDepth 20000 in
theorem gX12_round_X12_isBoat : GoodIn wsX12_round (wsV RX12 201 RX12 yX12_isBoat wsX12_isBoat) := goodIn_app (goodIn_of _ (by decide +kernel)) ggX12_round_X12_isBoat
set_option maxRecDepth 20000 in
theorem ggX12_round_X12_board : GoodIn wsX12_round wsX12_board := goodIn_r _ [16, 17, 2, 3, 18, 33, 34, 35, 36, 37, 38, 39, 40, 41, 42, 43, 44, 45, 46, 47, 48, 49, 50, 51, 52, 53, 54, 55, 56, 57, 58, 59, 60, 61, 62, 63, 64, 65, 66, 67, 68, 69, 70, 71, 72, 73, 74, 75, 76] (by decide +kernel) (by decide +kernel)
set_option maxRecDepth 20000 in
theorem gX12_round_X12_board : GoodIn wsX12_round (wsV RX12 190 RX12 yX12_board wsX12_board) := goodIn_app (goodIn_of _ (by decide +kernel)) ggX12_round_X12_board
set_option maxRecDepth 20000 in
theorem ggX12_round_X12_sitsBehind : GoodIn wsX12_round wsX12_sitsBehind := goodIn_r _ [22, 23, 24, 25, 7, 26, 2, 3, 18, 27, 28, 29, 30, 31, 32, 33, 34, 35, 36, 37, 38, 39, 40, 41, 42, 43, 44, 45, 46, 47, 48, 49, 50, 51, 52, 53, 54, 55, 56, 57, 58, 59, 60, 61, 62, 63, 64, 65, 66, 67, 68, 69, 70, 71, 72, 73, 74, 75, 76] (by decide +kernel) (by decide +kernel)
set_option maxRecDepth 20000 in
theorem gX12_round_X12_sitsBehind : GoodIn wsX12_round (wsV RX12 251 RX12 yX12_sitsBehind wsX12_sitsBehind) := goodIn_app (goodIn_of _ (by decide +kernel)) ggX12_round_X12_sitsBehind
set_option maxRecDepth 20000 in
theorem ggX12_round_X12_go : GoodIn wsX12_round wsX12_go := goodIn_r _ [26, 2, 3, 18, 27, 28, 29, 7, 30, 31, 32, 33, 34, 35, 36, 37, 38, 39, 40, 41, 42, 43, 44, 45, 46, 47, 48, 49, 50, 51, 52, 53, 54, 55, 56, 57, 58, 59, 60, 61, 62, 63, 64, 65, 66, 67, 68, 69, 70, 71, 72, 73, 74, 75, 76] (by decide +kernel) (by decide +kernel)
set_option maxRecDepth 20000 in
theorem gX12_round_X12_go : GoodIn wsX12_round (wsV RX12 204 RX12 yX12_go wsX12_go) := goodIn_app (goodIn_of _ (by decide +kernel)) ggX12_round_X12_go
set_option maxRecDepth 20000 in
theorem ggX12_sitsAt_X12_board : GoodIn wsX12_sitsAt wsX12_board := goodIn_r _ [8, 9, 3, 10, 1, 25, 26, 27, 28, 29, 30, 31, 32, 33, 34, 35, 36, 37, 38, 39, 40, 41, 42, 43, 44, 45, 46, 47, 48, 49, 50, 51, 52, 53, 54, 55, 56, 57, 58, 59, 60, 61, 62, 63, 64, 65, 66, 67, 68] (by decide +kernel) (by decide +kernel)
set_option maxRecDepth 20000 in
theorem gX12_sitsAt_X12_board : GoodIn wsX12_sitsAt (wsV RX12 190 RX12 yX12_board wsX12_board) := goodIn_app (goodIn_of _ (by decide +kernel)) ggX12_sitsAt_X12_board
set_option maxRecDepth 20000 in
theorem ggX12_sitsAt_X12_sitsBehind : GoodIn wsX12_sitsAt wsX12_sitsBehind := goodIn_r _ [14, 15, 16, 17, 7, 18, 3, 10, 1, 19, 20, 21, 22, 23, 24, 25, 26, 27, 28, 29, 30, 31, 32, 33, 34, 35, 36, 37, 38, 39, 40, 41, 42, 43, 44, 45, 46, 47, 48, 49, 50, 51, 52, 53, 54, 55, 56, 57, 58, 59, 60, 61, 62, 63, 64, 65, 66, 67, 68] (by decide +kernel) (by decide +kernel)
set_option maxRecDepth 20000 in
theorem gX12_sitsAt_X12_sitsBehind : GoodIn wsX12_sitsAt (wsV RX12 251 RX12 yX12_sitsBehind wsX12_sitsBehind) := goodIn_app (goodIn_of _ (by decide +kernel)) ggX12_sitsAt_X12_sitsBehind
