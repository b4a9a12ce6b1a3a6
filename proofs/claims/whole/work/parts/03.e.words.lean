set_option maxRecDepth 20000 in
theorem ggX11_judge_X2_boatIn : GoodIn wsX11_judge wsX2_boatIn := goodIn_r _ [8, 9, 10, 11, 12, 7, 13, 14, 15, 47, 48, 49, 50, 51] (by decide +kernel) (by decide +kernel)
set_option maxRecDepth 20000 in
theorem gX11_judge_X2_boatIn : GoodIn wsX11_judge (wsV RX11 275 RX2 yX2_boatIn wsX2_boatIn) := goodIn_app (goodIn_of _ (by decide +kernel)) ggX11_judge_X2_boatIn
set_option maxRecDepth 20000 in
theorem ggX11_judge_X4_at : GoodIn wsX11_judge wsX4_at := goodIn_r _ [20, 21, 22, 23, 19, 24, 25, 52] (by decide +kernel) (by decide +kernel)
set_option maxRecDepth 20000 in
theorem gX11_judge_X4_at : GoodIn wsX11_judge (wsV RX11 158 RX4 yX4_at wsX4_at) := goodIn_app (goodIn_of _ (by decide +kernel)) ggX11_judge_X4_at
set_option maxRecDepth 20000 in
theorem ggX11_judge_X2_junctionIn : GoodIn wsX11_judge wsX2_junctionIn := goodIn_r _ [29, 30, 10, 11, 12, 7, 13, 14, 15, 47, 48, 49, 50, 51] (by decide +kernel) (by decide +kernel)
set_option maxRecDepth 20000 in
theorem gX11_judge_X2_junctionIn : GoodIn wsX11_judge (wsV RX11 278 RX2 yX2_junctionIn wsX2_junctionIn) := goodIn_app (goodIn_of _ (by decide +kernel)) ggX11_judge_X2_junctionIn
set_option maxRecDepth 20000 in
theorem ggX11_keep_X5_keepIn : GoodIn wsX11_keep wsX5_keepIn := goodIn_r _ [10, 11, 12, 13, 14, 15, 16, 17, 18, 19, 20, 21, 22, 23, 24, 25, 26, 49, 50, 51, 52, 53, 54, 55] (by decide +kernel) (by decide +kernel)
set_option maxRecDepth 20000 in
theorem gX11_keep_X5_keepIn : GoodIn wsX11_keep (wsV RX11 284 RX5 yX5_keepIn wsX5_keepIn) := goodIn_app (goodIn_of _ (by decide +kernel)) ggX11_keep_X5_keepIn
set_option maxRecDepth 20000 in
theorem ggX11_keep_X6_forget : GoodIn wsX11_keep wsX6_forget := goodIn_r _ [31, 32, 56, 57, 58] (by decide +kernel) (by decide +kernel)
set_option maxRecDepth 20000 in
theorem gX11_keep_X6_forget : GoodIn wsX11_keep (wsV RX11 288 RX6 yX6_forget wsX6_forget) := goodIn_app (goodIn_of _ (by decide +kernel)) ggX11_keep_X6_forget
set_option maxRecDepth 20000 in
theorem ggX11_goBack_X5_isKept : GoodIn wsX11_goBack wsX5_isKept := goodIn_r _ [11, 12, 55, 56, 57] (by decide +kernel) (by decide +kernel)
set_option maxRecDepth 20000 in
theorem gX11_goBack_X5_isKept : GoodIn wsX11_goBack (wsV RX11 291 RX5 yX5_isKept wsX5_isKept) := goodIn_app (goodIn_of _ (by decide +kernel)) ggX11_goBack_X5_isKept
set_option maxRecDepth 20000 in
theorem ggX11_goBack_X5_bringBack : GoodIn wsX11_goBack wsX5_bringBack := goodIn_r _ [16, 17, 18, 19, 20, 8, 9, 10, 11, 12, 21, 22, 23, 24, 25, 26, 27, 28, 29, 30, 31, 32, 55, 56, 57, 58, 59, 60, 61] (by decide +kernel) (by decide +kernel)
set_option maxRecDepth 20000 in
theorem gX11_goBack_X5_bringBack : GoodIn wsX11_goBack (wsV RX11 294 RX5 yX5_bringBack wsX5_bringBack) := goodIn_app (goodIn_of _ (by decide +kernel)) ggX11_goBack_X5_bringBack
set_option maxRecDepth 20000 in
theorem ggX11_goBack_X6_forget : GoodIn wsX11_goBack wsX6_forget := goodIn_r _ [37, 38, 62, 63, 64] (by decide +kernel) (by decide +kernel)
set_option maxRecDepth 20000 in
theorem gX11_goBack_X6_forget : GoodIn wsX11_goBack (wsV RX11 288 RX6 yX6_forget wsX6_forget) := goodIn_app (goodIn_of _ (by decide +kernel)) ggX11_goBack_X6_forget
set_option maxRecDepth 20000 in
theorem ggX11_beginAnew_X4_launch : GoodIn wsX11_beginAnew wsX4_launch := goodIn_r _ [12, 13, 14, 15, 16, 17, 18, 19, 20, 21, 22, 23, 24, 25, 26, 27, 11, 28, 29, 30, 31, 32, 33, 73, 74, 75, 76, 77, 78, 79, 80, 81, 82, 83, 84] (by decide +kernel) (by decide +kernel)
set_option maxRecDepth 20000 in
theorem gX11_beginAnew_X4_launch : GoodIn wsX11_beginAnew (wsV RX11 296 RX4 yX4_launch wsX4_launch) := goodIn_app (goodIn_of _ (by decide +kernel)) ggX11_beginAnew_X4_launch
set_option maxRecDepth 20000 in
theorem ggX11_beginAnew_X11_forgetQuays : GoodIn wsX11_beginAnew wsX11_forgetQuays := goodIn_r _ [38, 39, 52, 53, 54, 55, 56, 57, 58, 59, 60, 61, 62, 63, 64, 65, 66, 67] (by decide +kernel) (by decide +kernel)
set_option maxRecDepth 20000 in
theorem gX11_beginAnew_X11_forgetQuays : GoodIn wsX11_beginAnew (wsV RX11 101 RX11 yX11_forgetQuays wsX11_forgetQuays) := goodIn_app (goodIn_of _ (by decide +kernel)) ggX11_beginAnew_X11_forgetQuays
set_option maxRecDepth 20000 in
theorem ggX11_beginAnew_X6_forget : GoodIn wsX11_beginAnew wsX6_forget := goodIn_r _ [44, 45, 85, 86, 87] (by decide +kernel) (by decide +kernel)
set_option maxRecDepth 20000 in
theorem gX11_beginAnew_X6_forget : GoodIn wsX11_beginAnew (wsV RX11 288 RX6 yX6_forget wsX6_forget) := goodIn_app (goodIn_of _ (by decide +kernel)) ggX11_beginAnew_X6_forget
set_option maxRecDepth 20000 in
theorem ggX11_beginAnew_X5_forget : GoodIn wsX11_beginAnew wsX5_forget := goodIn_r _ [50, 51, 88, 89, 90] (by decide +kernel) (by decide +kernel)
set_option maxRecDepth 20000 in
theorem gX11_beginAnew_X5_forget : GoodIn wsX11_beginAnew (wsV RX11 299 RX5 yX5_forget wsX5_forget) := goodIn_app (goodIn_of _ (by decide +kernel)) ggX11_beginAnew_X5_forget
set_option maxRecDepth 20000 in
theorem ggX11_refusalToGo_X4_stepsGone : GoodIn wsX11_refusalToGo wsX4_stepsGone := goodIn_r _ [11, 12, 40] (by decide +kernel) (by decide +kernel)
set_option maxRecDepth 20000 in
theorem gX11_refusalToGo_X4_stepsGone : GoodIn wsX11_refusalToGo (wsV RX11 126 RX4 yX4_stepsGone wsX4_stepsGone) := goodIn_app (goodIn_of _ (by decide +kernel)) ggX11_refusalToGo_X4_stepsGone
set_option maxRecDepth 20000 in
theorem ggX11_drawMonth_X1_next : GoodIn wsX11_drawMonth wsX1_next := goodIn_r _ [9, 10, 11, 12, 13, 14, 71] (by decide +kernel) (by decide +kernel)
set_option maxRecDepth 20000 in
theorem gX11_drawMonth_X1_next : GoodIn wsX11_drawMonth (wsV RX11 300 RX1 yX1_next wsX1_next) := goodIn_app (goodIn_of _ (by decide +kernel)) ggX11_drawMonth_X1_next
set_option maxRecDepth 20000 in
theorem ggX11_drawMonth_X4_lighten : GoodIn wsX11_drawMonth wsX4_lighten := goodIn_r _ [19, 20, 21, 22, 23, 24, 25, 26, 18, 27, 28, 29, 30, 31, 32, 33, 34, 35, 36, 72] (by decide +kernel) (by decide +kernel)
set_option maxRecDepth 20000 in
theorem gX11_drawMonth_X4_lighten : GoodIn wsX11_drawMonth (wsV RX11 185 RX4 yX4_lighten wsX4_lighten) := goodIn_app (goodIn_of _ (by decide +kernel)) ggX11_drawMonth_X4_lighten
set_option maxRecDepth 20000 in
theorem ggX11_drawMonth_X4_load : GoodIn wsX11_drawMonth wsX4_load := goodIn_r _ [40, 41, 42, 22, 43, 24, 25, 26, 18, 27, 28, 29, 30, 31, 32, 33, 34, 35, 36, 72] (by decide +kernel) (by decide +kernel)
set_option maxRecDepth 20000 in
theorem gX11_drawMonth_X4_load : GoodIn wsX11_drawMonth (wsV RX11 189 RX4 yX4_load wsX4_load) := goodIn_app (goodIn_of _ (by decide +kernel)) ggX11_drawMonth_X4_load
set_option maxRecDepth 20000 in
theorem ggX11_layWay_X4_at : GoodIn wsX11_layWay wsX4_at := goodIn_r _ [8, 9, 10, 11, 7, 12, 13, 74] (by decide +kernel) (by decide +kernel)
set_option maxRecDepth 20000 in
theorem gX11_layWay_X4_at : GoodIn wsX11_layWay (wsV RX11 158 RX4 yX4_at wsX4_at) := goodIn_app (goodIn_of _ (by decide +kernel)) ggX11_layWay_X4_at
set_option maxRecDepth 20000 in
theorem ggX11_layWay_X4_from : GoodIn wsX11_layWay wsX4_from := goodIn_r _ [17, 9, 10, 11, 7, 12, 13, 74] (by decide +kernel) (by decide +kernel)
set_option maxRecDepth 20000 in
theorem gX11_layWay_X4_from : GoodIn wsX11_layWay (wsV RX11 162 RX4 yX4_from wsX4_from) := goodIn_app (goodIn_of _ (by decide +kernel)) ggX11_layWay_X4_from
set_option maxRecDepth 20000 in
theorem ggX11_layWay_X9_wearOf : GoodIn wsX11_layWay wsX9_wearOf := goodIn_r _ [22, 23, 24, 25, 26, 21, 27, 28, 75, 76, 77, 78, 79, 80, 81, 82, 83, 84, 85] (by decide +kernel) (by decide +kernel)
set_option maxRecDepth 20000 in
theorem gX11_layWay_X9_wearOf : GoodIn wsX11_layWay (wsV RX11 168 RX9 yX9_wearOf wsX9_wearOf) := goodIn_app (goodIn_of _ (by decide +kernel)) ggX11_layWay_X9_wearOf
set_option maxRecDepth 20000 in
theorem ggX11_layWay_X10_lay : GoodIn wsX11_layWay wsX10_lay := goodIn_r _ [33, 34, 35, 36, 37, 38, 39, 40, 41, 42, 43, 44, 45, 46, 21, 47, 48, 49, 50, 51, 52, 53, 54, 55, 56, 57, 86, 87, 88, 75, 76, 77, 78, 79, 80, 81, 82, 83, 84, 85] (by decide +kernel) (by decide +kernel)
set_option maxRecDepth 20000 in
theorem gX11_layWay_X10_lay : GoodIn wsX11_layWay (wsV RX11 223 RX10 yX10_lay wsX10_lay) := goodIn_app (goodIn_of _ (by decide +kernel)) ggX11_layWay_X10_lay
set_option maxRecDepth 20000 in
theorem ggX11_tryPulls_X11_layWay : GoodIn wsX11_tryPulls wsX11_layWay := goodIn_r _ [11, 3, 1, 4, 12, 13, 14, 15, 16, 17, 18, 19, 20, 21, 22, 23, 24, 25, 26, 27, 28, 29, 30, 31, 32, 33, 34, 35, 36, 37, 38, 39, 40, 41, 42, 43, 44, 45, 46, 47, 48, 49, 50, 51, 52, 53, 54, 55, 56, 57, 58, 59, 60, 61, 62, 63, 64, 65, 88, 89, 90, 91, 92, 93, 94, 95, 96, 97, 98, 99, 100, 101, 102, 103, 115, 104, 105, 106, 107, 108, 109, 110, 111, 112, 113, 114, 116, 117, 118] (by decide +kernel) (by decide +kernel)
set_option maxRecDepth 20000 in
theorem gX11_tryPulls_X11_layWay : GoodIn wsX11_tryPulls (wsV RX11 208 RX11 yX11_layWay wsX11_layWay) := goodIn_app (goodIn_of _ (by decide +kernel)) ggX11_tryPulls_X11_layWay
set_option maxRecDepth 20000 in
theorem ggX11_tryPulls_X4_pull : GoodIn wsX11_tryPulls wsX4_pull := goodIn_r _ [69, 17, 18, 19, 15, 20, 21, 115] (by decide +kernel) (by decide +kernel)
set_option maxRecDepth 20000 in
theorem gX11_tryPulls_X4_pull : GoodIn wsX11_tryPulls (wsV RX11 165 RX4 yX4_pull wsX4_pull) := goodIn_app (goodIn_of _ (by decide +kernel)) ggX11_tryPulls_X4_pull
set_option maxRecDepth 20000 in
theorem ggX11_tryPulls_X10_gone : GoodIn wsX11_tryPulls wsX10_gone := goodIn_r _ [73, 74, 75, 76, 40, 77, 49, 51, 116, 117, 118] (by decide +kernel) (by decide +kernel)
set_option maxRecDepth 20000 in
theorem gX11_tryPulls_X10_gone : GoodIn wsX11_tryPulls (wsV RX11 211 RX10 yX10_gone wsX10_gone) := goodIn_app (goodIn_of _ (by decide +kernel)) ggX11_tryPulls_X10_gone
set_option maxRecDepth 20000 in
theorem ggX11_tryPulls_X10_place : GoodIn wsX11_tryPulls wsX10_place := goodIn_r _ [81, 49, 50, 116, 117, 118] (by decide +kernel) (by decide +kernel)
set_option maxRecDepth 20000 in
theorem gX11_tryPulls_X10_place : GoodIn wsX11_tryPulls (wsV RX11 215 RX10 yX10_place wsX10_place) := goodIn_app (goodIn_of _ (by decide +kernel)) ggX11_tryPulls_X10_place
set_option maxRecDepth 20000 in
theorem ggX11_tryPulls_X3_allow : GoodIn wsX11_tryPulls wsX3_allow := goodIn_r _ [86, 87, 119, 120, 121, 122, 123] (by decide +kernel) (by decide +kernel)
set_option maxRecDepth 20000 in
theorem gX11_tryPulls_X3_allow : GoodIn wsX11_tryPulls (wsV RX11 303 RX3 yX3_allow wsX3_allow) := goodIn_app (goodIn_of _ (by decide +kernel)) ggX11_tryPulls_X3_allow
set_option maxRecDepth 20000 in
theorem ggX11_sortPulls_X4_at : GoodIn wsX11_sortPulls wsX4_at := goodIn_r _ [10, 11, 12, 13, 9, 14, 15, 114] (by decide +kernel) (by decide +kernel)
set_option maxRecDepth 20000 in
theorem gX11_sortPulls_X4_at : GoodIn wsX11_sortPulls (wsV RX11 158 RX4 yX4_at wsX4_at) := goodIn_app (goodIn_of _ (by decide +kernel)) ggX11_sortPulls_X4_at
set_option maxRecDepth 20000 in
theorem ggX11_sortPulls_X9_wearOf : GoodIn wsX11_sortPulls wsX9_wearOf := goodIn_r _ [20, 21, 22, 23, 24, 19, 25, 26, 115, 116, 117, 118, 119, 120, 121, 122, 123, 124, 125] (by decide +kernel) (by decide +kernel)
set_option maxRecDepth 20000 in
theorem gX11_sortPulls_X9_wearOf : GoodIn wsX11_sortPulls (wsV RX11 168 RX9 yX9_wearOf wsX9_wearOf) := goodIn_app (goodIn_of _ (by decide +kernel)) ggX11_sortPulls_X9_wearOf
set_option maxRecDepth 20000 in
theorem ggX11_sortPulls_X10_lay : GoodIn wsX11_sortPulls wsX10_lay := goodIn_r _ [31, 32, 33, 34, 35, 36, 37, 38, 39, 40, 41, 42, 43, 44, 19, 45, 46, 47, 48, 49, 50, 51, 52, 53, 54, 55, 126, 127, 128, 115, 116, 117, 118, 119, 120, 121, 122, 123, 124, 125] (by decide +kernel) (by decide +kernel)
set_option maxRecDepth 20000 in
theorem gX11_sortPulls_X10_lay : GoodIn wsX11_sortPulls (wsV RX11 223 RX10 yX10_lay wsX10_lay) := goodIn_app (goodIn_of _ (by decide +kernel)) ggX11_sortPulls_X10_lay
set_option maxRecDepth 20000 in
theorem ggX11_sortPulls_X0_sort : GoodIn wsX11_sortPulls wsX0_sort := goodIn_r _ [60, 61, 62, 63, 64, 65, 30, 66, 39, 41, 67, 68, 59, 69, 70, 71, 33, 34, 35, 72, 73, 74, 75, 76, 77, 78, 79, 80, 81, 82, 83, 84, 85, 86, 87, 88, 89, 90, 91, 92, 40, 93, 94, 95, 96, 97, 129, 130, 131, 126, 127, 128, 132, 133, 134, 135, 136] (by decide +kernel) (by decide +kernel)
set_option maxRecDepth 20000 in
theorem gX11_sortPulls_X0_sort : GoodIn wsX11_sortPulls (wsV RX11 306 RX0 yX0_sort wsX0_sort) := goodIn_app (goodIn_of _ (by decide +kernel)) ggX11_sortPulls_X0_sort
set_option maxRecDepth 20000 in
theorem ggX12_isJunction_X12_in : GoodIn wsX12_isJunction wsX12_in := goodIn_r _ [5] (by decide +kernel) (by decide +kernel)
set_option maxRecDepth 20000 in
theorem gX12_isJunction_X12_in : GoodIn wsX12_isJunction (va_wsS RX12 96 yX12_in wsX12_in) := goodIn_app (goodIn_of _ (by decide +kernel)) ggX12_isJunction_X12_in
set_option maxRecDepth 20000 in
theorem ggX12_isBoat_X12_in : GoodIn wsX12_isBoat wsX12_in := goodIn_r _ [5] (by decide +kernel) (by decide +kernel)
set_option maxRecDepth 20000 in
theorem gX12_isBoat_X12_in : GoodIn wsX12_isBoat (va_wsS RX12 96 yX12_in wsX12_in) := goodIn_app (goodIn_of _ (by decide +kernel)) ggX12_isBoat_X12_in
set_option maxRecDepth 20000 in
theorem ggX12_feed_X12_in : GoodIn wsX12_feed wsX12_in := goodIn_r _ [9] (by decide +kernel) (by decide +kernel)
set_option maxRecDepth 20000 in
theorem gX12_feed_X12_in : GoodIn wsX12_feed (va_wsS RX12 96 yX12_in wsX12_in) := goodIn_app (goodIn_of _ (by decide +kernel)) ggX12_feed_X12_in
set_option maxRecDepth 20000 in
theorem ggX12_takeNumber_X12_here : GoodIn wsX12_takeNumber wsX12_here := goodIn_r _ [12, 3, 6, 7, 21, 22, 23, 24, 25, 26, 27, 28, 29, 30, 31, 32, 33, 34, 35, 36, 37, 38, 39, 40, 41, 42, 43, 44, 45, 46, 47, 48, 49, 50, 51, 52, 53, 54, 55, 56, 57, 58, 59, 60, 61, 62, 63, 64] (by decide +kernel) (by decide +kernel)
set_option maxRecDepth 20000 in
theorem gX12_takeNumber_X12_here : GoodIn wsX12_takeNumber (wsV RX12 113 RX12 yX12_here wsX12_here) := goodIn_app (goodIn_of _ (by decide +kernel)) ggX12_takeNumber_X12_here
set_option maxRecDepth 20000 in
theorem ggX12_takeNumber_X12_in : GoodIn wsX12_takeNumber wsX12_in := goodIn_r _ [15] (by decide +kernel) (by decide +kernel)
set_option maxRecDepth 20000 in
theorem gX12_takeNumber_X12_in : GoodIn wsX12_takeNumber (va_wsS RX12 96 yX12_in wsX12_in) := goodIn_app (goodIn_of _ (by decide +kernel)) ggX12_takeNumber_X12_in
set_option maxRecDepth 20000 in
theorem ggX12_takeNumber_X12_fails : GoodIn wsX12_takeNumber wsX12_fails := goodIn_r _ [19, 20, 21, 22, 23, 24, 25, 26, 27, 28, 29, 30, 31, 32, 33, 34, 35, 36, 37, 38, 39, 40, 41, 42, 43, 44, 45, 46, 47, 48, 49, 50, 51, 52, 53, 54, 55, 56, 57, 58, 59, 60, 61, 62, 63, 64] (by decide +kernel) (by decide +kernel)
set_option maxRecDepth 20000 in
theorem gX12_takeNumber_X12_fails : GoodIn wsX12_takeNumber (wsV RX12 121 RX12 yX12_fails wsX12_fails) := goodIn_app (goodIn_of _ (by decide +kernel)) ggX12_takeNumber_X12_fails
set_option maxRecDepth 20000 in
theorem ggX12_into_X12_takeNumber : GoodIn wsX12_into wsX12_takeNumber := goodIn_r _ [6, 7, 8, 9, 10, 1, 11, 12, 13, 14, 15, 5, 16, 17, 18, 19, 20, 21, 22, 23, 24, 25, 26, 27, 28, 29, 30, 31, 32, 33, 34, 35, 36, 37, 38, 39, 40, 41, 42, 43, 44, 45, 46, 47, 48, 49, 50, 51, 52, 53, 54, 55, 56, 57, 58, 59, 60, 61, 62, 63, 64, 65, 66, 67, 68] (by decide +kernel) (by decide +kernel)
set_option maxRecDepth 20000 in
theorem gX12_into_X12_takeNumber : GoodIn wsX12_into (wsV RX12 131 RX12 yX12_takeNumber wsX12_takeNumber) := goodIn_app (goodIn_of _ (by decide +kernel)) ggX12_into_X12_takeNumber
set_option maxRecDepth 20000 in
theorem ggX12_takeJunctions_X12_takeNumber : GoodIn wsX12_takeJunctions wsX12_takeNumber := goodIn_r _ [7, 8, 9, 10, 11, 1, 12, 13, 14, 15, 16, 6, 17, 18, 19, 20, 21, 22, 23, 24, 25, 26, 27, 28, 29, 30, 31, 32, 33, 34, 35, 36, 37, 38, 39, 40, 41, 42, 43, 44, 45, 46, 47, 48, 49, 50, 51, 52, 53, 54, 55, 56, 57, 58, 59, 60, 61, 62, 63, 64, 65, 66, 67, 68, 69] (by decide +kernel) (by decide +kernel)
set_option maxRecDepth 20000 in
theorem gX12_takeJunctions_X12_takeNumber : GoodIn wsX12_takeJunctions (wsV RX12 131 RX12 yX12_takeNumber wsX12_takeNumber) := goodIn_app (goodIn_of _ (by decide +kernel)) ggX12_takeJunctions_X12_takeNumber
set_option maxRecDepth 20000 in
theorem ggX12_takeCut_X12_into : GoodIn wsX12_takeCut wsX12_into := goodIn_r _ [11, 12, 13, 14, 15, 10, 16, 17, 18, 19, 5, 20, 21, 22, 23, 24, 25, 26, 27, 28, 29, 30, 31, 32, 33, 38, 39, 40, 41, 42, 43, 44, 45, 46, 47, 48, 49, 50, 51, 52, 53, 54, 55, 56, 57, 58, 59, 60, 61, 62, 63, 64, 65, 66, 67, 68, 69, 70, 71, 72, 73, 74, 75, 76, 77, 78, 79, 80, 81] (by decide +kernel) (by decide +kernel)
set_option maxRecDepth 20000 in
theorem gX12_takeCut_X12_into : GoodIn wsX12_takeCut (wsV RX12 140 RX12 yX12_into wsX12_into) := goodIn_app (goodIn_of _ (by decide +kernel)) ggX12_takeCut_X12_into
set_option maxRecDepth 20000 in
theorem ggX12_takeCut_X12_isCutAlready : GoodIn wsX12_takeCut wsX12_isCutAlready := goodIn_r _ [37, 2, 4, 38, 39, 40, 41, 42, 43, 44, 45, 46, 47, 48, 49, 50, 51, 52, 53, 54, 55, 56, 57, 58, 59, 60, 61, 62, 63, 64, 65, 66, 67, 68, 69, 70, 71, 72, 73, 74, 75, 76, 77, 78, 79, 80, 81] (by decide +kernel) (by decide +kernel)
set_option maxRecDepth 20000 in
theorem gX12_takeCut_X12_isCutAlready : GoodIn wsX12_takeCut (wsV RX12 144 RX12 yX12_isCutAlready wsX12_isCutAlready) := goodIn_app (goodIn_of _ (by decide +kernel)) ggX12_takeCut_X12_isCutAlready
set_option maxRecDepth 20000 in
theorem ggX12_takeCut_X12_fails : GoodIn wsX12_takeCut wsX12_fails := goodIn_r _ [32, 33, 38, 39, 40, 41, 42, 43, 44, 45, 46, 47, 48, 49, 50, 51, 52, 53, 54, 55, 56, 57, 58, 59, 60, 61, 62, 63, 64, 65, 66, 67, 68, 69, 70, 71, 72, 73, 74, 75, 76, 77, 78, 79, 80, 81] (by decide +kernel) (by decide +kernel)
set_option maxRecDepth 20000 in
theorem gX12_takeCut_X12_fails : GoodIn wsX12_takeCut (wsV RX12 121 RX12 yX12_fails wsX12_fails) := goodIn_app (goodIn_of _ (by decide +kernel)) ggX12_takeCut_X12_fails
set_option maxRecDepth 20000 in
theorem ggX12_takeBoat_X12_into : GoodIn wsX12_takeBoat wsX12_into := goodIn_r _ [10, 11, 12, 13, 14, 9, 15, 16, 17, 18, 19, 20, 21, 22, 23, 24, 25, 26, 27, 28, 29, 30, 31, 32, 33, 34, 35, 36, 37, 38, 39, 40, 41, 42, 43, 44, 45, 46, 47, 48, 49, 50, 51, 52, 53, 54, 55, 56, 57, 58, 59, 60, 61, 62, 63, 64, 65, 66, 67, 68, 69, 70, 71, 72, 73, 74, 75, 76, 77] (by decide +kernel) (by decide +kernel)
set_option maxRecDepth 20000 in
theorem gX12_takeBoat_X12_into : GoodIn wsX12_takeBoat (wsV RX12 140 RX12 yX12_into wsX12_into) := goodIn_app (goodIn_of _ (by decide +kernel)) ggX12_takeBoat_X12_into
set_option maxRecDepth 20000 in
theorem ggX12_takeClause_X12_here : GoodIn wsX12_takeClause wsX12_here := goodIn_r _ [9, 2, 10, 11, 54, 55, 56, 57, 58, 59, 60, 61, 62, 63, 64, 65, 66, 67, 68, 69, 70, 71, 72, 73, 74, 75, 76, 77, 78, 79, 80, 81, 82, 83, 84, 85, 86, 87, 88, 89, 90, 91, 92, 93, 94, 95, 96, 97] (by decide +kernel) (by decide +kernel)
set_option maxRecDepth 20000 in
theorem gX12_takeClause_X12_here : GoodIn wsX12_takeClause (wsV RX12 113 RX12 yX12_here wsX12_here) := goodIn_app (goodIn_of _ (by decide +kernel)) ggX12_takeClause_X12_here
set_option maxRecDepth 20000 in
theorem ggX12_takeClause_X12_fails : GoodIn wsX12_takeClause wsX12_fails := goodIn_r _ [15, 16, 54, 55, 56, 57, 58, 59, 60, 61, 62, 63, 64, 65, 66, 67, 68, 69, 70, 71, 72, 73, 74, 75, 76, 77, 78, 79, 80, 81, 82, 83, 84, 85, 86, 87, 88, 89, 90, 91, 92, 93, 94, 95, 96, 97] (by decide +kernel) (by decide +kernel)
set_option maxRecDepth 20000 in
theorem gX12_takeClause_X12_fails : GoodIn wsX12_takeClause (wsV RX12 121 RX12 yX12_fails wsX12_fails) := goodIn_app (goodIn_of _ (by decide +kernel)) ggX12_takeClause_X12_fails
set_option maxRecDepth 20000 in
theorem ggX12_takeClause_X12_takeJunctions : GoodIn wsX12_takeClause wsX12_takeJunctions := goodIn_r _ [20, 21, 1, 22, 23, 24, 8, 25, 26, 27, 2, 28, 10, 11, 5, 6, 7, 9, 29, 30, 31, 12, 13, 14, 15, 16, 54, 55, 56, 57, 58, 59, 60, 61, 62, 63, 64, 65, 66, 67, 68, 69, 70, 71, 72, 73, 74, 75, 76, 77, 78, 79, 80, 81, 82, 83, 84, 85, 86, 87, 88, 89, 90, 91, 92, 93, 94, 95, 96, 97] (by decide +kernel) (by decide +kernel)
set_option maxRecDepth 20000 in
theorem gX12_takeClause_X12_takeJunctions : GoodIn wsX12_takeClause (wsV RX12 151 RX12 yX12_takeJunctions wsX12_takeJunctions) := goodIn_app (goodIn_of _ (by decide +kernel)) ggX12_takeClause_X12_takeJunctions
set_option maxRecDepth 20000 in
theorem ggX12_takeClause_X12_takeCut : GoodIn wsX12_takeClause wsX12_takeCut := goodIn_r _ [35, 3, 36, 1, 37, 28, 38, 39, 40, 41, 8, 42, 21, 22, 23, 24, 25, 26, 27, 2, 10, 11, 5, 6, 7, 9, 29, 30, 31, 12, 13, 14, 15, 16, 43, 44, 45, 46, 54, 55, 56, 57, 58, 59, 60, 61, 62, 63, 64, 65, 66, 67, 68, 69, 70, 71, 72, 73, 74, 75, 76, 77, 78, 79, 80, 81, 82, 83, 84, 85, 86, 87, 88, 89, 90, 91, 92, 93, 94, 95, 96, 97] (by decide +kernel) (by decide +kernel)
set_option maxRecDepth 20000 in
theorem gX12_takeClause_X12_takeCut : GoodIn wsX12_takeClause (wsV RX12 154 RX12 yX12_takeCut wsX12_takeCut) := goodIn_app (goodIn_of _ (by decide +kernel)) ggX12_takeClause_X12_takeCut
set_option maxRecDepth 20000 in
theorem ggX12_takeClause_X12_takeBoat : GoodIn wsX12_takeClause wsX12_takeBoat := goodIn_r _ [50, 4, 51, 1, 52, 53, 39, 40, 41, 8, 42, 21, 22, 23, 24, 25, 26, 27, 2, 28, 10, 11, 5, 6, 7, 9, 29, 30, 31, 12, 13, 14, 15, 16, 54, 55, 56, 57, 58, 59, 60, 61, 62, 63, 64, 65, 66, 67, 68, 69, 70, 71, 72, 73, 74, 75, 76, 77, 78, 79, 80, 81, 82, 83, 84, 85, 86, 87, 88, 89, 90, 91, 92, 93, 94, 95, 96, 97] (by decide +kernel) (by decide +kernel)
set_option maxRecDepth 20000 in
theorem gX12_takeClause_X12_takeBoat : GoodIn wsX12_takeClause (wsV RX12 157 RX12 yX12_takeBoat wsX12_takeBoat) := goodIn_app (goodIn_of _ (by decide +kernel)) ggX12_takeClause_X12_takeBoat
set_option maxRecDepth 20000 in
theorem ggX12_water_X12_here : GoodIn wsX12_water wsX12_here := goodIn_r _ [16, 2, 6, 17, 76, 77, 78, 79, 80, 81, 82, 83, 84, 85, 86, 87, 88, 89, 90, 91, 92, 93, 94, 95, 96, 97, 98, 99, 100, 101, 102, 103, 104, 105, 106, 107, 108, 109, 110, 111, 112, 113, 114, 115, 116, 117, 118, 119] (by decide +kernel) (by decide +kernel)
set_option maxRecDepth 20000 in
theorem gX12_water_X12_here : GoodIn wsX12_water (wsV RX12 113 RX12 yX12_here wsX12_here) := goodIn_app (goodIn_of _ (by decide +kernel)) ggX12_water_X12_here
set_option maxRecDepth 20000 in
theorem ggX12_water_X12_takeClause : GoodIn wsX12_water wsX12_takeClause := goodIn_r _ [21, 3, 2, 4, 5, 12, 13, 14, 15, 16, 6, 17, 22, 23, 24, 25, 1, 26, 27, 28, 29, 30, 31, 32, 33, 34, 35, 36, 37, 38, 39, 40, 41, 42, 43, 44, 45, 46, 47, 48, 49, 50, 51, 52, 53, 54, 55, 56, 57, 58, 59, 60, 61, 62, 76, 77, 78, 79, 80, 81, 82, 83, 84, 85, 86, 87, 88, 89, 90, 91, 92, 93, 94, 95, 96, 97, 98, 99, 100, 101, 102, 103, 104, 105, 106, 107, 108, 109, 110, 111, 112, 113, 114, 115, 116, 117, 118, 119] (by decide +kernel) (by decide +kernel)
set_option maxRecDepth 20000 in
theorem gX12_water_X12_takeClause : GoodIn wsX12_water (wsV RX12 163 RX12 yX12_takeClause wsX12_takeClause) := goodIn_app (goodIn_of _ (by decide +kernel)) ggX12_water_X12_takeClause
set_option maxRecDepth 20000 in
theorem ggX12_water_X12_takeRead : GoodIn wsX12_water wsX12_takeRead := goodIn_r _ [66, 3, 67, 4, 68, 5, 11, 69, 70, 45, 71, 46, 72, 47, 73, 60, 61, 74, 62, 75, 76, 77, 78, 79, 80, 81, 82, 83, 84, 85, 86, 87, 88, 89, 90, 91, 92, 93, 94, 95, 96, 97, 98, 99, 100, 101, 102, 103, 104, 105, 106, 107, 108, 109, 110, 111, 112, 113, 114, 115, 116, 117, 118, 119] (by decide +kernel) (by decide +kernel)
set_option maxRecDepth 20000 in
theorem gX12_water_X12_takeRead : GoodIn wsX12_water (wsV RX12 166 RX12 yX12_takeRead wsX12_takeRead) := goodIn_app (goodIn_of _ (by decide +kernel)) ggX12_water_X12_takeRead
set_option maxRecDepth 20000 in
theorem ggX12_go_X12_goesTo : GoodIn wsX12_go wsX12_goesTo := goodIn_r _ [8, 9, 2, 10, 1, 3, 11, 12, 13, 14, 15, 16, 17, 18, 19, 20, 21, 22, 23, 24, 25, 26, 27, 28, 29, 30, 31, 32, 33, 34, 35, 36, 37, 38, 39, 40, 41, 42, 43, 44, 45, 46, 47, 48, 49, 50, 51, 52, 53, 54] (by decide +kernel) (by decide +kernel)
set_option maxRecDepth 20000 in
theorem gX12_go_X12_goesTo : GoodIn wsX12_go (wsV RX12 187 RX12 yX12_goesTo wsX12_goesTo) := goodIn_app (goodIn_of _ (by decide +kernel)) ggX12_go_X12_goesTo
