set_option maxRecDepth 20000 in
theorem ggX0_sort_X10_need : GoodIn wsX0_sort wsX10_need := goodIn_r _ [7, 8, 9, 49, 50, 51] (by decide +kernel) (by decide +kernel)
set_option maxRecDepth 20000 in
theorem gX0_sort_X10_need : GoodIn wsX0_sort (wsV RX0 21 RX10 yX10_need wsX10_need) := goodIn_app (goodIn_of _ (by decide +kernel)) ggX0_sort_X10_need
set_option maxRecDepth 20000 in
theorem ggX0_sort_X0_fits : GoodIn wsX0_sort wsX0_fits := goodIn_r _ [13, 14, 15, 16, 17, 18, 19, 20, 21, 22, 23, 24, 25, 26, 27, 28, 29, 30, 31, 32, 33, 34, 35, 36, 37, 38, 6, 39, 8, 40, 41, 42, 43, 44, 45, 52, 53, 54, 55, 56, 49, 50, 51] (by decide +kernel) (by decide +kernel)
set_option maxRecDepth 20000 in
theorem gX0_sort_X0_fits : GoodIn wsX0_sort (va_wsS RX0 27 yX0_fits wsX0_fits) := goodIn_app (goodIn_of _ (by decide +kernel)) ggX0_sort_X0_fits
set_option maxRecDepth 20000 in
theorem ggX0_fits_X2_boatIn : GoodIn wsX0_fits wsX2_boatIn := goodIn_r _ [10, 11, 12, 13, 14, 9, 15, 16, 17, 35, 36, 37, 38, 39] (by decide +kernel) (by decide +kernel)
set_option maxRecDepth 20000 in
theorem gX0_fits_X2_boatIn : GoodIn wsX0_fits (wsV RX0 37 RX2 yX2_boatIn wsX2_boatIn) := goodIn_app (goodIn_of _ (by decide +kernel)) ggX0_fits_X2_boatIn
set_option maxRecDepth 20000 in
theorem ggX0_fits_X2_stepsIn : GoodIn wsX0_fits wsX2_stepsIn := goodIn_r _ [21, 22, 12, 13, 14, 9, 15, 16, 17, 35, 36, 37, 38, 39] (by decide +kernel) (by decide +kernel)
set_option maxRecDepth 20000 in
theorem gX0_fits_X2_stepsIn : GoodIn wsX0_fits (wsV RX0 40 RX2 yX2_stepsIn wsX2_stepsIn) := goodIn_app (goodIn_of _ (by decide +kernel)) ggX0_fits_X2_stepsIn
set_option maxRecDepth 20000 in
theorem ggX0_fits_X10_place : GoodIn wsX0_fits wsX10_place := goodIn_r _ [27, 28, 29, 40, 41, 42] (by decide +kernel) (by decide +kernel)
set_option maxRecDepth 20000 in
theorem gX0_fits_X10_place : GoodIn wsX0_fits (wsV RX0 49 RX10 yX10_place wsX10_place) := goodIn_app (goodIn_of _ (by decide +kernel)) ggX0_fits_X10_place
set_option maxRecDepth 20000 in
theorem ggX0_fits_X2_junctionIn : GoodIn wsX0_fits wsX2_junctionIn := goodIn_r _ [33, 34, 12, 13, 14, 9, 15, 16, 17, 35, 36, 37, 38, 39] (by decide +kernel) (by decide +kernel)
set_option maxRecDepth 20000 in
theorem gX0_fits_X2_junctionIn : GoodIn wsX0_fits (wsV RX0 52 RX2 yX2_junctionIn wsX2_junctionIn) := goodIn_app (goodIn_of _ (by decide +kernel)) ggX0_fits_X2_junctionIn
set_option maxRecDepth 20000 in
theorem ggX0_bestParting_X0_total : GoodIn wsX0_bestParting wsX0_total := goodIn_r _ [5, 6, 26, 27, 28] (by decide +kernel) (by decide +kernel)
set_option maxRecDepth 20000 in
theorem gX0_bestParting_X0_total : GoodIn wsX0_bestParting (wsV RX0 55 RX0 yX0_total wsX0_total) := goodIn_app (goodIn_of _ (by decide +kernel)) ggX0_bestParting_X0_total
set_option maxRecDepth 20000 in
theorem ggX0_bestParting_X0_greatestPart : GoodIn wsX0_bestParting wsX0_greatestPart := goodIn_r _ [10, 11, 12, 13, 14, 15, 6, 16, 17, 18, 19, 20, 21, 22, 23, 24, 25, 26, 27, 28, 29, 30, 31] (by decide +kernel) (by decide +kernel)
set_option maxRecDepth 20000 in
theorem gX0_bestParting_X0_greatestPart : GoodIn wsX0_bestParting (wsV RX0 59 RX0 yX0_greatestPart wsX0_greatestPart) := goodIn_app (goodIn_of _ (by decide +kernel)) ggX0_bestParting_X0_greatestPart
set_option maxRecDepth 20000 in
theorem ggX0_greatestPart_X10_place : GoodIn wsX0_greatestPart wsX10_place := goodIn_r _ [14, 15, 16, 20, 21, 22] (by decide +kernel) (by decide +kernel)
set_option maxRecDepth 20000 in
theorem gX0_greatestPart_X10_place : GoodIn wsX0_greatestPart (wsV RX0 49 RX10 yX10_place wsX10_place) := goodIn_app (goodIn_of _ (by decide +kernel)) ggX0_greatestPart_X10_place
set_option maxRecDepth 20000 in
theorem ggX2_boatIn_X2_has : GoodIn wsX2_boatIn wsX2_has := goodIn_r _ [6, 7, 8, 9, 10, 11, 12, 13] (by decide +kernel) (by decide +kernel)
set_option maxRecDepth 20000 in
theorem gX2_boatIn_X2_has : GoodIn wsX2_boatIn (wsV RX2 34 RX2 yX2_has wsX2_has) := goodIn_app (goodIn_of _ (by decide +kernel)) ggX2_boatIn_X2_has
set_option maxRecDepth 20000 in
theorem ggX2_stepsIn_X2_has : GoodIn wsX2_stepsIn wsX2_has := goodIn_r _ [6, 7, 8, 9, 10, 11, 12, 13] (by decide +kernel) (by decide +kernel)
set_option maxRecDepth 20000 in
theorem gX2_stepsIn_X2_has : GoodIn wsX2_stepsIn (wsV RX2 34 RX2 yX2_has wsX2_has) := goodIn_app (goodIn_of _ (by decide +kernel)) ggX2_stepsIn_X2_has
set_option maxRecDepth 20000 in
theorem ggX2_junctionIn_X2_has : GoodIn wsX2_junctionIn wsX2_has := goodIn_r _ [6, 7, 8, 9, 10, 11, 12, 13] (by decide +kernel) (by decide +kernel)
set_option maxRecDepth 20000 in
theorem gX2_junctionIn_X2_has : GoodIn wsX2_junctionIn (wsV RX2 34 RX2 yX2_has wsX2_has) := goodIn_app (goodIn_of _ (by decide +kernel)) ggX2_junctionIn_X2_has
set_option maxRecDepth 20000 in
theorem ggX3_search_X3_isAllowed : GoodIn wsX3_search wsX3_isAllowed := goodIn_r _ [5, 6, 7, 8, 31, 32, 33, 34, 35] (by decide +kernel) (by decide +kernel)
set_option maxRecDepth 20000 in
theorem gX3_search_X3_isAllowed : GoodIn wsX3_search (wsV RX3 37 RX3 yX3_isAllowed wsX3_isAllowed) := goodIn_app (goodIn_of _ (by decide +kernel)) ggX3_search_X3_isAllowed
set_option maxRecDepth 20000 in
theorem ggX3_search_X3_compare : GoodIn wsX3_search wsX3_compare := goodIn_r _ [12, 6, 13, 14, 8, 15, 16, 17, 4, 18, 19, 20, 21, 22, 31, 32, 33, 34, 35] (by decide +kernel) (by decide +kernel)
set_option maxRecDepth 20000 in
theorem gX3_search_X3_compare : GoodIn wsX3_search (wsV RX3 41 RX3 yX3_compare wsX3_compare) := goodIn_app (goodIn_of _ (by decide +kernel)) ggX3_search_X3_compare
set_option maxRecDepth 20000 in
theorem ggX3_search_X3_nextOrder : GoodIn wsX3_search wsX3_nextOrder := goodIn_r _ [26, 6, 8, 27, 28, 29, 4, 30, 31, 32, 33, 34, 35] (by decide +kernel) (by decide +kernel)
set_option maxRecDepth 20000 in
theorem gX3_search_X3_nextOrder : GoodIn wsX3_search (wsV RX3 44 RX3 yX3_nextOrder wsX3_nextOrder) := goodIn_app (goodIn_of _ (by decide +kernel)) ggX3_search_X3_nextOrder
set_option maxRecDepth 20000 in
theorem ggX3_compare_X3_rings : GoodIn wsX3_compare wsX3_rings := goodIn_r _ [9, 1, 10, 11, 12, 8, 13, 4, 14, 15, 16, 17, 18] (by decide +kernel) (by decide +kernel)
set_option maxRecDepth 20000 in
theorem gX3_compare_X3_rings : GoodIn wsX3_compare (wsV RX3 47 RX3 yX3_rings wsX3_rings) := goodIn_app (goodIn_of _ (by decide +kernel)) ggX3_compare_X3_rings
set_option maxRecDepth 20000 in
theorem ggX3_rings_X3_ringOf : GoodIn wsX3_rings wsX3_ringOf := goodIn_r _ [6, 1, 7, 8, 9, 10, 11, 12] (by decide +kernel) (by decide +kernel)
set_option maxRecDepth 20000 in
theorem gX3_rings_X3_ringOf : GoodIn wsX3_rings (wsV RX3 51 RX3 yX3_ringOf wsX3_ringOf) := goodIn_app (goodIn_of _ (by decide +kernel)) ggX3_rings_X3_ringOf
set_option maxRecDepth 20000 in
theorem ggX3_nextOrder_X3_swap : GoodIn wsX3_nextOrder wsX3_swap := goodIn_r _ [7, 2, 8, 9, 10, 11, 12] (by decide +kernel) (by decide +kernel)
set_option maxRecDepth 20000 in
theorem gX3_nextOrder_X3_swap : GoodIn wsX3_nextOrder (wsV RX3 55 RX3 yX3_swap wsX3_swap) := goodIn_app (goodIn_of _ (by decide +kernel)) ggX3_nextOrder_X3_swap
set_option maxRecDepth 20000 in
theorem ggX4_at_X4_get : GoodIn wsX4_at wsX4_get := goodIn_r _ [5, 6, 7] (by decide +kernel) (by decide +kernel)
set_option maxRecDepth 20000 in
theorem gX4_at_X4_get : GoodIn wsX4_at (wsV RX4 15 RX4 yX4_get wsX4_get) := goodIn_app (goodIn_of _ (by decide +kernel)) ggX4_at_X4_get
set_option maxRecDepth 20000 in
theorem ggX4_from_X4_get : GoodIn wsX4_from wsX4_get := goodIn_r _ [5, 6, 7] (by decide +kernel) (by decide +kernel)
set_option maxRecDepth 20000 in
theorem gX4_from_X4_get : GoodIn wsX4_from (wsV RX4 15 RX4 yX4_get wsX4_get) := goodIn_app (goodIn_of _ (by decide +kernel)) ggX4_from_X4_get
set_option maxRecDepth 20000 in
theorem ggX4_pull_X4_get : GoodIn wsX4_pull wsX4_get := goodIn_r _ [5, 6, 7] (by decide +kernel) (by decide +kernel)
set_option maxRecDepth 20000 in
theorem gX4_pull_X4_get : GoodIn wsX4_pull (wsV RX4 15 RX4 yX4_get wsX4_get) := goodIn_app (goodIn_of _ (by decide +kernel)) ggX4_pull_X4_get
set_option maxRecDepth 20000 in
theorem ggX4_went_X4_get : GoodIn wsX4_went wsX4_get := goodIn_r _ [5, 6, 7] (by decide +kernel) (by decide +kernel)
set_option maxRecDepth 20000 in
theorem gX4_went_X4_get : GoodIn wsX4_went (wsV RX4 15 RX4 yX4_get wsX4_get) := goodIn_app (goodIn_of _ (by decide +kernel)) ggX4_went_X4_get
set_option maxRecDepth 20000 in
theorem ggX4_launch_X9_startOf : GoodIn wsX4_launch wsX9_startOf := goodIn_r _ [6, 7, 8, 9, 10, 5, 11, 12, 24, 25, 26, 27, 28, 29, 30, 31, 32, 33, 34] (by decide +kernel) (by decide +kernel)
set_option maxRecDepth 20000 in
theorem gX4_launch_X9_startOf : GoodIn wsX4_launch (wsV RX4 19 RX9 yX9_startOf wsX9_startOf) := goodIn_app (goodIn_of _ (by decide +kernel)) ggX4_launch_X9_startOf
set_option maxRecDepth 20000 in
theorem ggX4_launch_X4_put : GoodIn wsX4_launch wsX4_put := goodIn_r _ [17, 1, 23] (by decide +kernel) (by decide +kernel)
set_option maxRecDepth 20000 in
theorem gX4_launch_X4_put : GoodIn wsX4_launch (wsV RX4 25 RX4 yX4_put wsX4_put) := goodIn_app (goodIn_of _ (by decide +kernel)) ggX4_launch_X4_put
set_option maxRecDepth 20000 in
theorem ggX4_launch_X9_startPullOf : GoodIn wsX4_launch wsX9_startPullOf := goodIn_r _ [21, 22, 8, 9, 10, 5, 11, 12, 24, 25, 26, 27, 28, 29, 30, 31, 32, 33, 34] (by decide +kernel) (by decide +kernel)
set_option maxRecDepth 20000 in
theorem gX4_launch_X9_startPullOf : GoodIn wsX4_launch (wsV RX4 29 RX9 yX9_startPullOf wsX9_startPullOf) := goodIn_app (goodIn_of _ (by decide +kernel)) ggX4_launch_X9_startPullOf
set_option maxRecDepth 20000 in
theorem ggX4_advanceAll_X4_advance : GoodIn wsX4_advanceAll wsX4_advance := goodIn_r _ [7, 8, 9, 10, 6, 11, 12, 13, 14, 15, 16, 17, 18, 19, 2, 20, 21, 22, 23, 24, 25, 26, 27, 28, 29, 30, 31, 32, 33, 34, 35, 36, 37, 38, 39, 40, 41, 42, 43, 44, 45, 46, 47, 48, 49, 50, 51, 52, 53, 54, 55, 56, 57, 58, 59, 60, 61, 62, 63, 64, 65, 66, 67, 68, 80, 69, 70, 71, 72, 73, 74, 75, 76, 77, 78, 79] (by decide +kernel) (by decide +kernel)
set_option maxRecDepth 20000 in
theorem gX4_advanceAll_X4_advance : GoodIn wsX4_advanceAll (wsV RX4 36 RX4 yX4_advance wsX4_advance) := goodIn_app (goodIn_of _ (by decide +kernel)) ggX4_advanceAll_X4_advance
set_option maxRecDepth 20000 in
theorem ggX4_advance_X4_isSitting : GoodIn wsX4_advance wsX4_isSitting := goodIn_r _ [5, 6, 7, 8, 4, 9, 10, 11, 12, 13, 14, 15, 16, 17, 18, 19, 20, 21, 22, 23, 24, 25, 26, 27, 28, 29, 30, 31, 32, 64, 65, 66, 67, 68, 69, 70, 71, 72, 73, 74, 75] (by decide +kernel) (by decide +kernel)
set_option maxRecDepth 20000 in
theorem gX4_advance_X4_isSitting : GoodIn wsX4_advance (wsV RX4 40 RX4 yX4_isSitting wsX4_isSitting) := goodIn_app (goodIn_of _ (by decide +kernel)) ggX4_advance_X4_isSitting
set_option maxRecDepth 20000 in
theorem ggX4_advance_X4_at : GoodIn wsX4_advance wsX4_at := goodIn_r _ [18, 10, 11, 12, 4, 13, 14, 64] (by decide +kernel) (by decide +kernel)
set_option maxRecDepth 20000 in
theorem gX4_advance_X4_at : GoodIn wsX4_advance (wsV RX4 44 RX4 yX4_at wsX4_at) := goodIn_app (goodIn_of _ (by decide +kernel)) ggX4_advance_X4_at
set_option maxRecDepth 20000 in
theorem ggX4_advance_X4_from : GoodIn wsX4_advance wsX4_from := goodIn_r _ [22, 10, 11, 12, 4, 13, 14, 64] (by decide +kernel) (by decide +kernel)
set_option maxRecDepth 20000 in
theorem gX4_advance_X4_from : GoodIn wsX4_advance (wsV RX4 47 RX4 yX4_from wsX4_from) := goodIn_app (goodIn_of _ (by decide +kernel)) ggX4_advance_X4_from
set_option maxRecDepth 20000 in
theorem ggX4_advance_X9_goesTo : GoodIn wsX4_advance wsX9_goesTo := goodIn_r _ [36, 37, 29, 30, 31, 26, 32, 65, 66, 67, 68, 69, 70, 71, 72, 73, 74, 75] (by decide +kernel) (by decide +kernel)
set_option maxRecDepth 20000 in
theorem gX4_advance_X9_goesTo : GoodIn wsX4_advance (wsV RX4 50 RX9 yX9_goesTo wsX9_goesTo) := goodIn_app (goodIn_of _ (by decide +kernel)) ggX4_advance_X9_goesTo
set_option maxRecDepth 20000 in
theorem ggX4_advance_X4_put : GoodIn wsX4_advance wsX4_put := goodIn_r _ [41, 14, 64] (by decide +kernel) (by decide +kernel)
set_option maxRecDepth 20000 in
theorem gX4_advance_X4_put : GoodIn wsX4_advance (wsV RX4 25 RX4 yX4_put wsX4_put) := goodIn_app (goodIn_of _ (by decide +kernel)) ggX4_advance_X4_put
set_option maxRecDepth 20000 in
theorem ggX4_advance_X4_went : GoodIn wsX4_advance wsX4_went := goodIn_r _ [45, 10, 11, 12, 4, 13, 14, 64] (by decide +kernel) (by decide +kernel)
set_option maxRecDepth 20000 in
theorem gX4_advance_X4_went : GoodIn wsX4_advance (wsV RX4 53 RX4 yX4_went wsX4_went) := goodIn_app (goodIn_of _ (by decide +kernel)) ggX4_advance_X4_went
set_option maxRecDepth 20000 in
theorem ggX4_advance_X9_wearOf : GoodIn wsX4_advance wsX9_wearOf := goodIn_r _ [49, 50, 51, 52, 53, 26, 54, 55, 65, 66, 67, 68, 69, 70, 71, 72, 73, 74, 75] (by decide +kernel) (by decide +kernel)
set_option maxRecDepth 20000 in
theorem gX4_advance_X9_wearOf : GoodIn wsX4_advance (wsV RX4 56 RX9 yX9_wearOf wsX9_wearOf) := goodIn_app (goodIn_of _ (by decide +kernel)) ggX4_advance_X9_wearOf
set_option maxRecDepth 20000 in
theorem ggX4_advance_X4_lighten : GoodIn wsX4_advance wsX4_lighten := goodIn_r _ [59, 60, 61, 62, 63, 6, 7, 8, 4, 9, 10, 11, 12, 13, 14, 38, 39, 40, 41, 64] (by decide +kernel) (by decide +kernel)
set_option maxRecDepth 20000 in
theorem gX4_advance_X4_lighten : GoodIn wsX4_advance (wsV RX4 59 RX4 yX4_lighten wsX4_lighten) := goodIn_app (goodIn_of _ (by decide +kernel)) ggX4_advance_X4_lighten
set_option maxRecDepth 20000 in
theorem ggX4_isSitting_X4_pull : GoodIn wsX4_isSitting wsX4_pull := goodIn_r _ [5, 6, 7, 8, 4, 9, 10, 29] (by decide +kernel) (by decide +kernel)
set_option maxRecDepth 20000 in
theorem gX4_isSitting_X4_pull : GoodIn wsX4_isSitting (wsV RX4 63 RX4 yX4_pull wsX4_pull) := goodIn_app (goodIn_of _ (by decide +kernel)) ggX4_isSitting_X4_pull
set_option maxRecDepth 20000 in
theorem ggX4_isSitting_X4_at : GoodIn wsX4_isSitting wsX4_at := goodIn_r _ [14, 6, 7, 8, 4, 9, 10, 29] (by decide +kernel) (by decide +kernel)
set_option maxRecDepth 20000 in
theorem gX4_isSitting_X4_at : GoodIn wsX4_isSitting (wsV RX4 44 RX4 yX4_at wsX4_at) := goodIn_app (goodIn_of _ (by decide +kernel)) ggX4_isSitting_X4_at
set_option maxRecDepth 20000 in
theorem ggX4_isSitting_X4_from : GoodIn wsX4_isSitting wsX4_from := goodIn_r _ [18, 6, 7, 8, 4, 9, 10, 29] (by decide +kernel) (by decide +kernel)
set_option maxRecDepth 20000 in
theorem gX4_isSitting_X4_from : GoodIn wsX4_isSitting (wsV RX4 47 RX4 yX4_from wsX4_from) := goodIn_app (goodIn_of _ (by decide +kernel)) ggX4_isSitting_X4_from
set_option maxRecDepth 20000 in
theorem ggX4_isSitting_X9_hardOn : GoodIn wsX4_isSitting wsX9_hardOn := goodIn_r _ [23, 24, 25, 26, 27, 22, 28, 30, 31, 32, 33, 34, 35, 36, 37, 38, 39, 40] (by decide +kernel) (by decide +kernel)
set_option maxRecDepth 20000 in
theorem gX4_isSitting_X9_hardOn : GoodIn wsX4_isSitting (wsV RX4 66 RX9 yX9_hardOn wsX9_hardOn) := goodIn_app (goodIn_of _ (by decide +kernel)) ggX4_isSitting_X9_hardOn
set_option maxRecDepth 20000 in
theorem ggX4_sitting_X4_isSitting : GoodIn wsX4_sitting wsX4_isSitting := goodIn_r _ [6, 7, 8, 9, 5, 10, 11, 12, 13, 14, 15, 16, 17, 18, 19, 20, 21, 22, 23, 24, 25, 26, 27, 28, 29, 30, 31, 32, 33, 45, 34, 35, 36, 37, 38, 39, 40, 41, 42, 43, 44] (by decide +kernel) (by decide +kernel)
set_option maxRecDepth 20000 in
theorem gX4_sitting_X4_isSitting : GoodIn wsX4_sitting (wsV RX4 40 RX4 yX4_isSitting wsX4_isSitting) := goodIn_app (goodIn_of _ (by decide +kernel)) ggX4_sitting_X4_isSitting
set_option maxRecDepth 20000 in
theorem ggX4_places_X4_at : GoodIn wsX4_places wsX4_at := goodIn_r _ [6, 7, 8, 9, 5, 10, 11, 23] (by decide +kernel) (by decide +kernel)
set_option maxRecDepth 20000 in
theorem gX4_places_X4_at : GoodIn wsX4_places (wsV RX4 44 RX4 yX4_at wsX4_at) := goodIn_app (goodIn_of _ (by decide +kernel)) ggX4_places_X4_at
set_option maxRecDepth 20000 in
theorem ggX4_lighten_X4_pull : GoodIn wsX4_lighten wsX4_pull := goodIn_r _ [9, 10, 11, 12, 8, 13, 14, 19] (by decide +kernel) (by decide +kernel)
set_option maxRecDepth 20000 in
theorem gX4_lighten_X4_pull : GoodIn wsX4_lighten (wsV RX4 63 RX4 yX4_pull wsX4_pull) := goodIn_app (goodIn_of _ (by decide +kernel)) ggX4_lighten_X4_pull
set_option maxRecDepth 20000 in
theorem ggX4_lighten_X4_put : GoodIn wsX4_lighten wsX4_put := goodIn_r _ [18, 14, 19] (by decide +kernel) (by decide +kernel)
set_option maxRecDepth 20000 in
theorem gX4_lighten_X4_put : GoodIn wsX4_lighten (wsV RX4 25 RX4 yX4_put wsX4_put) := goodIn_app (goodIn_of _ (by decide +kernel)) ggX4_lighten_X4_put
set_option maxRecDepth 20000 in
theorem ggX4_load_X4_pull : GoodIn wsX4_load wsX4_pull := goodIn_r _ [9, 10, 11, 12, 8, 13, 14, 19] (by decide +kernel) (by decide +kernel)
set_option maxRecDepth 20000 in
theorem gX4_load_X4_pull : GoodIn wsX4_load (wsV RX4 63 RX4 yX4_pull wsX4_pull) := goodIn_app (goodIn_of _ (by decide +kernel)) ggX4_load_X4_pull
set_option maxRecDepth 20000 in
theorem ggX4_load_X4_put : GoodIn wsX4_load wsX4_put := goodIn_r _ [18, 14, 19] (by decide +kernel) (by decide +kernel)
set_option maxRecDepth 20000 in
theorem gX4_load_X4_put : GoodIn wsX4_load (wsV RX4 25 RX4 yX4_put wsX4_put) := goodIn_app (goodIn_of _ (by decide +kernel)) ggX4_load_X4_put
set_option maxRecDepth 20000 in
theorem ggX4_swapPulls_X4_pull : GoodIn wsX4_swapPulls wsX4_pull := goodIn_r _ [5, 6, 7, 8, 4, 9, 10, 15] (by decide +kernel) (by decide +kernel)
set_option maxRecDepth 20000 in
theorem gX4_swapPulls_X4_pull : GoodIn wsX4_swapPulls (wsV RX4 63 RX4 yX4_pull wsX4_pull) := goodIn_app (goodIn_of _ (by decide +kernel)) ggX4_swapPulls_X4_pull
set_option maxRecDepth 20000 in
theorem ggX4_swapPulls_X4_put : GoodIn wsX4_swapPulls wsX4_put := goodIn_r _ [14, 10, 15] (by decide +kernel) (by decide +kernel)
set_option maxRecDepth 20000 in
theorem gX4_swapPulls_X4_put : GoodIn wsX4_swapPulls (wsV RX4 25 RX4 yX4_put wsX4_put) := goodIn_app (goodIn_of _ (by decide +kernel)) ggX4_swapPulls_X4_put
set_option maxRecDepth 20000 in
theorem ggX4_comeFromNowhere_X4_put : GoodIn wsX4_comeFromNowhere wsX4_put := goodIn_r _ [5, 6, 7] (by decide +kernel) (by decide +kernel)
set_option maxRecDepth 20000 in
theorem gX4_comeFromNowhere_X4_put : GoodIn wsX4_comeFromNowhere (wsV RX4 25 RX4 yX4_put wsX4_put) := goodIn_app (goodIn_of _ (by decide +kernel)) ggX4_comeFromNowhere_X4_put
set_option maxRecDepth 20000 in
theorem ggX5_init_X8_init : GoodIn wsX5_init wsX8_init := goodIn_r _ [14, 15, 2, 3, 16, 17, 18, 19, 20, 8, 21, 22, 23] (by decide +kernel) (by decide +kernel)
set_option maxRecDepth 20000 in
theorem gX5_init_X8_init : GoodIn wsX5_init (wsX8_init) := ggX5_init_X8_init
set_option maxRecDepth 20000 in
theorem ggX5_keepIn_X8_store : GoodIn wsX5_keepIn wsX8_store := goodIn_r _ [9, 10, 11, 12, 13, 14, 15, 16, 21, 22, 23] (by decide +kernel) (by decide +kernel)
set_option maxRecDepth 20000 in
theorem gX5_keepIn_X8_store : GoodIn wsX5_keepIn (wsV RX5 28 RX8 yX8_store wsX8_store) := goodIn_app (goodIn_of _ (by decide +kernel)) ggX5_keepIn_X8_store
set_option maxRecDepth 20000 in
theorem ggX5_bringBack_X5_isKept : GoodIn wsX5_bringBack wsX5_isKept := goodIn_r _ [8, 9, 22, 23, 24] (by decide +kernel) (by decide +kernel)
set_option maxRecDepth 20000 in
theorem gX5_bringBack_X5_isKept : GoodIn wsX5_bringBack (wsV RX5 38 RX5 yX5_isKept wsX5_isKept) := goodIn_app (goodIn_of _ (by decide +kernel)) ggX5_bringBack_X5_isKept
