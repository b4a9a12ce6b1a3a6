set_option maxRecDepth 20000 in
theorem ggX10_leastMore_X10_endsAt : GoodIn wsX10_leastMore wsX10_endsAt := goodIn_r _ [10, 11, 12, 13, 9, 14, 1, 15, 16, 17, 18, 19, 20, 21, 22, 23] (by decide +kernel) (by decide +kernel)
set_option maxRecDepth 20000 in
theorem gX10_leastMore_X10_endsAt : GoodIn wsX10_leastMore (wsV RX10 46 RX10 yX10_endsAt wsX10_endsAt) := goodIn_app (goodIn_of _ (by decide +kernel)) ggX10_leastMore_X10_endsAt
set_option maxRecDepth 20000 in
theorem ggX10_leastMore_X10_need : GoodIn wsX10_leastMore wsX10_need := goodIn_r _ [19, 1, 20, 21, 22, 23] (by decide +kernel) (by decide +kernel)
set_option maxRecDepth 20000 in
theorem gX10_leastMore_X10_need : GoodIn wsX10_leastMore (wsV RX10 39 RX10 yX10_need wsX10_need) := goodIn_app (goodIn_of _ (by decide +kernel)) ggX10_leastMore_X10_need
set_option maxRecDepth 20000 in
theorem ggX11_init_X7_init : GoodIn wsX11_init wsX7_init := goodIn_r _ [52, 53, 2, 3, 4, 54, 55, 56, 57, 58, 59, 161, 162, 163, 164, 165, 166] (by decide +kernel) (by decide +kernel)
set_option maxRecDepth 20000 in
theorem gX11_init_X7_init_n22 : GoodIn wsX11_init (wsX7_init) := ggX11_init_X7_init
set_option maxRecDepth 20000 in
theorem ggX11_init_X9_init : GoodIn wsX11_init wsX9_init := goodIn_r _ [61, 62, 2, 3, 63, 64, 65, 4, 66, 67, 68, 69, 70, 71, 72, 73, 167, 168, 169, 170, 171, 172, 173, 174, 175, 176, 177] (by decide +kernel) (by decide +kernel)
set_option maxRecDepth 20000 in
theorem gX11_init_X9_init_n29 : GoodIn wsX11_init (wsX9_init) := ggX11_init_X9_init
set_option maxRecDepth 20000 in
theorem ggX11_init_X4_init : GoodIn wsX11_init wsX4_init := goodIn_r _ [75, 76, 2, 3, 4, 77, 178] (by decide +kernel) (by decide +kernel)
set_option maxRecDepth 20000 in
theorem gX11_init_X4_init_n39 : GoodIn wsX11_init (wsX4_init) := ggX11_init_X4_init
set_option maxRecDepth 20000 in
theorem ggX11_init_X6_init : GoodIn wsX11_init wsX6_init := goodIn_r _ [79, 80, 2, 3, 81, 82, 83, 84, 85, 86, 87, 88, 89, 90, 91, 92, 93, 94, 95, 4, 96, 202, 203, 179, 180, 181] (by decide +kernel) (by decide +kernel)
set_option maxRecDepth 20000 in
theorem gX11_init_X6_init_n49 : GoodIn wsX11_init (wsX6_init) := ggX11_init_X6_init
set_option maxRecDepth 20000 in
theorem ggX11_init_X5_init : GoodIn wsX11_init wsX5_init := goodIn_r _ [98, 99, 2, 3, 100, 82, 83, 101, 4, 102, 103, 104, 105, 88, 89, 90, 91, 92, 93, 94, 95, 96, 202, 203, 182, 183, 184] (by decide +kernel) (by decide +kernel)
set_option maxRecDepth 20000 in
theorem gX11_init_X5_init_n56 : GoodIn wsX11_init (wsX5_init) := ggX11_init_X5_init
set_option maxRecDepth 20000 in
theorem ggX11_init_X1_init : GoodIn wsX11_init wsX1_init := goodIn_r _ [107, 108, 2, 3, 109, 185] (by decide +kernel) (by decide +kernel)
set_option maxRecDepth 20000 in
theorem gX11_init_X1_init_n63 : GoodIn wsX11_init (wsX1_init) := ggX11_init_X1_init
set_option maxRecDepth 20000 in
theorem ggX11_init_X2_init : GoodIn wsX11_init wsX2_init := goodIn_r _ [112, 113, 2, 3, 114, 115, 92, 93, 94, 116, 4, 117, 118, 119, 186, 187, 188, 189, 190] (by decide +kernel) (by decide +kernel)
set_option maxRecDepth 20000 in
theorem gX11_init_X2_init : GoodIn wsX11_init (wsX2_init) := ggX11_init_X2_init
set_option maxRecDepth 20000 in
theorem ggX11_init_X10_init : GoodIn wsX11_init wsX10_init := goodIn_r _ [121, 122, 2, 3, 4, 123, 124, 125, 191, 192, 193] (by decide +kernel) (by decide +kernel)
set_option maxRecDepth 20000 in
theorem gX11_init_X10_init_n82 : GoodIn wsX11_init (wsX10_init) := ggX11_init_X10_init
set_option maxRecDepth 20000 in
theorem ggX11_init_X0_init : GoodIn wsX11_init wsX0_init := goodIn_r _ [127, 128, 2, 3, 4, 129, 130, 131, 194, 195, 196] (by decide +kernel) (by decide +kernel)
set_option maxRecDepth 20000 in
theorem gX11_init_X0_init_n89 : GoodIn wsX11_init (wsX0_init) := ggX11_init_X0_init
set_option maxRecDepth 20000 in
theorem ggX11_init_X3_init : GoodIn wsX11_init wsX3_init := goodIn_r _ [133, 134, 2, 3, 135, 4, 136, 137, 138, 139, 197, 198, 199, 200, 201] (by decide +kernel) (by decide +kernel)
set_option maxRecDepth 20000 in
theorem gX11_init_X3_init_n96 : GoodIn wsX11_init (wsX3_init) := ggX11_init_X3_init
set_option maxRecDepth 20000 in
theorem ggX11_init_X11_forgetQuays : GoodIn wsX11_init wsX11_forgetQuays := goodIn_r _ [144, 21, 145, 146, 147, 148, 149, 150, 151, 152, 153, 154, 155, 156, 157, 158, 159, 160] (by decide +kernel) (by decide +kernel)
set_option maxRecDepth 20000 in
theorem gX11_init_X11_forgetQuays : GoodIn wsX11_init (wsV RX11 101 RX11 yX11_forgetQuays wsX11_forgetQuays) := goodIn_app (goodIn_of _ (by decide +kernel)) ggX11_init_X11_forgetQuays
set_option maxRecDepth 20000 in
theorem ggX11_water_X7_readText : GoodIn wsX11_water wsX7_readText := goodIn_r _ [14, 15, 16, 17, 18, 19, 20, 21, 22, 23, 24, 25, 26, 27, 28, 29, 30, 31, 32, 33, 34, 13, 35, 36, 37, 38, 39, 40, 41, 42, 43, 44, 45, 46, 47, 48, 49, 50, 51, 52, 53, 54, 55, 56, 57, 58, 59, 60, 61, 62, 63, 64, 65, 66, 67, 68, 69, 70, 71, 72, 73, 74, 75, 76, 77, 78, 79, 80, 81, 82, 83, 84, 85, 86, 87, 88, 89, 90, 91, 92, 93, 94, 95, 96, 97, 98, 99, 100, 101, 102, 103, 104, 105, 106, 107, 108, 109, 110, 111, 112, 113, 114, 115, 116, 117, 118, 185, 186, 187, 188, 189, 190, 191, 192, 193, 194, 195, 196, 197, 198, 199, 200, 201] (by decide +kernel) (by decide +kernel)
set_option maxRecDepth 20000 in
theorem gX11_water_X7_readText : GoodIn wsX11_water (wsV RX11 106 RX7 yX7_readText wsX7_readText) := goodIn_app (goodIn_of _ (by decide +kernel)) ggX11_water_X7_readText
set_option maxRecDepth 20000 in
theorem ggX11_water_X11_beginAnew : GoodIn wsX11_water wsX11_beginAnew := goodIn_r _ [123, 124, 8, 125, 126, 127, 128, 129, 130, 131, 132, 133, 134, 135, 136, 137, 138, 27, 139, 102, 140, 141, 142, 143, 31, 144, 145, 146, 147, 148, 149, 150, 151, 103, 152, 153, 154, 122, 155, 156, 157, 158, 159, 160, 161, 162, 163, 164, 165, 166, 167, 168, 169, 170, 171, 172, 173, 174, 175, 176, 177, 178, 179, 180, 181, 182, 183, 184, 202, 203, 204, 205, 206, 207, 191, 192, 193, 194, 195, 196, 197, 198, 199, 200, 201, 208, 209, 210, 211, 212, 213] (by decide +kernel) (by decide +kernel)
set_option maxRecDepth 20000 in
theorem gX11_water_X11_beginAnew : GoodIn wsX11_water (wsV RX11 114 RX11 yX11_beginAnew wsX11_beginAnew) := goodIn_app (goodIn_of _ (by decide +kernel)) ggX11_water_X11_beginAnew
set_option maxRecDepth 20000 in
theorem ggX11_told_X4_stepsGone : GoodIn wsX11_told wsX4_stepsGone := goodIn_r _ [17, 18, 93] (by decide +kernel) (by decide +kernel)
set_option maxRecDepth 20000 in
theorem gX11_told_X4_stepsGone : GoodIn wsX11_told (wsV RX11 126 RX4 yX4_stepsGone wsX4_stepsGone) := goodIn_app (goodIn_of _ (by decide +kernel)) ggX11_told_X4_stepsGone
set_option maxRecDepth 20000 in
theorem ggX11_told_X4_sitting : GoodIn wsX11_told wsX4_sitting := goodIn_r _ [22, 23, 24, 25, 26, 16, 27, 28, 29, 30, 31, 32, 33, 34, 35, 18, 36, 37, 38, 39, 40, 41, 42, 43, 44, 45, 46, 47, 48, 49, 50, 51, 52, 53, 74, 75, 76, 77, 78, 79, 80, 81, 82, 83, 84, 93] (by decide +kernel) (by decide +kernel)
set_option maxRecDepth 20000 in
theorem gX11_told_X4_sitting : GoodIn wsX11_told (wsV RX11 130 RX4 yX4_sitting wsX4_sitting) := goodIn_app (goodIn_of _ (by decide +kernel)) ggX11_told_X4_sitting
set_option maxRecDepth 20000 in
theorem ggX11_told_X4_places : GoodIn wsX11_told wsX4_places := goodIn_r _ [57, 23, 36, 37, 38, 16, 39, 32, 33, 34, 35, 18, 74, 75, 76, 77, 78, 79, 80, 81, 82, 83, 84, 93] (by decide +kernel) (by decide +kernel)
set_option maxRecDepth 20000 in
theorem gX11_told_X4_places : GoodIn wsX11_told (wsV RX11 134 RX4 yX4_places wsX4_places) := goodIn_app (goodIn_of _ (by decide +kernel)) ggX11_told_X4_places
set_option maxRecDepth 20000 in
theorem ggX11_cut_X9_hasCut : GoodIn wsX11_cut wsX9_hasCut := goodIn_r _ [11, 12, 29, 30, 31, 32, 33, 34, 35, 36, 37, 38, 39] (by decide +kernel) (by decide +kernel)
set_option maxRecDepth 20000 in
theorem gX11_cut_X9_hasCut : GoodIn wsX11_cut (wsV RX11 141 RX9 yX9_hasCut wsX9_hasCut) := goodIn_app (goodIn_of _ (by decide +kernel)) ggX11_cut_X9_hasCut
set_option maxRecDepth 20000 in
theorem ggX11_boat_X9_hasBoat : GoodIn wsX11_boat wsX9_hasBoat := goodIn_r _ [10, 11, 56, 57, 58, 59, 60, 61, 62, 63, 64, 65, 66] (by decide +kernel) (by decide +kernel)
set_option maxRecDepth 20000 in
theorem gX11_boat_X9_hasBoat : GoodIn wsX11_boat (wsV RX11 155 RX9 yX9_hasBoat wsX9_hasBoat) := goodIn_app (goodIn_of _ (by decide +kernel)) ggX11_boat_X9_hasBoat
set_option maxRecDepth 20000 in
theorem ggX11_boat_X4_at : GoodIn wsX11_boat wsX4_at := goodIn_r _ [16, 17, 18, 19, 15, 20, 21, 67] (by decide +kernel) (by decide +kernel)
set_option maxRecDepth 20000 in
theorem gX11_boat_X4_at : GoodIn wsX11_boat (wsV RX11 158 RX4 yX4_at wsX4_at) := goodIn_app (goodIn_of _ (by decide +kernel)) ggX11_boat_X4_at
set_option maxRecDepth 20000 in
theorem ggX11_boat_X4_from : GoodIn wsX11_boat wsX4_from := goodIn_r _ [25, 17, 18, 19, 15, 20, 21, 67] (by decide +kernel) (by decide +kernel)
set_option maxRecDepth 20000 in
theorem gX11_boat_X4_from : GoodIn wsX11_boat (wsV RX11 162 RX4 yX4_from wsX4_from) := goodIn_app (goodIn_of _ (by decide +kernel)) ggX11_boat_X4_from
set_option maxRecDepth 20000 in
theorem ggX11_boat_X4_pull : GoodIn wsX11_boat wsX4_pull := goodIn_r _ [29, 17, 18, 19, 15, 20, 21, 67] (by decide +kernel) (by decide +kernel)
set_option maxRecDepth 20000 in
theorem gX11_boat_X4_pull : GoodIn wsX11_boat (wsV RX11 165 RX4 yX4_pull wsX4_pull) := goodIn_app (goodIn_of _ (by decide +kernel)) ggX11_boat_X4_pull
set_option maxRecDepth 20000 in
theorem ggX11_boat_X9_wearOf : GoodIn wsX11_boat wsX9_wearOf := goodIn_r _ [33, 34, 35, 7, 8, 9, 10, 11, 56, 57, 58, 59, 60, 61, 62, 63, 64, 65, 66] (by decide +kernel) (by decide +kernel)
set_option maxRecDepth 20000 in
theorem gX11_boat_X9_wearOf : GoodIn wsX11_boat (wsV RX11 168 RX9 yX9_wearOf wsX9_wearOf) := goodIn_app (goodIn_of _ (by decide +kernel)) ggX11_boat_X9_wearOf
set_option maxRecDepth 20000 in
theorem ggX11_boat_X4_went : GoodIn wsX11_boat wsX4_went := goodIn_r _ [39, 17, 18, 19, 15, 20, 21, 67] (by decide +kernel) (by decide +kernel)
set_option maxRecDepth 20000 in
theorem gX11_boat_X4_went : GoodIn wsX11_boat (wsV RX11 171 RX4 yX4_went wsX4_went) := goodIn_app (goodIn_of _ (by decide +kernel)) ggX11_boat_X4_went
set_option maxRecDepth 20000 in
theorem ggX11_step_X11_refusalToGo : GoodIn wsX11_step wsX11_refusalToGo := goodIn_r _ [8, 9, 3, 10, 11, 2, 12, 13, 14, 15, 16, 17, 18, 113, 114, 115, 116, 117, 118, 119, 120, 121, 122, 123, 124, 125, 126, 127, 128, 129, 130, 131, 132, 133, 134, 135, 136, 137, 138, 139, 140] (by decide +kernel) (by decide +kernel)
set_option maxRecDepth 20000 in
theorem gX11_step_X11_refusalToGo : GoodIn wsX11_step (wsV RX11 174 RX11 yX11_refusalToGo wsX11_refusalToGo) := goodIn_app (goodIn_of _ (by decide +kernel)) ggX11_step_X11_refusalToGo
set_option maxRecDepth 20000 in
theorem ggX11_step_X6_remember : GoodIn wsX11_step wsX6_remember := goodIn_r _ [23, 24, 25, 26, 27, 28, 29, 30, 31, 32, 33, 34, 35, 36, 37, 38, 141, 142, 143, 144, 145, 140] (by decide +kernel) (by decide +kernel)
set_option maxRecDepth 20000 in
theorem gX11_step_X6_remember : GoodIn wsX11_step (wsV RX11 177 RX6 yX6_remember wsX6_remember) := goodIn_app (goodIn_of _ (by decide +kernel)) ggX11_step_X6_remember
set_option maxRecDepth 20000 in
theorem ggX11_step_X4_advanceAll : GoodIn wsX11_step wsX4_advanceAll := goodIn_r _ [42, 43, 18, 44, 45, 46, 16, 47, 48, 49, 50, 51, 52, 53, 54, 55, 56, 57, 58, 59, 60, 61, 62, 63, 64, 65, 66, 67, 68, 69, 70, 71, 72, 73, 74, 75, 76, 77, 78, 79, 80, 81, 82, 83, 84, 85, 86, 87, 88, 89, 90, 91, 92, 93, 94, 95, 96, 97, 98, 99, 100, 101, 102, 103, 104, 105, 106, 107, 108, 129, 130, 131, 132, 133, 134, 135, 136, 137, 138, 139, 140] (by decide +kernel) (by decide +kernel)
set_option maxRecDepth 20000 in
theorem gX11_step_X4_advanceAll : GoodIn wsX11_step (wsV RX11 181 RX4 yX4_advanceAll wsX4_advanceAll) := goodIn_app (goodIn_of _ (by decide +kernel)) ggX11_step_X4_advanceAll
set_option maxRecDepth 20000 in
theorem ggX11_step_X4_sitting : GoodIn wsX11_step wsX4_sitting := goodIn_r _ [112, 43, 48, 49, 50, 16, 51, 52, 53, 54, 55, 56, 57, 58, 59, 18, 60, 61, 62, 63, 64, 65, 66, 67, 68, 69, 70, 71, 72, 73, 74, 75, 76, 77, 129, 130, 131, 132, 133, 134, 135, 136, 137, 138, 139, 140] (by decide +kernel) (by decide +kernel)
set_option maxRecDepth 20000 in
theorem gX11_step_X4_sitting : GoodIn wsX11_step (wsV RX11 130 RX4 yX4_sitting wsX4_sitting) := goodIn_app (goodIn_of _ (by decide +kernel)) ggX11_step_X4_sitting
set_option maxRecDepth 20000 in
theorem ggX11_forgive_X9_hasBoat : GoodIn wsX11_forgive wsX9_hasBoat := goodIn_r _ [10, 11, 71, 72, 73, 74, 75, 76, 77, 78, 79, 80, 81] (by decide +kernel) (by decide +kernel)
set_option maxRecDepth 20000 in
theorem gX11_forgive_X9_hasBoat : GoodIn wsX11_forgive (wsV RX11 155 RX9 yX9_hasBoat wsX9_hasBoat) := goodIn_app (goodIn_of _ (by decide +kernel)) ggX11_forgive_X9_hasBoat
set_option maxRecDepth 20000 in
theorem ggX11_forgive_X6_remember : GoodIn wsX11_forgive wsX6_remember := goodIn_r _ [16, 17, 18, 19, 20, 21, 22, 23, 24, 25, 26, 27, 28, 29, 30, 31, 82, 83, 84, 85, 86, 87] (by decide +kernel) (by decide +kernel)
set_option maxRecDepth 20000 in
theorem gX11_forgive_X6_remember : GoodIn wsX11_forgive (wsV RX11 177 RX6 yX6_remember wsX6_remember) := goodIn_app (goodIn_of _ (by decide +kernel)) ggX11_forgive_X6_remember
set_option maxRecDepth 20000 in
theorem ggX11_forgive_X4_lighten : GoodIn wsX11_forgive wsX4_lighten := goodIn_r _ [36, 37, 38, 39, 40, 41, 42, 43, 35, 44, 45, 46, 47, 48, 49, 50, 51, 52, 53, 87] (by decide +kernel) (by decide +kernel)
set_option maxRecDepth 20000 in
theorem gX11_forgive_X4_lighten : GoodIn wsX11_forgive (wsV RX11 185 RX4 yX4_lighten wsX4_lighten) := goodIn_app (goodIn_of _ (by decide +kernel)) ggX11_forgive_X4_lighten
set_option maxRecDepth 20000 in
theorem ggX11_forgive_X4_pull : GoodIn wsX11_forgive wsX4_pull := goodIn_r _ [44, 45, 46, 47, 35, 48, 49, 87] (by decide +kernel) (by decide +kernel)
set_option maxRecDepth 20000 in
theorem gX11_forgive_X4_pull : GoodIn wsX11_forgive (wsV RX11 165 RX4 yX4_pull wsX4_pull) := goodIn_app (goodIn_of _ (by decide +kernel)) ggX11_forgive_X4_pull
set_option maxRecDepth 20000 in
theorem ggX11_weigh_X9_hasBoat : GoodIn wsX11_weigh wsX9_hasBoat := goodIn_r _ [10, 11, 71, 72, 73, 74, 75, 76, 77, 78, 79, 80, 81] (by decide +kernel) (by decide +kernel)
set_option maxRecDepth 20000 in
theorem gX11_weigh_X9_hasBoat : GoodIn wsX11_weigh (wsV RX11 155 RX9 yX9_hasBoat wsX9_hasBoat) := goodIn_app (goodIn_of _ (by decide +kernel)) ggX11_weigh_X9_hasBoat
set_option maxRecDepth 20000 in
theorem ggX11_weigh_X6_remember : GoodIn wsX11_weigh wsX6_remember := goodIn_r _ [16, 17, 18, 19, 20, 21, 22, 23, 24, 25, 26, 27, 28, 29, 30, 31, 82, 83, 84, 85, 86, 87] (by decide +kernel) (by decide +kernel)
set_option maxRecDepth 20000 in
theorem gX11_weigh_X6_remember : GoodIn wsX11_weigh (wsV RX11 177 RX6 yX6_remember wsX6_remember) := goodIn_app (goodIn_of _ (by decide +kernel)) ggX11_weigh_X6_remember
set_option maxRecDepth 20000 in
theorem ggX11_weigh_X4_load : GoodIn wsX11_weigh wsX4_load := goodIn_r _ [36, 37, 38, 39, 40, 41, 42, 43, 35, 44, 45, 46, 47, 48, 49, 50, 51, 52, 53, 87] (by decide +kernel) (by decide +kernel)
set_option maxRecDepth 20000 in
theorem gX11_weigh_X4_load : GoodIn wsX11_weigh (wsV RX11 189 RX4 yX4_load wsX4_load) := goodIn_app (goodIn_of _ (by decide +kernel)) ggX11_weigh_X4_load
set_option maxRecDepth 20000 in
theorem ggX11_weigh_X4_pull : GoodIn wsX11_weigh wsX4_pull := goodIn_r _ [44, 45, 46, 47, 35, 48, 49, 87] (by decide +kernel) (by decide +kernel)
set_option maxRecDepth 20000 in
theorem gX11_weigh_X4_pull : GoodIn wsX11_weigh (wsV RX11 165 RX4 yX4_pull wsX4_pull) := goodIn_app (goodIn_of _ (by decide +kernel)) ggX11_weigh_X4_pull
set_option maxRecDepth 20000 in
theorem ggX11_change_X9_hasBoat : GoodIn wsX11_change wsX9_hasBoat := goodIn_r _ [9, 10, 66, 67, 68, 69, 70, 71, 72, 73, 74, 75, 76] (by decide +kernel) (by decide +kernel)
set_option maxRecDepth 20000 in
theorem gX11_change_X9_hasBoat : GoodIn wsX11_change (wsV RX11 155 RX9 yX9_hasBoat wsX9_hasBoat) := goodIn_app (goodIn_of _ (by decide +kernel)) ggX11_change_X9_hasBoat
set_option maxRecDepth 20000 in
theorem ggX11_change_X6_remember : GoodIn wsX11_change wsX6_remember := goodIn_r _ [15, 16, 17, 18, 19, 20, 21, 22, 23, 24, 25, 26, 27, 28, 29, 30, 77, 78, 79, 80, 81, 82] (by decide +kernel) (by decide +kernel)
set_option maxRecDepth 20000 in
theorem gX11_change_X6_remember : GoodIn wsX11_change (wsV RX11 177 RX6 yX6_remember wsX6_remember) := goodIn_app (goodIn_of _ (by decide +kernel)) ggX11_change_X6_remember
set_option maxRecDepth 20000 in
theorem ggX11_change_X4_swapPulls : GoodIn wsX11_change wsX4_swapPulls := goodIn_r _ [35, 36, 37, 38, 34, 39, 40, 41, 42, 43, 44, 45, 46, 47, 48, 82] (by decide +kernel) (by decide +kernel)
set_option maxRecDepth 20000 in
theorem gX11_change_X4_swapPulls : GoodIn wsX11_change (wsV RX11 192 RX4 yX4_swapPulls wsX4_swapPulls) := goodIn_app (goodIn_of _ (by decide +kernel)) ggX11_change_X4_swapPulls
set_option maxRecDepth 20000 in
theorem ggX11_change_X4_pull : GoodIn wsX11_change wsX4_pull := goodIn_r _ [39, 40, 41, 42, 34, 43, 44, 82] (by decide +kernel) (by decide +kernel)
set_option maxRecDepth 20000 in
theorem gX11_change_X4_pull : GoodIn wsX11_change (wsV RX11 165 RX4 yX4_pull wsX4_pull) := goodIn_app (goodIn_of _ (by decide +kernel)) ggX11_change_X4_pull
set_option maxRecDepth 20000 in
theorem ggX11_turn_X9_hasBoat : GoodIn wsX11_turn wsX9_hasBoat := goodIn_r _ [9, 10, 65, 66, 67, 68, 69, 70, 71, 72, 73, 74, 75] (by decide +kernel) (by decide +kernel)
set_option maxRecDepth 20000 in
theorem gX11_turn_X9_hasBoat : GoodIn wsX11_turn (wsV RX11 155 RX9 yX9_hasBoat wsX9_hasBoat) := goodIn_app (goodIn_of _ (by decide +kernel)) ggX11_turn_X9_hasBoat
set_option maxRecDepth 20000 in
theorem ggX11_turn_X6_remember : GoodIn wsX11_turn wsX6_remember := goodIn_r _ [15, 16, 17, 18, 19, 20, 21, 22, 23, 24, 25, 26, 27, 28, 29, 30, 76, 77, 78, 79, 80, 81] (by decide +kernel) (by decide +kernel)
set_option maxRecDepth 20000 in
theorem gX11_turn_X6_remember : GoodIn wsX11_turn (wsV RX11 177 RX6 yX6_remember wsX6_remember) := goodIn_app (goodIn_of _ (by decide +kernel)) ggX11_turn_X6_remember
set_option maxRecDepth 20000 in
theorem ggX11_turn_X4_from : GoodIn wsX11_turn wsX4_from := goodIn_r _ [35, 36, 37, 38, 34, 39, 40, 81] (by decide +kernel) (by decide +kernel)
set_option maxRecDepth 20000 in
theorem gX11_turn_X4_from : GoodIn wsX11_turn (wsV RX11 162 RX4 yX4_from wsX4_from) := goodIn_app (goodIn_of _ (by decide +kernel)) ggX11_turn_X4_from
set_option maxRecDepth 20000 in
theorem ggX11_turn_X4_comeFromNowhere : GoodIn wsX11_turn wsX4_comeFromNowhere := goodIn_r _ [44, 45, 46, 47, 34, 48, 40, 81] (by decide +kernel) (by decide +kernel)
set_option maxRecDepth 20000 in
theorem gX11_turn_X4_comeFromNowhere : GoodIn wsX11_turn (wsV RX11 195 RX4 yX4_comeFromNowhere wsX4_comeFromNowhere) := goodIn_app (goodIn_of _ (by decide +kernel)) ggX11_turn_X4_comeFromNowhere
set_option maxRecDepth 20000 in
theorem ggX11_drift_X11_refusalToGo : GoodIn wsX11_drift wsX11_refusalToGo := goodIn_r _ [9, 10, 3, 11, 12, 2, 13, 14, 15, 16, 17, 18, 19, 137, 138, 139, 140, 141, 142, 143, 144, 145, 146, 147, 148, 149, 150, 151, 152, 153, 154, 155, 156, 157, 158, 159, 160, 161, 162, 163, 164] (by decide +kernel) (by decide +kernel)
set_option maxRecDepth 20000 in
theorem gX11_drift_X11_refusalToGo : GoodIn wsX11_drift (wsV RX11 174 RX11 yX11_refusalToGo wsX11_refusalToGo) := goodIn_app (goodIn_of _ (by decide +kernel)) ggX11_drift_X11_refusalToGo
set_option maxRecDepth 20000 in
theorem ggX11_drift_X6_remember : GoodIn wsX11_drift wsX6_remember := goodIn_r _ [24, 25, 26, 27, 28, 29, 30, 31, 32, 33, 34, 35, 36, 37, 38, 39, 165, 166, 167, 168, 169, 164] (by decide +kernel) (by decide +kernel)
set_option maxRecDepth 20000 in
theorem gX11_drift_X6_remember : GoodIn wsX11_drift (wsV RX11 177 RX6 yX6_remember wsX6_remember) := goodIn_app (goodIn_of _ (by decide +kernel)) ggX11_drift_X6_remember
set_option maxRecDepth 20000 in
theorem ggX11_drift_X11_drawMonth : GoodIn wsX11_drift wsX11_drawMonth := goodIn_r _ [43, 44, 3, 4, 2, 45, 46, 47, 48, 49, 50, 51, 52, 53, 54, 55, 56, 57, 17, 58, 59, 60, 61, 62, 63, 64, 65, 66, 67, 68, 69, 70, 19, 71, 72, 73, 74, 75, 76, 77, 78, 79, 80, 81, 137, 138, 139, 140, 141, 142, 143, 144, 145, 146, 147, 148, 149, 150, 151, 152, 153, 154, 155, 156, 157, 158, 159, 160, 161, 162, 163, 170, 164] (by decide +kernel) (by decide +kernel)
set_option maxRecDepth 20000 in
theorem gX11_drift_X11_drawMonth : GoodIn wsX11_drift (wsV RX11 198 RX11 yX11_drawMonth wsX11_drawMonth) := goodIn_app (goodIn_of _ (by decide +kernel)) ggX11_drift_X11_drawMonth
set_option maxRecDepth 20000 in
theorem ggX11_drift_X4_advanceAll : GoodIn wsX11_drift wsX4_advanceAll := goodIn_r _ [85, 86, 19, 87, 88, 89, 17, 90, 91, 92, 93, 94, 63, 64, 65, 66, 67, 68, 69, 70, 95, 96, 97, 98, 99, 100, 101, 102, 103, 104, 105, 106, 107, 108, 109, 110, 111, 112, 113, 114, 115, 116, 117, 71, 72, 73, 74, 118, 119, 120, 121, 122, 123, 124, 125, 126, 127, 128, 129, 130, 131, 132, 56, 57, 58, 59, 60, 61, 62, 153, 154, 155, 156, 157, 158, 159, 160, 161, 162, 163, 164] (by decide +kernel) (by decide +kernel)
set_option maxRecDepth 20000 in
theorem gX11_drift_X4_advanceAll : GoodIn wsX11_drift (wsV RX11 181 RX4 yX4_advanceAll wsX4_advanceAll) := goodIn_app (goodIn_of _ (by decide +kernel)) ggX11_drift_X4_advanceAll
set_option maxRecDepth 20000 in
theorem ggX11_drift_X4_sitting : GoodIn wsX11_drift wsX4_sitting := goodIn_r _ [136, 86, 91, 92, 93, 17, 94, 63, 64, 65, 66, 67, 68, 69, 70, 19, 95, 96, 97, 98, 99, 100, 101, 102, 103, 104, 105, 106, 107, 108, 109, 110, 111, 112, 153, 154, 155, 156, 157, 158, 159, 160, 161, 162, 163, 164] (by decide +kernel) (by decide +kernel)
set_option maxRecDepth 20000 in
theorem gX11_drift_X4_sitting : GoodIn wsX11_drift (wsV RX11 130 RX4 yX4_sitting wsX4_sitting) := goodIn_app (goodIn_of _ (by decide +kernel)) ggX11_drift_X4_sitting
