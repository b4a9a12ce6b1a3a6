set_option maxRecDepth 20000 in
theorem ggX11_undo_X6_bringBack : GoodIn wsX11_undo wsX6_bringBack := goodIn_r _ [9, 10, 11, 12, 13, 14, 15, 16, 17, 18, 19, 20, 21, 22, 23, 24, 41, 42, 43, 44, 45, 46] (by decide +kernel) (by decide +kernel)
set_option maxRecDepth 20000 in
theorem gX11_undo_X6_bringBack : GoodIn wsX11_undo (wsV RX11 202 RX6 yX6_bringBack wsX6_bringBack) := goodIn_app (goodIn_of _ (by decide +kernel)) ggX11_undo_X6_bringBack
set_option maxRecDepth 20000 in
theorem ggX11_quay_X9_hasBoat : GoodIn wsX11_quay wsX9_hasBoat := goodIn_r _ [8, 9, 31, 32, 33, 34, 35, 36, 37, 38, 39, 40, 41] (by decide +kernel) (by decide +kernel)
set_option maxRecDepth 20000 in
theorem gX11_quay_X9_hasBoat : GoodIn wsX11_quay (wsV RX11 155 RX9 yX9_hasBoat wsX9_hasBoat) := goodIn_app (goodIn_of _ (by decide +kernel)) ggX11_quay_X9_hasBoat
set_option maxRecDepth 20000 in
theorem ggX11_quay_X9_hasJunction : GoodIn wsX11_quay wsX9_hasJunction := goodIn_r _ [13, 14, 31, 32, 33, 34, 35, 36, 37, 38, 39, 40, 41] (by decide +kernel) (by decide +kernel)
set_option maxRecDepth 20000 in
theorem gX11_quay_X9_hasJunction : GoodIn wsX11_quay (wsV RX11 205 RX9 yX9_hasJunction wsX9_hasJunction) := goodIn_app (goodIn_of _ (by decide +kernel)) ggX11_quay_X9_hasJunction
set_option maxRecDepth 20000 in
theorem ggX11_where_X9_hasBoat : GoodIn wsX11_where wsX9_hasBoat := goodIn_r _ [14, 15, 99, 100, 101, 102, 103, 104, 105, 106, 107, 108, 109] (by decide +kernel) (by decide +kernel)
set_option maxRecDepth 20000 in
theorem gX11_where_X9_hasBoat : GoodIn wsX11_where (wsV RX11 155 RX9 yX9_hasBoat wsX9_hasBoat) := goodIn_app (goodIn_of _ (by decide +kernel)) ggX11_where_X9_hasBoat
set_option maxRecDepth 20000 in
theorem ggX11_where_X11_layWay : GoodIn wsX11_where wsX11_layWay := goodIn_r _ [20, 4, 1, 5, 21, 22, 23, 24, 25, 26, 27, 28, 29, 30, 31, 32, 33, 34, 35, 36, 37, 13, 38, 39, 40, 11, 12, 14, 15, 41, 42, 43, 44, 45, 46, 47, 8, 48, 49, 7, 9, 50, 51, 52, 53, 54, 55, 56, 57, 58, 59, 60, 61, 62, 63, 64, 65, 66, 83, 84, 85, 86, 87, 88, 89, 90, 91, 92, 93, 94, 95, 96, 97, 98, 110, 99, 100, 101, 102, 103, 104, 105, 106, 107, 108, 109, 111, 112, 113] (by decide +kernel) (by decide +kernel)
set_option maxRecDepth 20000 in
theorem gX11_where_X11_layWay : GoodIn wsX11_where (wsV RX11 208 RX11 yX11_layWay wsX11_layWay) := goodIn_app (goodIn_of _ (by decide +kernel)) ggX11_where_X11_layWay
set_option maxRecDepth 20000 in
theorem ggX11_where_X4_pull : GoodIn wsX11_where wsX4_pull := goodIn_r _ [70, 26, 27, 28, 24, 29, 30, 110] (by decide +kernel) (by decide +kernel)
set_option maxRecDepth 20000 in
theorem gX11_where_X4_pull : GoodIn wsX11_where (wsV RX11 165 RX4 yX4_pull wsX4_pull) := goodIn_app (goodIn_of _ (by decide +kernel)) ggX11_where_X4_pull
set_option maxRecDepth 20000 in
theorem ggX11_where_X10_gone : GoodIn wsX11_where wsX10_gone := goodIn_r _ [74, 75, 76, 77, 44, 78, 50, 52, 111, 112, 113] (by decide +kernel) (by decide +kernel)
set_option maxRecDepth 20000 in
theorem gX11_where_X10_gone : GoodIn wsX11_where (wsV RX11 211 RX10 yX10_gone wsX10_gone) := goodIn_app (goodIn_of _ (by decide +kernel)) ggX11_where_X10_gone
set_option maxRecDepth 20000 in
theorem ggX11_where_X10_place : GoodIn wsX11_where wsX10_place := goodIn_r _ [82, 50, 51, 111, 112, 113] (by decide +kernel) (by decide +kernel)
set_option maxRecDepth 20000 in
theorem gX11_where_X10_place : GoodIn wsX11_where (wsV RX11 215 RX10 yX10_place wsX10_place) := goodIn_app (goodIn_of _ (by decide +kernel)) ggX11_where_X10_place
set_option maxRecDepth 20000 in
theorem ggX11_where_X9_wearOf : GoodIn wsX11_where wsX9_wearOf := goodIn_r _ [38, 39, 40, 11, 12, 13, 14, 15, 99, 100, 101, 102, 103, 104, 105, 106, 107, 108, 109] (by decide +kernel) (by decide +kernel)
set_option maxRecDepth 20000 in
theorem gX11_where_X9_wearOf : GoodIn wsX11_where (wsV RX11 168 RX9 yX9_wearOf wsX9_wearOf) := goodIn_app (goodIn_of _ (by decide +kernel)) ggX11_where_X9_wearOf
set_option maxRecDepth 20000 in
theorem ggX11_sits_X9_hasBoat : GoodIn wsX11_sits wsX9_hasBoat := goodIn_r _ [9, 10, 93, 94, 95, 96, 97, 98, 99, 100, 101, 102, 103] (by decide +kernel) (by decide +kernel)
set_option maxRecDepth 20000 in
theorem gX11_sits_X9_hasBoat : GoodIn wsX11_sits (wsV RX11 155 RX9 yX9_hasBoat wsX9_hasBoat) := goodIn_app (goodIn_of _ (by decide +kernel)) ggX11_sits_X9_hasBoat
set_option maxRecDepth 20000 in
theorem ggX11_sits_X11_layWay : GoodIn wsX11_sits wsX11_layWay := goodIn_r _ [15, 3, 1, 4, 16, 17, 18, 19, 20, 21, 22, 23, 24, 25, 26, 27, 28, 29, 30, 31, 32, 8, 33, 34, 35, 6, 7, 9, 10, 36, 37, 38, 39, 40, 41, 42, 43, 44, 45, 46, 47, 48, 49, 50, 51, 52, 53, 54, 55, 56, 57, 58, 59, 60, 61, 62, 63, 64, 77, 78, 79, 80, 81, 82, 83, 84, 85, 86, 87, 88, 89, 90, 91, 92, 104, 93, 94, 95, 96, 97, 98, 99, 100, 101, 102, 103, 105, 106, 107] (by decide +kernel) (by decide +kernel)
set_option maxRecDepth 20000 in
theorem gX11_sits_X11_layWay : GoodIn wsX11_sits (wsV RX11 208 RX11 yX11_layWay wsX11_layWay) := goodIn_app (goodIn_of _ (by decide +kernel)) ggX11_sits_X11_layWay
set_option maxRecDepth 20000 in
theorem ggX11_sits_X4_pull : GoodIn wsX11_sits wsX4_pull := goodIn_r _ [68, 21, 22, 23, 19, 24, 25, 104] (by decide +kernel) (by decide +kernel)
set_option maxRecDepth 20000 in
theorem gX11_sits_X4_pull : GoodIn wsX11_sits (wsV RX11 165 RX4 yX4_pull wsX4_pull) := goodIn_app (goodIn_of _ (by decide +kernel)) ggX11_sits_X4_pull
set_option maxRecDepth 20000 in
theorem ggX11_sits_X10_gone : GoodIn wsX11_sits wsX10_gone := goodIn_r _ [72, 73, 74, 75, 39, 76, 48, 50, 105, 106, 107] (by decide +kernel) (by decide +kernel)
set_option maxRecDepth 20000 in
theorem gX11_sits_X10_gone : GoodIn wsX11_sits (wsV RX11 211 RX10 yX10_gone wsX10_gone) := goodIn_app (goodIn_of _ (by decide +kernel)) ggX11_sits_X10_gone
set_option maxRecDepth 20000 in
theorem ggX11_round_X9_hasBoat : GoodIn wsX11_round wsX9_hasBoat := goodIn_r _ [9, 10, 90, 91, 92, 93, 94, 95, 96, 97, 98, 99, 100] (by decide +kernel) (by decide +kernel)
set_option maxRecDepth 20000 in
theorem gX11_round_X9_hasBoat : GoodIn wsX11_round (wsV RX11 155 RX9 yX9_hasBoat wsX9_hasBoat) := goodIn_app (goodIn_of _ (by decide +kernel)) ggX11_round_X9_hasBoat
set_option maxRecDepth 20000 in
theorem ggX11_round_X4_at : GoodIn wsX11_round wsX4_at := goodIn_r _ [15, 16, 17, 18, 14, 19, 20, 101] (by decide +kernel) (by decide +kernel)
set_option maxRecDepth 20000 in
theorem gX11_round_X4_at : GoodIn wsX11_round (wsV RX11 158 RX4 yX4_at wsX4_at) := goodIn_app (goodIn_of _ (by decide +kernel)) ggX11_round_X4_at
set_option maxRecDepth 20000 in
theorem ggX11_round_X4_from : GoodIn wsX11_round wsX4_from := goodIn_r _ [24, 16, 17, 18, 14, 19, 20, 101] (by decide +kernel) (by decide +kernel)
set_option maxRecDepth 20000 in
theorem gX11_round_X4_from : GoodIn wsX11_round (wsV RX11 162 RX4 yX4_from wsX4_from) := goodIn_app (goodIn_of _ (by decide +kernel)) ggX11_round_X4_from
set_option maxRecDepth 20000 in
theorem ggX11_round_X10_lay : GoodIn wsX11_round wsX10_lay := goodIn_r _ [29, 30, 31, 32, 33, 34, 35, 36, 37, 38, 39, 40, 41, 42, 8, 43, 44, 45, 46, 47, 48, 49, 50, 51, 52, 53, 102, 103, 104, 90, 91, 92, 93, 94, 95, 96, 97, 98, 99, 100] (by decide +kernel) (by decide +kernel)
set_option maxRecDepth 20000 in
theorem gX11_round_X10_lay : GoodIn wsX11_round (wsV RX11 223 RX10 yX10_lay wsX10_lay) := goodIn_app (goodIn_of _ (by decide +kernel)) ggX11_round_X10_lay
set_option maxRecDepth 20000 in
theorem ggX11_round_X4_pull : GoodIn wsX11_round wsX4_pull := goodIn_r _ [57, 16, 17, 18, 14, 19, 20, 101] (by decide +kernel) (by decide +kernel)
set_option maxRecDepth 20000 in
theorem gX11_round_X4_pull : GoodIn wsX11_round (wsV RX11 165 RX4 yX4_pull wsX4_pull) := goodIn_app (goodIn_of _ (by decide +kernel)) ggX11_round_X4_pull
set_option maxRecDepth 20000 in
theorem ggX11_round_X10_gone : GoodIn wsX11_round wsX10_gone := goodIn_r _ [61, 62, 63, 64, 28, 65, 37, 39, 102, 103, 104] (by decide +kernel) (by decide +kernel)
set_option maxRecDepth 20000 in
theorem gX11_round_X10_gone : GoodIn wsX11_round (wsV RX11 211 RX10 yX10_gone wsX10_gone) := goodIn_app (goodIn_of _ (by decide +kernel)) ggX11_round_X10_gone
set_option maxRecDepth 20000 in
theorem ggX11_round_X10_ring : GoodIn wsX11_round wsX10_ring := goodIn_r _ [69, 37, 70, 71, 72, 28, 73, 38, 102, 103, 104] (by decide +kernel) (by decide +kernel)
set_option maxRecDepth 20000 in
theorem gX11_round_X10_ring : GoodIn wsX11_round (wsV RX11 227 RX10 yX10_ring wsX10_ring) := goodIn_app (goodIn_of _ (by decide +kernel)) ggX11_round_X10_ring
set_option maxRecDepth 20000 in
theorem ggX11_least_X9_hasBoat : GoodIn wsX11_least wsX9_hasBoat := goodIn_r _ [10, 11, 111, 112, 113, 114, 115, 116, 117, 118, 119, 120, 121] (by decide +kernel) (by decide +kernel)
set_option maxRecDepth 20000 in
theorem gX11_least_X9_hasBoat : GoodIn wsX11_least (wsV RX11 155 RX9 yX9_hasBoat wsX9_hasBoat) := goodIn_app (goodIn_of _ (by decide +kernel)) ggX11_least_X9_hasBoat
set_option maxRecDepth 20000 in
theorem ggX11_least_X9_hasJunction : GoodIn wsX11_least wsX9_hasJunction := goodIn_r _ [15, 16, 111, 112, 113, 114, 115, 116, 117, 118, 119, 120, 121] (by decide +kernel) (by decide +kernel)
set_option maxRecDepth 20000 in
theorem gX11_least_X9_hasJunction : GoodIn wsX11_least (wsV RX11 205 RX9 yX9_hasJunction wsX9_hasJunction) := goodIn_app (goodIn_of _ (by decide +kernel)) ggX11_least_X9_hasJunction
set_option maxRecDepth 20000 in
theorem ggX11_least_X11_layWay : GoodIn wsX11_least wsX11_layWay := goodIn_r _ [21, 4, 1, 5, 22, 23, 24, 25, 26, 27, 28, 29, 30, 31, 32, 33, 34, 35, 36, 37, 38, 9, 39, 40, 41, 7, 8, 10, 11, 42, 43, 44, 45, 46, 47, 48, 49, 50, 51, 52, 53, 54, 55, 56, 57, 58, 59, 60, 61, 62, 63, 64, 65, 66, 67, 68, 69, 70, 95, 96, 97, 98, 99, 100, 101, 102, 103, 104, 105, 106, 107, 108, 109, 110, 122, 111, 112, 113, 114, 115, 116, 117, 118, 119, 120, 121, 123, 124, 125] (by decide +kernel) (by decide +kernel)
set_option maxRecDepth 20000 in
theorem gX11_least_X11_layWay : GoodIn wsX11_least (wsV RX11 208 RX11 yX11_layWay wsX11_layWay) := goodIn_app (goodIn_of _ (by decide +kernel)) ggX11_least_X11_layWay
set_option maxRecDepth 20000 in
theorem ggX11_least_X4_pull : GoodIn wsX11_least wsX4_pull := goodIn_r _ [74, 27, 28, 29, 25, 30, 31, 122] (by decide +kernel) (by decide +kernel)
set_option maxRecDepth 20000 in
theorem gX11_least_X4_pull : GoodIn wsX11_least (wsV RX11 165 RX4 yX4_pull wsX4_pull) := goodIn_app (goodIn_of _ (by decide +kernel)) ggX11_least_X4_pull
set_option maxRecDepth 20000 in
theorem ggX11_least_X10_leastLess : GoodIn wsX11_least wsX10_leastLess := goodIn_r _ [78, 54, 51, 52, 49, 53, 79, 80, 81, 45, 82, 83, 84, 85, 86, 55, 87, 88, 89, 90, 56, 123, 124, 125] (by decide +kernel) (by decide +kernel)
set_option maxRecDepth 20000 in
theorem gX11_least_X10_leastLess : GoodIn wsX11_least (wsV RX11 230 RX10 yX10_leastLess wsX10_leastLess) := goodIn_app (goodIn_of _ (by decide +kernel)) ggX11_least_X10_leastLess
set_option maxRecDepth 20000 in
theorem ggX11_least_X10_leastMore : GoodIn wsX11_least wsX10_leastMore := goodIn_r _ [94, 54, 51, 52, 49, 53, 79, 80, 81, 45, 82, 83, 84, 85, 86, 55, 87, 88, 89, 90, 56, 123, 124, 125] (by decide +kernel) (by decide +kernel)
set_option maxRecDepth 20000 in
theorem gX11_least_X10_leastMore : GoodIn wsX11_least (wsV RX11 233 RX10 yX10_leastMore wsX10_leastMore) := goodIn_app (goodIn_of _ (by decide +kernel)) ggX11_least_X10_leastMore
set_option maxRecDepth 20000 in
theorem ggX11_changes_X9_hasBoat : GoodIn wsX11_changes wsX9_hasBoat := goodIn_r _ [11, 12, 154, 155, 156, 157, 158, 159, 160, 161, 162, 163, 164] (by decide +kernel) (by decide +kernel)
set_option maxRecDepth 20000 in
theorem gX11_changes_X9_hasBoat : GoodIn wsX11_changes (wsV RX11 155 RX9 yX9_hasBoat wsX9_hasBoat) := goodIn_app (goodIn_of _ (by decide +kernel)) ggX11_changes_X9_hasBoat
set_option maxRecDepth 20000 in
theorem ggX11_changes_X3_begin : GoodIn wsX11_changes wsX3_begin := goodIn_r _ [17, 18, 19, 20, 21, 22, 23, 24, 25, 26, 27, 28, 165, 166, 167, 168, 169] (by decide +kernel) (by decide +kernel)
set_option maxRecDepth 20000 in
theorem gX11_changes_X3_begin : GoodIn wsX11_changes (wsV RX11 236 RX3 yX3_begin wsX3_begin) := goodIn_app (goodIn_of _ (by decide +kernel)) ggX11_changes_X3_begin
set_option maxRecDepth 20000 in
theorem ggX11_changes_X11_tryPulls : GoodIn wsX11_changes wsX11_tryPulls := goodIn_r _ [33, 1, 5, 34, 35, 36, 4, 37, 38, 39, 32, 40, 41, 42, 43, 44, 45, 46, 47, 48, 49, 50, 51, 52, 53, 54, 55, 56, 57, 10, 58, 59, 60, 8, 9, 11, 12, 61, 62, 63, 64, 65, 66, 19, 20, 21, 67, 23, 24, 68, 69, 70, 71, 72, 73, 74, 75, 76, 77, 78, 79, 80, 81, 82, 83, 84, 85, 86, 87, 88, 89, 90, 91, 92, 93, 94, 95, 96, 97, 98, 99, 100, 101, 102, 103, 16, 104, 27, 138, 139, 140, 141, 142, 143, 144, 145, 146, 147, 148, 149, 150, 151, 152, 153, 154, 155, 156, 157, 158, 159, 160, 161, 162, 163, 164, 170, 171, 172, 173, 165, 166, 167, 168, 169] (by decide +kernel) (by decide +kernel)
set_option maxRecDepth 20000 in
theorem gX11_changes_X11_tryPulls : GoodIn wsX11_changes (wsV RX11 239 RX11 yX11_tryPulls wsX11_tryPulls) := goodIn_app (goodIn_of _ (by decide +kernel)) ggX11_changes_X11_tryPulls
set_option maxRecDepth 20000 in
theorem ggX11_changes_X3_search : GoodIn wsX11_changes wsX3_search := goodIn_r _ [108, 109, 110, 111, 16, 112, 25, 27, 28, 113, 114, 115, 116, 26, 117, 118, 119, 120, 121, 122, 123, 124, 125, 126, 127, 128, 129, 130, 131, 132, 133, 165, 166, 167, 168, 169] (by decide +kernel) (by decide +kernel)
set_option maxRecDepth 20000 in
theorem gX11_changes_X3_search : GoodIn wsX11_changes (wsV RX11 242 RX3 yX3_search wsX3_search) := goodIn_app (goodIn_of _ (by decide +kernel)) ggX11_changes_X3_search
set_option maxRecDepth 20000 in
theorem ggX11_changes_X3_giverTo : GoodIn wsX11_changes wsX3_giverTo := goodIn_r _ [137, 26, 117, 165, 166, 167, 168, 169] (by decide +kernel) (by decide +kernel)
set_option maxRecDepth 20000 in
theorem gX11_changes_X3_giverTo : GoodIn wsX11_changes (wsV RX11 248 RX3 yX3_giverTo wsX3_giverTo) := goodIn_app (goodIn_of _ (by decide +kernel)) ggX11_changes_X3_giverTo
set_option maxRecDepth 20000 in
theorem ggX11_dry_X11_layWay : GoodIn wsX11_dry wsX11_layWay := goodIn_r _ [11, 4, 2, 5, 12, 13, 14, 15, 16, 17, 18, 19, 20, 21, 22, 23, 24, 25, 26, 27, 28, 29, 30, 31, 32, 33, 34, 35, 36, 37, 38, 39, 40, 41, 42, 43, 44, 45, 46, 47, 48, 49, 50, 51, 52, 53, 54, 55, 56, 57, 58, 59, 60, 61, 62, 63, 64, 65, 82, 83, 84, 85, 86, 87, 88, 89, 90, 91, 92, 93, 94, 95, 96, 97, 109, 98, 99, 100, 101, 102, 103, 104, 105, 106, 107, 108, 110, 111, 112] (by decide +kernel) (by decide +kernel)
set_option maxRecDepth 20000 in
theorem gX11_dry_X11_layWay : GoodIn wsX11_dry (wsV RX11 208 RX11 yX11_layWay wsX11_layWay) := goodIn_app (goodIn_of _ (by decide +kernel)) ggX11_dry_X11_layWay
set_option maxRecDepth 20000 in
theorem ggX11_dry_X4_pull : GoodIn wsX11_dry wsX4_pull := goodIn_r _ [69, 17, 18, 19, 15, 20, 21, 109] (by decide +kernel) (by decide +kernel)
set_option maxRecDepth 20000 in
theorem gX11_dry_X4_pull : GoodIn wsX11_dry (wsV RX11 165 RX4 yX4_pull wsX4_pull) := goodIn_app (goodIn_of _ (by decide +kernel)) ggX11_dry_X4_pull
set_option maxRecDepth 20000 in
theorem ggX11_dry_X10_gone : GoodIn wsX11_dry wsX10_gone := goodIn_r _ [73, 74, 75, 76, 40, 77, 49, 51, 110, 111, 112] (by decide +kernel) (by decide +kernel)
set_option maxRecDepth 20000 in
theorem gX11_dry_X10_gone : GoodIn wsX11_dry (wsV RX11 211 RX10 yX10_gone wsX10_gone) := goodIn_app (goodIn_of _ (by decide +kernel)) ggX11_dry_X10_gone
set_option maxRecDepth 20000 in
theorem ggX11_dry_X10_placesUpTo : GoodIn wsX11_dry wsX10_placesUpTo := goodIn_r _ [81, 49, 50, 110, 111, 112] (by decide +kernel) (by decide +kernel)
set_option maxRecDepth 20000 in
theorem gX11_dry_X10_placesUpTo : GoodIn wsX11_dry (wsV RX11 251 RX10 yX10_placesUpTo wsX10_placesUpTo) := goodIn_app (goodIn_of _ (by decide +kernel)) ggX11_dry_X10_placesUpTo
set_option maxRecDepth 20000 in
theorem ggX11_towed_X9_hasBoat : GoodIn wsX11_towed wsX9_hasBoat := goodIn_r _ [9, 10, 37, 38, 39, 40, 41, 42, 43, 44, 45, 46, 47] (by decide +kernel) (by decide +kernel)
set_option maxRecDepth 20000 in
theorem gX11_towed_X9_hasBoat : GoodIn wsX11_towed (wsV RX11 155 RX9 yX9_hasBoat wsX9_hasBoat) := goodIn_app (goodIn_of _ (by decide +kernel)) ggX11_towed_X9_hasBoat
set_option maxRecDepth 20000 in
theorem ggX11_towed_X4_pull : GoodIn wsX11_towed wsX4_pull := goodIn_r _ [15, 16, 17, 18, 14, 19, 20, 48] (by decide +kernel) (by decide +kernel)
set_option maxRecDepth 20000 in
theorem gX11_towed_X4_pull : GoodIn wsX11_towed (wsV RX11 165 RX4 yX4_pull wsX4_pull) := goodIn_app (goodIn_of _ (by decide +kernel)) ggX11_towed_X4_pull
set_option maxRecDepth 20000 in
theorem ggX11_see_X9_hasBoat : GoodIn wsX11_see wsX9_hasBoat := goodIn_r _ [11, 12, 49, 50, 51, 52, 53, 54, 55, 56, 57, 58, 59] (by decide +kernel) (by decide +kernel)
set_option maxRecDepth 20000 in
theorem gX11_see_X9_hasBoat : GoodIn wsX11_see (wsV RX11 155 RX9 yX9_hasBoat wsX9_hasBoat) := goodIn_app (goodIn_of _ (by decide +kernel)) ggX11_see_X9_hasBoat
set_option maxRecDepth 20000 in
theorem ggX11_see_X9_hasJunction : GoodIn wsX11_see wsX9_hasJunction := goodIn_r _ [16, 17, 49, 50, 51, 52, 53, 54, 55, 56, 57, 58, 59] (by decide +kernel) (by decide +kernel)
set_option maxRecDepth 20000 in
theorem gX11_see_X9_hasJunction : GoodIn wsX11_see (wsV RX11 205 RX9 yX9_hasJunction wsX9_hasJunction) := goodIn_app (goodIn_of _ (by decide +kernel)) ggX11_see_X9_hasJunction
set_option maxRecDepth 20000 in
theorem ggX11_see_X2_add : GoodIn wsX11_see wsX2_add := goodIn_r _ [22, 23, 24, 25, 26, 27, 44, 45, 46, 47, 48] (by decide +kernel) (by decide +kernel)
set_option maxRecDepth 20000 in
theorem gX11_see_X2_add : GoodIn wsX11_see (wsV RX11 258 RX2 yX2_add wsX2_add) := goodIn_app (goodIn_of _ (by decide +kernel)) ggX11_see_X2_add
set_option maxRecDepth 20000 in
theorem ggX11_left_X9_hasBoat : GoodIn wsX11_left wsX9_hasBoat := goodIn_r _ [8, 9, 129, 130, 131, 132, 133, 134, 135, 136, 137, 138, 139] (by decide +kernel) (by decide +kernel)
set_option maxRecDepth 20000 in
theorem gX11_left_X9_hasBoat : GoodIn wsX11_left (wsV RX11 155 RX9 yX9_hasBoat wsX9_hasBoat) := goodIn_app (goodIn_of _ (by decide +kernel)) ggX11_left_X9_hasBoat
set_option maxRecDepth 20000 in
theorem ggX11_left_X11_sortPulls : GoodIn wsX11_left wsX11_sortPulls := goodIn_r _ [14, 15, 1, 16, 3, 17, 18, 19, 20, 21, 22, 23, 24, 25, 26, 27, 28, 29, 30, 7, 31, 32, 33, 5, 6, 8, 9, 34, 35, 36, 37, 38, 39, 40, 41, 42, 43, 44, 45, 46, 47, 48, 49, 50, 51, 52, 53, 54, 55, 56, 57, 58, 59, 60, 61, 62, 63, 64, 65, 66, 67, 68, 69, 70, 71, 72, 73, 74, 75, 76, 77, 78, 79, 80, 81, 82, 83, 84, 85, 86, 87, 88, 89, 90, 91, 92, 93, 94, 95, 96, 97, 98, 99, 100, 101, 102, 103, 104, 113, 114, 115, 116, 117, 118, 119, 120, 121, 122, 123, 124, 125, 126, 127, 128, 140, 129, 130, 131, 132, 133, 134, 135, 136, 137, 138, 139, 141, 142, 143, 144, 145, 146, 147, 148, 149, 150, 151] (by decide +kernel) (by decide +kernel)
set_option maxRecDepth 20000 in
theorem gX11_left_X11_sortPulls : GoodIn wsX11_left (wsV RX11 262 RX11 yX11_sortPulls wsX11_sortPulls) := goodIn_app (goodIn_of _ (by decide +kernel)) ggX11_left_X11_sortPulls
set_option maxRecDepth 20000 in
theorem ggX11_left_X0_total : GoodIn wsX11_left wsX0_total := goodIn_r _ [108, 69, 144, 145, 146] (by decide +kernel) (by decide +kernel)
set_option maxRecDepth 20000 in
theorem gX11_left_X0_total : GoodIn wsX11_left (wsV RX11 265 RX0 yX0_total wsX0_total) := goodIn_app (goodIn_of _ (by decide +kernel)) ggX11_left_X0_total
set_option maxRecDepth 20000 in
theorem ggX11_left_X0_pullAt : GoodIn wsX11_left wsX0_pullAt := goodIn_r _ [112, 69, 68, 144, 145, 146] (by decide +kernel) (by decide +kernel)
set_option maxRecDepth 20000 in
theorem gX11_left_X0_pullAt : GoodIn wsX11_left (wsV RX11 268 RX0 yX0_pullAt wsX0_pullAt) := goodIn_app (goodIn_of _ (by decide +kernel)) ggX11_left_X0_pullAt
set_option maxRecDepth 20000 in
theorem ggX11_look_X9_hasBoat : GoodIn wsX11_look wsX9_hasBoat := goodIn_r _ [9, 10, 135, 136, 137, 138, 139, 140, 141, 142, 143, 144, 145] (by decide +kernel) (by decide +kernel)
set_option maxRecDepth 20000 in
theorem gX11_look_X9_hasBoat : GoodIn wsX11_look (wsV RX11 155 RX9 yX9_hasBoat wsX9_hasBoat) := goodIn_app (goodIn_of _ (by decide +kernel)) ggX11_look_X9_hasBoat
set_option maxRecDepth 20000 in
theorem ggX11_look_X11_sortPulls : GoodIn wsX11_look wsX11_sortPulls := goodIn_r _ [15, 4, 1, 16, 3, 17, 18, 19, 20, 21, 22, 23, 24, 25, 26, 27, 28, 29, 30, 8, 31, 32, 33, 6, 7, 9, 10, 34, 35, 36, 37, 38, 39, 40, 41, 42, 43, 44, 45, 46, 47, 48, 49, 50, 51, 52, 53, 54, 55, 56, 57, 58, 59, 60, 61, 62, 63, 64, 65, 66, 67, 68, 69, 70, 71, 72, 73, 74, 75, 76, 77, 78, 79, 80, 81, 82, 83, 84, 85, 86, 87, 88, 89, 90, 91, 92, 93, 94, 95, 96, 97, 98, 99, 100, 101, 102, 103, 104, 119, 120, 121, 122, 123, 124, 125, 126, 127, 128, 129, 130, 131, 132, 133, 134, 146, 135, 136, 137, 138, 139, 140, 141, 142, 143, 144, 145, 147, 148, 149, 150, 151, 152, 153, 154, 155, 156, 157] (by decide +kernel) (by decide +kernel)
set_option maxRecDepth 20000 in
theorem gX11_look_X11_sortPulls : GoodIn wsX11_look (wsV RX11 262 RX11 yX11_sortPulls wsX11_sortPulls) := goodIn_app (goodIn_of _ (by decide +kernel)) ggX11_look_X11_sortPulls
set_option maxRecDepth 20000 in
theorem ggX11_look_X0_bestParting : GoodIn wsX11_look wsX0_bestParting := goodIn_r _ [108, 109, 110, 111, 66, 112, 69, 113, 114, 115, 116, 117, 78, 40, 41, 42, 118, 44, 45, 96, 97, 98, 37, 99, 46, 47, 150, 151, 152, 147, 148, 149] (by decide +kernel) (by decide +kernel)
set_option maxRecDepth 20000 in
theorem gX11_look_X0_bestParting : GoodIn wsX11_look (wsV RX11 271 RX0 yX0_bestParting wsX0_bestParting) := goodIn_app (goodIn_of _ (by decide +kernel)) ggX11_look_X0_bestParting
set_option maxRecDepth 20000 in
theorem ggX11_write_X9_hasBoat : GoodIn wsX11_write wsX9_hasBoat := goodIn_r _ [10, 11, 48, 49, 50, 51, 52, 53, 54, 55, 56, 57, 58] (by decide +kernel) (by decide +kernel)
set_option maxRecDepth 20000 in
theorem gX11_write_X9_hasBoat : GoodIn wsX11_write (wsV RX11 155 RX9 yX9_hasBoat wsX9_hasBoat) := goodIn_app (goodIn_of _ (by decide +kernel)) ggX11_write_X9_hasBoat
set_option maxRecDepth 20000 in
theorem ggX11_write_X9_hasJunction : GoodIn wsX11_write wsX9_hasJunction := goodIn_r _ [15, 16, 48, 49, 50, 51, 52, 53, 54, 55, 56, 57, 58] (by decide +kernel) (by decide +kernel)
set_option maxRecDepth 20000 in
theorem gX11_write_X9_hasJunction : GoodIn wsX11_write (wsV RX11 205 RX9 yX9_hasJunction wsX9_hasJunction) := goodIn_app (goodIn_of _ (by decide +kernel)) ggX11_write_X9_hasJunction
set_option maxRecDepth 20000 in
theorem ggX11_write_X2_add : GoodIn wsX11_write wsX2_add := goodIn_r _ [21, 22, 23, 24, 25, 26, 43, 44, 45, 46, 47] (by decide +kernel) (by decide +kernel)
set_option maxRecDepth 20000 in
theorem gX11_write_X2_add : GoodIn wsX11_write (wsV RX11 258 RX2 yX2_add wsX2_add) := goodIn_app (goodIn_of _ (by decide +kernel)) ggX11_write_X2_add
