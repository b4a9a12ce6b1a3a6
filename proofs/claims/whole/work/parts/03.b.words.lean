set_option maxRecDepth 20000 in
theorem ggX5_bringBack_X8_fetch : GoodIn wsX5_bringBack wsX8_fetch := goodIn_r _ [14, 15, 16, 17, 18, 19, 20, 21, 26, 27, 28] (by decide +kernel) (by decide +kernel)
set_option maxRecDepth 20000 in
theorem gX5_bringBack_X8_fetch : GoodIn wsX5_bringBack (wsV RX5 42 RX8 yX8_fetch wsX8_fetch) := goodIn_app (goodIn_of _ (by decide +kernel)) ggX5_bringBack_X8_fetch
set_option maxRecDepth 20000 in
theorem ggX6_init_X8_init : GoodIn wsX6_init wsX8_init := goodIn_r _ [12, 13, 2, 3, 14, 15, 16, 17, 18, 19, 20, 21, 22] (by decide +kernel) (by decide +kernel)
set_option maxRecDepth 20000 in
theorem gX6_init_X8_init : GoodIn wsX6_init (wsX8_init) := ggX6_init_X8_init
set_option maxRecDepth 20000 in
theorem ggX6_remember_X8_store : GoodIn wsX6_remember wsX8_store := goodIn_r _ [8, 9, 10, 11, 12, 13, 14, 15, 19, 20, 21] (by decide +kernel) (by decide +kernel)
set_option maxRecDepth 20000 in
theorem gX6_remember_X8_store : GoodIn wsX6_remember (wsV RX6 27 RX8 yX8_store wsX8_store) := goodIn_app (goodIn_of _ (by decide +kernel)) ggX6_remember_X8_store
set_option maxRecDepth 20000 in
theorem ggX6_bringBack_X8_fetch : GoodIn wsX6_bringBack wsX8_fetch := goodIn_r _ [8, 9, 10, 11, 12, 13, 14, 15, 19, 20, 21] (by decide +kernel) (by decide +kernel)
set_option maxRecDepth 20000 in
theorem gX6_bringBack_X8_fetch : GoodIn wsX6_bringBack (wsV RX6 31 RX8 yX8_fetch wsX8_fetch) := goodIn_app (goodIn_of _ (by decide +kernel)) ggX6_bringBack_X8_fetch
set_option maxRecDepth 20000 in
theorem ggX7_readText_X9_empty : GoodIn wsX7_readText wsX9_empty := goodIn_r _ [14, 15, 16, 17, 112, 113, 114, 115, 116, 117, 118, 119, 120, 121, 122] (by decide +kernel) (by decide +kernel)
set_option maxRecDepth 20000 in
theorem gX7_readText_X9_empty : GoodIn wsX7_readText (wsV RX7 37 RX9 yX9_empty wsX9_empty) := goodIn_app (goodIn_of _ (by decide +kernel)) ggX7_readText_X9_empty
set_option maxRecDepth 20000 in
theorem ggX7_readText_X7_goesOn : GoodIn wsX7_readText wsX7_goesOn := goodIn_r _ [22, 8, 7, 6, 23, 24, 25, 21, 26, 27, 28, 29, 30, 1, 106, 107, 108, 109, 110, 111] (by decide +kernel) (by decide +kernel)
set_option maxRecDepth 20000 in
theorem gX7_readText_X7_goesOn : GoodIn wsX7_readText (wsV RX7 42 RX7 yX7_goesOn wsX7_goesOn) := goodIn_app (goodIn_of _ (by decide +kernel)) ggX7_readText_X7_goesOn
set_option maxRecDepth 20000 in
theorem ggX7_readText_X7_readJunctions : GoodIn wsX7_readText wsX7_readJunctions := goodIn_r _ [34, 35, 36, 37, 38, 21, 39, 8, 7, 23, 24, 25, 26, 6, 27, 28, 29, 30, 1, 40, 41, 42, 43, 9, 44, 45, 46, 47, 48, 49, 50, 51, 112, 113, 114, 115, 116, 117, 118, 119, 120, 121, 122, 106, 107, 108, 109, 110, 111] (by decide +kernel) (by decide +kernel)
set_option maxRecDepth 20000 in
theorem gX7_readText_X7_readJunctions : GoodIn wsX7_readText (wsV RX7 46 RX7 yX7_readJunctions wsX7_readJunctions) := goodIn_app (goodIn_of _ (by decide +kernel)) ggX7_readText_X7_readJunctions
set_option maxRecDepth 20000 in
theorem ggX7_readText_X7_readClause : GoodIn wsX7_readText wsX7_readClause := goodIn_r _ [55, 7, 56, 57, 27, 28, 29, 21, 30, 6, 1, 40, 41, 42, 43, 8, 9, 58, 59, 60, 61, 35, 48, 44, 45, 46, 47, 23, 24, 25, 26, 49, 50, 51, 62, 63, 64, 13, 65, 16, 66, 67, 68, 69, 70, 71, 72, 73, 74, 75, 36, 37, 38, 39, 76, 77, 78, 79, 80, 81, 82, 83, 84, 85, 86, 87, 88, 17, 89, 90, 91, 106, 107, 108, 109, 110, 111, 112, 113, 114, 115, 116, 117, 118, 119, 120, 121, 122] (by decide +kernel) (by decide +kernel)
set_option maxRecDepth 20000 in
theorem gX7_readText_X7_readClause : GoodIn wsX7_readText (wsV RX7 50 RX7 yX7_readClause wsX7_readClause) := goodIn_app (goodIn_of _ (by decide +kernel)) ggX7_readText_X7_readClause
set_option maxRecDepth 20000 in
theorem ggX7_readText_X9_findOnward : GoodIn wsX7_readText wsX9_findOnward := goodIn_r _ [95, 96, 97, 98, 13, 99, 16, 80, 100, 101, 66, 67, 68, 69, 70, 71, 72, 73, 74, 75, 102, 103, 104, 105, 112, 113, 114, 115, 116, 117, 118, 119, 120, 121, 122] (by decide +kernel) (by decide +kernel)
set_option maxRecDepth 20000 in
theorem gX7_readText_X9_findOnward : GoodIn wsX7_readText (wsV RX7 53 RX9 yX9_findOnward wsX9_findOnward) := goodIn_app (goodIn_of _ (by decide +kernel)) ggX7_readText_X9_findOnward
set_option maxRecDepth 20000 in
theorem ggX7_readJunctions_X7_readSign : GoodIn wsX7_readJunctions wsX7_readSign := goodIn_r _ [6, 7, 8, 9, 10, 11, 5, 12, 13, 14, 15, 16, 17, 18, 19, 20, 21, 22, 23, 43, 44, 45, 46, 47, 48] (by decide +kernel) (by decide +kernel)
set_option maxRecDepth 20000 in
theorem gX7_readJunctions_X7_readSign : GoodIn wsX7_readJunctions (wsV RX7 56 RX7 yX7_readSign wsX7_readSign) := goodIn_app (goodIn_of _ (by decide +kernel)) ggX7_readJunctions_X7_readSign
set_option maxRecDepth 20000 in
theorem ggX7_readJunctions_X7_readNumber : GoodIn wsX7_readJunctions wsX7_readNumber := goodIn_r _ [27, 7, 8, 28, 13, 9, 10, 11, 5, 12, 14, 15, 16, 17, 18, 29, 30, 31, 19, 20, 21, 22, 23, 43, 44, 45, 46, 47, 48] (by decide +kernel) (by decide +kernel)
set_option maxRecDepth 20000 in
theorem gX7_readJunctions_X7_readNumber : GoodIn wsX7_readJunctions (wsV RX7 60 RX7 yX7_readNumber wsX7_readNumber) := goodIn_app (goodIn_of _ (by decide +kernel)) ggX7_readJunctions_X7_readNumber
set_option maxRecDepth 20000 in
theorem ggX7_goesOn_X7_skipBlanks : GoodIn wsX7_goesOn wsX7_skipBlanks := goodIn_r _ [8, 2, 3, 9, 10, 11, 7, 12, 13, 14, 15, 16, 17, 18, 19] (by decide +kernel) (by decide +kernel)
set_option maxRecDepth 20000 in
theorem gX7_goesOn_X7_skipBlanks : GoodIn wsX7_goesOn (wsV RX7 66 RX7 yX7_skipBlanks wsX7_skipBlanks) := goodIn_app (goodIn_of _ (by decide +kernel)) ggX7_goesOn_X7_skipBlanks
set_option maxRecDepth 20000 in
theorem ggX7_readClause_X7_letterHere : GoodIn wsX7_readClause wsX7_letterHere := goodIn_r _ [8, 1, 9, 10, 71, 72, 73, 74, 75, 76] (by decide +kernel) (by decide +kernel)
set_option maxRecDepth 20000 in
theorem gX7_readClause_X7_letterHere : GoodIn wsX7_readClause (wsV RX7 69 RX7 yX7_letterHere wsX7_letterHere) := goodIn_app (goodIn_of _ (by decide +kernel)) ggX7_readClause_X7_letterHere
set_option maxRecDepth 20000 in
theorem ggX7_readClause_X7_note : GoodIn wsX7_readClause wsX7_note := goodIn_r _ [14, 15, 16, 71, 72, 73, 74, 75, 76] (by decide +kernel) (by decide +kernel)
set_option maxRecDepth 20000 in
theorem gX7_readClause_X7_note : GoodIn wsX7_readClause (wsV RX7 73 RX7 yX7_note wsX7_note) := goodIn_app (goodIn_of _ (by decide +kernel)) ggX7_readClause_X7_note
set_option maxRecDepth 20000 in
theorem ggX7_readClause_X7_readCut : GoodIn wsX7_readClause wsX7_readCut := goodIn_r _ [20, 21, 22, 15, 23, 24, 25, 7, 26, 1, 9, 27, 28, 29, 30, 4, 5, 6, 8, 10, 31, 32, 33, 11, 12, 13, 14, 16, 34, 35, 36, 37, 38, 39, 40, 41, 42, 43, 44, 45, 46, 47, 48, 49, 50, 51, 52, 53, 54, 55, 56, 57, 58, 77, 78, 79, 80, 81, 82, 83, 84, 85, 86, 87, 71, 72, 73, 74, 75, 76] (by decide +kernel) (by decide +kernel)
set_option maxRecDepth 20000 in
theorem gX7_readClause_X7_readCut : GoodIn wsX7_readClause (wsV RX7 80 RX7 yX7_readCut wsX7_readCut) := goodIn_app (goodIn_of _ (by decide +kernel)) ggX7_readClause_X7_readCut
set_option maxRecDepth 20000 in
theorem ggX7_readClause_X7_readBoat : GoodIn wsX7_readClause wsX7_readBoat := goodIn_r _ [62, 21, 15, 23, 24, 25, 7, 26, 1, 22, 9, 27, 28, 29, 30, 4, 5, 6, 8, 10, 31, 32, 33, 11, 12, 13, 14, 16, 50, 51, 52, 53, 63, 64, 65, 37, 66, 67, 68, 69, 70, 77, 78, 79, 80, 81, 82, 83, 84, 85, 86, 87, 71, 72, 73, 74, 75, 76] (by decide +kernel) (by decide +kernel)
set_option maxRecDepth 20000 in
theorem gX7_readClause_X7_readBoat : GoodIn wsX7_readClause (wsV RX7 86 RX7 yX7_readBoat wsX7_readBoat) := goodIn_app (goodIn_of _ (by decide +kernel)) ggX7_readClause_X7_readBoat
set_option maxRecDepth 20000 in
theorem ggX7_readCut_X7_readNumber : GoodIn wsX7_readCut wsX7_readNumber := goodIn_r _ [8, 3, 9, 2, 10, 11, 12, 13, 7, 14, 15, 16, 17, 18, 19, 20, 21, 22, 23, 24, 25, 26, 27, 64, 65, 66, 67, 68, 69] (by decide +kernel) (by decide +kernel)
set_option maxRecDepth 20000 in
theorem gX7_readCut_X7_readNumber : GoodIn wsX7_readCut (wsV RX7 60 RX7 yX7_readNumber wsX7_readNumber) := goodIn_app (goodIn_of _ (by decide +kernel)) ggX7_readCut_X7_readNumber
set_option maxRecDepth 20000 in
theorem ggX7_readCut_X9_joined : GoodIn wsX7_readCut wsX9_joined := goodIn_r _ [32, 33, 34, 35, 36, 31, 37, 38, 39, 40, 41, 42, 43, 53, 54, 55, 56, 57, 58, 59, 60, 61, 62, 63] (by decide +kernel) (by decide +kernel)
set_option maxRecDepth 20000 in
theorem gX7_readCut_X9_joined : GoodIn wsX7_readCut (wsV RX7 89 RX9 yX9_joined wsX9_joined) := goodIn_app (goodIn_of _ (by decide +kernel)) ggX7_readCut_X9_joined
set_option maxRecDepth 20000 in
theorem ggX7_readCut_X7_note : GoodIn wsX7_readCut wsX7_note := goodIn_r _ [26, 3, 27, 64, 65, 66, 67, 68, 69] (by decide +kernel) (by decide +kernel)
set_option maxRecDepth 20000 in
theorem gX7_readCut_X7_note : GoodIn wsX7_readCut (wsV RX7 73 RX7 yX7_note wsX7_note) := goodIn_app (goodIn_of _ (by decide +kernel)) ggX7_readCut_X7_note
set_option maxRecDepth 20000 in
theorem ggX7_readCut_X7_readSign : GoodIn wsX7_readCut wsX7_readSign := goodIn_r _ [47, 3, 9, 11, 12, 13, 7, 14, 10, 15, 16, 17, 18, 19, 23, 24, 25, 26, 27, 64, 65, 66, 67, 68, 69] (by decide +kernel) (by decide +kernel)
set_option maxRecDepth 20000 in
theorem gX7_readCut_X7_readSign : GoodIn wsX7_readCut (wsV RX7 56 RX7 yX7_readSign wsX7_readSign) := goodIn_app (goodIn_of _ (by decide +kernel)) ggX7_readCut_X7_readSign
set_option maxRecDepth 20000 in
theorem ggX7_readCut_X9_addCut : GoodIn wsX7_readCut wsX9_addCut := goodIn_r _ [51, 33, 38, 39, 52, 53, 54, 55, 56, 57, 58, 59, 60, 61, 62, 63] (by decide +kernel) (by decide +kernel)
set_option maxRecDepth 20000 in
theorem gX7_readCut_X9_addCut : GoodIn wsX7_readCut (wsV RX7 93 RX9 yX9_addCut wsX9_addCut) := goodIn_app (goodIn_of _ (by decide +kernel)) ggX7_readCut_X9_addCut
set_option maxRecDepth 20000 in
theorem ggX7_readBoat_X7_readNumber : GoodIn wsX7_readBoat wsX7_readNumber := goodIn_r _ [7, 2, 8, 9, 10, 11, 12, 13, 6, 14, 15, 16, 17, 18, 19, 20, 21, 22, 23, 24, 25, 26, 27, 52, 53, 54, 55, 56, 57] (by decide +kernel) (by decide +kernel)
set_option maxRecDepth 20000 in
theorem gX7_readBoat_X7_readNumber : GoodIn wsX7_readBoat (wsV RX7 60 RX7 yX7_readNumber wsX7_readNumber) := goodIn_app (goodIn_of _ (by decide +kernel)) ggX7_readBoat_X7_readNumber
set_option maxRecDepth 20000 in
theorem ggX7_readBoat_X7_readSign : GoodIn wsX7_readBoat wsX7_readSign := goodIn_r _ [31, 2, 8, 11, 12, 13, 6, 14, 10, 15, 16, 17, 18, 19, 23, 24, 25, 26, 27, 52, 53, 54, 55, 56, 57] (by decide +kernel) (by decide +kernel)
set_option maxRecDepth 20000 in
theorem gX7_readBoat_X7_readSign : GoodIn wsX7_readBoat (wsV RX7 56 RX7 yX7_readSign wsX7_readSign) := goodIn_app (goodIn_of _ (by decide +kernel)) ggX7_readBoat_X7_readSign
set_option maxRecDepth 20000 in
theorem ggX7_readBoat_X9_addBoat : GoodIn wsX7_readBoat wsX9_addBoat := goodIn_r _ [36, 37, 38, 39, 40, 41, 42, 43, 44, 45, 46, 47, 48, 49, 50, 51] (by decide +kernel) (by decide +kernel)
set_option maxRecDepth 20000 in
theorem gX7_readBoat_X9_addBoat : GoodIn wsX7_readBoat (wsV RX7 97 RX9 yX9_addBoat wsX9_addBoat) := goodIn_app (goodIn_of _ (by decide +kernel)) ggX7_readBoat_X9_addBoat
set_option maxRecDepth 20000 in
theorem ggX7_readSign_X7_skipBlanks : GoodIn wsX7_readSign wsX7_skipBlanks := goodIn_r _ [7, 2, 8, 9, 10, 11, 6, 12, 13, 19, 20, 21, 22, 23, 24] (by decide +kernel) (by decide +kernel)
set_option maxRecDepth 20000 in
theorem gX7_readSign_X7_skipBlanks : GoodIn wsX7_readSign (wsV RX7 66 RX7 yX7_skipBlanks wsX7_skipBlanks) := goodIn_app (goodIn_of _ (by decide +kernel)) ggX7_readSign_X7_skipBlanks
set_option maxRecDepth 20000 in
theorem ggX7_readSign_X7_letterHere : GoodIn wsX7_readSign wsX7_letterHere := goodIn_r _ [12, 2, 8, 13, 19, 20, 21, 22, 23, 24] (by decide +kernel) (by decide +kernel)
set_option maxRecDepth 20000 in
theorem gX7_readSign_X7_letterHere : GoodIn wsX7_readSign (wsV RX7 69 RX7 yX7_letterHere wsX7_letterHere) := goodIn_app (goodIn_of _ (by decide +kernel)) ggX7_readSign_X7_letterHere
set_option maxRecDepth 20000 in
theorem ggX7_readSign_X7_note : GoodIn wsX7_readSign wsX7_note := goodIn_r _ [17, 1, 18, 19, 20, 21, 22, 23, 24] (by decide +kernel) (by decide +kernel)
set_option maxRecDepth 20000 in
theorem gX7_readSign_X7_note : GoodIn wsX7_readSign (wsV RX7 73 RX7 yX7_note wsX7_note) := goodIn_app (goodIn_of _ (by decide +kernel)) ggX7_readSign_X7_note
set_option maxRecDepth 20000 in
theorem ggX7_readNumber_X7_skipBlanks : GoodIn wsX7_readNumber wsX7_skipBlanks := goodIn_r _ [9, 2, 4, 10, 11, 12, 8, 13, 14, 23, 24, 25, 26, 27, 28] (by decide +kernel) (by decide +kernel)
set_option maxRecDepth 20000 in
theorem gX7_readNumber_X7_skipBlanks : GoodIn wsX7_readNumber (wsV RX7 66 RX7 yX7_skipBlanks wsX7_skipBlanks) := goodIn_app (goodIn_of _ (by decide +kernel)) ggX7_readNumber_X7_skipBlanks
set_option maxRecDepth 20000 in
theorem ggX7_readNumber_X7_letterHere : GoodIn wsX7_readNumber wsX7_letterHere := goodIn_r _ [13, 2, 4, 14, 23, 24, 25, 26, 27, 28] (by decide +kernel) (by decide +kernel)
set_option maxRecDepth 20000 in
theorem gX7_readNumber_X7_letterHere : GoodIn wsX7_readNumber (wsV RX7 69 RX7 yX7_letterHere wsX7_letterHere) := goodIn_app (goodIn_of _ (by decide +kernel)) ggX7_readNumber_X7_letterHere
set_option maxRecDepth 20000 in
theorem ggX7_readNumber_X7_isFigure : GoodIn wsX7_readNumber wsX7_isFigure := goodIn_r _ [17] (by decide +kernel) (by decide +kernel)
set_option maxRecDepth 20000 in
theorem gX7_readNumber_X7_isFigure : GoodIn wsX7_readNumber (va_wsS RX7 100 yX7_isFigure wsX7_isFigure) := goodIn_app (goodIn_of _ (by decide +kernel)) ggX7_readNumber_X7_isFigure
set_option maxRecDepth 20000 in
theorem ggX7_readNumber_X7_note : GoodIn wsX7_readNumber wsX7_note := goodIn_r _ [21, 1, 22, 23, 24, 25, 26, 27, 28] (by decide +kernel) (by decide +kernel)
set_option maxRecDepth 20000 in
theorem gX7_readNumber_X7_note : GoodIn wsX7_readNumber (wsV RX7 73 RX7 yX7_note wsX7_note) := goodIn_app (goodIn_of _ (by decide +kernel)) ggX7_readNumber_X7_note
set_option maxRecDepth 20000 in
theorem ggX7_skipBlanks_X7_letterHere : GoodIn wsX7_skipBlanks wsX7_letterHere := goodIn_r _ [7, 1, 2, 8, 9, 10, 11, 12, 13, 14] (by decide +kernel) (by decide +kernel)
set_option maxRecDepth 20000 in
theorem gX7_skipBlanks_X7_letterHere : GoodIn wsX7_skipBlanks (wsV RX7 69 RX7 yX7_letterHere wsX7_letterHere) := goodIn_app (goodIn_of _ (by decide +kernel)) ggX7_skipBlanks_X7_letterHere
set_option maxRecDepth 20000 in
theorem ggX9_startOf_X9_hasBoat : GoodIn wsX9_startOf wsX9_hasBoat := goodIn_r _ [6, 7, 8, 9, 10, 11, 12, 13, 14, 15, 16, 17, 18] (by decide +kernel) (by decide +kernel)
set_option maxRecDepth 20000 in
theorem gX9_startOf_X9_hasBoat : GoodIn wsX9_startOf (wsV RX9 46 RX9 yX9_hasBoat wsX9_hasBoat) := goodIn_app (goodIn_of _ (by decide +kernel)) ggX9_startOf_X9_hasBoat
set_option maxRecDepth 20000 in
theorem ggX9_startPullOf_X9_hasBoat : GoodIn wsX9_startPullOf wsX9_hasBoat := goodIn_r _ [6, 7, 8, 9, 10, 11, 12, 13, 14, 15, 16, 17, 18] (by decide +kernel) (by decide +kernel)
set_option maxRecDepth 20000 in
theorem gX9_startPullOf_X9_hasBoat : GoodIn wsX9_startPullOf (wsV RX9 46 RX9 yX9_hasBoat wsX9_hasBoat) := goodIn_app (goodIn_of _ (by decide +kernel)) ggX9_startPullOf_X9_hasBoat
set_option maxRecDepth 20000 in
theorem ggX9_wearOf_X9_hasBoat : GoodIn wsX9_wearOf wsX9_hasBoat := goodIn_r _ [6, 7, 8, 9, 10, 11, 12, 13, 14, 15, 16, 17, 18] (by decide +kernel) (by decide +kernel)
set_option maxRecDepth 20000 in
theorem gX9_wearOf_X9_hasBoat : GoodIn wsX9_wearOf (wsV RX9 46 RX9 yX9_hasBoat wsX9_hasBoat) := goodIn_app (goodIn_of _ (by decide +kernel)) ggX9_wearOf_X9_hasBoat
set_option maxRecDepth 20000 in
theorem ggX9_joined_X9_otherEnd : GoodIn wsX9_joined wsX9_otherEnd := goodIn_r _ [6, 7, 8, 9, 10, 11, 5, 12, 1, 13, 14, 15, 16, 17, 18, 19, 20, 21, 22, 23] (by decide +kernel) (by decide +kernel)
set_option maxRecDepth 20000 in
theorem gX9_joined_X9_otherEnd : GoodIn wsX9_joined (wsV RX9 50 RX9 yX9_otherEnd wsX9_otherEnd) := goodIn_app (goodIn_of _ (by decide +kernel)) ggX9_joined_X9_otherEnd
set_option maxRecDepth 20000 in
theorem ggX9_findOnward_X9_findOnwardFrom : GoodIn wsX9_findOnward wsX9_findOnwardFrom := goodIn_r _ [5, 6, 7, 8, 9, 10, 11, 12, 4, 13, 14, 15, 16, 17, 18, 19, 20, 21, 22, 23, 24, 25, 26, 27, 28, 29, 30, 31, 32, 33, 34] (by decide +kernel) (by decide +kernel)
set_option maxRecDepth 20000 in
theorem gX9_findOnward_X9_findOnwardFrom : GoodIn wsX9_findOnward (wsV RX9 54 RX9 yX9_findOnwardFrom wsX9_findOnwardFrom) := goodIn_app (goodIn_of _ (by decide +kernel)) ggX9_findOnward_X9_findOnwardFrom
set_option maxRecDepth 20000 in
theorem ggX9_findOnwardFrom_X9_otherEnd : GoodIn wsX9_findOnwardFrom wsX9_otherEnd := goodIn_r _ [9, 10, 11, 12, 13, 14, 8, 15, 1, 20, 21, 22, 23, 24, 25, 26, 27, 28, 29, 30] (by decide +kernel) (by decide +kernel)
set_option maxRecDepth 20000 in
theorem gX9_findOnwardFrom_X9_otherEnd : GoodIn wsX9_findOnwardFrom (wsV RX9 50 RX9 yX9_otherEnd wsX9_otherEnd) := goodIn_app (goodIn_of _ (by decide +kernel)) ggX9_findOnwardFrom_X9_otherEnd
set_option maxRecDepth 20000 in
theorem ggX9_findOnwardFrom_X9_slotOf : GoodIn wsX9_findOnwardFrom wsX9_slotOf := goodIn_r _ [19] (by decide +kernel) (by decide +kernel)
set_option maxRecDepth 20000 in
theorem gX9_findOnwardFrom_X9_slotOf : GoodIn wsX9_findOnwardFrom (wsV RX9 58 RX9 yX9_slotOf wsX9_slotOf) := goodIn_app (goodIn_of _ (by decide +kernel)) ggX9_findOnwardFrom_X9_slotOf
set_option maxRecDepth 20000 in
theorem ggX9_goesTo_X9_slotOf : GoodIn wsX9_goesTo wsX9_slotOf := goodIn_r _ [6] (by decide +kernel) (by decide +kernel)
set_option maxRecDepth 20000 in
theorem gX9_goesTo_X9_slotOf : GoodIn wsX9_goesTo (wsV RX9 58 RX9 yX9_slotOf wsX9_slotOf) := goodIn_app (goodIn_of _ (by decide +kernel)) ggX9_goesTo_X9_slotOf
set_option maxRecDepth 20000 in
theorem ggX9_hardOn_X9_slotOf : GoodIn wsX9_hardOn wsX9_slotOf := goodIn_r _ [6] (by decide +kernel) (by decide +kernel)
set_option maxRecDepth 20000 in
theorem gX9_hardOn_X9_slotOf : GoodIn wsX9_hardOn (wsV RX9 58 RX9 yX9_slotOf wsX9_slotOf) := goodIn_app (goodIn_of _ (by decide +kernel)) ggX9_hardOn_X9_slotOf
set_option maxRecDepth 20000 in
theorem ggX9_otherEnd_X9_hasCut : GoodIn wsX9_otherEnd wsX9_hasCut := goodIn_r _ [7, 8, 9, 10, 11, 12, 13, 14, 15, 16, 17, 18, 19] (by decide +kernel) (by decide +kernel)
set_option maxRecDepth 20000 in
theorem gX9_otherEnd_X9_hasCut : GoodIn wsX9_otherEnd (wsV RX9 61 RX9 yX9_hasCut wsX9_hasCut) := goodIn_app (goodIn_of _ (by decide +kernel)) ggX9_otherEnd_X9_hasCut
set_option maxRecDepth 20000 in
theorem ggX10_lay_X9_hardOn : GoodIn wsX10_lay wsX9_hardOn := goodIn_r _ [15, 16, 17, 18, 19, 14, 20, 29, 30, 31, 32, 33, 34, 35, 36, 37, 38, 39] (by decide +kernel) (by decide +kernel)
set_option maxRecDepth 20000 in
theorem gX10_lay_X9_hardOn : GoodIn wsX10_lay (wsV RX10 31 RX9 yX9_hardOn wsX9_hardOn) := goodIn_app (goodIn_of _ (by decide +kernel)) ggX10_lay_X9_hardOn
set_option maxRecDepth 20000 in
theorem ggX10_lay_X9_goesTo : GoodIn wsX10_lay wsX9_goesTo := goodIn_r _ [24, 25, 17, 18, 19, 14, 20, 29, 30, 31, 32, 33, 34, 35, 36, 37, 38, 39] (by decide +kernel) (by decide +kernel)
set_option maxRecDepth 20000 in
theorem gX10_lay_X9_goesTo : GoodIn wsX10_lay (wsV RX10 36 RX9 yX9_goesTo wsX9_goesTo) := goodIn_app (goodIn_of _ (by decide +kernel)) ggX10_lay_X9_goesTo
set_option maxRecDepth 20000 in
theorem ggX10_gone_X10_need : GoodIn wsX10_gone wsX10_need := goodIn_r _ [5, 6, 7, 8, 9, 10] (by decide +kernel) (by decide +kernel)
set_option maxRecDepth 20000 in
theorem gX10_gone_X10_need : GoodIn wsX10_gone (wsV RX10 39 RX10 yX10_need wsX10_need) := goodIn_app (goodIn_of _ (by decide +kernel)) ggX10_gone_X10_need
set_option maxRecDepth 20000 in
theorem ggX10_ring_X10_place : GoodIn wsX10_ring wsX10_place := goodIn_r _ [6, 1, 7, 8, 9, 10] (by decide +kernel) (by decide +kernel)
set_option maxRecDepth 20000 in
theorem gX10_ring_X10_place : GoodIn wsX10_ring (wsV RX10 43 RX10 yX10_place wsX10_place) := goodIn_app (goodIn_of _ (by decide +kernel)) ggX10_ring_X10_place
set_option maxRecDepth 20000 in
theorem ggX10_endsAt_X10_place : GoodIn wsX10_endsAt wsX10_place := goodIn_r _ [5, 6, 7, 13, 14, 15] (by decide +kernel) (by decide +kernel)
set_option maxRecDepth 20000 in
theorem gX10_endsAt_X10_place : GoodIn wsX10_endsAt (wsV RX10 43 RX10 yX10_place wsX10_place) := goodIn_app (goodIn_of _ (by decide +kernel)) ggX10_endsAt_X10_place
set_option maxRecDepth 20000 in
theorem ggX10_endsAt_X10_need : GoodIn wsX10_endsAt wsX10_need := goodIn_r _ [11, 6, 12, 13, 14, 15] (by decide +kernel) (by decide +kernel)
set_option maxRecDepth 20000 in
theorem gX10_endsAt_X10_need : GoodIn wsX10_endsAt (wsV RX10 39 RX10 yX10_need wsX10_need) := goodIn_app (goodIn_of _ (by decide +kernel)) ggX10_endsAt_X10_need
set_option maxRecDepth 20000 in
theorem ggX10_leastLess_X10_endsAt : GoodIn wsX10_leastLess wsX10_endsAt := goodIn_r _ [10, 11, 12, 13, 9, 14, 1, 15, 16, 17, 18, 19, 20, 21, 22, 23] (by decide +kernel) (by decide +kernel)
set_option maxRecDepth 20000 in
theorem gX10_leastLess_X10_endsAt : GoodIn wsX10_leastLess (wsV RX10 46 RX10 yX10_endsAt wsX10_endsAt) := goodIn_app (goodIn_of _ (by decide +kernel)) ggX10_leastLess_X10_endsAt
set_option maxRecDepth 20000 in
theorem ggX10_leastLess_X10_need : GoodIn wsX10_leastLess wsX10_need := goodIn_r _ [19, 1, 20, 21, 22, 23] (by decide +kernel) (by decide +kernel)
set_option maxRecDepth 20000 in
theorem gX10_leastLess_X10_need : GoodIn wsX10_leastLess (wsV RX10 39 RX10 yX10_need wsX10_need) := goodIn_app (goodIn_of _ (by decide +kernel)) ggX10_leastLess_X10_need
