def wd_tDraws (cI cZ : ClassId) (a_t : Nat → Nat) (t_value : Int32) : va_W := [((a_t 0), .inr (1, [.int t_value]))]
def wd_tEntries (cI cZ : ClassId) (a_t : Nat → Nat) (t_nz : Nat) (t_most : Int32) (t_boats : Nat → Int32) (t_steps : Nat → Int32) (t_junctions : Nat → Int32) (t_count : Int32) : va_W := [((a_t 0), .inr (2, [.int t_most, .ref (a_t 1), .ref (a_t 2), .ref (a_t 3), .int t_count])),
  ((a_t 1), .inl (cI, t_nz, .inl t_boats)),
  ((a_t 2), .inl (cI, t_nz, .inl t_steps)),
  ((a_t 3), .inl (cI, t_nz, .inl t_junctions))]
def wd_tExch (cI cZ : ClassId) (a_t : Nat → Nat) (t_boats : Int32) (t_allowed : Nat → Int32) (t_order : Nat → Int32) (t_best : Nat → Int32) (t_fewest : Int32) : va_W := [((a_t 0), .inr (3, [.int t_boats, .ref (a_t 1), .ref (a_t 2), .ref (a_t 3), .int t_fewest])),
  ((a_t 1), .inl (cI, 5, .inl t_allowed)),
  ((a_t 2), .inl (cI, 5, .inl t_order)),
  ((a_t 3), .inl (cI, 5, .inl t_best))]
def wd_tShelf_flFleet (cI cZ : ClassId) (a_t a_fl : Nat → Nat) (t_nz : Nat) (t_slots : Int32) (t_rows : Nat → Int32) (fl_row : Nat → Int32) : va_W := [((a_t 0), .inr (8, [.int t_slots, .ref (a_t 1)])),
  ((a_t 1), .inl (cI, t_nz, .inl t_rows)),
  ((a_fl 0), .inr (4, [.ref (a_fl 1)])),
  ((a_fl 1), .inl (cI, 21, .inl fl_row))]
def wd_tWater (cI cZ : ClassId) (a_t : Nat → Nat) (t_junctions : Int32) (t_cuts : Int32) (t_boats : Int32) (t_cutA : Nat → Int32) (t_cutB : Nat → Int32) (t_cutHard : Nat → Int32) (t_boatAt : Nat → Int32) (t_boatPull : Nat → Int32) (t_boatWear : Nat → Int32) (t_onward : Nat → Int32) (t_onwardHard : Nat → Int32) : va_W := [((a_t 0), .inr (9, [.int t_junctions, .int t_cuts, .int t_boats, .ref (a_t 1), .ref (a_t 2), .ref (a_t 3), .ref (a_t 4), .ref (a_t 5), .ref (a_t 6), .ref (a_t 7), .ref (a_t 8)])),
  ((a_t 1), .inl (cI, 14, .inl t_cutA)),
  ((a_t 2), .inl (cI, 14, .inl t_cutB)),
  ((a_t 3), .inl (cI, 14, .inl t_cutHard)),
  ((a_t 4), .inl (cI, 5, .inl t_boatAt)),
  ((a_t 5), .inl (cI, 5, .inl t_boatPull)),
  ((a_t 6), .inl (cI, 5, .inl t_boatWear)),
  ((a_t 7), .inl (cI, 90, .inl t_onward)),
  ((a_t 8), .inl (cI, 90, .inl t_onwardHard))]
def wd_tFleet (cI cZ : ClassId) (a_t : Nat → Nat) (t_row : Nat → Int32) : va_W := [((a_t 0), .inr (4, [.ref (a_t 1)])),
  ((a_t 1), .inl (cI, 21, .inl t_row))]
def wd_tFleet_onWater (cI cZ : ClassId) (a_t a_on : Nat → Nat) (t_row : Nat → Int32) (on_junctions : Int32) (on_cuts : Int32) (on_boats : Int32) (on_cutA : Nat → Int32) (on_cutB : Nat → Int32) (on_cutHard : Nat → Int32) (on_boatAt : Nat → Int32) (on_boatPull : Nat → Int32) (on_boatWear : Nat → Int32) (on_onward : Nat → Int32) (on_onwardHard : Nat → Int32) : va_W := [((a_t 0), .inr (4, [.ref (a_t 1)])),
  ((a_t 1), .inl (cI, 21, .inl t_row)),
  ((a_on 0), .inr (9, [.int on_junctions, .int on_cuts, .int on_boats, .ref (a_on 1), .ref (a_on 2), .ref (a_on 3), .ref (a_on 4), .ref (a_on 5), .ref (a_on 6), .ref (a_on 7), .ref (a_on 8)])),
  ((a_on 1), .inl (cI, 14, .inl on_cutA)),
  ((a_on 2), .inl (cI, 14, .inl on_cutB)),
  ((a_on 3), .inl (cI, 14, .inl on_cutHard)),
  ((a_on 4), .inl (cI, 5, .inl on_boatAt)),
  ((a_on 5), .inl (cI, 5, .inl on_boatPull)),
  ((a_on 6), .inl (cI, 5, .inl on_boatWear)),
  ((a_on 7), .inl (cI, 90, .inl on_onward)),
  ((a_on 8), .inl (cI, 90, .inl on_onwardHard))]
def wd_tImages (cI cZ : ClassId) (a_t a_t_shelf : Nat → Nat) (t_seeds : Nat → Int32) (t_kept : Nat → Int32) (t_shelf_nz : Nat) (t_shelf_slots : Int32) (t_shelf_rows : Nat → Int32) : va_W := [((a_t 0), .inr (5, [.ref (a_t_shelf 0), .ref (a_t 1), .ref (a_t 2)])),
  ((a_t 1), .inl (cI, 2, .inl t_seeds)),
  ((a_t 2), .inl (cZ, 2, .inl t_kept)),
  ((a_t_shelf 0), .inr (8, [.int t_shelf_slots, .ref (a_t_shelf 1)])),
  ((a_t_shelf 1), .inl (cI, t_shelf_nz, .inl t_shelf_rows))]
def wd_tImages_flFleet_drDraws (cI cZ : ClassId) (a_t a_t_shelf a_fl a_dr : Nat → Nat) (t_seeds : Nat → Int32) (t_kept : Nat → Int32) (t_shelf_nz : Nat) (t_shelf_slots : Int32) (t_shelf_rows : Nat → Int32) (fl_row : Nat → Int32) (dr_value : Int32) : va_W := [((a_t 0), .inr (5, [.ref (a_t_shelf 0), .ref (a_t 1), .ref (a_t 2)])),
  ((a_t 1), .inl (cI, 2, .inl t_seeds)),
  ((a_t 2), .inl (cZ, 2, .inl t_kept)),
  ((a_t_shelf 0), .inr (8, [.int t_shelf_slots, .ref (a_t_shelf 1)])),
  ((a_t_shelf 1), .inl (cI, t_shelf_nz, .inl t_shelf_rows)),
  ((a_fl 0), .inr (4, [.ref (a_fl 1)])),
  ((a_fl 1), .inl (cI, 21, .inl fl_row)),
  ((a_dr 0), .inr (1, [.int dr_value]))]
def wd_tPast_flFleet (cI cZ : ClassId) (a_t a_t_shelf a_fl : Nat → Nat) (t_next : Int32) (t_count : Int32) (t_shelf_nz : Nat) (t_shelf_slots : Int32) (t_shelf_rows : Nat → Int32) (fl_row : Nat → Int32) : va_W := [((a_t 0), .inr (6, [.ref (a_t_shelf 0), .int t_next, .int t_count])),
  ((a_t_shelf 0), .inr (8, [.int t_shelf_slots, .ref (a_t_shelf 1)])),
  ((a_t_shelf 1), .inl (cI, t_shelf_nz, .inl t_shelf_rows)),
  ((a_fl 0), .inr (4, [.ref (a_fl 1)])),
  ((a_fl 1), .inl (cI, 21, .inl fl_row))]
def wd_tPast (cI cZ : ClassId) (a_t a_t_shelf : Nat → Nat) (t_next : Int32) (t_count : Int32) (t_shelf_nz : Nat) (t_shelf_slots : Int32) (t_shelf_rows : Nat → Int32) : va_W := [((a_t 0), .inr (6, [.ref (a_t_shelf 0), .int t_next, .int t_count])),
  ((a_t_shelf 0), .inr (8, [.int t_shelf_slots, .ref (a_t_shelf 1)])),
  ((a_t_shelf 1), .inl (cI, t_shelf_nz, .inl t_shelf_rows))]
def wd_tReader_ltARR_onWater (cI cZ : ClassId) (a_t a_on : Nat → Nat) (a_lt : Nat) (t_text : Nat) (t_length : Int32) (t_place : Int32) (t_numberAt : Int32) (t_faultKind : Int32) (t_faultAt : Int32) (lt : Nat → Int32) (on_junctions : Int32) (on_cuts : Int32) (on_boats : Int32) (on_cutA : Nat → Int32) (on_cutB : Nat → Int32) (on_cutHard : Nat → Int32) (on_boatAt : Nat → Int32) (on_boatPull : Nat → Int32) (on_boatWear : Nat → Int32) (on_onward : Nat → Int32) (on_onwardHard : Nat → Int32) : va_W := [((a_t 0), .inr (7, [.ref t_text, .int t_length, .int t_place, .int t_numberAt, .int t_faultKind, .int t_faultAt])),
  (a_lt, .inl (cI, 240, .inl lt)),
  ((a_on 0), .inr (9, [.int on_junctions, .int on_cuts, .int on_boats, .ref (a_on 1), .ref (a_on 2), .ref (a_on 3), .ref (a_on 4), .ref (a_on 5), .ref (a_on 6), .ref (a_on 7), .ref (a_on 8)])),
  ((a_on 1), .inl (cI, 14, .inl on_cutA)),
  ((a_on 2), .inl (cI, 14, .inl on_cutB)),
  ((a_on 3), .inl (cI, 14, .inl on_cutHard)),
  ((a_on 4), .inl (cI, 5, .inl on_boatAt)),
  ((a_on 5), .inl (cI, 5, .inl on_boatPull)),
  ((a_on 6), .inl (cI, 5, .inl on_boatWear)),
  ((a_on 7), .inl (cI, 90, .inl on_onward)),
  ((a_on 8), .inl (cI, 90, .inl on_onwardHard))]
def wd_tReader_txARR (cI cZ : ClassId) (a_t : Nat → Nat) (t_text : Nat) (t_length : Int32) (t_place : Int32) (t_numberAt : Int32) (t_faultKind : Int32) (t_faultAt : Int32) (tx : Nat → Int32) : va_W := [((a_t 0), .inr (7, [.ref t_text, .int t_length, .int t_place, .int t_numberAt, .int t_faultKind, .int t_faultAt])),
  (t_text, .inl (cI, 240, .inl tx))]
def wd_tReader_txARR_onWater (cI cZ : ClassId) (a_t a_on : Nat → Nat) (t_text : Nat) (t_length : Int32) (t_place : Int32) (t_numberAt : Int32) (t_faultKind : Int32) (t_faultAt : Int32) (tx : Nat → Int32) (on_junctions : Int32) (on_cuts : Int32) (on_boats : Int32) (on_cutA : Nat → Int32) (on_cutB : Nat → Int32) (on_cutHard : Nat → Int32) (on_boatAt : Nat → Int32) (on_boatPull : Nat → Int32) (on_boatWear : Nat → Int32) (on_onward : Nat → Int32) (on_onwardHard : Nat → Int32) : va_W := [((a_t 0), .inr (7, [.ref t_text, .int t_length, .int t_place, .int t_numberAt, .int t_faultKind, .int t_faultAt])),
  (t_text, .inl (cI, 240, .inl tx)),
  ((a_on 0), .inr (9, [.int on_junctions, .int on_cuts, .int on_boats, .ref (a_on 1), .ref (a_on 2), .ref (a_on 3), .ref (a_on 4), .ref (a_on 5), .ref (a_on 6), .ref (a_on 7), .ref (a_on 8)])),
  ((a_on 1), .inl (cI, 14, .inl on_cutA)),
  ((a_on 2), .inl (cI, 14, .inl on_cutB)),
  ((a_on 3), .inl (cI, 14, .inl on_cutHard)),
  ((a_on 4), .inl (cI, 5, .inl on_boatAt)),
  ((a_on 5), .inl (cI, 5, .inl on_boatPull)),
  ((a_on 6), .inl (cI, 5, .inl on_boatWear)),
  ((a_on 7), .inl (cI, 90, .inl on_onward)),
  ((a_on 8), .inl (cI, 90, .inl on_onwardHard))]
def wd_tReader (cI cZ : ClassId) (a_t : Nat → Nat) (t_text : Nat) (t_length : Int32) (t_place : Int32) (t_numberAt : Int32) (t_faultKind : Int32) (t_faultAt : Int32) : va_W := [((a_t 0), .inr (7, [.ref t_text, .int t_length, .int t_place, .int t_numberAt, .int t_faultKind, .int t_faultAt]))]
def wd_tWay_onWater (cI cZ : ClassId) (a_t a_on : Nat → Nat) (t_places : Nat → Int32) (t_needs : Nat → Int32) (t_last : Int32) (on_junctions : Int32) (on_cuts : Int32) (on_boats : Int32) (on_cutA : Nat → Int32) (on_cutB : Nat → Int32) (on_cutHard : Nat → Int32) (on_boatAt : Nat → Int32) (on_boatPull : Nat → Int32) (on_boatWear : Nat → Int32) (on_onward : Nat → Int32) (on_onwardHard : Nat → Int32) : va_W := [((a_t 0), .inr (10, [.ref (a_t 1), .ref (a_t 2), .int t_last])),
  ((a_t 1), .inl (cI, 202, .inl t_places)),
  ((a_t 2), .inl (cI, 202, .inl t_needs)),
  ((a_on 0), .inr (9, [.int on_junctions, .int on_cuts, .int on_boats, .ref (a_on 1), .ref (a_on 2), .ref (a_on 3), .ref (a_on 4), .ref (a_on 5), .ref (a_on 6), .ref (a_on 7), .ref (a_on 8)])),
  ((a_on 1), .inl (cI, 14, .inl on_cutA)),
  ((a_on 2), .inl (cI, 14, .inl on_cutB)),
  ((a_on 3), .inl (cI, 14, .inl on_cutHard)),
  ((a_on 4), .inl (cI, 5, .inl on_boatAt)),
  ((a_on 5), .inl (cI, 5, .inl on_boatPull)),
  ((a_on 6), .inl (cI, 5, .inl on_boatWear)),
  ((a_on 7), .inl (cI, 90, .inl on_onward)),
  ((a_on 8), .inl (cI, 90, .inl on_onwardHard))]
def wd_tWay (cI cZ : ClassId) (a_t : Nat → Nat) (t_places : Nat → Int32) (t_needs : Nat → Int32) (t_last : Int32) : va_W := [((a_t 0), .inr (10, [.ref (a_t 1), .ref (a_t 2), .int t_last])),
  ((a_t 1), .inl (cI, 202, .inl t_places)),
  ((a_t 2), .inl (cI, 202, .inl t_needs))]
def wd_tBands_wyWay_enEntries (cI cZ : ClassId) (a_t a_wy a_en : Nat → Nat) (t_lows : Nat → Int32) (t_sizes : Nat → Int32) (t_parts : Nat → Int32) (wy_places : Nat → Int32) (wy_needs : Nat → Int32) (wy_last : Int32) (en_nz : Nat) (en_most : Int32) (en_boats : Nat → Int32) (en_steps : Nat → Int32) (en_junctions : Nat → Int32) (en_count : Int32) : va_W := [((a_t 0), .inr (0, [.ref (a_t 1), .ref (a_t 2), .ref (a_t 3)])),
  ((a_t 1), .inl (cI, 31, .inl t_lows)),
  ((a_t 2), .inl (cI, 31, .inl t_sizes)),
  ((a_t 3), .inl (cI, 9, .inl t_parts)),
  ((a_wy 0), .inr (10, [.ref (a_wy 1), .ref (a_wy 2), .int wy_last])),
  ((a_wy 1), .inl (cI, 202, .inl wy_places)),
  ((a_wy 2), .inl (cI, 202, .inl wy_needs)),
  ((a_en 0), .inr (2, [.int en_most, .ref (a_en 1), .ref (a_en 2), .ref (a_en 3), .int en_count])),
  ((a_en 1), .inl (cI, en_nz, .inl en_boats)),
  ((a_en 2), .inl (cI, en_nz, .inl en_steps)),
  ((a_en 3), .inl (cI, en_nz, .inl en_junctions))]
def wd_wyWay_enEntries (cI cZ : ClassId) (a_wy a_en : Nat → Nat) (wy_places : Nat → Int32) (wy_needs : Nat → Int32) (wy_last : Int32) (en_nz : Nat) (en_most : Int32) (en_boats : Nat → Int32) (en_steps : Nat → Int32) (en_junctions : Nat → Int32) (en_count : Int32) : va_W := [((a_wy 0), .inr (10, [.ref (a_wy 1), .ref (a_wy 2), .int wy_last])),
  ((a_wy 1), .inl (cI, 202, .inl wy_places)),
  ((a_wy 2), .inl (cI, 202, .inl wy_needs)),
  ((a_en 0), .inr (2, [.int en_most, .ref (a_en 1), .ref (a_en 2), .ref (a_en 3), .int en_count])),
  ((a_en 1), .inl (cI, en_nz, .inl en_boats)),
  ((a_en 2), .inl (cI, en_nz, .inl en_steps)),
  ((a_en 3), .inl (cI, en_nz, .inl en_junctions))]
def wd_tBands (cI cZ : ClassId) (a_t : Nat → Nat) (t_lows : Nat → Int32) (t_sizes : Nat → Int32) (t_parts : Nat → Int32) : va_W := [((a_t 0), .inr (0, [.ref (a_t 1), .ref (a_t 2), .ref (a_t 3)])),
  ((a_t 1), .inl (cI, 31, .inl t_lows)),
  ((a_t 2), .inl (cI, 31, .inl t_sizes)),
  ((a_t 3), .inl (cI, 9, .inl t_parts))]
def wd_tBands_wyWay (cI cZ : ClassId) (a_t a_wy : Nat → Nat) (t_lows : Nat → Int32) (t_sizes : Nat → Int32) (t_parts : Nat → Int32) (wy_places : Nat → Int32) (wy_needs : Nat → Int32) (wy_last : Int32) : va_W := [((a_t 0), .inr (0, [.ref (a_t 1), .ref (a_t 2), .ref (a_t 3)])),
  ((a_t 1), .inl (cI, 31, .inl t_lows)),
  ((a_t 2), .inl (cI, 31, .inl t_sizes)),
  ((a_t 3), .inl (cI, 9, .inl t_parts)),
  ((a_wy 0), .inr (10, [.ref (a_wy 1), .ref (a_wy 2), .int wy_last])),
  ((a_wy 1), .inl (cI, 202, .inl wy_places)),
  ((a_wy 2), .inl (cI, 202, .inl wy_needs))]
def wd_tRef (cI cZ : ClassId) (a_t : Nat → Nat) (t_junctions : Int32) (t_cuts : Int32) (t_cutOne : Nat → Int32) (t_cutOther : Nat → Int32) (t_cutHard : Nat → Int32) (t_hard : Nat → Int32) (t_boats : Int32) (t_wears : Nat → Int32) (t_quays : Nat → Int32) (t_now : Nat → Int32) (t_seed : Int32) (t_text : Nat → Int32) (t_texted : Int32) (t_faultPlace : Int32) (t_at0 : Int32) (t_number : Int32) (t_numberAt : Int32) (t_readJunctions : Int32) (t_readCuts : Int32) (t_readOne : Nat → Int32) (t_readOther : Nat → Int32) (t_readHard : Nat → Int32) (t_readBoats : Int32) (t_readAt : Nat → Int32) (t_readPull : Nat → Int32) (t_readWears : Nat → Int32) (t_at : Int32) (t_from : Int32) (t_pull : Int32) (t_undos : Int32) (t_past : Nat → Int32) (t_given : Nat → Int32) (t_bestGiven : Nat → Int32) (t_seen : Int32) (t_seenOf : Nat → Int32) (t_seenBehind : Nat → Int32) (t_seenAt : Nat → Int32) (t_way : Nat → Int32) (t_brings : Nat → Int32) (t_booked : Int32) (t_bookOf : Nat → Int32) (t_bookAt : Nat → Int32) (t_images : Nat → Int32) (t_isKept : Nat → Int32) : va_W := [((a_t 0), .inr (12, [.int t_junctions, .int t_cuts, .ref (a_t 1), .ref (a_t 2), .ref (a_t 3), .ref (a_t 4), .int t_boats, .ref (a_t 5), .ref (a_t 6), .ref (a_t 7), .int t_seed, .ref (a_t 8), .int t_texted, .int t_faultPlace, .int t_at0, .int t_number, .int t_numberAt, .int t_readJunctions, .int t_readCuts, .ref (a_t 9), .ref (a_t 10), .ref (a_t 11), .int t_readBoats, .ref (a_t 12), .ref (a_t 13), .ref (a_t 14), .int t_at, .int t_from, .int t_pull, .int t_undos, .ref (a_t 15), .ref (a_t 16), .ref (a_t 17), .int t_seen, .ref (a_t 18), .ref (a_t 19), .ref (a_t 20), .ref (a_t 21), .ref (a_t 22), .int t_booked, .ref (a_t 23), .ref (a_t 24), .ref (a_t 25), .ref (a_t 26)])),
  ((a_t 1), .inl (cI, 14, .inl t_cutOne)),
  ((a_t 2), .inl (cI, 14, .inl t_cutOther)),
  ((a_t 3), .inl (cI, 14, .inl t_cutHard)),
  ((a_t 4), .inl (cI, 81, .inl t_hard)),
  ((a_t 5), .inl (cI, 5, .inl t_wears)),
  ((a_t 6), .inl (cI, 5, .inl t_quays)),
  ((a_t 7), .inl (cI, 21, .inl t_now)),
  ((a_t 8), .inl (cI, 240, .inl t_text)),
  ((a_t 9), .inl (cI, 14, .inl t_readOne)),
  ((a_t 10), .inl (cI, 14, .inl t_readOther)),
  ((a_t 11), .inl (cI, 14, .inl t_readHard)),
  ((a_t 12), .inl (cI, 5, .inl t_readAt)),
  ((a_t 13), .inl (cI, 5, .inl t_readPull)),
  ((a_t 14), .inl (cI, 5, .inl t_readWears)),
  ((a_t 15), .inl (cI, 420, .inl t_past)),
  ((a_t 16), .inl (cI, 5, .inl t_given)),
  ((a_t 17), .inl (cI, 5, .inl t_bestGiven)),
  ((a_t 18), .inl (cI, 6, .inl t_seenOf)),
  ((a_t 19), .inl (cI, 6, .inl t_seenBehind)),
  ((a_t 20), .inl (cI, 6, .inl t_seenAt)),
  ((a_t 21), .inl (cI, 31, .inl t_way)),
  ((a_t 22), .inl (cI, 279, .inl t_brings)),
  ((a_t 23), .inl (cI, 15, .inl t_bookOf)),
  ((a_t 24), .inl (cI, 15, .inl t_bookAt)),
  ((a_t 25), .inl (cI, 44, .inl t_images)),
  ((a_t 26), .inl (cZ, 2, .inl t_isKept))]
def wd_tTb (cI cZ : ClassId) (a_t a_t_reader a_t_here a_t_spare a_t_fleet a_t_past a_t_past_shelf a_t_images a_t_images_shelf a_t_draws a_t_seen a_t_book a_t_way a_t_bands a_t_exchange : Nat → Nat) (t_letters : Nat → Int32) (t_lettersFed : Int32) (t_faultAt : Int32) (t_quays : Nat → Int32) (t_reader_text : Nat) (t_reader_length : Int32) (t_reader_place : Int32) (t_reader_numberAt : Int32) (t_reader_faultKind : Int32) (t_reader_faultAt : Int32) (t_here_junctions : Int32) (t_here_cuts : Int32) (t_here_boats : Int32) (t_here_cutA : Nat → Int32) (t_here_cutB : Nat → Int32) (t_here_cutHard : Nat → Int32) (t_here_boatAt : Nat → Int32) (t_here_boatPull : Nat → Int32) (t_here_boatWear : Nat → Int32) (t_here_onward : Nat → Int32) (t_here_onwardHard : Nat → Int32) (t_spare_junctions : Int32) (t_spare_cuts : Int32) (t_spare_boats : Int32) (t_spare_cutA : Nat → Int32) (t_spare_cutB : Nat → Int32) (t_spare_cutHard : Nat → Int32) (t_spare_boatAt : Nat → Int32) (t_spare_boatPull : Nat → Int32) (t_spare_boatWear : Nat → Int32) (t_spare_onward : Nat → Int32) (t_spare_onwardHard : Nat → Int32) (t_fleet_row : Nat → Int32) (t_past_next : Int32) (t_past_count : Int32) (t_past_shelf_slots : Int32) (t_past_shelf_rows : Nat → Int32) (t_images_seeds : Nat → Int32) (t_images_kept : Nat → Int32) (t_images_shelf_slots : Int32) (t_images_shelf_rows : Nat → Int32) (t_draws_value : Int32) (t_seen_most : Int32) (t_seen_boats : Nat → Int32) (t_seen_steps : Nat → Int32) (t_seen_junctions : Nat → Int32) (t_seen_count : Int32) (t_book_most : Int32) (t_book_boats : Nat → Int32) (t_book_steps : Nat → Int32) (t_book_junctions : Nat → Int32) (t_book_count : Int32) (t_way_places : Nat → Int32) (t_way_needs : Nat → Int32) (t_way_last : Int32) (t_bands_lows : Nat → Int32) (t_bands_sizes : Nat → Int32) (t_bands_parts : Nat → Int32) (t_exchange_boats : Int32) (t_exchange_allowed : Nat → Int32) (t_exchange_order : Nat → Int32) (t_exchange_best : Nat → Int32) (t_exchange_fewest : Int32) : va_W := [((a_t 0), .inr (11, [.ref (a_t 1), .int t_lettersFed, .int t_faultAt, .ref (a_t_reader 0), .ref (a_t_here 0), .ref (a_t_spare 0), .ref (a_t_fleet 0), .ref (a_t 2), .ref (a_t_past 0), .ref (a_t_images 0), .ref (a_t_draws 0), .ref (a_t_seen 0), .ref (a_t_book 0), .ref (a_t_way 0), .ref (a_t_bands 0), .ref (a_t_exchange 0)])),
  ((a_t 1), .inl (cI, 240, .inl t_letters)),
  ((a_t 2), .inl (cI, 5, .inl t_quays)),
  ((a_t_reader 0), .inr (7, [.ref t_reader_text, .int t_reader_length, .int t_reader_place, .int t_reader_numberAt, .int t_reader_faultKind, .int t_reader_faultAt])),
  ((a_t_here 0), .inr (9, [.int t_here_junctions, .int t_here_cuts, .int t_here_boats, .ref (a_t_here 1), .ref (a_t_here 2), .ref (a_t_here 3), .ref (a_t_here 4), .ref (a_t_here 5), .ref (a_t_here 6), .ref (a_t_here 7), .ref (a_t_here 8)])),
  ((a_t_here 1), .inl (cI, 14, .inl t_here_cutA)),
  ((a_t_here 2), .inl (cI, 14, .inl t_here_cutB)),
  ((a_t_here 3), .inl (cI, 14, .inl t_here_cutHard)),
  ((a_t_here 4), .inl (cI, 5, .inl t_here_boatAt)),
  ((a_t_here 5), .inl (cI, 5, .inl t_here_boatPull)),
  ((a_t_here 6), .inl (cI, 5, .inl t_here_boatWear)),
  ((a_t_here 7), .inl (cI, 90, .inl t_here_onward)),
  ((a_t_here 8), .inl (cI, 90, .inl t_here_onwardHard)),
  ((a_t_spare 0), .inr (9, [.int t_spare_junctions, .int t_spare_cuts, .int t_spare_boats, .ref (a_t_spare 1), .ref (a_t_spare 2), .ref (a_t_spare 3), .ref (a_t_spare 4), .ref (a_t_spare 5), .ref (a_t_spare 6), .ref (a_t_spare 7), .ref (a_t_spare 8)])),
  ((a_t_spare 1), .inl (cI, 14, .inl t_spare_cutA)),
  ((a_t_spare 2), .inl (cI, 14, .inl t_spare_cutB)),
  ((a_t_spare 3), .inl (cI, 14, .inl t_spare_cutHard)),
  ((a_t_spare 4), .inl (cI, 5, .inl t_spare_boatAt)),
  ((a_t_spare 5), .inl (cI, 5, .inl t_spare_boatPull)),
  ((a_t_spare 6), .inl (cI, 5, .inl t_spare_boatWear)),
  ((a_t_spare 7), .inl (cI, 90, .inl t_spare_onward)),
  ((a_t_spare 8), .inl (cI, 90, .inl t_spare_onwardHard)),
  ((a_t_fleet 0), .inr (4, [.ref (a_t_fleet 1)])),
  ((a_t_fleet 1), .inl (cI, 21, .inl t_fleet_row)),
  ((a_t_past 0), .inr (6, [.ref (a_t_past_shelf 0), .int t_past_next, .int t_past_count])),
  ((a_t_past_shelf 0), .inr (8, [.int t_past_shelf_slots, .ref (a_t_past_shelf 1)])),
  ((a_t_past_shelf 1), .inl (cI, 420, .inl t_past_shelf_rows)),
  ((a_t_images 0), .inr (5, [.ref (a_t_images_shelf 0), .ref (a_t_images 1), .ref (a_t_images 2)])),
  ((a_t_images 1), .inl (cI, 2, .inl t_images_seeds)),
  ((a_t_images 2), .inl (cZ, 2, .inl t_images_kept)),
  ((a_t_images_shelf 0), .inr (8, [.int t_images_shelf_slots, .ref (a_t_images_shelf 1)])),
  ((a_t_images_shelf 1), .inl (cI, 42, .inl t_images_shelf_rows)),
  ((a_t_draws 0), .inr (1, [.int t_draws_value])),
  ((a_t_seen 0), .inr (2, [.int t_seen_most, .ref (a_t_seen 1), .ref (a_t_seen 2), .ref (a_t_seen 3), .int t_seen_count])),
  ((a_t_seen 1), .inl (cI, 6, .inl t_seen_boats)),
  ((a_t_seen 2), .inl (cI, 6, .inl t_seen_steps)),
  ((a_t_seen 3), .inl (cI, 6, .inl t_seen_junctions)),
  ((a_t_book 0), .inr (2, [.int t_book_most, .ref (a_t_book 1), .ref (a_t_book 2), .ref (a_t_book 3), .int t_book_count])),
  ((a_t_book 1), .inl (cI, 15, .inl t_book_boats)),
  ((a_t_book 2), .inl (cI, 15, .inl t_book_steps)),
  ((a_t_book 3), .inl (cI, 15, .inl t_book_junctions)),
  ((a_t_way 0), .inr (10, [.ref (a_t_way 1), .ref (a_t_way 2), .int t_way_last])),
  ((a_t_way 1), .inl (cI, 202, .inl t_way_places)),
  ((a_t_way 2), .inl (cI, 202, .inl t_way_needs)),
  ((a_t_bands 0), .inr (0, [.ref (a_t_bands 1), .ref (a_t_bands 2), .ref (a_t_bands 3)])),
  ((a_t_bands 1), .inl (cI, 31, .inl t_bands_lows)),
  ((a_t_bands 2), .inl (cI, 31, .inl t_bands_sizes)),
  ((a_t_bands 3), .inl (cI, 9, .inl t_bands_parts)),
  ((a_t_exchange 0), .inr (3, [.int t_exchange_boats, .ref (a_t_exchange 1), .ref (a_t_exchange 2), .ref (a_t_exchange 3), .int t_exchange_fewest])),
  ((a_t_exchange 1), .inl (cI, 5, .inl t_exchange_allowed)),
  ((a_t_exchange 2), .inl (cI, 5, .inl t_exchange_order)),
  ((a_t_exchange 3), .inl (cI, 5, .inl t_exchange_best))]
theorem hd_0_bestParting : yX0_bestParting.cls = RX0 ∧ yX0_bestParting.cls ≠ "java/lang/invoke/MethodHandle" ∧ yX0_bestParting.cls ≠ "java/lang/invoke/VarHandle" ∧ (parseMethodDescriptor yX0_bestParting.desc).map (fun d => d.parameters.length) = some 1 := by decide +kernel
theorem hd_0_fits : yX0_fits.cls ≠ "java/lang/invoke/MethodHandle" ∧ yX0_fits.cls ≠ "java/lang/invoke/VarHandle" ∧ (parseMethodDescriptor yX0_fits.desc).map (fun d => d.parameters.length) = some 4 := by decide +kernel
theorem hd_0_greatestPart : yX0_greatestPart.cls = RX0 ∧ yX0_greatestPart.cls ≠ "java/lang/invoke/MethodHandle" ∧ yX0_greatestPart.cls ≠ "java/lang/invoke/VarHandle" ∧ (parseMethodDescriptor yX0_greatestPart.desc).map (fun d => d.parameters.length) = some 2 := by decide +kernel
theorem hd_0_pullAt : yX0_pullAt.cls = RX0 ∧ yX0_pullAt.cls ≠ "java/lang/invoke/MethodHandle" ∧ yX0_pullAt.cls ≠ "java/lang/invoke/VarHandle" ∧ (parseMethodDescriptor yX0_pullAt.desc).map (fun d => d.parameters.length) = some 1 := by decide +kernel
theorem hd_0_sort : yX0_sort.cls = RX0 ∧ yX0_sort.cls ≠ "java/lang/invoke/MethodHandle" ∧ yX0_sort.cls ≠ "java/lang/invoke/VarHandle" ∧ (parseMethodDescriptor yX0_sort.desc).map (fun d => d.parameters.length) = some 3 := by decide +kernel
theorem hd_0_total : yX0_total.cls = RX0 ∧ yX0_total.cls ≠ "java/lang/invoke/MethodHandle" ∧ yX0_total.cls ≠ "java/lang/invoke/VarHandle" ∧ (parseMethodDescriptor yX0_total.desc).map (fun d => d.parameters.length) = some 0 := by decide +kernel
theorem hd_1_next : yX1_next.cls = RX1 ∧ yX1_next.cls ≠ "java/lang/invoke/MethodHandle" ∧ yX1_next.cls ≠ "java/lang/invoke/VarHandle" ∧ (parseMethodDescriptor yX1_next.desc).map (fun d => d.parameters.length) = some 1 := by decide +kernel
theorem hd_2_add : yX2_add.cls = RX2 ∧ yX2_add.cls ≠ "java/lang/invoke/MethodHandle" ∧ yX2_add.cls ≠ "java/lang/invoke/VarHandle" ∧ (parseMethodDescriptor yX2_add.desc).map (fun d => d.parameters.length) = some 3 := by decide +kernel
theorem hd_2_boatIn : yX2_boatIn.cls = RX2 ∧ yX2_boatIn.cls ≠ "java/lang/invoke/MethodHandle" ∧ yX2_boatIn.cls ≠ "java/lang/invoke/VarHandle" ∧ (parseMethodDescriptor yX2_boatIn.desc).map (fun d => d.parameters.length) = some 1 := by decide +kernel
theorem hd_2_has : yX2_has.cls = RX2 ∧ yX2_has.cls ≠ "java/lang/invoke/MethodHandle" ∧ yX2_has.cls ≠ "java/lang/invoke/VarHandle" ∧ (parseMethodDescriptor yX2_has.desc).map (fun d => d.parameters.length) = some 1 := by decide +kernel
theorem hd_2_junctionIn : yX2_junctionIn.cls = RX2 ∧ yX2_junctionIn.cls ≠ "java/lang/invoke/MethodHandle" ∧ yX2_junctionIn.cls ≠ "java/lang/invoke/VarHandle" ∧ (parseMethodDescriptor yX2_junctionIn.desc).map (fun d => d.parameters.length) = some 1 := by decide +kernel
theorem hd_2_stepsIn : yX2_stepsIn.cls = RX2 ∧ yX2_stepsIn.cls ≠ "java/lang/invoke/MethodHandle" ∧ yX2_stepsIn.cls ≠ "java/lang/invoke/VarHandle" ∧ (parseMethodDescriptor yX2_stepsIn.desc).map (fun d => d.parameters.length) = some 1 := by decide +kernel
theorem hd_3_allow : yX3_allow.cls = RX3 ∧ yX3_allow.cls ≠ "java/lang/invoke/MethodHandle" ∧ yX3_allow.cls ≠ "java/lang/invoke/VarHandle" ∧ (parseMethodDescriptor yX3_allow.desc).map (fun d => d.parameters.length) = some 2 := by decide +kernel
theorem hd_3_begin : yX3_begin.cls = RX3 ∧ yX3_begin.cls ≠ "java/lang/invoke/MethodHandle" ∧ yX3_begin.cls ≠ "java/lang/invoke/VarHandle" ∧ (parseMethodDescriptor yX3_begin.desc).map (fun d => d.parameters.length) = some 1 := by decide +kernel
theorem hd_3_compare : yX3_compare.cls = RX3 ∧ yX3_compare.cls ≠ "java/lang/invoke/MethodHandle" ∧ yX3_compare.cls ≠ "java/lang/invoke/VarHandle" ∧ (parseMethodDescriptor yX3_compare.desc).map (fun d => d.parameters.length) = some 0 := by decide +kernel
theorem hd_3_giverTo : yX3_giverTo.cls = RX3 ∧ yX3_giverTo.cls ≠ "java/lang/invoke/MethodHandle" ∧ yX3_giverTo.cls ≠ "java/lang/invoke/VarHandle" ∧ (parseMethodDescriptor yX3_giverTo.desc).map (fun d => d.parameters.length) = some 1 := by decide +kernel
theorem hd_3_isAllowed : yX3_isAllowed.cls = RX3 ∧ yX3_isAllowed.cls ≠ "java/lang/invoke/MethodHandle" ∧ yX3_isAllowed.cls ≠ "java/lang/invoke/VarHandle" ∧ (parseMethodDescriptor yX3_isAllowed.desc).map (fun d => d.parameters.length) = some 0 := by decide +kernel
theorem hd_3_nextOrder : yX3_nextOrder.cls = RX3 ∧ yX3_nextOrder.cls ≠ "java/lang/invoke/MethodHandle" ∧ yX3_nextOrder.cls ≠ "java/lang/invoke/VarHandle" ∧ (parseMethodDescriptor yX3_nextOrder.desc).map (fun d => d.parameters.length) = some 0 := by decide +kernel
theorem hd_3_ringOf : yX3_ringOf.cls = RX3 ∧ yX3_ringOf.cls ≠ "java/lang/invoke/MethodHandle" ∧ yX3_ringOf.cls ≠ "java/lang/invoke/VarHandle" ∧ (parseMethodDescriptor yX3_ringOf.desc).map (fun d => d.parameters.length) = some 1 := by decide +kernel
theorem hd_3_rings : yX3_rings.cls = RX3 ∧ yX3_rings.cls ≠ "java/lang/invoke/MethodHandle" ∧ yX3_rings.cls ≠ "java/lang/invoke/VarHandle" ∧ (parseMethodDescriptor yX3_rings.desc).map (fun d => d.parameters.length) = some 0 := by decide +kernel
theorem hd_3_search : yX3_search.cls = RX3 ∧ yX3_search.cls ≠ "java/lang/invoke/MethodHandle" ∧ yX3_search.cls ≠ "java/lang/invoke/VarHandle" ∧ (parseMethodDescriptor yX3_search.desc).map (fun d => d.parameters.length) = some 0 := by decide +kernel
theorem hd_3_swap : yX3_swap.cls = RX3 ∧ yX3_swap.cls ≠ "java/lang/invoke/MethodHandle" ∧ yX3_swap.cls ≠ "java/lang/invoke/VarHandle" ∧ (parseMethodDescriptor yX3_swap.desc).map (fun d => d.parameters.length) = some 2 := by decide +kernel
theorem hd_4_advance : yX4_advance.cls = RX4 ∧ yX4_advance.cls ≠ "java/lang/invoke/MethodHandle" ∧ yX4_advance.cls ≠ "java/lang/invoke/VarHandle" ∧ (parseMethodDescriptor yX4_advance.desc).map (fun d => d.parameters.length) = some 2 := by decide +kernel
theorem hd_4_advanceAll : yX4_advanceAll.cls = RX4 ∧ yX4_advanceAll.cls ≠ "java/lang/invoke/MethodHandle" ∧ yX4_advanceAll.cls ≠ "java/lang/invoke/VarHandle" ∧ (parseMethodDescriptor yX4_advanceAll.desc).map (fun d => d.parameters.length) = some 1 := by decide +kernel
theorem hd_4_at : yX4_at.cls = RX4 ∧ yX4_at.cls ≠ "java/lang/invoke/MethodHandle" ∧ yX4_at.cls ≠ "java/lang/invoke/VarHandle" ∧ (parseMethodDescriptor yX4_at.desc).map (fun d => d.parameters.length) = some 1 := by decide +kernel
theorem hd_4_comeFromNowhere : yX4_comeFromNowhere.cls = RX4 ∧ yX4_comeFromNowhere.cls ≠ "java/lang/invoke/MethodHandle" ∧ yX4_comeFromNowhere.cls ≠ "java/lang/invoke/VarHandle" ∧ (parseMethodDescriptor yX4_comeFromNowhere.desc).map (fun d => d.parameters.length) = some 1 := by decide +kernel
theorem hd_4_from : yX4_from.cls = RX4 ∧ yX4_from.cls ≠ "java/lang/invoke/MethodHandle" ∧ yX4_from.cls ≠ "java/lang/invoke/VarHandle" ∧ (parseMethodDescriptor yX4_from.desc).map (fun d => d.parameters.length) = some 1 := by decide +kernel
theorem hd_4_get : yX4_get.cls = RX4 ∧ yX4_get.cls ≠ "java/lang/invoke/MethodHandle" ∧ yX4_get.cls ≠ "java/lang/invoke/VarHandle" ∧ (parseMethodDescriptor yX4_get.desc).map (fun d => d.parameters.length) = some 2 := by decide +kernel
theorem hd_4_isSitting : yX4_isSitting.cls = RX4 ∧ yX4_isSitting.cls ≠ "java/lang/invoke/MethodHandle" ∧ yX4_isSitting.cls ≠ "java/lang/invoke/VarHandle" ∧ (parseMethodDescriptor yX4_isSitting.desc).map (fun d => d.parameters.length) = some 2 := by decide +kernel
theorem hd_4_launch : yX4_launch.cls = RX4 ∧ yX4_launch.cls ≠ "java/lang/invoke/MethodHandle" ∧ yX4_launch.cls ≠ "java/lang/invoke/VarHandle" ∧ (parseMethodDescriptor yX4_launch.desc).map (fun d => d.parameters.length) = some 1 := by decide +kernel
theorem hd_4_lighten : yX4_lighten.cls = RX4 ∧ yX4_lighten.cls ≠ "java/lang/invoke/MethodHandle" ∧ yX4_lighten.cls ≠ "java/lang/invoke/VarHandle" ∧ (parseMethodDescriptor yX4_lighten.desc).map (fun d => d.parameters.length) = some 2 := by decide +kernel
theorem hd_4_load : yX4_load.cls = RX4 ∧ yX4_load.cls ≠ "java/lang/invoke/MethodHandle" ∧ yX4_load.cls ≠ "java/lang/invoke/VarHandle" ∧ (parseMethodDescriptor yX4_load.desc).map (fun d => d.parameters.length) = some 2 := by decide +kernel
theorem hd_4_places : yX4_places.cls = RX4 ∧ yX4_places.cls ≠ "java/lang/invoke/MethodHandle" ∧ yX4_places.cls ≠ "java/lang/invoke/VarHandle" ∧ (parseMethodDescriptor yX4_places.desc).map (fun d => d.parameters.length) = some 1 := by decide +kernel
theorem hd_4_pull : yX4_pull.cls = RX4 ∧ yX4_pull.cls ≠ "java/lang/invoke/MethodHandle" ∧ yX4_pull.cls ≠ "java/lang/invoke/VarHandle" ∧ (parseMethodDescriptor yX4_pull.desc).map (fun d => d.parameters.length) = some 1 := by decide +kernel
theorem hd_4_put : yX4_put.cls = RX4 ∧ yX4_put.cls ≠ "java/lang/invoke/MethodHandle" ∧ yX4_put.cls ≠ "java/lang/invoke/VarHandle" ∧ (parseMethodDescriptor yX4_put.desc).map (fun d => d.parameters.length) = some 3 := by decide +kernel
theorem hd_4_sitting : yX4_sitting.cls = RX4 ∧ yX4_sitting.cls ≠ "java/lang/invoke/MethodHandle" ∧ yX4_sitting.cls ≠ "java/lang/invoke/VarHandle" ∧ (parseMethodDescriptor yX4_sitting.desc).map (fun d => d.parameters.length) = some 1 := by decide +kernel
theorem hd_4_stepsGone : yX4_stepsGone.cls = RX4 ∧ yX4_stepsGone.cls ≠ "java/lang/invoke/MethodHandle" ∧ yX4_stepsGone.cls ≠ "java/lang/invoke/VarHandle" ∧ (parseMethodDescriptor yX4_stepsGone.desc).map (fun d => d.parameters.length) = some 0 := by decide +kernel
theorem hd_4_swapPulls : yX4_swapPulls.cls = RX4 ∧ yX4_swapPulls.cls ≠ "java/lang/invoke/MethodHandle" ∧ yX4_swapPulls.cls ≠ "java/lang/invoke/VarHandle" ∧ (parseMethodDescriptor yX4_swapPulls.desc).map (fun d => d.parameters.length) = some 2 := by decide +kernel
theorem hd_4_went : yX4_went.cls = RX4 ∧ yX4_went.cls ≠ "java/lang/invoke/MethodHandle" ∧ yX4_went.cls ≠ "java/lang/invoke/VarHandle" ∧ (parseMethodDescriptor yX4_went.desc).map (fun d => d.parameters.length) = some 1 := by decide +kernel
theorem hd_5_bringBack : yX5_bringBack.cls = RX5 ∧ yX5_bringBack.cls ≠ "java/lang/invoke/MethodHandle" ∧ yX5_bringBack.cls ≠ "java/lang/invoke/VarHandle" ∧ (parseMethodDescriptor yX5_bringBack.desc).map (fun d => d.parameters.length) = some 3 := by decide +kernel
theorem hd_5_forget : yX5_forget.cls = RX5 ∧ yX5_forget.cls ≠ "java/lang/invoke/MethodHandle" ∧ yX5_forget.cls ≠ "java/lang/invoke/VarHandle" ∧ (parseMethodDescriptor yX5_forget.desc).map (fun d => d.parameters.length) = some 0 := by decide +kernel
theorem hd_5_isKept : yX5_isKept.cls = RX5 ∧ yX5_isKept.cls ≠ "java/lang/invoke/MethodHandle" ∧ yX5_isKept.cls ≠ "java/lang/invoke/VarHandle" ∧ (parseMethodDescriptor yX5_isKept.desc).map (fun d => d.parameters.length) = some 1 := by decide +kernel
theorem hd_5_keepIn : yX5_keepIn.cls = RX5 ∧ yX5_keepIn.cls ≠ "java/lang/invoke/MethodHandle" ∧ yX5_keepIn.cls ≠ "java/lang/invoke/VarHandle" ∧ (parseMethodDescriptor yX5_keepIn.desc).map (fun d => d.parameters.length) = some 3 := by decide +kernel
theorem hd_6_bringBack : yX6_bringBack.cls = RX6 ∧ yX6_bringBack.cls ≠ "java/lang/invoke/MethodHandle" ∧ yX6_bringBack.cls ≠ "java/lang/invoke/VarHandle" ∧ (parseMethodDescriptor yX6_bringBack.desc).map (fun d => d.parameters.length) = some 1 := by decide +kernel
theorem hd_6_forget : yX6_forget.cls = RX6 ∧ yX6_forget.cls ≠ "java/lang/invoke/MethodHandle" ∧ yX6_forget.cls ≠ "java/lang/invoke/VarHandle" ∧ (parseMethodDescriptor yX6_forget.desc).map (fun d => d.parameters.length) = some 0 := by decide +kernel
theorem hd_6_remember : yX6_remember.cls = RX6 ∧ yX6_remember.cls ≠ "java/lang/invoke/MethodHandle" ∧ yX6_remember.cls ≠ "java/lang/invoke/VarHandle" ∧ (parseMethodDescriptor yX6_remember.desc).map (fun d => d.parameters.length) = some 1 := by decide +kernel
theorem hd_7_goesOn : yX7_goesOn.cls = RX7 ∧ yX7_goesOn.cls ≠ "java/lang/invoke/MethodHandle" ∧ yX7_goesOn.cls ≠ "java/lang/invoke/VarHandle" ∧ (parseMethodDescriptor yX7_goesOn.desc).map (fun d => d.parameters.length) = some 0 := by decide +kernel
theorem hd_7_isFigure : yX7_isFigure.cls ≠ "java/lang/invoke/MethodHandle" ∧ yX7_isFigure.cls ≠ "java/lang/invoke/VarHandle" ∧ (parseMethodDescriptor yX7_isFigure.desc).map (fun d => d.parameters.length) = some 1 := by decide +kernel
theorem hd_7_letterHere : yX7_letterHere.cls = RX7 ∧ yX7_letterHere.cls ≠ "java/lang/invoke/MethodHandle" ∧ yX7_letterHere.cls ≠ "java/lang/invoke/VarHandle" ∧ (parseMethodDescriptor yX7_letterHere.desc).map (fun d => d.parameters.length) = some 0 := by decide +kernel
theorem hd_7_note : yX7_note.cls = RX7 ∧ yX7_note.cls ≠ "java/lang/invoke/MethodHandle" ∧ yX7_note.cls ≠ "java/lang/invoke/VarHandle" ∧ (parseMethodDescriptor yX7_note.desc).map (fun d => d.parameters.length) = some 2 := by decide +kernel
theorem hd_7_readBoat : yX7_readBoat.cls = RX7 ∧ yX7_readBoat.cls ≠ "java/lang/invoke/MethodHandle" ∧ yX7_readBoat.cls ≠ "java/lang/invoke/VarHandle" ∧ (parseMethodDescriptor yX7_readBoat.desc).map (fun d => d.parameters.length) = some 1 := by decide +kernel
theorem hd_7_readClause : yX7_readClause.cls = RX7 ∧ yX7_readClause.cls ≠ "java/lang/invoke/MethodHandle" ∧ yX7_readClause.cls ≠ "java/lang/invoke/VarHandle" ∧ (parseMethodDescriptor yX7_readClause.desc).map (fun d => d.parameters.length) = some 1 := by decide +kernel
theorem hd_7_readCut : yX7_readCut.cls = RX7 ∧ yX7_readCut.cls ≠ "java/lang/invoke/MethodHandle" ∧ yX7_readCut.cls ≠ "java/lang/invoke/VarHandle" ∧ (parseMethodDescriptor yX7_readCut.desc).map (fun d => d.parameters.length) = some 1 := by decide +kernel
theorem hd_7_readJunctions : yX7_readJunctions.cls = RX7 ∧ yX7_readJunctions.cls ≠ "java/lang/invoke/MethodHandle" ∧ yX7_readJunctions.cls ≠ "java/lang/invoke/VarHandle" ∧ (parseMethodDescriptor yX7_readJunctions.desc).map (fun d => d.parameters.length) = some 1 := by decide +kernel
theorem hd_7_readNumber : yX7_readNumber.cls = RX7 ∧ yX7_readNumber.cls ≠ "java/lang/invoke/MethodHandle" ∧ yX7_readNumber.cls ≠ "java/lang/invoke/VarHandle" ∧ (parseMethodDescriptor yX7_readNumber.desc).map (fun d => d.parameters.length) = some 2 := by decide +kernel
theorem hd_7_readSign : yX7_readSign.cls = RX7 ∧ yX7_readSign.cls ≠ "java/lang/invoke/MethodHandle" ∧ yX7_readSign.cls ≠ "java/lang/invoke/VarHandle" ∧ (parseMethodDescriptor yX7_readSign.desc).map (fun d => d.parameters.length) = some 1 := by decide +kernel
theorem hd_7_skipBlanks : yX7_skipBlanks.cls = RX7 ∧ yX7_skipBlanks.cls ≠ "java/lang/invoke/MethodHandle" ∧ yX7_skipBlanks.cls ≠ "java/lang/invoke/VarHandle" ∧ (parseMethodDescriptor yX7_skipBlanks.desc).map (fun d => d.parameters.length) = some 0 := by decide +kernel
theorem hd_8_fetch : yX8_fetch.cls = RX8 ∧ yX8_fetch.cls ≠ "java/lang/invoke/MethodHandle" ∧ yX8_fetch.cls ≠ "java/lang/invoke/VarHandle" ∧ (parseMethodDescriptor yX8_fetch.desc).map (fun d => d.parameters.length) = some 2 := by decide +kernel
theorem hd_8_store : yX8_store.cls = RX8 ∧ yX8_store.cls ≠ "java/lang/invoke/MethodHandle" ∧ yX8_store.cls ≠ "java/lang/invoke/VarHandle" ∧ (parseMethodDescriptor yX8_store.desc).map (fun d => d.parameters.length) = some 2 := by decide +kernel
theorem hd_9_addBoat : yX9_addBoat.cls = RX9 ∧ yX9_addBoat.cls ≠ "java/lang/invoke/MethodHandle" ∧ yX9_addBoat.cls ≠ "java/lang/invoke/VarHandle" ∧ (parseMethodDescriptor yX9_addBoat.desc).map (fun d => d.parameters.length) = some 3 := by decide +kernel
theorem hd_9_addCut : yX9_addCut.cls = RX9 ∧ yX9_addCut.cls ≠ "java/lang/invoke/MethodHandle" ∧ yX9_addCut.cls ≠ "java/lang/invoke/VarHandle" ∧ (parseMethodDescriptor yX9_addCut.desc).map (fun d => d.parameters.length) = some 3 := by decide +kernel
theorem hd_9_empty : yX9_empty.cls = RX9 ∧ yX9_empty.cls ≠ "java/lang/invoke/MethodHandle" ∧ yX9_empty.cls ≠ "java/lang/invoke/VarHandle" ∧ (parseMethodDescriptor yX9_empty.desc).map (fun d => d.parameters.length) = some 0 := by decide +kernel
theorem hd_9_findOnward : yX9_findOnward.cls = RX9 ∧ yX9_findOnward.cls ≠ "java/lang/invoke/MethodHandle" ∧ yX9_findOnward.cls ≠ "java/lang/invoke/VarHandle" ∧ (parseMethodDescriptor yX9_findOnward.desc).map (fun d => d.parameters.length) = some 0 := by decide +kernel
theorem hd_9_findOnwardFrom : yX9_findOnwardFrom.cls = RX9 ∧ yX9_findOnwardFrom.cls ≠ "java/lang/invoke/MethodHandle" ∧ yX9_findOnwardFrom.cls ≠ "java/lang/invoke/VarHandle" ∧ (parseMethodDescriptor yX9_findOnwardFrom.desc).map (fun d => d.parameters.length) = some 2 := by decide +kernel
theorem hd_9_goesTo : yX9_goesTo.cls = RX9 ∧ yX9_goesTo.cls ≠ "java/lang/invoke/MethodHandle" ∧ yX9_goesTo.cls ≠ "java/lang/invoke/VarHandle" ∧ (parseMethodDescriptor yX9_goesTo.desc).map (fun d => d.parameters.length) = some 2 := by decide +kernel
theorem hd_9_hardOn : yX9_hardOn.cls = RX9 ∧ yX9_hardOn.cls ≠ "java/lang/invoke/MethodHandle" ∧ yX9_hardOn.cls ≠ "java/lang/invoke/VarHandle" ∧ (parseMethodDescriptor yX9_hardOn.desc).map (fun d => d.parameters.length) = some 2 := by decide +kernel
theorem hd_9_hasBoat : yX9_hasBoat.cls = RX9 ∧ yX9_hasBoat.cls ≠ "java/lang/invoke/MethodHandle" ∧ yX9_hasBoat.cls ≠ "java/lang/invoke/VarHandle" ∧ (parseMethodDescriptor yX9_hasBoat.desc).map (fun d => d.parameters.length) = some 1 := by decide +kernel
theorem hd_9_hasCut : yX9_hasCut.cls = RX9 ∧ yX9_hasCut.cls ≠ "java/lang/invoke/MethodHandle" ∧ yX9_hasCut.cls ≠ "java/lang/invoke/VarHandle" ∧ (parseMethodDescriptor yX9_hasCut.desc).map (fun d => d.parameters.length) = some 1 := by decide +kernel
theorem hd_9_hasJunction : yX9_hasJunction.cls = RX9 ∧ yX9_hasJunction.cls ≠ "java/lang/invoke/MethodHandle" ∧ yX9_hasJunction.cls ≠ "java/lang/invoke/VarHandle" ∧ (parseMethodDescriptor yX9_hasJunction.desc).map (fun d => d.parameters.length) = some 1 := by decide +kernel
theorem hd_9_joined : yX9_joined.cls = RX9 ∧ yX9_joined.cls ≠ "java/lang/invoke/MethodHandle" ∧ yX9_joined.cls ≠ "java/lang/invoke/VarHandle" ∧ (parseMethodDescriptor yX9_joined.desc).map (fun d => d.parameters.length) = some 2 := by decide +kernel
theorem hd_9_otherEnd : yX9_otherEnd.cls = RX9 ∧ yX9_otherEnd.cls ≠ "java/lang/invoke/MethodHandle" ∧ yX9_otherEnd.cls ≠ "java/lang/invoke/VarHandle" ∧ (parseMethodDescriptor yX9_otherEnd.desc).map (fun d => d.parameters.length) = some 2 := by decide +kernel
theorem hd_9_slotOf : yX9_slotOf.cls = RX9 ∧ yX9_slotOf.cls ≠ "java/lang/invoke/MethodHandle" ∧ yX9_slotOf.cls ≠ "java/lang/invoke/VarHandle" ∧ (parseMethodDescriptor yX9_slotOf.desc).map (fun d => d.parameters.length) = some 2 := by decide +kernel
theorem hd_9_startOf : yX9_startOf.cls = RX9 ∧ yX9_startOf.cls ≠ "java/lang/invoke/MethodHandle" ∧ yX9_startOf.cls ≠ "java/lang/invoke/VarHandle" ∧ (parseMethodDescriptor yX9_startOf.desc).map (fun d => d.parameters.length) = some 1 := by decide +kernel
theorem hd_9_startPullOf : yX9_startPullOf.cls = RX9 ∧ yX9_startPullOf.cls ≠ "java/lang/invoke/MethodHandle" ∧ yX9_startPullOf.cls ≠ "java/lang/invoke/VarHandle" ∧ (parseMethodDescriptor yX9_startPullOf.desc).map (fun d => d.parameters.length) = some 1 := by decide +kernel
theorem hd_9_wearOf : yX9_wearOf.cls = RX9 ∧ yX9_wearOf.cls ≠ "java/lang/invoke/MethodHandle" ∧ yX9_wearOf.cls ≠ "java/lang/invoke/VarHandle" ∧ (parseMethodDescriptor yX9_wearOf.desc).map (fun d => d.parameters.length) = some 1 := by decide +kernel
theorem hd_10_endsAt : yX10_endsAt.cls = RX10 ∧ yX10_endsAt.cls ≠ "java/lang/invoke/MethodHandle" ∧ yX10_endsAt.cls ≠ "java/lang/invoke/VarHandle" ∧ (parseMethodDescriptor yX10_endsAt.desc).map (fun d => d.parameters.length) = some 2 := by decide +kernel
theorem hd_10_gone : yX10_gone.cls = RX10 ∧ yX10_gone.cls ≠ "java/lang/invoke/MethodHandle" ∧ yX10_gone.cls ≠ "java/lang/invoke/VarHandle" ∧ (parseMethodDescriptor yX10_gone.desc).map (fun d => d.parameters.length) = some 2 := by decide +kernel
theorem hd_10_lay : yX10_lay.cls = RX10 ∧ yX10_lay.cls ≠ "java/lang/invoke/MethodHandle" ∧ yX10_lay.cls ≠ "java/lang/invoke/VarHandle" ∧ (parseMethodDescriptor yX10_lay.desc).map (fun d => d.parameters.length) = some 5 := by decide +kernel
theorem hd_10_leastLess : yX10_leastLess.cls = RX10 ∧ yX10_leastLess.cls ≠ "java/lang/invoke/MethodHandle" ∧ yX10_leastLess.cls ≠ "java/lang/invoke/VarHandle" ∧ (parseMethodDescriptor yX10_leastLess.desc).map (fun d => d.parameters.length) = some 2 := by decide +kernel
theorem hd_10_leastMore : yX10_leastMore.cls = RX10 ∧ yX10_leastMore.cls ≠ "java/lang/invoke/MethodHandle" ∧ yX10_leastMore.cls ≠ "java/lang/invoke/VarHandle" ∧ (parseMethodDescriptor yX10_leastMore.desc).map (fun d => d.parameters.length) = some 2 := by decide +kernel
theorem hd_10_need : yX10_need.cls = RX10 ∧ yX10_need.cls ≠ "java/lang/invoke/MethodHandle" ∧ yX10_need.cls ≠ "java/lang/invoke/VarHandle" ∧ (parseMethodDescriptor yX10_need.desc).map (fun d => d.parameters.length) = some 1 := by decide +kernel
theorem hd_10_place : yX10_place.cls = RX10 ∧ yX10_place.cls ≠ "java/lang/invoke/MethodHandle" ∧ yX10_place.cls ≠ "java/lang/invoke/VarHandle" ∧ (parseMethodDescriptor yX10_place.desc).map (fun d => d.parameters.length) = some 1 := by decide +kernel
theorem hd_10_placesUpTo : yX10_placesUpTo.cls = RX10 ∧ yX10_placesUpTo.cls ≠ "java/lang/invoke/MethodHandle" ∧ yX10_placesUpTo.cls ≠ "java/lang/invoke/VarHandle" ∧ (parseMethodDescriptor yX10_placesUpTo.desc).map (fun d => d.parameters.length) = some 1 := by decide +kernel
theorem hd_10_ring : yX10_ring.cls = RX10 ∧ yX10_ring.cls ≠ "java/lang/invoke/MethodHandle" ∧ yX10_ring.cls ≠ "java/lang/invoke/VarHandle" ∧ (parseMethodDescriptor yX10_ring.desc).map (fun d => d.parameters.length) = some 0 := by decide +kernel
theorem hd_11_drawMonth : yX11_drawMonth.cls = RX11 ∧ yX11_drawMonth.cls ≠ "java/lang/invoke/MethodHandle" ∧ yX11_drawMonth.cls ≠ "java/lang/invoke/VarHandle" ∧ (parseMethodDescriptor yX11_drawMonth.desc).map (fun d => d.parameters.length) = some 0 := by decide +kernel
theorem hd_11_forgetQuays : yX11_forgetQuays.cls = RX11 ∧ yX11_forgetQuays.cls ≠ "java/lang/invoke/MethodHandle" ∧ yX11_forgetQuays.cls ≠ "java/lang/invoke/VarHandle" ∧ (parseMethodDescriptor yX11_forgetQuays.desc).map (fun d => d.parameters.length) = some 0 := by decide +kernel
theorem hd_11_layWay : yX11_layWay.cls = RX11 ∧ yX11_layWay.cls ≠ "java/lang/invoke/MethodHandle" ∧ yX11_layWay.cls ≠ "java/lang/invoke/VarHandle" ∧ (parseMethodDescriptor yX11_layWay.desc).map (fun d => d.parameters.length) = some 2 := by decide +kernel
theorem hd_11_refusalToGo : yX11_refusalToGo.cls = RX11 ∧ yX11_refusalToGo.cls ≠ "java/lang/invoke/MethodHandle" ∧ yX11_refusalToGo.cls ≠ "java/lang/invoke/VarHandle" ∧ (parseMethodDescriptor yX11_refusalToGo.desc).map (fun d => d.parameters.length) = some 1 := by decide +kernel
theorem hd_11_sortPulls : yX11_sortPulls.cls = RX11 ∧ yX11_sortPulls.cls ≠ "java/lang/invoke/MethodHandle" ∧ yX11_sortPulls.cls ≠ "java/lang/invoke/VarHandle" ∧ (parseMethodDescriptor yX11_sortPulls.desc).map (fun d => d.parameters.length) = some 1 := by decide +kernel
theorem hd_11_tryPulls : yX11_tryPulls.cls = RX11 ∧ yX11_tryPulls.cls ≠ "java/lang/invoke/MethodHandle" ∧ yX11_tryPulls.cls ≠ "java/lang/invoke/VarHandle" ∧ (parseMethodDescriptor yX11_tryPulls.desc).map (fun d => d.parameters.length) = some 2 := by decide +kernel
theorem hd_12_allAtQuays : yX12_allAtQuays.cls = RX12 ∧ yX12_allAtQuays.cls ≠ "java/lang/invoke/MethodHandle" ∧ yX12_allAtQuays.cls ≠ "java/lang/invoke/VarHandle" ∧ (parseMethodDescriptor yX12_allAtQuays.desc).map (fun d => d.parameters.length) = some 1 := by decide +kernel
theorem hd_12_board : yX12_board.cls = RX12 ∧ yX12_board.cls ≠ "java/lang/invoke/MethodHandle" ∧ yX12_board.cls ≠ "java/lang/invoke/VarHandle" ∧ (parseMethodDescriptor yX12_board.desc).map (fun d => d.parameters.length) = some 1 := by decide +kernel
theorem hd_12_chance : yX12_chance.cls = RX12 ∧ yX12_chance.cls ≠ "java/lang/invoke/MethodHandle" ∧ yX12_chance.cls ≠ "java/lang/invoke/VarHandle" ∧ (parseMethodDescriptor yX12_chance.desc).map (fun d => d.parameters.length) = some 0 := by decide +kernel
theorem hd_12_changesOf : yX12_changesOf.cls = RX12 ∧ yX12_changesOf.cls ≠ "java/lang/invoke/MethodHandle" ∧ yX12_changesOf.cls ≠ "java/lang/invoke/VarHandle" ∧ (parseMethodDescriptor yX12_changesOf.desc).map (fun d => d.parameters.length) = some 0 := by decide +kernel
theorem hd_12_couldBe : yX12_couldBe.cls = RX12 ∧ yX12_couldBe.cls ≠ "java/lang/invoke/MethodHandle" ∧ yX12_couldBe.cls ≠ "java/lang/invoke/VarHandle" ∧ (parseMethodDescriptor yX12_couldBe.desc).map (fun d => d.parameters.length) = some 2 := by decide +kernel
theorem hd_12_draw : yX12_draw.cls = RX12 ∧ yX12_draw.cls ≠ "java/lang/invoke/MethodHandle" ∧ yX12_draw.cls ≠ "java/lang/invoke/VarHandle" ∧ (parseMethodDescriptor yX12_draw.desc).map (fun d => d.parameters.length) = some 1 := by decide +kernel
theorem hd_12_fails : yX12_fails.cls = RX12 ∧ yX12_fails.cls ≠ "java/lang/invoke/MethodHandle" ∧ yX12_fails.cls ≠ "java/lang/invoke/VarHandle" ∧ (parseMethodDescriptor yX12_fails.desc).map (fun d => d.parameters.length) = some 2 := by decide +kernel
theorem hd_12_findWay : yX12_findWay.cls = RX12 ∧ yX12_findWay.cls ≠ "java/lang/invoke/MethodHandle" ∧ yX12_findWay.cls ≠ "java/lang/invoke/VarHandle" ∧ (parseMethodDescriptor yX12_findWay.desc).map (fun d => d.parameters.length) = some 2 := by decide +kernel
theorem hd_12_go : yX12_go.cls = RX12 ∧ yX12_go.cls ≠ "java/lang/invoke/MethodHandle" ∧ yX12_go.cls ≠ "java/lang/invoke/VarHandle" ∧ (parseMethodDescriptor yX12_go.desc).map (fun d => d.parameters.length) = some 1 := by decide +kernel
theorem hd_12_goOn : yX12_goOn.cls = RX12 ∧ yX12_goOn.cls ≠ "java/lang/invoke/MethodHandle" ∧ yX12_goOn.cls ≠ "java/lang/invoke/VarHandle" ∧ (parseMethodDescriptor yX12_goOn.desc).map (fun d => d.parameters.length) = some 2 := by decide +kernel
theorem hd_12_goesTo : yX12_goesTo.cls = RX12 ∧ yX12_goesTo.cls ≠ "java/lang/invoke/MethodHandle" ∧ yX12_goesTo.cls ≠ "java/lang/invoke/VarHandle" ∧ (parseMethodDescriptor yX12_goesTo.desc).map (fun d => d.parameters.length) = some 0 := by decide +kernel
theorem hd_12_heavier : yX12_heavier.cls ≠ "java/lang/invoke/MethodHandle" ∧ yX12_heavier.cls ≠ "java/lang/invoke/VarHandle" ∧ (parseMethodDescriptor yX12_heavier.desc).map (fun d => d.parameters.length) = some 2 := by decide +kernel
theorem hd_12_here : yX12_here.cls = RX12 ∧ yX12_here.cls ≠ "java/lang/invoke/MethodHandle" ∧ yX12_here.cls ≠ "java/lang/invoke/VarHandle" ∧ (parseMethodDescriptor yX12_here.desc).map (fun d => d.parameters.length) = some 0 := by decide +kernel
theorem hd_12_in : yX12_in.cls ≠ "java/lang/invoke/MethodHandle" ∧ yX12_in.cls ≠ "java/lang/invoke/VarHandle" ∧ (parseMethodDescriptor yX12_in.desc).map (fun d => d.parameters.length) = some 3 := by decide +kernel
theorem hd_12_into : yX12_into.cls = RX12 ∧ yX12_into.cls ≠ "java/lang/invoke/MethodHandle" ∧ yX12_into.cls ≠ "java/lang/invoke/VarHandle" ∧ (parseMethodDescriptor yX12_into.desc).map (fun d => d.parameters.length) = some 4 := by decide +kernel
theorem hd_12_isBoat : yX12_isBoat.cls = RX12 ∧ yX12_isBoat.cls ≠ "java/lang/invoke/MethodHandle" ∧ yX12_isBoat.cls ≠ "java/lang/invoke/VarHandle" ∧ (parseMethodDescriptor yX12_isBoat.desc).map (fun d => d.parameters.length) = some 1 := by decide +kernel
theorem hd_12_isCutAlready : yX12_isCutAlready.cls = RX12 ∧ yX12_isCutAlready.cls ≠ "java/lang/invoke/MethodHandle" ∧ yX12_isCutAlready.cls ≠ "java/lang/invoke/VarHandle" ∧ (parseMethodDescriptor yX12_isCutAlready.desc).map (fun d => d.parameters.length) = some 1 := by decide +kernel
theorem hd_12_isJunction : yX12_isJunction.cls = RX12 ∧ yX12_isJunction.cls ≠ "java/lang/invoke/MethodHandle" ∧ yX12_isJunction.cls ≠ "java/lang/invoke/VarHandle" ∧ (parseMethodDescriptor yX12_isJunction.desc).map (fun d => d.parameters.length) = some 1 := by decide +kernel
theorem hd_12_lighter : yX12_lighter.cls ≠ "java/lang/invoke/MethodHandle" ∧ yX12_lighter.cls ≠ "java/lang/invoke/VarHandle" ∧ (parseMethodDescriptor yX12_lighter.desc).map (fun d => d.parameters.length) = some 2 := by decide +kernel
theorem hd_12_remember : yX12_remember.cls = RX12 ∧ yX12_remember.cls ≠ "java/lang/invoke/MethodHandle" ∧ yX12_remember.cls ≠ "java/lang/invoke/VarHandle" ∧ (parseMethodDescriptor yX12_remember.desc).map (fun d => d.parameters.length) = some 0 := by decide +kernel
theorem hd_12_sitsAt : yX12_sitsAt.cls = RX12 ∧ yX12_sitsAt.cls ≠ "java/lang/invoke/MethodHandle" ∧ yX12_sitsAt.cls ≠ "java/lang/invoke/VarHandle" ∧ (parseMethodDescriptor yX12_sitsAt.desc).map (fun d => d.parameters.length) = some 3 := by decide +kernel
theorem hd_12_sitsBehind : yX12_sitsBehind.cls = RX12 ∧ yX12_sitsBehind.cls ≠ "java/lang/invoke/MethodHandle" ∧ yX12_sitsBehind.cls ≠ "java/lang/invoke/VarHandle" ∧ (parseMethodDescriptor yX12_sitsBehind.desc).map (fun d => d.parameters.length) = some 1 := by decide +kernel
theorem hd_12_sitting : yX12_sitting.cls = RX12 ∧ yX12_sitting.cls ≠ "java/lang/invoke/MethodHandle" ∧ yX12_sitting.cls ≠ "java/lang/invoke/VarHandle" ∧ (parseMethodDescriptor yX12_sitting.desc).map (fun d => d.parameters.length) = some 0 := by decide +kernel
theorem hd_12_stepAll : yX12_stepAll.cls = RX12 ∧ yX12_stepAll.cls ≠ "java/lang/invoke/MethodHandle" ∧ yX12_stepAll.cls ≠ "java/lang/invoke/VarHandle" ∧ (parseMethodDescriptor yX12_stepAll.desc).map (fun d => d.parameters.length) = some 0 := by decide +kernel
theorem hd_12_stepsRefused : yX12_stepsRefused.cls = RX12 ∧ yX12_stepsRefused.cls ≠ "java/lang/invoke/MethodHandle" ∧ yX12_stepsRefused.cls ≠ "java/lang/invoke/VarHandle" ∧ (parseMethodDescriptor yX12_stepsRefused.desc).map (fun d => d.parameters.length) = some 1 := by decide +kernel
theorem hd_12_takeBoat : yX12_takeBoat.cls = RX12 ∧ yX12_takeBoat.cls ≠ "java/lang/invoke/MethodHandle" ∧ yX12_takeBoat.cls ≠ "java/lang/invoke/VarHandle" ∧ (parseMethodDescriptor yX12_takeBoat.desc).map (fun d => d.parameters.length) = some 0 := by decide +kernel
theorem hd_12_takeClause : yX12_takeClause.cls = RX12 ∧ yX12_takeClause.cls ≠ "java/lang/invoke/MethodHandle" ∧ yX12_takeClause.cls ≠ "java/lang/invoke/VarHandle" ∧ (parseMethodDescriptor yX12_takeClause.desc).map (fun d => d.parameters.length) = some 0 := by decide +kernel
theorem hd_12_takeCut : yX12_takeCut.cls = RX12 ∧ yX12_takeCut.cls ≠ "java/lang/invoke/MethodHandle" ∧ yX12_takeCut.cls ≠ "java/lang/invoke/VarHandle" ∧ (parseMethodDescriptor yX12_takeCut.desc).map (fun d => d.parameters.length) = some 0 := by decide +kernel
theorem hd_12_takeGiven : yX12_takeGiven.cls = RX12 ∧ yX12_takeGiven.cls ≠ "java/lang/invoke/MethodHandle" ∧ yX12_takeGiven.cls ≠ "java/lang/invoke/VarHandle" ∧ (parseMethodDescriptor yX12_takeGiven.desc).map (fun d => d.parameters.length) = some 1 := by decide +kernel
theorem hd_12_takeJunctions : yX12_takeJunctions.cls = RX12 ∧ yX12_takeJunctions.cls ≠ "java/lang/invoke/MethodHandle" ∧ yX12_takeJunctions.cls ≠ "java/lang/invoke/VarHandle" ∧ (parseMethodDescriptor yX12_takeJunctions.desc).map (fun d => d.parameters.length) = some 0 := by decide +kernel
theorem hd_12_takeNumber : yX12_takeNumber.cls = RX12 ∧ yX12_takeNumber.cls ≠ "java/lang/invoke/MethodHandle" ∧ yX12_takeNumber.cls ≠ "java/lang/invoke/VarHandle" ∧ (parseMethodDescriptor yX12_takeNumber.desc).map (fun d => d.parameters.length) = some 2 := by decide +kernel
theorem hd_12_takeRead : yX12_takeRead.cls = RX12 ∧ yX12_takeRead.cls ≠ "java/lang/invoke/MethodHandle" ∧ yX12_takeRead.cls ≠ "java/lang/invoke/VarHandle" ∧ (parseMethodDescriptor yX12_takeRead.desc).map (fun d => d.parameters.length) = some 0 := by decide +kernel
theorem hd_12_taken : yX12_taken.cls = RX12 ∧ yX12_taken.cls ≠ "java/lang/invoke/MethodHandle" ∧ yX12_taken.cls ≠ "java/lang/invoke/VarHandle" ∧ (parseMethodDescriptor yX12_taken.desc).map (fun d => d.parameters.length) = some 0 := by decide +kernel
