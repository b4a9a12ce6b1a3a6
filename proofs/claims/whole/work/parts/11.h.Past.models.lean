def m_Past_remember  (i_t_next : Int32) (i_t_count : Int32) (t_shelf_nz : Nat) (t_shelf_slots : Int32) (i_t_shelf_rows : Nat → Int32) (fl_row : Nat → Int32) : Option ((Int32) × (Int32) × (Nat → Int32)) :=
  kb1 (m_Shelf_store i_t_next t_shelf_nz t_shelf_slots i_t_shelf_rows fl_row) (fun t_shelf_rows_1 => kz 20 (if 20 ≤ i_t_count then some (((i_t_next + 1) - (i_t_next + 1) / 20 * 20), i_t_count, t_shelf_rows_1) else some (((i_t_next + 1) - (i_t_next + 1) / 20 * 20), (i_t_count + 1), t_shelf_rows_1)))
def m_Past_bringBack  (i_t_next : Int32) (i_t_count : Int32) (t_shelf_nz : Nat) (t_shelf_slots : Int32) (t_shelf_rows : Nat → Int32) (i_fl_row : Nat → Int32) : Option ((Int32) × (Int32) × (Nat → Int32)) :=
  if 1 ≤ i_t_count then kz 20 (kb1 (m_Shelf_fetch (((i_t_next + 20) - 1) - ((i_t_next + 20) - 1) / 20 * 20) t_shelf_nz t_shelf_slots t_shelf_rows i_fl_row) (fun fl_row_2 => some ((((i_t_next + 20) - 1) - ((i_t_next + 20) - 1) / 20 * 20), (i_t_count - 1), fl_row_2))) else some (i_t_next, i_t_count, i_fl_row)
def m_Past_forget  (i_t_count : Int32) : Option ((Int32)) :=
  some 0
