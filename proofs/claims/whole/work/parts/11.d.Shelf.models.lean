def m_Shelf_store (y1 : Int32) (t_nz : Nat) (t_slots : Int32) (i_t_rows : Nat → Int32) (fl_row : Nat → Int32) : Option ((Nat → Int32)) :=
  if y1 < 0 then some i_t_rows else if t_slots ≤ y1 then some i_t_rows else kcp 0 (y1 * 21) 21 21 t_nz (some (va_cpy fl_row i_t_rows (0 : Int32).toNatClampNeg (y1 * 21).toNatClampNeg (21 : Int32).toNatClampNeg))
def m_Shelf_fetch (y1 : Int32) (t_nz : Nat) (t_slots : Int32) (t_rows : Nat → Int32) (i_fl_row : Nat → Int32) : Option ((Nat → Int32)) :=
  if y1 < 0 then some i_fl_row else if t_slots ≤ y1 then some i_fl_row else kcp (y1 * 21) 0 21 t_nz 21 (some (va_cpy t_rows i_fl_row (y1 * 21).toNatClampNeg (0 : Int32).toNatClampNeg (21 : Int32).toNatClampNeg))
