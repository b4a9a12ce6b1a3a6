def m_Shelf_store (x1 : Int32) (t_nz : Nat) (t_slots : Int32) (t_rows : Nat → Int32) (fl_row : Nat → Int32) : Option ((Nat → Int32)) :=
  if x1 < 0 then some t_rows else if t_slots ≤ x1 then some t_rows else kcp 0 (x1 * 21) 21 21 t_nz (some (va_cpy fl_row t_rows (0 : Int32).toNatClampNeg (x1 * 21).toNatClampNeg (21 : Int32).toNatClampNeg))
def m_Shelf_fetch (x1 : Int32) (t_nz : Nat) (t_slots : Int32) (t_rows : Nat → Int32) (fl_row : Nat → Int32) : Option ((Nat → Int32)) :=
  if x1 < 0 then some fl_row else if t_slots ≤ x1 then some fl_row else kcp (x1 * 21) 0 21 t_nz 21 (some (va_cpy t_rows fl_row (x1 * 21).toNatClampNeg (0 : Int32).toNatClampNeg (21 : Int32).toNatClampNeg))
