def m_Images_isKept (y1 : Int32) (t_kept : Nat → Int32) : Option (Int32) :=
  if y1 < 0 then some 0 else if 2 ≤ y1 then some 0 else kg y1 2 (if (t_kept y1.toNatClampNeg) = 0 then some 0 else some 1)
def m_Images_keepIn (y1 : Int32) (i_t_seeds : Nat → Int32) (i_t_kept : Nat → Int32) (t_shelf_nz : Nat) (t_shelf_slots : Int32) (i_t_shelf_rows : Nat → Int32) (fl_row : Nat → Int32) (dr_value : Int32) : Option ((Nat → Int32) × (Nat → Int32) × (Nat → Int32)) :=
  if y1 < 0 then some (i_t_seeds, i_t_kept, i_t_shelf_rows) else if y1 < 2 then kb1 (m_Shelf_store y1 t_shelf_nz t_shelf_slots i_t_shelf_rows fl_row) (fun t_shelf_rows_1 => kg y1 2 (kg y1 2 (some ((upd i_t_seeds y1.toNatClampNeg dr_value), (upd i_t_kept y1.toNatClampNeg (vp_nar .boolean 1)), t_shelf_rows_1)))) else some (i_t_seeds, i_t_kept, i_t_shelf_rows)
def m_Images_bringBack (y1 : Int32) (t_seeds : Nat → Int32) (t_kept : Nat → Int32) (t_shelf_nz : Nat) (t_shelf_slots : Int32) (t_shelf_rows : Nat → Int32) (i_fl_row : Nat → Int32) (i_dr_value : Int32) : Option ((Nat → Int32) × (Int32)) :=
  kb1 (m_Images_isKept y1 t_kept) (fun r1 => if r1 = 0 then some (i_fl_row, i_dr_value) else kb1 (m_Shelf_fetch y1 t_shelf_nz t_shelf_slots t_shelf_rows i_fl_row) (fun fl_row_2 => kg y1 2 (some (fl_row_2, (t_seeds y1.toNatClampNeg)))))
def m_Images_forget_B2  (k2 : Int32 → (Nat → Int32) → Option ((Nat → Int32))) (x1 : Int32) (t_kept : Nat → Int32) : Option ((Nat → Int32)) :=
  if 2 ≤ x1 then some t_kept else kg x1 2 (k2 (x1 + 1) (upd t_kept x1.toNatClampNeg (vp_nar .boolean 0)))
def m_Images_forget_L2  : Nat → Int32 → (Nat → Int32) → Option ((Nat → Int32))
  | 0 => fun _ _ => none
  | n + 1 => m_Images_forget_B2  (m_Images_forget_L2  n)
def m_Images_forget  (i_t_kept : Nat → Int32) : Option ((Nat → Int32)) :=
  m_Images_forget_L2  FU 0 i_t_kept
