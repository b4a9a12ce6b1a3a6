def m_Entries_add (y1 : Int32) (y2 : Int32) (y3 : Int32) (t_nz : Nat) (t_most : Int32) (i_t_boats : Nat → Int32) (i_t_steps : Nat → Int32) (i_t_junctions : Nat → Int32) (i_t_count : Int32) : Option (Int32 × (Nat → Int32) × (Nat → Int32) × (Nat → Int32) × (Int32)) :=
  if i_t_count < 0 then some (0, i_t_boats, i_t_steps, i_t_junctions, i_t_count) else if i_t_count < t_most then kg i_t_count t_nz (kg i_t_count t_nz (kg i_t_count t_nz (some (1, (upd i_t_boats i_t_count.toNatClampNeg y1), (upd i_t_steps i_t_count.toNatClampNeg y2), (upd i_t_junctions i_t_count.toNatClampNeg y3), (i_t_count + 1))))) else some (0, i_t_boats, i_t_steps, i_t_junctions, i_t_count)
def m_Entries_has (y1 : Int32) (t_most : Int32) (t_count : Int32) : Option (Int32) :=
  if y1 < 0 then some 0 else if t_count ≤ y1 then some 0 else if t_most ≤ y1 then some 0 else some 1
def m_Entries_boatIn (y1 : Int32) (t_nz : Nat) (t_most : Int32) (t_boats : Nat → Int32) (t_count : Int32) : Option (Int32) :=
  kb1 (m_Entries_has y1 t_most t_count) (fun r1 => if r1 = 0 then some (-1) else kg y1 t_nz (some (t_boats y1.toNatClampNeg)))
def m_Entries_stepsIn (y1 : Int32) (t_nz : Nat) (t_most : Int32) (t_steps : Nat → Int32) (t_count : Int32) : Option (Int32) :=
  kb1 (m_Entries_has y1 t_most t_count) (fun r1 => if r1 = 0 then some (-1) else kg y1 t_nz (some (t_steps y1.toNatClampNeg)))
def m_Entries_junctionIn (y1 : Int32) (t_nz : Nat) (t_most : Int32) (t_junctions : Nat → Int32) (t_count : Int32) : Option (Int32) :=
  kb1 (m_Entries_has y1 t_most t_count) (fun r1 => if r1 = 0 then some (-1) else kg y1 t_nz (some (t_junctions y1.toNatClampNeg)))
