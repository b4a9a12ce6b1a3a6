def m_Entries_add (x1 : Int32) (x2 : Int32) (x3 : Int32) (t_nz : Nat) (t_most : Int32) (t_boats : Nat → Int32) (t_steps : Nat → Int32) (t_junctions : Nat → Int32) (t_count : Int32) : Option (Int32 × (Nat → Int32) × (Nat → Int32) × (Nat → Int32) × (Int32)) :=
  if t_count < 0 then some (0, t_boats, t_steps, t_junctions, t_count) else if t_count < t_most then kg t_count t_nz (kg t_count t_nz (kg t_count t_nz (some (1, (upd t_boats t_count.toNatClampNeg x1), (upd t_steps t_count.toNatClampNeg x2), (upd t_junctions t_count.toNatClampNeg x3), (t_count + 1))))) else some (0, t_boats, t_steps, t_junctions, t_count)
def m_Entries_has (x1 : Int32) (t_most : Int32) (t_count : Int32) : Option (Int32) :=
  if x1 < 0 then some 0 else if t_count ≤ x1 then some 0 else if t_most ≤ x1 then some 0 else some 1
def m_Entries_boatIn (x1 : Int32) (t_nz : Nat) (t_most : Int32) (t_boats : Nat → Int32) (t_count : Int32) : Option (Int32) :=
  kb1 (m_Entries_has x1 t_most t_count) (fun r1 => if r1 = 0 then some (-1) else kg x1 t_nz (some (t_boats x1.toNatClampNeg)))
def m_Entries_stepsIn (x1 : Int32) (t_nz : Nat) (t_most : Int32) (t_steps : Nat → Int32) (t_count : Int32) : Option (Int32) :=
  kb1 (m_Entries_has x1 t_most t_count) (fun r1 => if r1 = 0 then some (-1) else kg x1 t_nz (some (t_steps x1.toNatClampNeg)))
def m_Entries_junctionIn (x1 : Int32) (t_nz : Nat) (t_most : Int32) (t_junctions : Nat → Int32) (t_count : Int32) : Option (Int32) :=
  kb1 (m_Entries_has x1 t_most t_count) (fun r1 => if r1 = 0 then some (-1) else kg x1 t_nz (some (t_junctions x1.toNatClampNeg)))
