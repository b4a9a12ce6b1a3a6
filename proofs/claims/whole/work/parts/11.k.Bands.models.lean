def m_Bands_fits_B50 (k3 : Int32 → Int32 → Int32 → (Nat → Int32) → (Int32) → (Nat) → (Int32) → (Nat → Int32) → (Nat → Int32) → (Nat → Int32) → (Int32) → Option (Int32)) (x2 : Int32) (x3 : Int32) (x4 : Int32) (wy_places : Nat → Int32) (wy_last : Int32) (en_nz : Nat) (en_most : Int32) (en_boats : Nat → Int32) (en_steps : Nat → Int32) (en_junctions : Nat → Int32) (en_count : Int32) : Option (Int32) :=
  k3 x2 x3 (x4 + 1) wy_places wy_last en_nz en_most en_boats en_steps en_junctions en_count
def m_Bands_fits_B3  (k3 : Int32 → Int32 → Int32 → (Nat → Int32) → (Int32) → (Nat) → (Int32) → (Nat → Int32) → (Nat → Int32) → (Nat → Int32) → (Int32) → Option (Int32)) (x2 : Int32) (x3 : Int32) (x4 : Int32) (wy_places : Nat → Int32) (wy_last : Int32) (en_nz : Nat) (en_most : Int32) (en_boats : Nat → Int32) (en_steps : Nat → Int32) (en_junctions : Nat → Int32) (en_count : Int32) : Option (Int32) :=
  if en_count ≤ x4 then some 1 else kb1 (m_Entries_boatIn x4 en_nz en_most en_boats en_count) (fun r1 => if r1 = x2 then kb1 (m_Entries_stepsIn x4 en_nz en_most en_steps en_count) (fun r2 => kb1 (m_Way_place (if r2 < x3 then r2 else x3) wy_places wy_last) (fun r3 => kb1 (m_Entries_junctionIn x4 en_nz en_most en_junctions en_count) (fun r4 => if r3 = r4 then m_Bands_fits_B50 k3 x2 x3 x4 wy_places wy_last en_nz en_most en_boats en_steps en_junctions en_count else some 0))) else m_Bands_fits_B50 k3 x2 x3 x4 wy_places wy_last en_nz en_most en_boats en_steps en_junctions en_count)
def m_Bands_fits_L3  : Nat → Int32 → Int32 → Int32 → (Nat → Int32) → (Int32) → (Nat) → (Int32) → (Nat → Int32) → (Nat → Int32) → (Nat → Int32) → (Int32) → Option (Int32)
  | 0 => fun _ _ _ _ _ _ _ _ _ _ _ => none
  | n + 1 => m_Bands_fits_B3  (m_Bands_fits_L3  n)
def m_Bands_fits (y2 : Int32) (y3 : Int32) (wy_places : Nat → Int32) (wy_last : Int32) (en_nz : Nat) (en_most : Int32) (en_boats : Nat → Int32) (en_steps : Nat → Int32) (en_junctions : Nat → Int32) (en_count : Int32) : Option (Int32) :=
  m_Bands_fits_L3  FU y2 y3 0 wy_places wy_last en_nz en_most en_boats en_steps en_junctions en_count
def m_Bands_sort_B59 (k3 : Int32 → Int32 → (Nat → Int32) → (Nat → Int32) → (Nat → Int32) → (Nat → Int32) → (Int32) → (Nat) → (Int32) → (Nat → Int32) → (Nat → Int32) → (Nat → Int32) → (Int32) → Option ((Nat → Int32) × (Nat → Int32))) (x3 : Int32) (x4 : Int32) (k_1 : Int32) (k_2 : Int32) (t_lows : Nat → Int32) (t_sizes : Nat → Int32) (wy_places : Nat → Int32) (wy_needs : Nat → Int32) (wy_last : Int32) (en_nz : Nat) (en_most : Int32) (en_boats : Nat → Int32) (en_steps : Nat → Int32) (en_junctions : Nat → Int32) (en_count : Int32) : Option ((Nat → Int32) × (Nat → Int32)) :=
  kg k_1 31 (k3 x3 (x4 + 1) t_lows (upd t_sizes k_1.toNatClampNeg k_2) wy_places wy_needs wy_last en_nz en_most en_boats en_steps en_junctions en_count)
def m_Bands_sort_B3  (k3 : Int32 → Int32 → (Nat → Int32) → (Nat → Int32) → (Nat → Int32) → (Nat → Int32) → (Int32) → (Nat) → (Int32) → (Nat → Int32) → (Nat → Int32) → (Nat → Int32) → (Int32) → Option ((Nat → Int32) × (Nat → Int32))) (x3 : Int32) (x4 : Int32) (t_lows : Nat → Int32) (t_sizes : Nat → Int32) (wy_places : Nat → Int32) (wy_needs : Nat → Int32) (wy_last : Int32) (en_nz : Nat) (en_most : Int32) (en_boats : Nat → Int32) (en_steps : Nat → Int32) (en_junctions : Nat → Int32) (en_count : Int32) : Option ((Nat → Int32) × (Nat → Int32)) :=
  if 31 ≤ x4 then some (t_lows, t_sizes) else kb1 (m_Way_need x4 wy_needs wy_last) (fun r2 => kg x4 31 (kb1 (m_Bands_fits x3 x4 wy_places wy_last en_nz en_most en_boats en_steps en_junctions en_count) (fun r4 => if r4 = 0 then m_Bands_sort_B59 k3 x3 x4 x4 0 (upd t_lows x4.toNatClampNeg r2) t_sizes wy_places wy_needs wy_last en_nz en_most en_boats en_steps en_junctions en_count else kb1 (m_Way_need (x4 + 1) wy_needs wy_last) (fun r5 => kb1 (m_Way_need x4 wy_needs wy_last) (fun r6 => m_Bands_sort_B59 k3 x3 x4 x4 (r5 - r6) (upd t_lows x4.toNatClampNeg r2) t_sizes wy_places wy_needs wy_last en_nz en_most en_boats en_steps en_junctions en_count)))))
def m_Bands_sort_L3  : Nat → Int32 → Int32 → (Nat → Int32) → (Nat → Int32) → (Nat → Int32) → (Nat → Int32) → (Int32) → (Nat) → (Int32) → (Nat → Int32) → (Nat → Int32) → (Nat → Int32) → (Int32) → Option ((Nat → Int32) × (Nat → Int32))
  | 0 => fun _ _ _ _ _ _ _ _ _ _ _ _ _ => none
  | n + 1 => m_Bands_sort_B3  (m_Bands_sort_L3  n)
def m_Bands_sort (y3 : Int32) (i_t_lows : Nat → Int32) (i_t_sizes : Nat → Int32) (wy_places : Nat → Int32) (wy_needs : Nat → Int32) (wy_last : Int32) (en_nz : Nat) (en_most : Int32) (en_boats : Nat → Int32) (en_steps : Nat → Int32) (en_junctions : Nat → Int32) (en_count : Int32) : Option ((Nat → Int32) × (Nat → Int32)) :=
  m_Bands_sort_L3  FU y3 0 i_t_lows i_t_sizes wy_places wy_needs wy_last en_nz en_most en_boats en_steps en_junctions en_count
def m_Bands_total_B4  (k4 : Int32 → Int32 → (Nat → Int32) → Option (Int32)) (x1 : Int32) (x2 : Int32) (t_sizes : Nat → Int32) : Option (Int32) :=
  if 31 ≤ x2 then some x1 else kg x2 31 (k4 (x1 + (t_sizes x2.toNatClampNeg)) (x2 + 1) t_sizes)
def m_Bands_total_L4  : Nat → Int32 → Int32 → (Nat → Int32) → Option (Int32)
  | 0 => fun _ _ _ => none
  | n + 1 => m_Bands_total_B4  (m_Bands_total_L4  n)
def m_Bands_total  (t_sizes : Nat → Int32) : Option (Int32) :=
  m_Bands_total_L4  FU 0 0 t_sizes
def m_Bands_pullAt_B28  (x1 : Int32) (x2 : Int32) (x3 : Int32) (t_lows : Nat → Int32) (t_sizes : Nat → Int32) : Option (Int32) :=
  kg x3 31 (some (((t_lows x3.toNatClampNeg) + x1) - x2))
def m_Bands_pullAt_B10  (k10 : Int32 → Int32 → Int32 → (Nat → Int32) → (Nat → Int32) → Option (Int32)) (x1 : Int32) (x2 : Int32) (x3 : Int32) (t_lows : Nat → Int32) (t_sizes : Nat → Int32) : Option (Int32) :=
  if 31 ≤ x3 then some (-1) else kg x3 31 (if (x2 + (t_sizes x3.toNatClampNeg)) ≤ x1 then kg x3 31 (k10 x1 (x2 + (t_sizes x3.toNatClampNeg)) (x3 + 1) t_lows t_sizes) else m_Bands_pullAt_B28  x1 x2 x3 t_lows t_sizes)
def m_Bands_pullAt_L10  : Nat → Int32 → Int32 → Int32 → (Nat → Int32) → (Nat → Int32) → Option (Int32)
  | 0 => fun _ _ _ _ _ => none
  | n + 1 => m_Bands_pullAt_B10  (m_Bands_pullAt_L10  n)
def m_Bands_pullAt (y1 : Int32) (t_lows : Nat → Int32) (t_sizes : Nat → Int32) : Option (Int32) :=
  if 0 ≤ y1 then m_Bands_pullAt_L10  FU y1 0 0 t_lows t_sizes else some (-1)
def m_Bands_greatestPart_B89 (k26 : Int32 → Int32 → Int32 → (Nat → Int32) → (Nat → Int32) → (Nat → Int32) → (Int32) → Option (Int32 × (Nat → Int32))) (x2 : Int32) (x3 : Int32) (x4 : Int32) (t_sizes : Nat → Int32) (t_parts : Nat → Int32) (wy_places : Nat → Int32) (wy_last : Int32) : Option (Int32 × (Nat → Int32)) :=
  k26 x2 x3 (x4 + 1) t_sizes t_parts wy_places wy_last
def m_Bands_greatestPart_B26  (k26 : Int32 → Int32 → Int32 → (Nat → Int32) → (Nat → Int32) → (Nat → Int32) → (Int32) → Option (Int32 × (Nat → Int32))) (x2 : Int32) (x3 : Int32) (x4 : Int32) (t_sizes : Nat → Int32) (t_parts : Nat → Int32) (wy_places : Nat → Int32) (wy_last : Int32) : Option (Int32 × (Nat → Int32)) :=
  if 31 ≤ x4 then some (x3, t_parts) else kb1 (m_Way_place (if x2 < x4 then x2 else x4) wy_places wy_last) (fun r1 => if r1 < 0 then m_Bands_greatestPart_B89 k26 x2 x3 x4 t_sizes t_parts wy_places wy_last else if r1 < 9 then kg r1 9 (kg x4 31 (kg r1 9 (kg r1 9 (m_Bands_greatestPart_B89 k26 x2 (if x3 < ((upd t_parts r1.toNatClampNeg ((t_parts r1.toNatClampNeg) + (t_sizes x4.toNatClampNeg))) r1.toNatClampNeg) then ((upd t_parts r1.toNatClampNeg ((t_parts r1.toNatClampNeg) + (t_sizes x4.toNatClampNeg))) r1.toNatClampNeg) else x3) x4 t_sizes (upd t_parts r1.toNatClampNeg ((t_parts r1.toNatClampNeg) + (t_sizes x4.toNatClampNeg))) wy_places wy_last)))) else m_Bands_greatestPart_B89 k26 x2 x3 x4 t_sizes t_parts wy_places wy_last)
def m_Bands_greatestPart_L26  : Nat → Int32 → Int32 → Int32 → (Nat → Int32) → (Nat → Int32) → (Nat → Int32) → (Int32) → Option (Int32 × (Nat → Int32))
  | 0 => fun _ _ _ _ _ _ _ => none
  | n + 1 => m_Bands_greatestPart_B26  (m_Bands_greatestPart_L26  n)
def m_Bands_greatestPart_B21  (x2 : Int32) (t_sizes : Nat → Int32) (t_parts : Nat → Int32) (wy_places : Nat → Int32) (wy_last : Int32) : Option (Int32 × (Nat → Int32)) :=
  m_Bands_greatestPart_L26  FU x2 0 0 t_sizes t_parts wy_places wy_last
def m_Bands_greatestPart_B2  (k2 : Int32 → Int32 → (Nat → Int32) → (Nat → Int32) → (Nat → Int32) → (Int32) → Option (Int32 × (Nat → Int32))) (x2 : Int32) (x3 : Int32) (t_sizes : Nat → Int32) (t_parts : Nat → Int32) (wy_places : Nat → Int32) (wy_last : Int32) : Option (Int32 × (Nat → Int32)) :=
  if 9 ≤ x3 then m_Bands_greatestPart_B21  x2 t_sizes t_parts wy_places wy_last else kg x3 9 (k2 x2 (x3 + 1) t_sizes (upd t_parts x3.toNatClampNeg 0) wy_places wy_last)
def m_Bands_greatestPart_L2  : Nat → Int32 → Int32 → (Nat → Int32) → (Nat → Int32) → (Nat → Int32) → (Int32) → Option (Int32 × (Nat → Int32))
  | 0 => fun _ _ _ _ _ _ => none
  | n + 1 => m_Bands_greatestPart_B2  (m_Bands_greatestPart_L2  n)
def m_Bands_greatestPart (y2 : Int32) (t_sizes : Nat → Int32) (i_t_parts : Nat → Int32) (wy_places : Nat → Int32) (wy_last : Int32) : Option (Int32 × (Nat → Int32)) :=
  m_Bands_greatestPart_L2  FU y2 0 t_sizes i_t_parts wy_places wy_last
def m_Bands_bestParting_B38 (k10 : Int32 → Int32 → Int32 → (Nat → Int32) → (Nat → Int32) → (Nat → Int32) → (Int32) → Option (Int32 × (Nat → Int32))) (x2 : Int32) (x3 : Int32) (x4 : Int32) (t_sizes : Nat → Int32) (t_parts : Nat → Int32) (wy_places : Nat → Int32) (wy_last : Int32) : Option (Int32 × (Nat → Int32)) :=
  k10 x2 x3 (x4 + 1) t_sizes t_parts wy_places wy_last
def m_Bands_bestParting_B10  (k10 : Int32 → Int32 → Int32 → (Nat → Int32) → (Nat → Int32) → (Nat → Int32) → (Int32) → Option (Int32 × (Nat → Int32))) (x2 : Int32) (x3 : Int32) (x4 : Int32) (t_sizes : Nat → Int32) (t_parts : Nat → Int32) (wy_places : Nat → Int32) (wy_last : Int32) : Option (Int32 × (Nat → Int32)) :=
  if 30 < x4 then some (x2, t_parts) else kb2 (m_Bands_greatestPart x4 t_sizes t_parts wy_places wy_last) (fun r1 t_parts_1 => if x3 ≤ r1 then m_Bands_bestParting_B38 k10 x2 x3 x4 t_sizes t_parts_1 wy_places wy_last else m_Bands_bestParting_B38 k10 x4 r1 x4 t_sizes t_parts_1 wy_places wy_last)
def m_Bands_bestParting_L10  : Nat → Int32 → Int32 → Int32 → (Nat → Int32) → (Nat → Int32) → (Nat → Int32) → (Int32) → Option (Int32 × (Nat → Int32))
  | 0 => fun _ _ _ _ _ _ _ => none
  | n + 1 => m_Bands_bestParting_B10  (m_Bands_bestParting_L10  n)
def m_Bands_bestParting  (t_sizes : Nat → Int32) (i_t_parts : Nat → Int32) (wy_places : Nat → Int32) (wy_last : Int32) : Option (Int32 × (Nat → Int32)) :=
  kb1 (m_Bands_total t_sizes) (fun r2 => m_Bands_bestParting_L10  FU (-1) r2 1 t_sizes i_t_parts wy_places wy_last)
