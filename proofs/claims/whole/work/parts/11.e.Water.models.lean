def m_Water_empty  (i_t_junctions : Int32) (i_t_cuts : Int32) (i_t_boats : Int32) : Option ((Int32) × (Int32) × (Int32)) :=
  some (0, 0, 0)
def m_Water_hasJunction (y1 : Int32) (t_junctions : Int32) : Option (Int32) :=
  if y1 < 0 then some 0 else if t_junctions ≤ y1 then some 0 else some 1
def m_Water_hasCut (y1 : Int32) (t_cuts : Int32) : Option (Int32) :=
  if y1 < 0 then some 0 else if t_cuts ≤ y1 then some 0 else if 14 ≤ y1 then some 0 else some 1
def m_Water_hasBoat (y1 : Int32) (t_boats : Int32) : Option (Int32) :=
  if y1 < 0 then some 0 else if t_boats ≤ y1 then some 0 else if 5 ≤ y1 then some 0 else some 1
def m_Water_startOf (y1 : Int32) (t_boats : Int32) (t_boatAt : Nat → Int32) : Option (Int32) :=
  kb1 (m_Water_hasBoat y1 t_boats) (fun r1 => if r1 = 0 then some (-1) else kg y1 5 (some (t_boatAt y1.toNatClampNeg)))
def m_Water_startPullOf (y1 : Int32) (t_boats : Int32) (t_boatPull : Nat → Int32) : Option (Int32) :=
  kb1 (m_Water_hasBoat y1 t_boats) (fun r1 => if r1 = 0 then some 0 else kg y1 5 (some (t_boatPull y1.toNatClampNeg)))
def m_Water_wearOf (y1 : Int32) (t_boats : Int32) (t_boatWear : Nat → Int32) : Option (Int32) :=
  kb1 (m_Water_hasBoat y1 t_boats) (fun r1 => if r1 = 0 then some 0 else kg y1 5 (some (t_boatWear y1.toNatClampNeg)))
def m_Water_otherEnd (y1 : Int32) (y2 : Int32) (t_cuts : Int32) (t_cutA : Nat → Int32) (t_cutB : Nat → Int32) : Option (Int32) :=
  kb1 (m_Water_hasCut y1 t_cuts) (fun r1 => if r1 = 0 then some (-1) else kg y1 14 (if (t_cutA y1.toNatClampNeg) = y2 then kg y1 14 (some (t_cutB y1.toNatClampNeg)) else kg y1 14 (if (t_cutB y1.toNatClampNeg) = y2 then kg y1 14 (some (t_cutA y1.toNatClampNeg)) else some (-1))))
def m_Water_joined_B2  (k2 : Int32 → Int32 → Int32 → (Int32) → (Nat → Int32) → (Nat → Int32) → Option (Int32)) (x1 : Int32) (x2 : Int32) (x3 : Int32) (t_cuts : Int32) (t_cutA : Nat → Int32) (t_cutB : Nat → Int32) : Option (Int32) :=
  if t_cuts ≤ x3 then some 0 else kb1 (m_Water_otherEnd x3 x1 t_cuts t_cutA t_cutB) (fun r1 => if r1 = x2 then some 1 else k2 x1 x2 (x3 + 1) t_cuts t_cutA t_cutB)
def m_Water_joined_L2  : Nat → Int32 → Int32 → Int32 → (Int32) → (Nat → Int32) → (Nat → Int32) → Option (Int32)
  | 0 => fun _ _ _ _ _ _ => none
  | n + 1 => m_Water_joined_B2  (m_Water_joined_L2  n)
def m_Water_joined (y1 : Int32) (y2 : Int32) (t_cuts : Int32) (t_cutA : Nat → Int32) (t_cutB : Nat → Int32) : Option (Int32) :=
  m_Water_joined_L2  FU y1 y2 0 t_cuts t_cutA t_cutB
def m_Water_addCut (y1 : Int32) (y2 : Int32) (y3 : Int32) (i_t_cuts : Int32) (i_t_cutA : Nat → Int32) (i_t_cutB : Nat → Int32) (i_t_cutHard : Nat → Int32) : Option ((Int32) × (Nat → Int32) × (Nat → Int32) × (Nat → Int32)) :=
  if i_t_cuts < 0 then some (i_t_cuts, i_t_cutA, i_t_cutB, i_t_cutHard) else if i_t_cuts < 14 then kg i_t_cuts 14 (kg i_t_cuts 14 (kg i_t_cuts 14 (some ((i_t_cuts + 1), (upd i_t_cutA i_t_cuts.toNatClampNeg y1), (upd i_t_cutB i_t_cuts.toNatClampNeg y2), (upd i_t_cutHard i_t_cuts.toNatClampNeg y3))))) else some (i_t_cuts, i_t_cutA, i_t_cutB, i_t_cutHard)
def m_Water_addBoat (y1 : Int32) (y2 : Int32) (y3 : Int32) (i_t_boats : Int32) (i_t_boatAt : Nat → Int32) (i_t_boatPull : Nat → Int32) (i_t_boatWear : Nat → Int32) : Option ((Int32) × (Nat → Int32) × (Nat → Int32) × (Nat → Int32)) :=
  if i_t_boats < 0 then some (i_t_boats, i_t_boatAt, i_t_boatPull, i_t_boatWear) else if i_t_boats < 5 then kg i_t_boats 5 (kg i_t_boats 5 (kg i_t_boats 5 (some ((i_t_boats + 1), (upd i_t_boatAt i_t_boats.toNatClampNeg y1), (upd i_t_boatPull i_t_boats.toNatClampNeg y2), (upd i_t_boatWear i_t_boats.toNatClampNeg y3))))) else some (i_t_boats, i_t_boatAt, i_t_boatPull, i_t_boatWear)
def m_Water_slotOf (y1 : Int32) (y2 : Int32)  : Option (Int32) :=
  if y1 < 0 then some (-1) else if 9 ≤ y1 then some (-1) else if y2 < (-1) then some (-1) else if y2 < 9 then some (((y1 * 10) + y2) + 1) else some (-1)
def m_Water_findOnwardFrom_B98  (x1 : Int32) (x2 : Int32) (x3 : Int32) (x4 : Int32) (t_cuts : Int32) (t_cutA : Nat → Int32) (t_cutB : Nat → Int32) (t_cutHard : Nat → Int32) (t_onward : Nat → Int32) (t_onwardHard : Nat → Int32) : Option ((Nat → Int32) × (Nat → Int32)) :=
  kb1 (m_Water_slotOf x1 x2) (fun r1 => if r1 = (-1) then some (t_onward, t_onwardHard) else kg r1 90 (kg r1 90 (some ((upd t_onward r1.toNatClampNeg x3), (upd t_onwardHard r1.toNatClampNeg x4)))))
def m_Water_findOnwardFrom_B92 (k10 : Int32 → Int32 → Int32 → Int32 → Int32 → (Int32) → (Nat → Int32) → (Nat → Int32) → (Nat → Int32) → (Nat → Int32) → (Nat → Int32) → Option ((Nat → Int32) × (Nat → Int32))) (x1 : Int32) (x2 : Int32) (x3 : Int32) (x4 : Int32) (x5 : Int32) (t_cuts : Int32) (t_cutA : Nat → Int32) (t_cutB : Nat → Int32) (t_cutHard : Nat → Int32) (t_onward : Nat → Int32) (t_onwardHard : Nat → Int32) : Option ((Nat → Int32) × (Nat → Int32)) :=
  k10 x1 x2 x3 x4 (x5 + 1) t_cuts t_cutA t_cutB t_cutHard t_onward t_onwardHard
def m_Water_findOnwardFrom_B80 (k10 : Int32 → Int32 → Int32 → Int32 → Int32 → (Int32) → (Nat → Int32) → (Nat → Int32) → (Nat → Int32) → (Nat → Int32) → (Nat → Int32) → Option ((Nat → Int32) × (Nat → Int32))) (x1 : Int32) (x2 : Int32) (x5 : Int32) (x6 : Int32) (t_cuts : Int32) (t_cutA : Nat → Int32) (t_cutB : Nat → Int32) (t_cutHard : Nat → Int32) (t_onward : Nat → Int32) (t_onwardHard : Nat → Int32) : Option ((Nat → Int32) × (Nat → Int32)) :=
  kg x5 14 (m_Water_findOnwardFrom_B92 k10 x1 x2 x6 (t_cutHard x5.toNatClampNeg) x5 t_cuts t_cutA t_cutB t_cutHard t_onward t_onwardHard)
def m_Water_findOnwardFrom_B10  (k10 : Int32 → Int32 → Int32 → Int32 → Int32 → (Int32) → (Nat → Int32) → (Nat → Int32) → (Nat → Int32) → (Nat → Int32) → (Nat → Int32) → Option ((Nat → Int32) × (Nat → Int32))) (x1 : Int32) (x2 : Int32) (x3 : Int32) (x4 : Int32) (x5 : Int32) (t_cuts : Int32) (t_cutA : Nat → Int32) (t_cutB : Nat → Int32) (t_cutHard : Nat → Int32) (t_onward : Nat → Int32) (t_onwardHard : Nat → Int32) : Option ((Nat → Int32) × (Nat → Int32)) :=
  if t_cuts ≤ x5 then m_Water_findOnwardFrom_B98  x1 x2 x3 x4 t_cuts t_cutA t_cutB t_cutHard t_onward t_onwardHard else if 14 ≤ x5 then m_Water_findOnwardFrom_B98  x1 x2 x3 x4 t_cuts t_cutA t_cutB t_cutHard t_onward t_onwardHard else kb1 (m_Water_otherEnd x5 x1 t_cuts t_cutA t_cutB) (fun r5 => if r5 = (-1) then m_Water_findOnwardFrom_B92 k10 x1 x2 x3 x4 x5 t_cuts t_cutA t_cutB t_cutHard t_onward t_onwardHard else if r5 = x2 then m_Water_findOnwardFrom_B92 k10 x1 x2 x3 x4 x5 t_cuts t_cutA t_cutB t_cutHard t_onward t_onwardHard else kg x5 14 (if (t_cutHard x5.toNatClampNeg) < x4 then m_Water_findOnwardFrom_B80 k10 x1 x2 x5 r5 t_cuts t_cutA t_cutB t_cutHard t_onward t_onwardHard else kg x5 14 (if (t_cutHard x5.toNatClampNeg) = x4 then if x3 ≤ r5 then m_Water_findOnwardFrom_B92 k10 x1 x2 x3 x4 x5 t_cuts t_cutA t_cutB t_cutHard t_onward t_onwardHard else m_Water_findOnwardFrom_B80 k10 x1 x2 x5 r5 t_cuts t_cutA t_cutB t_cutHard t_onward t_onwardHard else m_Water_findOnwardFrom_B92 k10 x1 x2 x3 x4 x5 t_cuts t_cutA t_cutB t_cutHard t_onward t_onwardHard)))
def m_Water_findOnwardFrom_L10  : Nat → Int32 → Int32 → Int32 → Int32 → Int32 → (Int32) → (Nat → Int32) → (Nat → Int32) → (Nat → Int32) → (Nat → Int32) → (Nat → Int32) → Option ((Nat → Int32) × (Nat → Int32))
  | 0 => fun _ _ _ _ _ _ _ _ _ _ _ => none
  | n + 1 => m_Water_findOnwardFrom_B10  (m_Water_findOnwardFrom_L10  n)
def m_Water_findOnwardFrom (y1 : Int32) (y2 : Int32) (t_cuts : Int32) (t_cutA : Nat → Int32) (t_cutB : Nat → Int32) (t_cutHard : Nat → Int32) (i_t_onward : Nat → Int32) (i_t_onwardHard : Nat → Int32) : Option ((Nat → Int32) × (Nat → Int32)) :=
  m_Water_findOnwardFrom_L10  FU y1 y2 (-1) 1000 0 t_cuts t_cutA t_cutB t_cutHard i_t_onward i_t_onwardHard
def m_Water_findOnward_B28 (k2 : Int32 → (Int32) → (Nat → Int32) → (Nat → Int32) → (Nat → Int32) → (Nat → Int32) → (Nat → Int32) → Option ((Nat → Int32) × (Nat → Int32))) (x1 : Int32) (t_cuts : Int32) (t_cutA : Nat → Int32) (t_cutB : Nat → Int32) (t_cutHard : Nat → Int32) (t_onward : Nat → Int32) (t_onwardHard : Nat → Int32) : Option ((Nat → Int32) × (Nat → Int32)) :=
  k2 (x1 + 1) t_cuts t_cutA t_cutB t_cutHard t_onward t_onwardHard
def m_Water_findOnward_B10 (k2 : Int32 → (Int32) → (Nat → Int32) → (Nat → Int32) → (Nat → Int32) → (Nat → Int32) → (Nat → Int32) → Option ((Nat → Int32) × (Nat → Int32))) (k10 : Int32 → Int32 → (Int32) → (Nat → Int32) → (Nat → Int32) → (Nat → Int32) → (Nat → Int32) → (Nat → Int32) → Option ((Nat → Int32) × (Nat → Int32))) (x1 : Int32) (x2 : Int32) (t_cuts : Int32) (t_cutA : Nat → Int32) (t_cutB : Nat → Int32) (t_cutHard : Nat → Int32) (t_onward : Nat → Int32) (t_onwardHard : Nat → Int32) : Option ((Nat → Int32) × (Nat → Int32)) :=
  if 9 ≤ x2 then m_Water_findOnward_B28 k2 x1 t_cuts t_cutA t_cutB t_cutHard t_onward t_onwardHard else kb2 (m_Water_findOnwardFrom x1 x2 t_cuts t_cutA t_cutB t_cutHard t_onward t_onwardHard) (fun t_onward_1 t_onwardHard_1 => k10 x1 (x2 + 1) t_cuts t_cutA t_cutB t_cutHard t_onward_1 t_onwardHard_1)
def m_Water_findOnward_L10 (k2 : Int32 → (Int32) → (Nat → Int32) → (Nat → Int32) → (Nat → Int32) → (Nat → Int32) → (Nat → Int32) → Option ((Nat → Int32) × (Nat → Int32))) : Nat → Int32 → Int32 → (Int32) → (Nat → Int32) → (Nat → Int32) → (Nat → Int32) → (Nat → Int32) → (Nat → Int32) → Option ((Nat → Int32) × (Nat → Int32))
  | 0 => fun _ _ _ _ _ _ _ _ => none
  | n + 1 => m_Water_findOnward_B10 k2 (m_Water_findOnward_L10 k2 n)
def m_Water_findOnward_B2  (k2 : Int32 → (Int32) → (Nat → Int32) → (Nat → Int32) → (Nat → Int32) → (Nat → Int32) → (Nat → Int32) → Option ((Nat → Int32) × (Nat → Int32))) (x1 : Int32) (t_cuts : Int32) (t_cutA : Nat → Int32) (t_cutB : Nat → Int32) (t_cutHard : Nat → Int32) (t_onward : Nat → Int32) (t_onwardHard : Nat → Int32) : Option ((Nat → Int32) × (Nat → Int32)) :=
  if 9 ≤ x1 then some (t_onward, t_onwardHard) else m_Water_findOnward_L10 k2 FU x1 (-1) t_cuts t_cutA t_cutB t_cutHard t_onward t_onwardHard
def m_Water_findOnward_L2  : Nat → Int32 → (Int32) → (Nat → Int32) → (Nat → Int32) → (Nat → Int32) → (Nat → Int32) → (Nat → Int32) → Option ((Nat → Int32) × (Nat → Int32))
  | 0 => fun _ _ _ _ _ _ _ => none
  | n + 1 => m_Water_findOnward_B2  (m_Water_findOnward_L2  n)
def m_Water_findOnward  (t_cuts : Int32) (t_cutA : Nat → Int32) (t_cutB : Nat → Int32) (t_cutHard : Nat → Int32) (i_t_onward : Nat → Int32) (i_t_onwardHard : Nat → Int32) : Option ((Nat → Int32) × (Nat → Int32)) :=
  m_Water_findOnward_L2  FU 0 t_cuts t_cutA t_cutB t_cutHard i_t_onward i_t_onwardHard
def m_Water_goesTo (y1 : Int32) (y2 : Int32) (t_onward : Nat → Int32) : Option (Int32) :=
  kb1 (m_Water_slotOf y1 y2) (fun r1 => if r1 = (-1) then some (-1) else kg r1 90 (some (t_onward r1.toNatClampNeg)))
def m_Water_hardOn (y1 : Int32) (y2 : Int32) (t_onwardHard : Nat → Int32) : Option (Int32) :=
  kb1 (m_Water_slotOf y1 y2) (fun r1 => if r1 = (-1) then some 1000 else kg r1 90 (some (t_onwardHard r1.toNatClampNeg)))
