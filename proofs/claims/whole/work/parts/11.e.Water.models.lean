def m_Water_empty  (t_junctions : Int32) (t_cuts : Int32) (t_boats : Int32) : Option ((Int32) × (Int32) × (Int32)) :=
  some (0, 0, 0)
def m_Water_hasJunction (x1 : Int32) (t_junctions : Int32) : Option (Int32) :=
  if x1 < 0 then some 0 else if t_junctions ≤ x1 then some 0 else some 1
def m_Water_hasCut (x1 : Int32) (t_cuts : Int32) : Option (Int32) :=
  if x1 < 0 then some 0 else if t_cuts ≤ x1 then some 0 else if 14 ≤ x1 then some 0 else some 1
def m_Water_hasBoat (x1 : Int32) (t_boats : Int32) : Option (Int32) :=
  if x1 < 0 then some 0 else if t_boats ≤ x1 then some 0 else if 5 ≤ x1 then some 0 else some 1
def m_Water_startOf (x1 : Int32) (t_boats : Int32) (t_boatAt : Nat → Int32) : Option (Int32) :=
  kb1 (m_Water_hasBoat x1 t_boats) (fun r1 => if r1 = 0 then some (-1) else kg x1 5 (some (t_boatAt x1.toNatClampNeg)))
def m_Water_startPullOf (x1 : Int32) (t_boats : Int32) (t_boatPull : Nat → Int32) : Option (Int32) :=
  kb1 (m_Water_hasBoat x1 t_boats) (fun r1 => if r1 = 0 then some 0 else kg x1 5 (some (t_boatPull x1.toNatClampNeg)))
def m_Water_wearOf (x1 : Int32) (t_boats : Int32) (t_boatWear : Nat → Int32) : Option (Int32) :=
  kb1 (m_Water_hasBoat x1 t_boats) (fun r1 => if r1 = 0 then some 0 else kg x1 5 (some (t_boatWear x1.toNatClampNeg)))
def m_Water_otherEnd (x1 : Int32) (x2 : Int32) (t_cuts : Int32) (t_cutA : Nat → Int32) (t_cutB : Nat → Int32) : Option (Int32) :=
  kb1 (m_Water_hasCut x1 t_cuts) (fun r1 => if r1 = 0 then some (-1) else kg x1 14 (if (t_cutA x1.toNatClampNeg) = x2 then kg x1 14 (some (t_cutB x1.toNatClampNeg)) else kg x1 14 (if (t_cutB x1.toNatClampNeg) = x2 then kg x1 14 (some (t_cutA x1.toNatClampNeg)) else some (-1))))
def m_Water_joined_B2  (k2 : Int32 → Int32 → Int32 → (Int32) → (Nat → Int32) → (Nat → Int32) → Option (Int32)) (x1 : Int32) (x2 : Int32) (x3 : Int32) (t_cuts : Int32) (t_cutA : Nat → Int32) (t_cutB : Nat → Int32) : Option (Int32) :=
  if t_cuts ≤ x3 then some 0 else kb1 (m_Water_otherEnd x3 x1 t_cuts t_cutA t_cutB) (fun r1 => if r1 = x2 then some 1 else k2 x1 x2 (x3 + 1) t_cuts t_cutA t_cutB)
def m_Water_joined_L2  : Nat → Int32 → Int32 → Int32 → (Int32) → (Nat → Int32) → (Nat → Int32) → Option (Int32)
  | 0 => fun _ _ _ _ _ _ => none
  | n + 1 => m_Water_joined_B2  (m_Water_joined_L2  n)
def m_Water_joined (x1 : Int32) (x2 : Int32) (t_cuts : Int32) (t_cutA : Nat → Int32) (t_cutB : Nat → Int32) : Option (Int32) :=
  m_Water_joined_L2  FU x1 x2 0 t_cuts t_cutA t_cutB
def m_Water_addCut (x1 : Int32) (x2 : Int32) (x3 : Int32) (t_cuts : Int32) (t_cutA : Nat → Int32) (t_cutB : Nat → Int32) (t_cutHard : Nat → Int32) : Option ((Int32) × (Nat → Int32) × (Nat → Int32) × (Nat → Int32)) :=
  if t_cuts < 0 then some (t_cuts, t_cutA, t_cutB, t_cutHard) else if t_cuts < 14 then kg t_cuts 14 (kg t_cuts 14 (kg t_cuts 14 (some ((t_cuts + 1), (upd t_cutA t_cuts.toNatClampNeg x1), (upd t_cutB t_cuts.toNatClampNeg x2), (upd t_cutHard t_cuts.toNatClampNeg x3))))) else some (t_cuts, t_cutA, t_cutB, t_cutHard)
def m_Water_addBoat (x1 : Int32) (x2 : Int32) (x3 : Int32) (t_boats : Int32) (t_boatAt : Nat → Int32) (t_boatPull : Nat → Int32) (t_boatWear : Nat → Int32) : Option ((Int32) × (Nat → Int32) × (Nat → Int32) × (Nat → Int32)) :=
  if t_boats < 0 then some (t_boats, t_boatAt, t_boatPull, t_boatWear) else if t_boats < 5 then kg t_boats 5 (kg t_boats 5 (kg t_boats 5 (some ((t_boats + 1), (upd t_boatAt t_boats.toNatClampNeg x1), (upd t_boatPull t_boats.toNatClampNeg x2), (upd t_boatWear t_boats.toNatClampNeg x3))))) else some (t_boats, t_boatAt, t_boatPull, t_boatWear)
def m_Water_slotOf (x1 : Int32) (x2 : Int32)  : Option (Int32) :=
  if x1 < 0 then some (-1) else if 9 ≤ x1 then some (-1) else if x2 < (-1) then some (-1) else if x2 < 9 then some (((x1 * 10) + x2) + 1) else some (-1)
def m_Water_findOnwardFrom_B98  (x1 : Int32) (x2 : Int32) (x3 : Int32) (x4 : Int32) (t_cuts : Int32) (t_cutA : Nat → Int32) (t_cutB : Nat → Int32) (t_cutHard : Nat → Int32) (t_onward : Nat → Int32) (t_onwardHard : Nat → Int32) : Option ((Nat → Int32) × (Nat → Int32)) :=
  kb1 (m_Water_slotOf x1 x2) (fun r1 => if r1 = (-1) then some (t_onward, t_onwardHard) else kg r1 90 (kg r1 90 (some ((upd t_onward r1.toNatClampNeg x3), (upd t_onwardHard r1.toNatClampNeg x4)))))
def m_Water_findOnwardFrom_B92 (k10 : Int32 → Int32 → Int32 → Int32 → Int32 → (Int32) → (Nat → Int32) → (Nat → Int32) → (Nat → Int32) → (Nat → Int32) → (Nat → Int32) → Option ((Nat → Int32) × (Nat → Int32))) (x1 : Int32) (x2 : Int32) (x3 : Int32) (x4 : Int32) (x5 : Int32) (t_cuts : Int32) (t_cutA : Nat → Int32) (t_cutB : Nat → Int32) (t_cutHard : Nat → Int32) (t_onward : Nat → Int32) (t_onwardHard : Nat → Int32) : Option ((Nat → Int32) × (Nat → Int32)) :=
  k10 x1 x2 x3 x4 (x5 + 1) t_cuts t_cutA t_cutB t_cutHard t_onward t_onwardHard
def m_Water_findOnwardFrom_B80 (k10 : Int32 → Int32 → Int32 → Int32 → Int32 → (Int32) → (Nat → Int32) → (Nat → Int32) → (Nat → Int32) → (Nat → Int32) → (Nat → Int32) → Option ((Nat → Int32) × (Nat → Int32))) (x1 : Int32) (x2 : Int32) (x5 : Int32) (x6 : Int32) (t_cuts : Int32) (t_cutA : Nat → Int32) (t_cutB : Nat → Int32) (t_cutHard : Nat → Int32) (t_onward : Nat → Int32) (t_onwardHard : Nat → Int32) : Option ((Nat → Int32) × (Nat → Int32)) :=
  kg x5 14 (m_Water_findOnwardFrom_B92 k10 x1 x2 x6 (t_cutHard x5.toNatClampNeg) x5 t_cuts t_cutA t_cutB t_cutHard t_onward t_onwardHard)
def m_Water_findOnwardFrom_B10  (k10 : Int32 → Int32 → Int32 → Int32 → Int32 → (Int32) → (Nat → Int32) → (Nat → Int32) → (Nat → Int32) → (Nat → Int32) → (Nat → Int32) → Option ((Nat → Int32) × (Nat → Int32))) (x1 : Int32) (x2 : Int32) (x3 : Int32) (x4 : Int32) (x5 : Int32) (t_cuts : Int32) (t_cutA : Nat → Int32) (t_cutB : Nat → Int32) (t_cutHard : Nat → Int32) (t_onward : Nat → Int32) (t_onwardHard : Nat → Int32) : Option ((Nat → Int32) × (Nat → Int32)) :=
  if t_cuts ≤ x5 then m_Water_findOnwardFrom_B98  x1 x2 x3 x4 t_cuts t_cutA t_cutB t_cutHard t_onward t_onwardHard else if 14 ≤ x5 then m_Water_findOnwardFrom_B98  x1 x2 x3 x4 t_cuts t_cutA t_cutB t_cutHard t_onward t_onwardHard else kb1 (m_Water_otherEnd x5 x1 t_cuts t_cutA t_cutB) (fun r5 => if r5 = (-1) then m_Water_findOnwardFrom_B92 k10 x1 x2 x3 x4 x5 t_cuts t_cutA t_cutB t_cutHard t_onward t_onwardHard else if r5 = x2 then m_Water_findOnwardFrom_B92 k10 x1 x2 x3 x4 x5 t_cuts t_cutA t_cutB t_cutHard t_onward t_onwardHard else kg x5 14 (if (t_cutHard x5.toNatClampNeg) < x4 then m_Water_findOnwardFrom_B80 k10 x1 x2 x5 r5 t_cuts t_cutA t_cutB t_cutHard t_onward t_onwardHard else kg x5 14 (if (t_cutHard x5.toNatClampNeg) = x4 then if x3 ≤ r5 then m_Water_findOnwardFrom_B92 k10 x1 x2 x3 x4 x5 t_cuts t_cutA t_cutB t_cutHard t_onward t_onwardHard else m_Water_findOnwardFrom_B80 k10 x1 x2 x5 r5 t_cuts t_cutA t_cutB t_cutHard t_onward t_onwardHard else m_Water_findOnwardFrom_B92 k10 x1 x2 x3 x4 x5 t_cuts t_cutA t_cutB t_cutHard t_onward t_onwardHard)))
def m_Water_findOnwardFrom_L10  : Nat → Int32 → Int32 → Int32 → Int32 → Int32 → (Int32) → (Nat → Int32) → (Nat → Int32) → (Nat → Int32) → (Nat → Int32) → (Nat → Int32) → Option ((Nat → Int32) × (Nat → Int32))
  | 0 => fun _ _ _ _ _ _ _ _ _ _ _ => none
  | n + 1 => m_Water_findOnwardFrom_B10  (m_Water_findOnwardFrom_L10  n)
def m_Water_findOnwardFrom (x1 : Int32) (x2 : Int32) (t_cuts : Int32) (t_cutA : Nat → Int32) (t_cutB : Nat → Int32) (t_cutHard : Nat → Int32) (t_onward : Nat → Int32) (t_onwardHard : Nat → Int32) : Option ((Nat → Int32) × (Nat → Int32)) :=
  m_Water_findOnwardFrom_L10  FU x1 x2 (-1) 1000 0 t_cuts t_cutA t_cutB t_cutHard t_onward t_onwardHard
def m_Water_findOnward_B28 (k2 : Int32 → (Int32) → (Nat → Int32) → (Nat → Int32) → (Nat → Int32) → (Nat → Int32) → (Nat → Int32) → Option ((Nat → Int32) × (Nat → Int32))) (x1 : Int32) (t_cuts : Int32) (t_cutA : Nat → Int32) (t_cutB : Nat → Int32) (t_cutHard : Nat → Int32) (t_onward : Nat → Int32) (t_onwardHard : Nat → Int32) : Option ((Nat → Int32) × (Nat → Int32)) :=
  k2 (x1 + 1) t_cuts t_cutA t_cutB t_cutHard t_onward t_onwardHard
def m_Water_findOnward_B10 (k2 : Int32 → (Int32) → (Nat → Int32) → (Nat → Int32) → (Nat → Int32) → (Nat → Int32) → (Nat → Int32) → Option ((Nat → Int32) × (Nat → Int32))) (k10 : Int32 → Int32 → (Int32) → (Nat → Int32) → (Nat → Int32) → (Nat → Int32) → (Nat → Int32) → (Nat → Int32) → Option ((Nat → Int32) × (Nat → Int32))) (x1 : Int32) (x2 : Int32) (t_cuts : Int32) (t_cutA : Nat → Int32) (t_cutB : Nat → Int32) (t_cutHard : Nat → Int32) (t_onward : Nat → Int32) (t_onwardHard : Nat → Int32) : Option ((Nat → Int32) × (Nat → Int32)) :=
  if 9 ≤ x2 then m_Water_findOnward_B28 k2 x1 t_cuts t_cutA t_cutB t_cutHard t_onward t_onwardHard else kb2 (m_Water_findOnwardFrom x1 x2 t_cuts t_cutA t_cutB t_cutHard t_onward t_onwardHard) (fun t_onward_1 t_onwardHard_1 => k10 x1 (x2 + 1) t_cuts t_cutA t_cutB t_cutHard t_onward_1 t_onwardHard_1)
def m_Water_findOnward_L10 (k2 : Int32 → (Int32) → (Nat → Int32) → (Nat → Int32) → (Nat → Int32) → (Nat → Int32) → (Nat → Int32) → Option ((Nat → Int32) × (Nat → Int32))) : Nat → Int32 → Int32 → (Int32) → (Nat → Int32) → (Nat → Int32) → (Nat → Int32) → (Nat → Int32) → (Nat → Int32) → Option ((Nat → Int32) × (Nat → Int32))
  | 0 => fun _ _ _ _ _ _ _ _ => none
  | n + 1 => m_Water_findOnward_B10 k2 (m_Water_findOnward_L10 k2 n)
def m_Water_findOnward_B2  (k2 : Int32 → (Int32) → (Nat → Int32) → (Nat → Int32) → (Nat → Int32) → (Nat → Int32) → (Nat → Int32) → Option ((Nat → Int32) × (Nat → Int32))) (x1 : Int32) (t_cuts : Int32) (t_cutA : Nat → Int32) (t_cutB : Nat → Int32) (t_cutHard : Nat → Int32) (t_onward : Nat → Int32) (t_onwardHard : Nat → Int32) : Option ((Nat → Int32) × (Nat → Int32)) :=
  if 9 ≤ x1 then some (t_onward, t_onwardHard) else m_Water_findOnward_L10 k2 FU x1 (-1) t_cuts t_cutA t_cutB t_cutHard t_onward t_onwardHard
def m_Water_findOnward_L2  : Nat → Int32 → (Int32) → (Nat → Int32) → (Nat → Int32) → (Nat → Int32) → (Nat → Int32) → (Nat → Int32) → Option ((Nat → Int32) × (Nat → Int32))
  | 0 => fun _ _ _ _ _ _ _ => none
  | n + 1 => m_Water_findOnward_B2  (m_Water_findOnward_L2  n)
def m_Water_findOnward  (t_cuts : Int32) (t_cutA : Nat → Int32) (t_cutB : Nat → Int32) (t_cutHard : Nat → Int32) (t_onward : Nat → Int32) (t_onwardHard : Nat → Int32) : Option ((Nat → Int32) × (Nat → Int32)) :=
  m_Water_findOnward_L2  FU 0 t_cuts t_cutA t_cutB t_cutHard t_onward t_onwardHard
def m_Water_goesTo (x1 : Int32) (x2 : Int32) (t_onward : Nat → Int32) : Option (Int32) :=
  kb1 (m_Water_slotOf x1 x2) (fun r1 => if r1 = (-1) then some (-1) else kg r1 90 (some (t_onward r1.toNatClampNeg)))
def m_Water_hardOn (x1 : Int32) (x2 : Int32) (t_onwardHard : Nat → Int32) : Option (Int32) :=
  kb1 (m_Water_slotOf x1 x2) (fun r1 => if r1 = (-1) then some 1000 else kg r1 90 (some (t_onwardHard r1.toNatClampNeg)))
