def m_Way_lay_B91 (k40 : Int32 → Int32 → Int32 → Int32 → (Nat → Int32) → (Nat → Int32) → (Int32) → (Nat → Int32) → (Nat → Int32) → Option ((Nat → Int32) × (Nat → Int32) × (Int32))) (x4 : Int32) (x6 : Int32) (x7 : Int32) (x8 : Int32) (x9 : Int32) (t_places : Nat → Int32) (t_needs : Nat → Int32) (t_last : Int32) (on_onward : Nat → Int32) (on_onwardHard : Nat → Int32) : Option ((Nat → Int32) × (Nat → Int32) × (Int32)) :=
  kg (x8 + 1) 202 (kg x8 202 (kg (x8 + 1) 202 (k40 x4 x6 x7 (x8 + 1) (upd t_places (x8 + 1).toNatClampNeg x6) (upd t_needs (x8 + 1).toNatClampNeg (if (if (t_needs x8.toNatClampNeg) < x9 then x9 else (t_needs x8.toNatClampNeg)) < 1000 then (if (t_needs x8.toNatClampNeg) < x9 then x9 else (t_needs x8.toNatClampNeg)) else 1000)) t_last on_onward on_onwardHard)))
def m_Way_lay_B40  (k40 : Int32 → Int32 → Int32 → Int32 → (Nat → Int32) → (Nat → Int32) → (Int32) → (Nat → Int32) → (Nat → Int32) → Option ((Nat → Int32) × (Nat → Int32) × (Int32))) (x4 : Int32) (x6 : Int32) (x7 : Int32) (x8 : Int32) (t_places : Nat → Int32) (t_needs : Nat → Int32) (t_last : Int32) (on_onward : Nat → Int32) (on_onwardHard : Nat → Int32) : Option ((Nat → Int32) × (Nat → Int32) × (Int32)) :=
  if t_last ≤ x8 then some (t_places, t_needs, t_last) else kb1 (m_Water_hardOn x6 x7 on_onwardHard) (fun r4 => kb1 (m_Water_goesTo x6 x7 on_onward) (fun r5 => if r5 = (-1) then m_Way_lay_B91 k40 x4 x6 x7 x8 ((r4 + (x8 * x4)) + 1) t_places t_needs t_last on_onward on_onwardHard else m_Way_lay_B91 k40 x4 r5 x6 x8 ((r4 + (x8 * x4)) + 1) t_places t_needs t_last on_onward on_onwardHard))
def m_Way_lay_L40  : Nat → Int32 → Int32 → Int32 → Int32 → (Nat → Int32) → (Nat → Int32) → (Int32) → (Nat → Int32) → (Nat → Int32) → Option ((Nat → Int32) × (Nat → Int32) × (Int32))
  | 0 => fun _ _ _ _ _ _ _ _ _ => none
  | n + 1 => m_Way_lay_B40  (m_Way_lay_L40  n)
def m_Way_lay (y2 : Int32) (y3 : Int32) (y4 : Int32) (y5 : Int32) (i_t_places : Nat → Int32) (i_t_needs : Nat → Int32) (i_t_last : Int32) (on_onward : Nat → Int32) (on_onwardHard : Nat → Int32) : Option ((Nat → Int32) × (Nat → Int32) × (Int32)) :=
  kg 0 202 (kg 0 202 (m_Way_lay_L40  FU y4 y2 y3 0 (upd i_t_places (0 : Int32).toNatClampNeg y2) (upd i_t_needs (0 : Int32).toNatClampNeg 0) (if 0 < (if 201 < y5 then 201 else y5) then (if 201 < y5 then 201 else y5) else 0) on_onward on_onwardHard))
def m_Way_place (y1 : Int32) (t_places : Nat → Int32) (t_last : Int32) : Option (Int32) :=
  if y1 < 0 then some (-1) else if t_last < y1 then some (-1) else kg y1 202 (some (t_places y1.toNatClampNeg))
def m_Way_need (y1 : Int32) (t_needs : Nat → Int32) (t_last : Int32) : Option (Int32) :=
  if y1 < 0 then some 1000 else if t_last < y1 then some 1000 else kg y1 202 (some (t_needs y1.toNatClampNeg))
def m_Way_gone_B2  (k2 : Int32 → Int32 → Int32 → (Nat → Int32) → (Int32) → Option (Int32)) (x1 : Int32) (x2 : Int32) (x3 : Int32) (t_needs : Nat → Int32) (t_last : Int32) : Option (Int32) :=
  if x2 ≤ x3 then some x3 else kb1 (m_Way_need (x3 + 1) t_needs t_last) (fun r1 => if x1 < r1 then some x3 else k2 x1 x2 (x3 + 1) t_needs t_last)
def m_Way_gone_L2  : Nat → Int32 → Int32 → Int32 → (Nat → Int32) → (Int32) → Option (Int32)
  | 0 => fun _ _ _ _ _ => none
  | n + 1 => m_Way_gone_B2  (m_Way_gone_L2  n)
def m_Way_gone (y1 : Int32) (y2 : Int32) (t_needs : Nat → Int32) (t_last : Int32) : Option (Int32) :=
  m_Way_gone_L2  FU y1 y2 0 t_needs t_last
def m_Way_placesUpTo_B4  (k4 : Int32 → Int32 → Int32 → (Nat → Int32) → (Int32) → Option (Int32)) (x1 : Int32) (x2 : Int32) (x3 : Int32) (t_places : Nat → Int32) (t_last : Int32) : Option (Int32) :=
  if x1 < x3 then some x2 else if t_last < x3 then some x2 else kg x3 202 (k4 x1 (x2 ||| (1 <<< ((t_places x3.toNatClampNeg) &&& 31))) (x3 + 1) t_places t_last)
def m_Way_placesUpTo_L4  : Nat → Int32 → Int32 → Int32 → (Nat → Int32) → (Int32) → Option (Int32)
  | 0 => fun _ _ _ _ _ => none
  | n + 1 => m_Way_placesUpTo_B4  (m_Way_placesUpTo_L4  n)
def m_Way_placesUpTo (y1 : Int32) (t_places : Nat → Int32) (t_last : Int32) : Option (Int32) :=
  m_Way_placesUpTo_L4  FU y1 0 0 t_places t_last
def m_Way_ring_B51 (k2 : Int32 → (Nat → Int32) → (Int32) → Option (Int32)) (x1 : Int32) (t_places : Nat → Int32) (t_last : Int32) : Option (Int32) :=
  k2 (x1 + 1) t_places t_last
def m_Way_ring_B2  (k2 : Int32 → (Nat → Int32) → (Int32) → Option (Int32)) (x1 : Int32) (t_places : Nat → Int32) (t_last : Int32) : Option (Int32) :=
  if t_last < (40 + x1) then some (-1) else kb1 (m_Way_place (40 + x1) t_places t_last) (fun r1 => kb1 (m_Way_place 40 t_places t_last) (fun r2 => if r1 = r2 then kb1 (m_Way_place ((40 + x1) - 1) t_places t_last) (fun r3 => kb1 (m_Way_place 39 t_places t_last) (fun r4 => if r3 = r4 then some x1 else m_Way_ring_B51 k2 x1 t_places t_last)) else m_Way_ring_B51 k2 x1 t_places t_last))
def m_Way_ring_L2  : Nat → Int32 → (Nat → Int32) → (Int32) → Option (Int32)
  | 0 => fun _ _ _ => none
  | n + 1 => m_Way_ring_B2  (m_Way_ring_L2  n)
def m_Way_ring  (t_places : Nat → Int32) (t_last : Int32) : Option (Int32) :=
  m_Way_ring_L2  FU 1 t_places t_last
def m_Way_endsAt (y1 : Int32) (y2 : Int32) (t_places : Nat → Int32) (t_needs : Nat → Int32) (t_last : Int32) : Option (Int32) :=
  kb1 (m_Way_place y1 t_places t_last) (fun r1 => if r1 = y2 then kb1 (m_Way_need y1 t_needs t_last) (fun r2 => kb1 (m_Way_need (y1 + 1) t_needs t_last) (fun r3 => if r3 ≤ r2 then some 0 else some 1)) else some 0)
def m_Way_leastLess_B69 (k5 : Int32 → Int32 → Int32 → Int32 → (Nat → Int32) → (Nat → Int32) → (Int32) → Option (Int32)) (x1 : Int32) (x2 : Int32) (x3 : Int32) (x4 : Int32) (t_places : Nat → Int32) (t_needs : Nat → Int32) (t_last : Int32) : Option (Int32) :=
  k5 x1 x2 x3 (x4 + 1) t_places t_needs t_last
def m_Way_leastLess_B66 (k5 : Int32 → Int32 → Int32 → Int32 → (Nat → Int32) → (Nat → Int32) → (Int32) → Option (Int32)) (x1 : Int32) (x2 : Int32) (x4 : Int32) (x5 : Int32) (t_places : Nat → Int32) (t_needs : Nat → Int32) (t_last : Int32) : Option (Int32) :=
  m_Way_leastLess_B69 k5 x1 x2 x5 x4 t_places t_needs t_last
def m_Way_leastLess_B5  (k5 : Int32 → Int32 → Int32 → Int32 → (Nat → Int32) → (Nat → Int32) → (Int32) → Option (Int32)) (x1 : Int32) (x2 : Int32) (x3 : Int32) (x4 : Int32) (t_places : Nat → Int32) (t_needs : Nat → Int32) (t_last : Int32) : Option (Int32) :=
  if t_last ≤ x4 then some x3 else kb1 (m_Way_endsAt x4 x2 t_places t_needs t_last) (fun r1 => if r1 = 0 then m_Way_leastLess_B69 k5 x1 x2 x3 x4 t_places t_needs t_last else kb1 (m_Way_need x4 t_needs t_last) (fun r2 => if r2 ≤ x1 then kb1 (m_Way_need (x4 + 1) t_needs t_last) (fun r3 => if x3 = (-1) then m_Way_leastLess_B66 k5 x1 x2 x4 (if 0 < ((x1 - r3) + 1) then ((x1 - r3) + 1) else 0) t_places t_needs t_last else if x3 ≤ (if 0 < ((x1 - r3) + 1) then ((x1 - r3) + 1) else 0) then m_Way_leastLess_B69 k5 x1 x2 x3 x4 t_places t_needs t_last else m_Way_leastLess_B66 k5 x1 x2 x4 (if 0 < ((x1 - r3) + 1) then ((x1 - r3) + 1) else 0) t_places t_needs t_last) else m_Way_leastLess_B69 k5 x1 x2 x3 x4 t_places t_needs t_last))
def m_Way_leastLess_L5  : Nat → Int32 → Int32 → Int32 → Int32 → (Nat → Int32) → (Nat → Int32) → (Int32) → Option (Int32)
  | 0 => fun _ _ _ _ _ _ _ => none
  | n + 1 => m_Way_leastLess_B5  (m_Way_leastLess_L5  n)
def m_Way_leastLess (y1 : Int32) (y2 : Int32) (t_places : Nat → Int32) (t_needs : Nat → Int32) (t_last : Int32) : Option (Int32) :=
  m_Way_leastLess_L5  FU y1 y2 (-1) 0 t_places t_needs t_last
def m_Way_leastMore_B67 (k5 : Int32 → Int32 → Int32 → Int32 → (Nat → Int32) → (Nat → Int32) → (Int32) → Option (Int32)) (x1 : Int32) (x2 : Int32) (x3 : Int32) (x4 : Int32) (t_places : Nat → Int32) (t_needs : Nat → Int32) (t_last : Int32) : Option (Int32) :=
  k5 x1 x2 x3 (x4 + 1) t_places t_needs t_last
def m_Way_leastMore_B64 (k5 : Int32 → Int32 → Int32 → Int32 → (Nat → Int32) → (Nat → Int32) → (Int32) → Option (Int32)) (x1 : Int32) (x2 : Int32) (x4 : Int32) (x5 : Int32) (t_places : Nat → Int32) (t_needs : Nat → Int32) (t_last : Int32) : Option (Int32) :=
  m_Way_leastMore_B67 k5 x1 x2 x5 x4 t_places t_needs t_last
def m_Way_leastMore_B5  (k5 : Int32 → Int32 → Int32 → Int32 → (Nat → Int32) → (Nat → Int32) → (Int32) → Option (Int32)) (x1 : Int32) (x2 : Int32) (x3 : Int32) (x4 : Int32) (t_places : Nat → Int32) (t_needs : Nat → Int32) (t_last : Int32) : Option (Int32) :=
  if t_last ≤ x4 then some x3 else kb1 (m_Way_endsAt x4 x2 t_places t_needs t_last) (fun r1 => if r1 = 0 then m_Way_leastMore_B67 k5 x1 x2 x3 x4 t_places t_needs t_last else kb1 (m_Way_need (x4 + 1) t_needs t_last) (fun r2 => if x1 < r2 then kb1 (m_Way_need x4 t_needs t_last) (fun r3 => if x3 = (-1) then m_Way_leastMore_B64 k5 x1 x2 x4 (if 0 < (r3 - x1) then (r3 - x1) else 0) t_places t_needs t_last else if x3 ≤ (if 0 < (r3 - x1) then (r3 - x1) else 0) then m_Way_leastMore_B67 k5 x1 x2 x3 x4 t_places t_needs t_last else m_Way_leastMore_B64 k5 x1 x2 x4 (if 0 < (r3 - x1) then (r3 - x1) else 0) t_places t_needs t_last) else m_Way_leastMore_B67 k5 x1 x2 x3 x4 t_places t_needs t_last))
def m_Way_leastMore_L5  : Nat → Int32 → Int32 → Int32 → Int32 → (Nat → Int32) → (Nat → Int32) → (Int32) → Option (Int32)
  | 0 => fun _ _ _ _ _ _ _ => none
  | n + 1 => m_Way_leastMore_B5  (m_Way_leastMore_L5  n)
def m_Way_leastMore (y1 : Int32) (y2 : Int32) (t_places : Nat → Int32) (t_needs : Nat → Int32) (t_last : Int32) : Option (Int32) :=
  m_Way_leastMore_L5  FU y1 y2 (-1) 0 t_places t_needs t_last
