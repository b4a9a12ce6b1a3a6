def m_Fleet_get (y1 : Int32) (y2 : Int32) (t_row : Nat → Int32) : Option (Int32) :=
  if y2 < 0 then some (-1) else if 5 ≤ y2 then some (-1) else kg (y1 + y2) 21 (some (t_row (y1 + y2).toNatClampNeg))
def m_Fleet_put (y1 : Int32) (y2 : Int32) (y3 : Int32) (i_t_row : Nat → Int32) : Option ((Nat → Int32)) :=
  if y2 < 0 then some i_t_row else if 5 ≤ y2 then some i_t_row else kg (y1 + y2) 21 (some (upd i_t_row (y1 + y2).toNatClampNeg y3))
def m_Fleet_at (y1 : Int32) (t_row : Nat → Int32) : Option (Int32) :=
  kb1 (m_Fleet_get 0 y1 t_row) (fun r1 => some r1)
def m_Fleet_from (y1 : Int32) (t_row : Nat → Int32) : Option (Int32) :=
  kb1 (m_Fleet_get 5 y1 t_row) (fun r1 => some r1)
def m_Fleet_pull (y1 : Int32) (t_row : Nat → Int32) : Option (Int32) :=
  kb1 (m_Fleet_get 10 y1 t_row) (fun r1 => some r1)
def m_Fleet_went (y1 : Int32) (t_row : Nat → Int32) : Option (Int32) :=
  kb1 (m_Fleet_get 15 y1 t_row) (fun r1 => some r1)
def m_Fleet_stepsGone  (t_row : Nat → Int32) : Option (Int32) :=
  kg 20 21 (some (t_row (20 : Int32).toNatClampNeg))
def m_Fleet_launch_B51   (t_row : Nat → Int32) (on_boats : Int32) (on_boatAt : Nat → Int32) (on_boatPull : Nat → Int32) : Option ((Nat → Int32)) :=
  kg 20 21 (some (upd t_row (20 : Int32).toNatClampNeg 0))
def m_Fleet_launch_B2  (k2 : Int32 → (Nat → Int32) → (Int32) → (Nat → Int32) → (Nat → Int32) → Option ((Nat → Int32))) (x2 : Int32) (t_row : Nat → Int32) (on_boats : Int32) (on_boatAt : Nat → Int32) (on_boatPull : Nat → Int32) : Option ((Nat → Int32)) :=
  if 5 ≤ x2 then m_Fleet_launch_B51  t_row on_boats on_boatAt on_boatPull else kb1 (m_Water_startOf x2 on_boats on_boatAt) (fun r2 => kb1 (m_Fleet_put 0 x2 r2 t_row) (fun t_row_3 => kb1 (m_Fleet_put 5 x2 (-1) t_row_3) (fun t_row_4 => kb1 (m_Water_startPullOf x2 on_boats on_boatPull) (fun r5 => kb1 (m_Fleet_put 10 x2 r5 t_row_4) (fun t_row_6 => kb1 (m_Fleet_put 15 x2 0 t_row_6) (fun t_row_7 => k2 (x2 + 1) t_row_7 on_boats on_boatAt on_boatPull))))))
def m_Fleet_launch_L2  : Nat → Int32 → (Nat → Int32) → (Int32) → (Nat → Int32) → (Nat → Int32) → Option ((Nat → Int32))
  | 0 => fun _ _ _ _ _ => none
  | n + 1 => m_Fleet_launch_B2  (m_Fleet_launch_L2  n)
def m_Fleet_launch  (i_t_row : Nat → Int32) (on_boats : Int32) (on_boatAt : Nat → Int32) (on_boatPull : Nat → Int32) : Option ((Nat → Int32)) :=
  m_Fleet_launch_L2  FU 0 i_t_row on_boats on_boatAt on_boatPull
def m_Fleet_isSitting (y2 : Int32) (t_row : Nat → Int32) (on_onwardHard : Nat → Int32) : Option (Int32) :=
  kb1 (m_Fleet_pull y2 t_row) (fun r1 => kb1 (m_Fleet_at y2 t_row) (fun r2 => kb1 (m_Fleet_from y2 t_row) (fun r3 => kb1 (m_Water_hardOn r2 r3 on_onwardHard) (fun r4 => if r4 < r1 then some 0 else some 1))))
def m_Fleet_lighten (y1 : Int32) (y2 : Int32) (i_t_row : Nat → Int32) : Option ((Nat → Int32)) :=
  kb1 (m_Fleet_pull y1 i_t_row) (fun r1 => kb1 (m_Fleet_put 10 y1 (if 0 < (r1 - y2) then (r1 - y2) else 0) i_t_row) (fun t_row_2 => some t_row_2))
def m_Fleet_advance (y2 : Int32) (i_t_row : Nat → Int32) (on_boats : Int32) (on_boatWear : Nat → Int32) (on_onward : Nat → Int32) (on_onwardHard : Nat → Int32) : Option ((Nat → Int32)) :=
  kb1 (m_Fleet_isSitting y2 i_t_row on_onwardHard) (fun r1 => if r1 = 0 then kb1 (m_Fleet_at y2 i_t_row) (fun r2 => kb1 (m_Fleet_from y2 i_t_row) (fun r3 => kb1 (m_Water_goesTo r2 r3 on_onward) (fun r4 => kb1 (m_Fleet_put 0 y2 r4 i_t_row) (fun t_row_5 => kb1 (m_Fleet_put 5 y2 r2 t_row_5) (fun t_row_6 => kb1 (m_Fleet_went y2 t_row_6) (fun r7 => kb1 (m_Fleet_put 15 y2 (r7 + 1) t_row_6) (fun t_row_8 => kb1 (m_Water_wearOf y2 on_boats on_boatWear) (fun r9 => kb1 (m_Fleet_lighten y2 r9 t_row_8) (fun t_row_10 => some t_row_10))))))))) else some i_t_row)
def m_Fleet_advanceAll_B22   (t_row : Nat → Int32) (on_boats : Int32) (on_boatWear : Nat → Int32) (on_onward : Nat → Int32) (on_onwardHard : Nat → Int32) : Option ((Nat → Int32)) :=
  kg 20 21 (kg 20 21 (some (upd t_row (20 : Int32).toNatClampNeg ((t_row (20 : Int32).toNatClampNeg) + 1))))
def m_Fleet_advanceAll_B2  (k2 : Int32 → (Nat → Int32) → (Int32) → (Nat → Int32) → (Nat → Int32) → (Nat → Int32) → Option ((Nat → Int32))) (x2 : Int32) (t_row : Nat → Int32) (on_boats : Int32) (on_boatWear : Nat → Int32) (on_onward : Nat → Int32) (on_onwardHard : Nat → Int32) : Option ((Nat → Int32)) :=
  if on_boats ≤ x2 then m_Fleet_advanceAll_B22  t_row on_boats on_boatWear on_onward on_onwardHard else kb1 (m_Fleet_advance x2 t_row on_boats on_boatWear on_onward on_onwardHard) (fun t_row_3 => k2 (x2 + 1) t_row_3 on_boats on_boatWear on_onward on_onwardHard)
def m_Fleet_advanceAll_L2  : Nat → Int32 → (Nat → Int32) → (Int32) → (Nat → Int32) → (Nat → Int32) → (Nat → Int32) → Option ((Nat → Int32))
  | 0 => fun _ _ _ _ _ _ => none
  | n + 1 => m_Fleet_advanceAll_B2  (m_Fleet_advanceAll_L2  n)
def m_Fleet_advanceAll  (i_t_row : Nat → Int32) (on_boats : Int32) (on_boatWear : Nat → Int32) (on_onward : Nat → Int32) (on_onwardHard : Nat → Int32) : Option ((Nat → Int32)) :=
  m_Fleet_advanceAll_L2  FU 0 i_t_row on_boats on_boatWear on_onward on_onwardHard
def m_Fleet_sitting_B27 (k4 : Int32 → Int32 → (Nat → Int32) → (Int32) → (Nat → Int32) → Option (Int32)) (x2 : Int32) (x3 : Int32) (t_row : Nat → Int32) (on_boats : Int32) (on_onwardHard : Nat → Int32) : Option (Int32) :=
  k4 x2 (x3 + 1) t_row on_boats on_onwardHard
def m_Fleet_sitting_B4  (k4 : Int32 → Int32 → (Nat → Int32) → (Int32) → (Nat → Int32) → Option (Int32)) (x2 : Int32) (x3 : Int32) (t_row : Nat → Int32) (on_boats : Int32) (on_onwardHard : Nat → Int32) : Option (Int32) :=
  if on_boats ≤ x3 then some x2 else kb1 (m_Fleet_isSitting x3 t_row on_onwardHard) (fun r1 => if r1 = 0 then m_Fleet_sitting_B27 k4 x2 x3 t_row on_boats on_onwardHard else m_Fleet_sitting_B27 k4 (x2 ||| (1 <<< (x3 &&& 31))) x3 t_row on_boats on_onwardHard)
def m_Fleet_sitting_L4  : Nat → Int32 → Int32 → (Nat → Int32) → (Int32) → (Nat → Int32) → Option (Int32)
  | 0 => fun _ _ _ _ _ => none
  | n + 1 => m_Fleet_sitting_B4  (m_Fleet_sitting_L4  n)
def m_Fleet_sitting  (t_row : Nat → Int32) (on_boats : Int32) (on_onwardHard : Nat → Int32) : Option (Int32) :=
  m_Fleet_sitting_L4  FU 0 0 t_row on_boats on_onwardHard
def m_Fleet_places_B4  (k4 : Int32 → Int32 → (Nat → Int32) → (Int32) → Option (Int32)) (x2 : Int32) (x3 : Int32) (t_row : Nat → Int32) (on_boats : Int32) : Option (Int32) :=
  if on_boats ≤ x3 then some x2 else kb1 (m_Fleet_at x3 t_row) (fun r1 => k4 (x2 ||| (1 <<< (r1 &&& 31))) (x3 + 1) t_row on_boats)
def m_Fleet_places_L4  : Nat → Int32 → Int32 → (Nat → Int32) → (Int32) → Option (Int32)
  | 0 => fun _ _ _ _ => none
  | n + 1 => m_Fleet_places_B4  (m_Fleet_places_L4  n)
def m_Fleet_places  (t_row : Nat → Int32) (on_boats : Int32) : Option (Int32) :=
  m_Fleet_places_L4  FU 0 0 t_row on_boats
def m_Fleet_load (y1 : Int32) (y2 : Int32) (i_t_row : Nat → Int32) : Option ((Nat → Int32)) :=
  kb1 (m_Fleet_pull y1 i_t_row) (fun r1 => kb1 (m_Fleet_put 10 y1 (if (r1 + y2) < 999 then (r1 + y2) else 999) i_t_row) (fun t_row_2 => some t_row_2))
def m_Fleet_swapPulls (y1 : Int32) (y2 : Int32) (i_t_row : Nat → Int32) : Option ((Nat → Int32)) :=
  kb1 (m_Fleet_pull y1 i_t_row) (fun r1 => kb1 (m_Fleet_pull y2 i_t_row) (fun r2 => kb1 (m_Fleet_put 10 y1 r2 i_t_row) (fun t_row_3 => kb1 (m_Fleet_put 10 y2 r1 t_row_3) (fun t_row_4 => some t_row_4))))
def m_Fleet_comeFromNowhere (y1 : Int32) (i_t_row : Nat → Int32) : Option ((Nat → Int32)) :=
  kb1 (m_Fleet_put 5 y1 (-1) i_t_row) (fun t_row_1 => some t_row_1)
