def m_Exch_begin_B20  (k20 : Int32 → (Int32) → (Nat → Int32) → (Nat → Int32) → (Int32) → Option ((Int32) × (Nat → Int32) × (Nat → Int32) × (Int32))) (x2 : Int32) (t_boats : Int32) (t_allowed : Nat → Int32) (t_order : Nat → Int32) (t_fewest : Int32) : Option ((Int32) × (Nat → Int32) × (Nat → Int32) × (Int32)) :=
  if 5 ≤ x2 then some (t_boats, t_allowed, t_order, t_fewest) else kg x2 5 (kg x2 5 (k20 (x2 + 1) t_boats (upd t_allowed x2.toNatClampNeg 0) (upd t_order x2.toNatClampNeg x2) t_fewest))
def m_Exch_begin_L20  : Nat → Int32 → (Int32) → (Nat → Int32) → (Nat → Int32) → (Int32) → Option ((Int32) × (Nat → Int32) × (Nat → Int32) × (Int32))
  | 0 => fun _ _ _ _ _ => none
  | n + 1 => m_Exch_begin_B20  (m_Exch_begin_L20  n)
def m_Exch_begin (y1 : Int32) (i_t_boats : Int32) (i_t_allowed : Nat → Int32) (i_t_order : Nat → Int32) (i_t_fewest : Int32) : Option ((Int32) × (Nat → Int32) × (Nat → Int32) × (Int32)) :=
  m_Exch_begin_L20  FU 0 (if 0 < (if 5 < y1 then 5 else y1) then (if 5 < y1 then 5 else y1) else 0) i_t_allowed i_t_order (-1)
def m_Exch_allow (y1 : Int32) (y2 : Int32) (i_t_allowed : Nat → Int32) : Option ((Nat → Int32)) :=
  if y1 < 0 then some i_t_allowed else if 5 ≤ y1 then some i_t_allowed else kg y1 5 (kg y1 5 (some (upd i_t_allowed y1.toNatClampNeg ((i_t_allowed y1.toNatClampNeg) ||| (1 <<< (y2 &&& 31))))))
def m_Exch_giverTo (y1 : Int32) (t_best : Nat → Int32) (t_fewest : Int32) : Option (Int32) :=
  if t_fewest = (-1) then some (-1) else if y1 < 0 then some (-1) else if 5 ≤ y1 then some (-1) else kg y1 5 (some (t_best y1.toNatClampNeg))
def m_Exch_isAllowed_B2  (k2 : Int32 → (Int32) → (Nat → Int32) → (Nat → Int32) → Option (Int32)) (x1 : Int32) (t_boats : Int32) (t_allowed : Nat → Int32) (t_order : Nat → Int32) : Option (Int32) :=
  if t_boats ≤ x1 then some 1 else kg x1 5 (kg x1 5 (if (((t_allowed x1.toNatClampNeg) >>> ((t_order x1.toNatClampNeg) &&& 31)) &&& 1) = 0 then some 0 else k2 (x1 + 1) t_boats t_allowed t_order))
def m_Exch_isAllowed_L2  : Nat → Int32 → (Int32) → (Nat → Int32) → (Nat → Int32) → Option (Int32)
  | 0 => fun _ _ _ _ => none
  | n + 1 => m_Exch_isAllowed_B2  (m_Exch_isAllowed_L2  n)
def m_Exch_isAllowed  (t_boats : Int32) (t_allowed : Nat → Int32) (t_order : Nat → Int32) : Option (Int32) :=
  m_Exch_isAllowed_L2  FU 0 t_boats t_allowed t_order
def m_Exch_ringOf_B7  (k7 : Int32 → Int32 → Int32 → (Int32) → (Nat → Int32) → Option (Int32)) (x2 : Int32) (x3 : Int32) (x4 : Int32) (t_boats : Int32) (t_order : Nat → Int32) : Option (Int32) :=
  if t_boats ≤ x4 then some x2 else if x3 < 0 then some x2 else if t_boats ≤ x3 then some x2 else kg x3 5 (k7 (x2 ||| (1 <<< (x3 &&& 31))) (t_order x3.toNatClampNeg) (x4 + 1) t_boats t_order)
def m_Exch_ringOf_L7  : Nat → Int32 → Int32 → Int32 → (Int32) → (Nat → Int32) → Option (Int32)
  | 0 => fun _ _ _ _ _ => none
  | n + 1 => m_Exch_ringOf_B7  (m_Exch_ringOf_L7  n)
def m_Exch_ringOf (y1 : Int32) (t_boats : Int32) (t_order : Nat → Int32) : Option (Int32) :=
  m_Exch_ringOf_L7  FU 0 y1 0 t_boats t_order
def m_Exch_rings_B36 (k6 : Int32 → Int32 → Int32 → (Int32) → (Nat → Int32) → Option (Int32)) (x1 : Int32) (x2 : Int32) (x3 : Int32) (t_boats : Int32) (t_order : Nat → Int32) : Option (Int32) :=
  k6 x1 x2 (x3 + 1) t_boats t_order
def m_Exch_rings_B6  (k6 : Int32 → Int32 → Int32 → (Int32) → (Nat → Int32) → Option (Int32)) (x1 : Int32) (x2 : Int32) (x3 : Int32) (t_boats : Int32) (t_order : Nat → Int32) : Option (Int32) :=
  if t_boats ≤ x3 then some x1 else if ((x2 >>> (x3 &&& 31)) &&& 1) = 0 then kb1 (m_Exch_ringOf x3 t_boats t_order) (fun r1 => m_Exch_rings_B36 k6 (x1 + 1) (x2 ||| r1) x3 t_boats t_order) else m_Exch_rings_B36 k6 x1 x2 x3 t_boats t_order
def m_Exch_rings_L6  : Nat → Int32 → Int32 → Int32 → (Int32) → (Nat → Int32) → Option (Int32)
  | 0 => fun _ _ _ _ _ => none
  | n + 1 => m_Exch_rings_B6  (m_Exch_rings_L6  n)
def m_Exch_rings  (t_boats : Int32) (t_order : Nat → Int32) : Option (Int32) :=
  m_Exch_rings_L6  FU 0 0 0 t_boats t_order
def m_Exch_compare_B34  (k34 : Int32 → (Int32) → (Nat → Int32) → (Nat → Int32) → (Int32) → Option ((Nat → Int32) × (Int32))) (x2 : Int32) (t_boats : Int32) (t_order : Nat → Int32) (t_best : Nat → Int32) (t_fewest : Int32) : Option ((Nat → Int32) × (Int32)) :=
  if t_boats ≤ x2 then some (t_best, t_fewest) else kg x2 5 (kg x2 5 (k34 (x2 + 1) t_boats t_order (upd t_best x2.toNatClampNeg (t_order x2.toNatClampNeg)) t_fewest))
def m_Exch_compare_L34  : Nat → Int32 → (Int32) → (Nat → Int32) → (Nat → Int32) → (Int32) → Option ((Nat → Int32) × (Int32))
  | 0 => fun _ _ _ _ _ => none
  | n + 1 => m_Exch_compare_B34  (m_Exch_compare_L34  n)
def m_Exch_compare_B27  (x1 : Int32) (t_boats : Int32) (t_order : Nat → Int32) (t_best : Nat → Int32) (t_fewest : Int32) : Option ((Nat → Int32) × (Int32)) :=
  m_Exch_compare_L34  FU 0 t_boats t_order t_best x1
def m_Exch_compare  (t_boats : Int32) (t_order : Nat → Int32) (i_t_best : Nat → Int32) (i_t_fewest : Int32) : Option ((Nat → Int32) × (Int32)) :=
  kb1 (m_Exch_rings t_boats t_order) (fun r3 => if i_t_fewest = (-1) then m_Exch_compare_B27  (t_boats - r3) t_boats t_order i_t_best i_t_fewest else if (t_boats - r3) < i_t_fewest then m_Exch_compare_B27  (t_boats - r3) t_boats t_order i_t_best i_t_fewest else some (i_t_best, i_t_fewest))
def m_Exch_swap (y1 : Int32) (y2 : Int32) (i_t_order : Nat → Int32) : Option ((Nat → Int32)) :=
  if y1 < 0 then some i_t_order else if 5 ≤ y1 then some i_t_order else if y2 < 0 then some i_t_order else if y2 < 5 then kg y1 5 (kg y2 5 (kg y1 5 (kg y2 5 (some (upd (upd i_t_order y1.toNatClampNeg (i_t_order y2.toNatClampNeg)) y2.toNatClampNeg (i_t_order y1.toNatClampNeg)))))) else some i_t_order
def m_Exch_nextOrder_B91  (k91 : Int32 → Int32 → (Int32) → (Nat → Int32) → Option (Int32 × (Nat → Int32))) (x3 : Int32) (x4 : Int32) (t_boats : Int32) (t_order : Nat → Int32) : Option (Int32 × (Nat → Int32)) :=
  if x4 ≤ x3 then some (1, t_order) else kb1 (m_Exch_swap x3 x4 t_order) (fun t_order_1 => k91 (x3 + 1) (x4 + (-1)) t_boats t_order_1)
def m_Exch_nextOrder_L91  : Nat → Int32 → Int32 → (Int32) → (Nat → Int32) → Option (Int32 × (Nat → Int32))
  | 0 => fun _ _ _ _ => none
  | n + 1 => m_Exch_nextOrder_B91  (m_Exch_nextOrder_L91  n)
def m_Exch_nextOrder_B73  (x1 : Int32) (x2 : Int32) (t_boats : Int32) (t_order : Nat → Int32) : Option (Int32 × (Nat → Int32)) :=
  kb1 (m_Exch_swap x1 x2 t_order) (fun t_order_2 => m_Exch_nextOrder_L91  FU (x1 + 1) (t_boats - 1) t_boats t_order_2)
def m_Exch_nextOrder_B47  (k47 : Int32 → Int32 → (Int32) → (Nat → Int32) → Option (Int32 × (Nat → Int32))) (x1 : Int32) (x2 : Int32) (t_boats : Int32) (t_order : Nat → Int32) : Option (Int32 × (Nat → Int32)) :=
  if x2 ≤ x1 then m_Exch_nextOrder_B73  x1 x2 t_boats t_order else kg x2 5 (kg x1 5 (if (t_order x1.toNatClampNeg) ≤ (t_order x2.toNatClampNeg) then m_Exch_nextOrder_B73  x1 x2 t_boats t_order else k47 x1 (x2 + (-1)) t_boats t_order))
def m_Exch_nextOrder_L47  : Nat → Int32 → Int32 → (Int32) → (Nat → Int32) → Option (Int32 × (Nat → Int32))
  | 0 => fun _ _ _ _ => none
  | n + 1 => m_Exch_nextOrder_B47  (m_Exch_nextOrder_L47  n)
def m_Exch_nextOrder_B34  (x1 : Int32) (t_boats : Int32) (t_order : Nat → Int32) : Option (Int32 × (Nat → Int32)) :=
  if 0 ≤ x1 then m_Exch_nextOrder_L47  FU x1 (t_boats - 1) t_boats t_order else some (0, t_order)
def m_Exch_nextOrder_B7  (k7 : Int32 → (Int32) → (Nat → Int32) → Option (Int32 × (Nat → Int32))) (x1 : Int32) (t_boats : Int32) (t_order : Nat → Int32) : Option (Int32 × (Nat → Int32)) :=
  if x1 < 0 then m_Exch_nextOrder_B34  x1 t_boats t_order else kg x1 5 (kg (x1 + 1) 5 (if (t_order x1.toNatClampNeg) ≤ (t_order (x1 + 1).toNatClampNeg) then m_Exch_nextOrder_B34  x1 t_boats t_order else k7 (x1 + (-1)) t_boats t_order))
def m_Exch_nextOrder_L7  : Nat → Int32 → (Int32) → (Nat → Int32) → Option (Int32 × (Nat → Int32))
  | 0 => fun _ _ _ => none
  | n + 1 => m_Exch_nextOrder_B7  (m_Exch_nextOrder_L7  n)
def m_Exch_nextOrder  (t_boats : Int32) (i_t_order : Nat → Int32) : Option (Int32 × (Nat → Int32)) :=
  m_Exch_nextOrder_L7  FU (t_boats - 2) t_boats i_t_order
def m_Exch_search_B25 (k4 : Int32 → Int32 → (Int32) → (Nat → Int32) → (Nat → Int32) → (Nat → Int32) → (Int32) → Option ((Nat → Int32) × (Nat → Int32) × (Int32))) (x2 : Int32) (t_boats : Int32) (t_allowed : Nat → Int32) (t_order : Nat → Int32) (t_best : Nat → Int32) (t_fewest : Int32) : Option ((Nat → Int32) × (Nat → Int32) × (Int32)) :=
  kb2 (m_Exch_nextOrder t_boats t_order) (fun r1 t_order_1 => k4 r1 (x2 + 1) t_boats t_allowed t_order_1 t_best t_fewest)
def m_Exch_search_B4  (k4 : Int32 → Int32 → (Int32) → (Nat → Int32) → (Nat → Int32) → (Nat → Int32) → (Int32) → Option ((Nat → Int32) × (Nat → Int32) × (Int32))) (x1 : Int32) (x2 : Int32) (t_boats : Int32) (t_allowed : Nat → Int32) (t_order : Nat → Int32) (t_best : Nat → Int32) (t_fewest : Int32) : Option ((Nat → Int32) × (Nat → Int32) × (Int32)) :=
  if 120 ≤ x2 then some (t_order, t_best, t_fewest) else if x1 = 0 then some (t_order, t_best, t_fewest) else kb1 (m_Exch_isAllowed t_boats t_allowed t_order) (fun r2 => if r2 = 0 then m_Exch_search_B25 k4 x2 t_boats t_allowed t_order t_best t_fewest else kb2 (m_Exch_compare t_boats t_order t_best t_fewest) (fun t_best_3 t_fewest_3 => m_Exch_search_B25 k4 x2 t_boats t_allowed t_order t_best_3 t_fewest_3))
def m_Exch_search_L4  : Nat → Int32 → Int32 → (Int32) → (Nat → Int32) → (Nat → Int32) → (Nat → Int32) → (Int32) → Option ((Nat → Int32) × (Nat → Int32) × (Int32))
  | 0 => fun _ _ _ _ _ _ _ => none
  | n + 1 => m_Exch_search_B4  (m_Exch_search_L4  n)
def m_Exch_search  (t_boats : Int32) (t_allowed : Nat → Int32) (i_t_order : Nat → Int32) (i_t_best : Nat → Int32) (i_t_fewest : Int32) : Option ((Nat → Int32) × (Nat → Int32) × (Int32)) :=
  m_Exch_search_L4  FU 1 0 t_boats t_allowed i_t_order i_t_best i_t_fewest
