set_option maxHeartbeats 4000000 in
set_option maxRecDepth 100000 in
theorem c_Exch_begin (l : Launch) (dC : Nat → ClassId) (dI : Nat → Nat → Nat) (cI cZ : ClassId) (a_t : Nat → Nat) (i_t_boats : Int32) (i_t_allowed : Nat → Int32) (i_t_order : Nat → Int32) (t_best : Nat → Int32) (i_t_fewest : Int32) (y1 : Int32) (o_t_boats : Int32) (o_t_allowed : Nat → Int32) (o_t_order : Nat → Int32) (o_t_fewest : Int32) (h : m_Exch_begin y1 i_t_boats i_t_allowed i_t_order i_t_fewest = some (o_t_boats, o_t_allowed, o_t_order, o_t_fewest)) : (MV l yX3_begin wsX3_begin ({ frames := 1, cells := 0, slots := 0, locals := 21 }) (dC, dI) [(cI, .int), (cZ, .boolean)] (wd_tExch cI cZ a_t i_t_boats i_t_allowed i_t_order t_best i_t_fewest) (wd_tExch cI cZ a_t o_t_boats o_t_allowed o_t_order t_best o_t_fewest) [.ref (a_t 0), .int y1]) := by
  intro sz
  refine Met.ofW (cc := cX3_begin) (maxL := 3) (ret := none) (by decide) rfl ?_
  intro p e s m args below meth c s₁ B hml hv
  obtain ⟨rfl, hsz, hP, hK, hD0⟩ := hv
  have hx := B.exec
  have hb := B.bytes
  have hr := B.returns
  have hts := atoms_spec (ws := wsX3_begin) B.pre
  have hown : s.vm.findClass RX3 = some m.cls := findClass_of_methodNamed B.named
  have hlocks := B.notSynchronized
  subst hsz
  have hD := hD0.self (sz := s.heap.size)
  have hA : ∀ q : Nat, s.heap.size ≤ q → va_A (wd_tExch cI cZ a_t i_t_boats i_t_allowed i_t_order t_best i_t_fewest) s.heap.size q := fun q h => Or.inr h
  have hS : va_S (va_A (wd_tExch cI cZ a_t i_t_boats i_t_allowed i_t_order t_best i_t_fewest) s.heap.size) s.heap s.heap [] := va_S.rf
  have hin3 : ∀ w ∈ u_ws RX3 TX3 5, w ∈ wsX3_begin := fun w h => List.mem_cons_of_mem _ (List.mem_append_right _ h)
  have hl := lv_entry ([.ref (a_t 0), .int y1]) (n := 3) (Nat.le_of_ble_eq_true rfl)
  rw [lg_entry_eq]
  generalize (lg_sl ([.ref (a_t 0), .int y1]) ++ List.replicate (3 - (lg_sl ([.ref (a_t 0), .int y1])).length) Slot.unset).toArray = ls at hl ⊢
  have hl : lv_has ls 3 [(0, .ref (a_t 0)), (1, .int y1)] := hl
  have L20 : ∀ (n20 : Nat) (x2 : Int32) (t_boats : Int32) (t_allowed : Nat → Int32) (t_order : Nat → Int32) (t_fewest : Int32) (H : Heap) (locs : List Loc) (ls : Array Slot), va_P (dC, dI) vwCl (wd_tExch cI cZ a_t t_boats t_allowed t_order t_best t_fewest) H → va_D (va_A (wd_tExch cI cZ a_t i_t_boats i_t_allowed i_t_order t_best i_t_fewest) s.heap.size) (wd_tExch cI cZ a_t t_boats t_allowed t_order t_best t_fewest) → va_S (va_A (wd_tExch cI cZ a_t i_t_boats i_t_allowed i_t_order t_best i_t_fewest) s.heap.size) s.heap H locs → lv_has ls 3 [(0, .ref (a_t 0)), (2, .int x2)] → m_Exch_begin_L20  n20 x2 t_boats t_allowed t_order t_fewest = some (o_t_boats, o_t_allowed, o_t_order, o_t_fewest) → W p l e (headSpec wsX3_begin ({ frames := 1, cells := 0, slots := 0, locals := 21 })).room s m ([.ref (a_t 0), .int y1] : List Value).toArray below meth c H locs 0 0 (MQ below (cQv (dC, dI) (wd_tExch cI cZ a_t i_t_boats i_t_allowed i_t_order t_best i_t_fewest) (wd_tExch cI cZ a_t o_t_boats o_t_allowed o_t_order t_best o_t_fewest) s.heap.size) ([.ref (a_t 0), .int y1] : List Value).toArray s 0 0 (va_A (wd_tExch cI cZ a_t i_t_boats i_t_allowed i_t_order t_best i_t_fewest) s.heap.size)) (F0 m 20 ls []) := by
    intro n20
    induction n20 with
    | zero => intro x2 t_boats t_allowed t_order t_fewest H locs ls hP hD hS hl h; have h : none = some (o_t_boats, o_t_allowed, o_t_order, o_t_fewest) := h; cases h
    | succ n20 ih20 =>
      intro x2 t_boats t_allowed t_order t_fewest H locs ls hP hD hS hl h
      have h : m_Exch_begin_B20  (m_Exch_begin_L20  n20) x2 t_boats t_allowed t_order t_fewest = some (o_t_boats, o_t_allowed, o_t_order, o_t_fewest) := h
      unfold m_Exch_begin_B20 at h
      refine lv_iload_n hx hb dX3_begin_20 rfl (lv_at hl 1 rfl) ?_
      refine lv_iconst (v := 5) hx hb dX3_begin_21 (by decide) ?_
      refine lv_icmp_ge (tgt := 45) hx hb dX3_begin_22 (by decide) (fun hc => ?_) (fun hc => ?_)
      · have h := k_pos hc h
        obtain ⟨rfl, rfl, rfl, rfl⟩ := k_in4 h
        exact k_rv hx hb hr hlocks hP hS dX3_begin_45
      · have h := k_neg hc h
        refine lv_aload_n hx hb dX3_begin_25 rfl (lv_at hl 0 rfl) ?_
        refine va_get (D := (dC, dI)) (ci := 3) (v := .ref (a_t 1)) (C := RX3) (T := TX3) (N := 5) hx hb hts hin3 hown hK hP 0 rfl rfl 1 (by decide) (hts (.fieldLink RX3 15 "TowedBack$Exchange" "allowed" "[I") (List.mem_of_getElem? (i := 10) rfl)) (fun _ h9 => h9) rfl dX3_begin_26 ?_
        refine lv_iload_n hx hb dX3_begin_29 rfl (lv_at hl 1 rfl) ?_
        refine lv_iconst (v := 0) hx hb dX3_begin_30 (by decide) ?_
        obtain ⟨hi1, h⟩ := kg_some h
        refine va_iast hx hb hK hP hD hS 1 0 rfl rfl hi1 dX3_begin_31 (fun H locs hP hD hS => ?_)
        have hP : va_P (dC, dI) vwCl (wd_tExch cI cZ a_t t_boats (upd t_allowed x2.toNatClampNeg 0) t_order t_best t_fewest) H := hP
        have hD : va_D (va_A (wd_tExch cI cZ a_t i_t_boats i_t_allowed i_t_order t_best i_t_fewest) s.heap.size) (wd_tExch cI cZ a_t t_boats (upd t_allowed x2.toNatClampNeg 0) t_order t_best t_fewest) := hD
        refine lv_aload_n hx hb dX3_begin_32 rfl (lv_at hl 0 rfl) ?_
        refine va_get (D := (dC, dI)) (ci := 3) (v := .ref (a_t 2)) (C := RX3) (T := TX3) (N := 5) hx hb hts hin3 hown hK hP 0 rfl rfl 2 (by decide) (hts (.fieldLink RX3 19 "TowedBack$Exchange" "order" "[I") (List.mem_of_getElem? (i := 11) rfl)) (fun _ h9 => h9) rfl dX3_begin_33 ?_
        refine lv_iload_n hx hb dX3_begin_36 rfl (lv_at hl 1 rfl) ?_
        refine lv_iload_n hx hb dX3_begin_37 rfl (lv_at hl 1 rfl) ?_
        obtain ⟨hi2, h⟩ := kg_some h
        refine va_iast hx hb hK hP hD hS 2 0 rfl rfl hi2 dX3_begin_38 (fun H locs hP hD hS => ?_)
        have hP : va_P (dC, dI) vwCl (wd_tExch cI cZ a_t t_boats (upd t_allowed x2.toNatClampNeg 0) (upd t_order x2.toNatClampNeg x2) t_best t_fewest) H := hP
        have hD : va_D (va_A (wd_tExch cI cZ a_t i_t_boats i_t_allowed i_t_order t_best i_t_fewest) s.heap.size) (wd_tExch cI cZ a_t t_boats (upd t_allowed x2.toNatClampNeg 0) (upd t_order x2.toNatClampNeg x2) t_best t_fewest) := hD
        refine lv_iinc (v := (x2 + 1)) (lv' := [(2, .int (x2 + 1)), (0, .ref (a_t 0))]) hx hb dX3_begin_39 hl (k := 1) rfl rfl (by decide) rfl (fun ls hl => ?_)
        refine lv_goto (tgt := 20) hx hb dX3_begin_42 (by decide) ?_
        exact ih20 (x2 + 1) t_boats (upd t_allowed x2.toNatClampNeg 0) (upd t_order x2.toNatClampNeg x2) t_fewest _ _ _ hP hD hS (lv_sub hl [1, 0] rfl) h
  unfold m_Exch_begin at h
  refine lv_aload_n hx hb dX3_begin_0 rfl (lv_at hl 0 rfl) ?_
  refine lv_iconst (v := 0) hx hb dX3_begin_1 (by decide) ?_
  refine lv_iload_n hx hb dX3_begin_2 rfl (lv_at hl 1 rfl) ?_
  refine lv_iconst (v := 5) hx hb dX3_begin_3 (by decide) ?_
  refine va_mmin hx hb (hml.trans hl.1.symm) hown (hts (.methodLink RX3 28 Lib.Math.min.name) (List.mem_of_getElem? (i := 1) rfl)) (hts (.static Lib.Math.min.name) (List.mem_of_getElem? (i := 2) rfl)) (hts (.initialized "java/lang/Math") (List.mem_of_getElem? (i := 3) rfl)) (hts (.code Lib.Math.min.name Lib.Math.min.code 2 (some .int)) (List.mem_of_getElem? (i := 4) rfl)) (Nat.le_of_ble_eq_true rfl) (Nat.le_of_ble_eq_true rfl) (Nat.zero_le _) (Nat.zero_le _) dX3_begin_4 ?_
  refine va_mmax hx hb (hml.trans hl.1.symm) hown (hts (.methodLink RX3 34 Lib.Math.max.name) (List.mem_of_getElem? (i := 5) rfl)) (hts (.static Lib.Math.max.name) (List.mem_of_getElem? (i := 6) rfl)) (hts (.initialized "java/lang/Math") (List.mem_of_getElem? (i := 3) rfl)) (hts (.code Lib.Math.max.name Lib.Math.max.code 2 (some .int)) (List.mem_of_getElem? (i := 7) rfl)) (Nat.le_of_ble_eq_true rfl) (Nat.le_of_ble_eq_true rfl) (Nat.zero_le _) (Nat.zero_le _) dX3_begin_7 ?_
  refine va_put (D := (dC, dI)) (ci := 3) (v := .int (if 0 < (if 5 < y1 then 5 else y1) then (if 5 < y1 then 5 else y1) else 0)) (ty := tyX3 0) (C := RX3) (T := TX3) (N := 5) hx hb hts hin3 tyX3 tyX3_ok nmX3 hown hK hP hD hS 0 rfl rfl 0 (by decide) (hts (.fieldLink RX3 9 "TowedBack$Exchange" "boats" "I") (List.mem_of_getElem? (i := 8) rfl)) (fun _ h9 => h9) rfl (tyX3_ok 0 (by decide)) rfl rfl (Nat.le_of_ble_eq_true rfl) dX3_begin_10 (fun H locs hP hD hS => ?_)
  have hP : va_P (dC, dI) vwCl (wd_tExch cI cZ a_t (if 0 < (if 5 < y1 then 5 else y1) then (if 5 < y1 then 5 else y1) else 0) i_t_allowed i_t_order t_best i_t_fewest) H := hP
  have hD : va_D (va_A (wd_tExch cI cZ a_t i_t_boats i_t_allowed i_t_order t_best i_t_fewest) s.heap.size) (wd_tExch cI cZ a_t (if 0 < (if 5 < y1 then 5 else y1) then (if 5 < y1 then 5 else y1) else 0) i_t_allowed i_t_order t_best i_t_fewest) := hD
  refine lv_aload_n hx hb dX3_begin_13 rfl (lv_at hl 0 rfl) ?_
  refine lv_iconst (v := (-1)) hx hb dX3_begin_14 (by decide) ?_
  refine va_put (D := (dC, dI)) (ci := 3) (v := .int (-1)) (ty := tyX3 4) (C := RX3) (T := TX3) (N := 5) hx hb hts hin3 tyX3 tyX3_ok nmX3 hown hK hP hD hS 0 rfl rfl 4 (by decide) (hts (.fieldLink RX3 25 "TowedBack$Exchange" "fewest" "I") (List.mem_of_getElem? (i := 9) rfl)) (fun _ h9 => h9) rfl (tyX3_ok 4 (by decide)) rfl rfl (Nat.le_of_ble_eq_true rfl) dX3_begin_15 (fun H locs hP hD hS => ?_)
  have hP : va_P (dC, dI) vwCl (wd_tExch cI cZ a_t (if 0 < (if 5 < y1 then 5 else y1) then (if 5 < y1 then 5 else y1) else 0) i_t_allowed i_t_order t_best (-1)) H := hP
  have hD : va_D (va_A (wd_tExch cI cZ a_t i_t_boats i_t_allowed i_t_order t_best i_t_fewest) s.heap.size) (wd_tExch cI cZ a_t (if 0 < (if 5 < y1 then 5 else y1) then (if 5 < y1 then 5 else y1) else 0) i_t_allowed i_t_order t_best (-1)) := hD
  refine lv_iconst (v := 0) hx hb dX3_begin_18 (by decide) ?_
  refine lv_istore_n (lv' := [(2, .int 0), (0, .ref (a_t 0)), (1, .int y1)]) hx hb dX3_begin_19 rfl hl (by decide) rfl (fun ls hl => ?_)
  exact L20 FU 0 (if 0 < (if 5 < y1 then 5 else y1) then (if 5 < y1 then 5 else y1) else 0) i_t_allowed i_t_order (-1) _ _ _ hP hD hS (lv_sub hl [1, 0] rfl) h
set_option maxHeartbeats 4000000 in
set_option maxRecDepth 100000 in
theorem c_Exch_allow (l : Launch) (dC : Nat → ClassId) (dI : Nat → Nat → Nat) (cI cZ : ClassId) (a_t : Nat → Nat) (t_boats : Int32) (i_t_allowed : Nat → Int32) (t_order : Nat → Int32) (t_best : Nat → Int32) (t_fewest : Int32) (y1 : Int32) (y2 : Int32) (o_t_allowed : Nat → Int32) (h : m_Exch_allow y1 y2 i_t_allowed = some o_t_allowed) : (MV l yX3_allow wsX3_allow ({ frames := 0, cells := 0, slots := 0, locals := 0 }) (dC, dI) [(cI, .int), (cZ, .boolean)] (wd_tExch cI cZ a_t t_boats i_t_allowed t_order t_best t_fewest) (wd_tExch cI cZ a_t t_boats o_t_allowed t_order t_best t_fewest) [.ref (a_t 0), .int y1, .int y2]) := by
  intro sz
  refine Met.ofW (cc := cX3_allow) (maxL := 3) (ret := none) (by decide) rfl ?_
  intro p e s m args below meth c s₁ B hml hv
  obtain ⟨rfl, hsz, hP, hK, hD0⟩ := hv
  have hx := B.exec
  have hb := B.bytes
  have hr := B.returns
  have hts := atoms_spec (ws := wsX3_allow) B.pre
  have hown : s.vm.findClass RX3 = some m.cls := findClass_of_methodNamed B.named
  have hlocks := B.notSynchronized
  subst hsz
  have hD := hD0.self (sz := s.heap.size)
  have hA : ∀ q : Nat, s.heap.size ≤ q → va_A (wd_tExch cI cZ a_t t_boats i_t_allowed t_order t_best t_fewest) s.heap.size q := fun q h => Or.inr h
  have hS : va_S (va_A (wd_tExch cI cZ a_t t_boats i_t_allowed t_order t_best t_fewest) s.heap.size) s.heap s.heap [] := va_S.rf
  have hin3 : ∀ w ∈ u_ws RX3 TX3 5, w ∈ wsX3_allow := fun w h => List.mem_cons_of_mem _ (List.mem_append_right _ h)
  have hl := lv_entry ([.ref (a_t 0), .int y1, .int y2]) (n := 3) (Nat.le_of_ble_eq_true rfl)
  rw [lg_entry_eq]
  generalize (lg_sl ([.ref (a_t 0), .int y1, .int y2]) ++ List.replicate (3 - (lg_sl ([.ref (a_t 0), .int y1, .int y2])).length) Slot.unset).toArray = ls at hl ⊢
  have hl : lv_has ls 3 [(0, .ref (a_t 0)), (1, .int y1), (2, .int y2)] := hl
  unfold m_Exch_allow at h
  refine lv_iload_n hx hb dX3_allow_0 rfl (lv_at hl 1 rfl) ?_
  refine lv_if_lt (tgt := 21) hx hb dX3_allow_1 (by decide) (fun hc => ?_) (fun hc => ?_)
  · have h := k_pos hc h
    obtain rfl := k_in1 h
    exact k_rv hx hb hr hlocks hP hS dX3_allow_21
  · have h := k_neg hc h
    refine lv_iload_n hx hb dX3_allow_4 rfl (lv_at hl 1 rfl) ?_
    refine lv_iconst (v := 5) hx hb dX3_allow_5 (by decide) ?_
    refine lv_icmp_ge (tgt := 21) hx hb dX3_allow_6 (by decide) (fun hc => ?_) (fun hc => ?_)
    · have h := k_pos hc h
      obtain rfl := k_in1 h
      exact k_rv hx hb hr hlocks hP hS dX3_allow_21
    · have h := k_neg hc h
      refine lv_aload_n hx hb dX3_allow_9 rfl (lv_at hl 0 rfl) ?_
      refine va_get (D := (dC, dI)) (ci := 3) (v := .ref (a_t 1)) (C := RX3) (T := TX3) (N := 5) hx hb hts hin3 hown hK hP 0 rfl rfl 1 (by decide) (hts (.fieldLink RX3 15 "TowedBack$Exchange" "allowed" "[I") (List.mem_of_getElem? (i := 1) rfl)) (fun _ h9 => h9) rfl dX3_allow_10 ?_
      refine lv_iload_n hx hb dX3_allow_13 rfl (lv_at hl 1 rfl) ?_
      refine lv_dup2_11 hx hb dX3_allow_14 rfl rfl ?_
      obtain ⟨hi1, h⟩ := kg_some h
      refine va_iald hx hb hK hP 1 0 rfl rfl hi1 dX3_allow_15 ?_
      refine lv_iconst (v := 1) hx hb dX3_allow_16 (by decide) ?_
      refine lv_iload_n hx hb dX3_allow_17 rfl (lv_at hl 2 rfl) ?_
      refine lv_ishl hx hb dX3_allow_18 ?_
      refine lv_ior hx hb dX3_allow_19 ?_
      obtain ⟨hi2, h⟩ := kg_some h
      refine va_iast hx hb hK hP hD hS 1 0 rfl rfl hi2 dX3_allow_20 (fun H locs hP hD hS => ?_)
      have hP : va_P (dC, dI) vwCl (wd_tExch cI cZ a_t t_boats (upd i_t_allowed y1.toNatClampNeg ((i_t_allowed y1.toNatClampNeg) ||| (1 <<< (y2 &&& 31)))) t_order t_best t_fewest) H := hP
      have hD : va_D (va_A (wd_tExch cI cZ a_t t_boats i_t_allowed t_order t_best t_fewest) s.heap.size) (wd_tExch cI cZ a_t t_boats (upd i_t_allowed y1.toNatClampNeg ((i_t_allowed y1.toNatClampNeg) ||| (1 <<< (y2 &&& 31)))) t_order t_best t_fewest) := hD
      obtain rfl := k_in1 h
      exact k_rv hx hb hr hlocks hP hS dX3_allow_21
set_option maxHeartbeats 4000000 in
set_option maxRecDepth 100000 in
theorem c_Exch_giverTo (l : Launch) (dC : Nat → ClassId) (dI : Nat → Nat → Nat) (cI cZ : ClassId) (a_t : Nat → Nat) (t_boats : Int32) (t_allowed : Nat → Int32) (t_order : Nat → Int32) (t_best : Nat → Int32) (t_fewest : Int32) (y1 : Int32) (r0 : Int32) (h : m_Exch_giverTo y1 t_best t_fewest = some r0) : (MI l yX3_giverTo wsX3_giverTo ({ frames := 0, cells := 0, slots := 0, locals := 0 }) (dC, dI) [(cI, .int), (cZ, .boolean)] (wd_tExch cI cZ a_t t_boats t_allowed t_order t_best t_fewest) (wd_tExch cI cZ a_t t_boats t_allowed t_order t_best t_fewest) [.ref (a_t 0), .int y1] r0) := by
  intro sz
  refine Met.ofW (cc := cX3_giverTo) (maxL := 2) (ret := (some .int)) (by decide) rfl ?_
  intro p e s m args below meth c s₁ B hml hv
  obtain ⟨rfl, hsz, hP, hK, hD0⟩ := hv
  have hx := B.exec
  have hb := B.bytes
  have hr := B.returns
  have hts := atoms_spec (ws := wsX3_giverTo) B.pre
  have hown : s.vm.findClass RX3 = some m.cls := findClass_of_methodNamed B.named
  have hlocks := B.notSynchronized
  subst hsz
  have hD := hD0.self (sz := s.heap.size)
  have hA : ∀ q : Nat, s.heap.size ≤ q → va_A (wd_tExch cI cZ a_t t_boats t_allowed t_order t_best t_fewest) s.heap.size q := fun q h => Or.inr h
  have hS : va_S (va_A (wd_tExch cI cZ a_t t_boats t_allowed t_order t_best t_fewest) s.heap.size) s.heap s.heap [] := va_S.rf
  have hin3 : ∀ w ∈ u_ws RX3 TX3 5, w ∈ wsX3_giverTo := fun w h => List.mem_cons_of_mem _ (List.mem_append_right _ h)
  have hl := lv_entry ([.ref (a_t 0), .int y1]) (n := 2) (Nat.le_of_ble_eq_true rfl)
  rw [lg_entry_eq]
  generalize (lg_sl ([.ref (a_t 0), .int y1]) ++ List.replicate (2 - (lg_sl ([.ref (a_t 0), .int y1])).length) Slot.unset).toArray = ls at hl ⊢
  have hl : lv_has ls 2 [(0, .ref (a_t 0)), (1, .int y1)] := hl
  unfold m_Exch_giverTo at h
  refine lv_aload_n hx hb dX3_giverTo_0 rfl (lv_at hl 0 rfl) ?_
  refine va_get (D := (dC, dI)) (ci := 3) (v := .int t_fewest) (C := RX3) (T := TX3) (N := 5) hx hb hts hin3 hown hK hP 0 rfl rfl 4 (by decide) (hts (.fieldLink RX3 25 "TowedBack$Exchange" "fewest" "I") (List.mem_of_getElem? (i := 1) rfl)) (fun _ h9 => h9) rfl dX3_giverTo_1 ?_
  refine lv_iconst (v := (-1)) hx hb dX3_giverTo_4 (by decide) ?_
  refine lv_icmp_eq (tgt := 26) hx hb dX3_giverTo_5 (by decide) (fun hc => ?_) (fun hc => ?_)
  · have h := k_pos hc h
    refine lv_iconst (v := (-1)) hx hb dX3_giverTo_26 (by decide) ?_
    obtain rfl := k_in1 h
    exact k_ri hx hb hr hlocks hP hS dX3_giverTo_27
  · have h := k_neg hc h
    refine lv_iload_n hx hb dX3_giverTo_8 rfl (lv_at hl 1 rfl) ?_
    refine lv_if_lt (tgt := 26) hx hb dX3_giverTo_9 (by decide) (fun hc => ?_) (fun hc => ?_)
    · have h := k_pos hc h
      refine lv_iconst (v := (-1)) hx hb dX3_giverTo_26 (by decide) ?_
      obtain rfl := k_in1 h
      exact k_ri hx hb hr hlocks hP hS dX3_giverTo_27
    · have h := k_neg hc h
      refine lv_iload_n hx hb dX3_giverTo_12 rfl (lv_at hl 1 rfl) ?_
      refine lv_iconst (v := 5) hx hb dX3_giverTo_13 (by decide) ?_
      refine lv_icmp_ge (tgt := 26) hx hb dX3_giverTo_14 (by decide) (fun hc => ?_) (fun hc => ?_)
      · have h := k_pos hc h
        refine lv_iconst (v := (-1)) hx hb dX3_giverTo_26 (by decide) ?_
        obtain rfl := k_in1 h
        exact k_ri hx hb hr hlocks hP hS dX3_giverTo_27
      · have h := k_neg hc h
        refine lv_aload_n hx hb dX3_giverTo_17 rfl (lv_at hl 0 rfl) ?_
        refine va_get (D := (dC, dI)) (ci := 3) (v := .ref (a_t 3)) (C := RX3) (T := TX3) (N := 5) hx hb hts hin3 hown hK hP 0 rfl rfl 3 (by decide) (hts (.fieldLink RX3 22 "TowedBack$Exchange" "best" "[I") (List.mem_of_getElem? (i := 2) rfl)) (fun _ h9 => h9) rfl dX3_giverTo_18 ?_
        refine lv_iload_n hx hb dX3_giverTo_21 rfl (lv_at hl 1 rfl) ?_
        obtain ⟨hi1, h⟩ := kg_some h
        refine va_iald hx hb hK hP 3 0 rfl rfl hi1 dX3_giverTo_22 ?_
        refine lv_goto (tgt := 27) hx hb dX3_giverTo_23 (by decide) ?_
        obtain rfl := k_in1 h
        exact k_ri hx hb hr hlocks hP hS dX3_giverTo_27
set_option maxHeartbeats 4000000 in
set_option maxRecDepth 100000 in
theorem c_Exch_isAllowed (l : Launch) (dC : Nat → ClassId) (dI : Nat → Nat → Nat) (cI cZ : ClassId) (a_t : Nat → Nat) (t_boats : Int32) (t_allowed : Nat → Int32) (t_order : Nat → Int32) (t_best : Nat → Int32) (t_fewest : Int32)  (r0 : Int32) (h : m_Exch_isAllowed t_boats t_allowed t_order = some r0) : (MI l yX3_isAllowed wsX3_isAllowed ({ frames := 0, cells := 0, slots := 0, locals := 0 }) (dC, dI) [(cI, .int), (cZ, .boolean)] (wd_tExch cI cZ a_t t_boats t_allowed t_order t_best t_fewest) (wd_tExch cI cZ a_t t_boats t_allowed t_order t_best t_fewest) [.ref (a_t 0)] r0) := by
  intro sz
  refine Met.ofW (cc := cX3_isAllowed) (maxL := 2) (ret := (some .boolean)) (by decide) rfl ?_
  intro p e s m args below meth c s₁ B hml hv
  obtain ⟨rfl, hsz, hP, hK, hD0⟩ := hv
  have hx := B.exec
  have hb := B.bytes
  have hr := B.returns
  have hts := atoms_spec (ws := wsX3_isAllowed) B.pre
  have hown : s.vm.findClass RX3 = some m.cls := findClass_of_methodNamed B.named
  have hlocks := B.notSynchronized
  subst hsz
  have hD := hD0.self (sz := s.heap.size)
  have hA : ∀ q : Nat, s.heap.size ≤ q → va_A (wd_tExch cI cZ a_t t_boats t_allowed t_order t_best t_fewest) s.heap.size q := fun q h => Or.inr h
  have hS : va_S (va_A (wd_tExch cI cZ a_t t_boats t_allowed t_order t_best t_fewest) s.heap.size) s.heap s.heap [] := va_S.rf
  have hin3 : ∀ w ∈ u_ws RX3 TX3 5, w ∈ wsX3_isAllowed := fun w h => List.mem_cons_of_mem _ (List.mem_append_right _ h)
  have hl := lv_entry ([.ref (a_t 0)]) (n := 2) (Nat.le_of_ble_eq_true rfl)
  rw [lg_entry_eq]
  generalize (lg_sl ([.ref (a_t 0)]) ++ List.replicate (2 - (lg_sl ([.ref (a_t 0)])).length) Slot.unset).toArray = ls at hl ⊢
  have hl : lv_has ls 2 [(0, .ref (a_t 0))] := hl
  have L2 : ∀ (n2 : Nat) (x1 : Int32)  (H : Heap) (locs : List Loc) (ls : Array Slot), va_P (dC, dI) vwCl (wd_tExch cI cZ a_t t_boats t_allowed t_order t_best t_fewest) H → va_D (va_A (wd_tExch cI cZ a_t t_boats t_allowed t_order t_best t_fewest) s.heap.size) (wd_tExch cI cZ a_t t_boats t_allowed t_order t_best t_fewest) → va_S (va_A (wd_tExch cI cZ a_t t_boats t_allowed t_order t_best t_fewest) s.heap.size) s.heap H locs → lv_has ls 2 [(0, .ref (a_t 0)), (1, .int x1)] → m_Exch_isAllowed_L2  n2 x1 t_boats t_allowed t_order = some r0 → W p l e (headSpec wsX3_isAllowed ({ frames := 0, cells := 0, slots := 0, locals := 0 })).room s m ([.ref (a_t 0)] : List Value).toArray below meth c H locs 0 0 (MQ below (cQi (dC, dI) (wd_tExch cI cZ a_t t_boats t_allowed t_order t_best t_fewest) (wd_tExch cI cZ a_t t_boats t_allowed t_order t_best t_fewest) s.heap.size r0) ([.ref (a_t 0)] : List Value).toArray s 0 0 (va_A (wd_tExch cI cZ a_t t_boats t_allowed t_order t_best t_fewest) s.heap.size)) (F0 m 2 ls []) := by
    intro n2
    induction n2 with
    | zero => intro x1 H locs ls hP hD hS hl h; have h : none = some r0 := h; cases h
    | succ n2 ih2 =>
      intro x1 H locs ls hP hD hS hl h
      have h : m_Exch_isAllowed_B2  (m_Exch_isAllowed_L2  n2) x1 t_boats t_allowed t_order = some r0 := h
      unfold m_Exch_isAllowed_B2 at h
      refine lv_iload_n hx hb dX3_isAllowed_2 rfl (lv_at hl 1 rfl) ?_
      refine lv_aload_n hx hb dX3_isAllowed_3 rfl (lv_at hl 0 rfl) ?_
      refine va_get (D := (dC, dI)) (ci := 3) (v := .int t_boats) (C := RX3) (T := TX3) (N := 5) hx hb hts hin3 hown hK hP 0 rfl rfl 0 (by decide) (hts (.fieldLink RX3 9 "TowedBack$Exchange" "boats" "I") (List.mem_of_getElem? (i := 1) rfl)) (fun _ h9 => h9) rfl dX3_isAllowed_4 ?_
      refine lv_icmp_ge (tgt := 36) hx hb dX3_isAllowed_7 (by decide) (fun hc => ?_) (fun hc => ?_)
      · have h := k_pos hc h
        refine lv_iconst (v := 1) hx hb dX3_isAllowed_36 (by decide) ?_
        obtain rfl := k_in1 h
        exact k_rz hx hb hr hlocks rfl hP hS dX3_isAllowed_37
      · have h := k_neg hc h
        refine lv_aload_n hx hb dX3_isAllowed_10 rfl (lv_at hl 0 rfl) ?_
        refine va_get (D := (dC, dI)) (ci := 3) (v := .ref (a_t 1)) (C := RX3) (T := TX3) (N := 5) hx hb hts hin3 hown hK hP 0 rfl rfl 1 (by decide) (hts (.fieldLink RX3 15 "TowedBack$Exchange" "allowed" "[I") (List.mem_of_getElem? (i := 2) rfl)) (fun _ h9 => h9) rfl dX3_isAllowed_11 ?_
        refine lv_iload_n hx hb dX3_isAllowed_14 rfl (lv_at hl 1 rfl) ?_
        obtain ⟨hi1, h⟩ := kg_some h
        refine va_iald hx hb hK hP 1 0 rfl rfl hi1 dX3_isAllowed_15 ?_
        refine lv_aload_n hx hb dX3_isAllowed_16 rfl (lv_at hl 0 rfl) ?_
        refine va_get (D := (dC, dI)) (ci := 3) (v := .ref (a_t 2)) (C := RX3) (T := TX3) (N := 5) hx hb hts hin3 hown hK hP 0 rfl rfl 2 (by decide) (hts (.fieldLink RX3 19 "TowedBack$Exchange" "order" "[I") (List.mem_of_getElem? (i := 3) rfl)) (fun _ h9 => h9) rfl dX3_isAllowed_17 ?_
        refine lv_iload_n hx hb dX3_isAllowed_20 rfl (lv_at hl 1 rfl) ?_
        obtain ⟨hi2, h⟩ := kg_some h
        refine va_iald hx hb hK hP 2 0 rfl rfl hi2 dX3_isAllowed_21 ?_
        refine lv_ishr hx hb dX3_isAllowed_22 ?_
        refine lv_iconst (v := 1) hx hb dX3_isAllowed_23 (by decide) ?_
        refine lv_iand hx hb dX3_isAllowed_24 ?_
        refine lv_if_ne (tgt := 30) hx hb dX3_isAllowed_25 (by decide) (fun hc => ?_) (fun hc => ?_)
        · have h := k_neg hc h
          refine lv_iinc (v := (x1 + 1)) (lv' := [(1, .int (x1 + 1)), (0, .ref (a_t 0))]) hx hb dX3_isAllowed_30 hl (k := 1) rfl rfl (by decide) rfl (fun ls hl => ?_)
          refine lv_goto (tgt := 2) hx hb dX3_isAllowed_33 (by decide) ?_
          exact ih2 (x1 + 1) _ _ _ hP hD hS (lv_sub hl [1, 0] rfl) h
        · have h := k_pos hc h
          refine lv_iconst (v := 0) hx hb dX3_isAllowed_28 (by decide) ?_
          obtain rfl := k_in1 h
          exact k_rz hx hb hr hlocks rfl hP hS dX3_isAllowed_29
  unfold m_Exch_isAllowed at h
  refine lv_iconst (v := 0) hx hb dX3_isAllowed_0 (by decide) ?_
  refine lv_istore_n (lv' := [(1, .int 0), (0, .ref (a_t 0))]) hx hb dX3_isAllowed_1 rfl hl (by decide) rfl (fun ls hl => ?_)
  exact L2 FU 0 _ _ _ hP hD hS (lv_sub hl [1, 0] rfl) h
set_option maxHeartbeats 4000000 in
set_option maxRecDepth 100000 in
theorem c_Exch_ringOf (l : Launch) (dC : Nat → ClassId) (dI : Nat → Nat → Nat) (cI cZ : ClassId) (a_t : Nat → Nat) (t_boats : Int32) (t_allowed : Nat → Int32) (t_order : Nat → Int32) (t_best : Nat → Int32) (t_fewest : Int32) (y1 : Int32) (r0 : Int32) (h : m_Exch_ringOf y1 t_boats t_order = some r0) : (MI l yX3_ringOf wsX3_ringOf ({ frames := 0, cells := 0, slots := 0, locals := 0 }) (dC, dI) [(cI, .int), (cZ, .boolean)] (wd_tExch cI cZ a_t t_boats t_allowed t_order t_best t_fewest) (wd_tExch cI cZ a_t t_boats t_allowed t_order t_best t_fewest) [.ref (a_t 0), .int y1] r0) := by
  intro sz
  refine Met.ofW (cc := cX3_ringOf) (maxL := 5) (ret := (some .int)) (by decide) rfl ?_
  intro p e s m args below meth c s₁ B hml hv
  obtain ⟨rfl, hsz, hP, hK, hD0⟩ := hv
  have hx := B.exec
  have hb := B.bytes
  have hr := B.returns
  have hts := atoms_spec (ws := wsX3_ringOf) B.pre
  have hown : s.vm.findClass RX3 = some m.cls := findClass_of_methodNamed B.named
  have hlocks := B.notSynchronized
  subst hsz
  have hD := hD0.self (sz := s.heap.size)
  have hA : ∀ q : Nat, s.heap.size ≤ q → va_A (wd_tExch cI cZ a_t t_boats t_allowed t_order t_best t_fewest) s.heap.size q := fun q h => Or.inr h
  have hS : va_S (va_A (wd_tExch cI cZ a_t t_boats t_allowed t_order t_best t_fewest) s.heap.size) s.heap s.heap [] := va_S.rf
  have hin3 : ∀ w ∈ u_ws RX3 TX3 5, w ∈ wsX3_ringOf := fun w h => List.mem_cons_of_mem _ (List.mem_append_right _ h)
  have hl := lv_entry ([.ref (a_t 0), .int y1]) (n := 5) (Nat.le_of_ble_eq_true rfl)
  rw [lg_entry_eq]
  generalize (lg_sl ([.ref (a_t 0), .int y1]) ++ List.replicate (5 - (lg_sl ([.ref (a_t 0), .int y1])).length) Slot.unset).toArray = ls at hl ⊢
  have hl : lv_has ls 5 [(0, .ref (a_t 0)), (1, .int y1)] := hl
  have L7 : ∀ (n7 : Nat) (x2 : Int32) (x3 : Int32) (x4 : Int32)  (H : Heap) (locs : List Loc) (ls : Array Slot), va_P (dC, dI) vwCl (wd_tExch cI cZ a_t t_boats t_allowed t_order t_best t_fewest) H → va_D (va_A (wd_tExch cI cZ a_t t_boats t_allowed t_order t_best t_fewest) s.heap.size) (wd_tExch cI cZ a_t t_boats t_allowed t_order t_best t_fewest) → va_S (va_A (wd_tExch cI cZ a_t t_boats t_allowed t_order t_best t_fewest) s.heap.size) s.heap H locs → lv_has ls 5 [(0, .ref (a_t 0)), (2, .int x2), (3, .int x3), (4, .int x4)] → m_Exch_ringOf_L7  n7 x2 x3 x4 t_boats t_order = some r0 → W p l e (headSpec wsX3_ringOf ({ frames := 0, cells := 0, slots := 0, locals := 0 })).room s m ([.ref (a_t 0), .int y1] : List Value).toArray below meth c H locs 0 0 (MQ below (cQi (dC, dI) (wd_tExch cI cZ a_t t_boats t_allowed t_order t_best t_fewest) (wd_tExch cI cZ a_t t_boats t_allowed t_order t_best t_fewest) s.heap.size r0) ([.ref (a_t 0), .int y1] : List Value).toArray s 0 0 (va_A (wd_tExch cI cZ a_t t_boats t_allowed t_order t_best t_fewest) s.heap.size)) (F0 m 7 ls []) := by
    intro n7
    induction n7 with
    | zero => intro x2 x3 x4 H locs ls hP hD hS hl h; have h : none = some r0 := h; cases h
    | succ n7 ih7 =>
      intro x2 x3 x4 H locs ls hP hD hS hl h
      have h : m_Exch_ringOf_B7  (m_Exch_ringOf_L7  n7) x2 x3 x4 t_boats t_order = some r0 := h
      unfold m_Exch_ringOf_B7 at h
      refine lv_iload hx hb dX3_ringOf_7 (lv_at hl 3 rfl) ?_
      refine lv_aload_n hx hb dX3_ringOf_9 rfl (lv_at hl 0 rfl) ?_
      refine va_get (D := (dC, dI)) (ci := 3) (v := .int t_boats) (C := RX3) (T := TX3) (N := 5) hx hb hts hin3 hown hK hP 0 rfl rfl 0 (by decide) (hts (.fieldLink RX3 9 "TowedBack$Exchange" "boats" "I") (List.mem_of_getElem? (i := 1) rfl)) (fun _ h9 => h9) rfl dX3_ringOf_10 ?_
      refine lv_icmp_ge (tgt := 47) hx hb dX3_ringOf_13 (by decide) (fun hc => ?_) (fun hc => ?_)
      · have h := k_pos hc h
        refine lv_iload_n hx hb dX3_ringOf_47 rfl (lv_at hl 1 rfl) ?_
        obtain rfl := k_in1 h
        exact k_ri hx hb hr hlocks hP hS dX3_ringOf_48
      · have h := k_neg hc h
        refine lv_iload_n hx hb dX3_ringOf_16 rfl (lv_at hl 2 rfl) ?_
        refine lv_if_lt (tgt := 47) hx hb dX3_ringOf_17 (by decide) (fun hc => ?_) (fun hc => ?_)
        · have h := k_pos hc h
          refine lv_iload_n hx hb dX3_ringOf_47 rfl (lv_at hl 1 rfl) ?_
          obtain rfl := k_in1 h
          exact k_ri hx hb hr hlocks hP hS dX3_ringOf_48
        · have h := k_neg hc h
          refine lv_iload_n hx hb dX3_ringOf_20 rfl (lv_at hl 2 rfl) ?_
          refine lv_aload_n hx hb dX3_ringOf_21 rfl (lv_at hl 0 rfl) ?_
          refine va_get (D := (dC, dI)) (ci := 3) (v := .int t_boats) (C := RX3) (T := TX3) (N := 5) hx hb hts hin3 hown hK hP 0 rfl rfl 0 (by decide) (hts (.fieldLink RX3 9 "TowedBack$Exchange" "boats" "I") (List.mem_of_getElem? (i := 1) rfl)) (fun _ h9 => h9) rfl dX3_ringOf_22 ?_
          refine lv_icmp_ge (tgt := 47) hx hb dX3_ringOf_25 (by decide) (fun hc => ?_) (fun hc => ?_)
          · have h := k_pos hc h
            refine lv_iload_n hx hb dX3_ringOf_47 rfl (lv_at hl 1 rfl) ?_
            obtain rfl := k_in1 h
            exact k_ri hx hb hr hlocks hP hS dX3_ringOf_48
          · have h := k_neg hc h
            refine lv_iload_n hx hb dX3_ringOf_28 rfl (lv_at hl 1 rfl) ?_
            refine lv_iconst (v := 1) hx hb dX3_ringOf_29 (by decide) ?_
            refine lv_iload_n hx hb dX3_ringOf_30 rfl (lv_at hl 2 rfl) ?_
            refine lv_ishl hx hb dX3_ringOf_31 ?_
            refine lv_ior hx hb dX3_ringOf_32 ?_
            refine lv_istore_n (lv' := [(2, .int (x2 ||| (1 <<< (x3 &&& 31)))), (0, .ref (a_t 0)), (3, .int x3), (4, .int x4)]) hx hb dX3_ringOf_33 rfl hl (by decide) rfl (fun ls hl => ?_)
            refine lv_aload_n hx hb dX3_ringOf_34 rfl (lv_at hl 1 rfl) ?_
            refine va_get (D := (dC, dI)) (ci := 3) (v := .ref (a_t 2)) (C := RX3) (T := TX3) (N := 5) hx hb hts hin3 hown hK hP 0 rfl rfl 2 (by decide) (hts (.fieldLink RX3 19 "TowedBack$Exchange" "order" "[I") (List.mem_of_getElem? (i := 2) rfl)) (fun _ h9 => h9) rfl dX3_ringOf_35 ?_
            refine lv_iload_n hx hb dX3_ringOf_38 rfl (lv_at hl 2 rfl) ?_
            obtain ⟨hi1, h⟩ := kg_some h
            refine va_iald hx hb hK hP 2 0 rfl rfl hi1 dX3_ringOf_39 ?_
            refine lv_istore_n (lv' := [(3, .int (t_order x3.toNatClampNeg)), (2, .int (x2 ||| (1 <<< (x3 &&& 31)))), (0, .ref (a_t 0)), (4, .int x4)]) hx hb dX3_ringOf_40 rfl hl (by decide) rfl (fun ls hl => ?_)
            refine lv_iinc (v := (x4 + 1)) (lv' := [(4, .int (x4 + 1)), (3, .int (t_order x3.toNatClampNeg)), (2, .int (x2 ||| (1 <<< (x3 &&& 31)))), (0, .ref (a_t 0))]) hx hb dX3_ringOf_41 hl (k := 3) rfl rfl (by decide) rfl (fun ls hl => ?_)
            refine lv_goto (tgt := 7) hx hb dX3_ringOf_44 (by decide) ?_
            exact ih7 (x2 ||| (1 <<< (x3 &&& 31))) (t_order x3.toNatClampNeg) (x4 + 1) _ _ _ hP hD hS (lv_sub hl [3, 2, 1, 0] rfl) h
  unfold m_Exch_ringOf at h
  refine lv_iconst (v := 0) hx hb dX3_ringOf_0 (by decide) ?_
  refine lv_istore_n (lv' := [(2, .int 0), (0, .ref (a_t 0)), (1, .int y1)]) hx hb dX3_ringOf_1 rfl hl (by decide) rfl (fun ls hl => ?_)
  refine lv_iload_n hx hb dX3_ringOf_2 rfl (lv_at hl 2 rfl) ?_
  refine lv_istore_n (lv' := [(3, .int y1), (2, .int 0), (0, .ref (a_t 0)), (1, .int y1)]) hx hb dX3_ringOf_3 rfl hl (by decide) rfl (fun ls hl => ?_)
  refine lv_iconst (v := 0) hx hb dX3_ringOf_4 (by decide) ?_
  refine lv_istore (lv' := [(4, .int 0), (3, .int y1), (2, .int 0), (0, .ref (a_t 0)), (1, .int y1)]) hx hb dX3_ringOf_5 hl (by decide) rfl (fun ls hl => ?_)
  exact L7 FU 0 y1 0 _ _ _ hP hD hS (lv_sub hl [3, 2, 1, 0] rfl) h
set_option maxHeartbeats 4000000 in
set_option maxRecDepth 100000 in
theorem c_Exch_rings (l : Launch) (dC : Nat → ClassId) (dI : Nat → Nat → Nat) (cI cZ : ClassId) (a_t : Nat → Nat) (t_boats : Int32) (t_allowed : Nat → Int32) (t_order : Nat → Int32) (t_best : Nat → Int32) (t_fewest : Int32)  (r0 : Int32) (h : m_Exch_rings t_boats t_order = some r0) : (MI l yX3_rings wsX3_rings ({ frames := 1, cells := 0, slots := 0, locals := 24 }) (dC, dI) [(cI, .int), (cZ, .boolean)] (wd_tExch cI cZ a_t t_boats t_allowed t_order t_best t_fewest) (wd_tExch cI cZ a_t t_boats t_allowed t_order t_best t_fewest) [.ref (a_t 0)] r0) := by
  intro sz
  refine Met.ofW (cc := cX3_rings) (maxL := 4) (ret := (some .int)) (by decide) rfl ?_
  intro p e s m args below meth c s₁ B hml hv
  obtain ⟨rfl, hsz, hP, hK, hD0⟩ := hv
  have hx := B.exec
  have hb := B.bytes
  have hr := B.returns
  have hts := atoms_spec (ws := wsX3_rings) B.pre
  have hown : s.vm.findClass RX3 = some m.cls := findClass_of_methodNamed B.named
  have hlocks := B.notSynchronized
  subst hsz
  have hD := hD0.self (sz := s.heap.size)
  have hA : ∀ q : Nat, s.heap.size ≤ q → va_A (wd_tExch cI cZ a_t t_boats t_allowed t_order t_best t_fewest) s.heap.size q := fun q h => Or.inr h
  have hS : va_S (va_A (wd_tExch cI cZ a_t t_boats t_allowed t_order t_best t_fewest) s.heap.size) s.heap s.heap [] := va_S.rf
  have hin3 : ∀ w ∈ u_ws RX3 TX3 5, w ∈ wsX3_rings := fun w h => List.mem_cons_of_mem _ (List.mem_append_right _ h)
  have hl := lv_entry ([.ref (a_t 0)]) (n := 4) (Nat.le_of_ble_eq_true rfl)
  rw [lg_entry_eq]
  generalize (lg_sl ([.ref (a_t 0)]) ++ List.replicate (4 - (lg_sl ([.ref (a_t 0)])).length) Slot.unset).toArray = ls at hl ⊢
  have hl : lv_has ls 4 [(0, .ref (a_t 0))] := hl
  have L6 : ∀ (n6 : Nat) (x1 : Int32) (x2 : Int32) (x3 : Int32)  (H : Heap) (locs : List Loc) (ls : Array Slot), va_P (dC, dI) vwCl (wd_tExch cI cZ a_t t_boats t_allowed t_order t_best t_fewest) H → va_D (va_A (wd_tExch cI cZ a_t t_boats t_allowed t_order t_best t_fewest) s.heap.size) (wd_tExch cI cZ a_t t_boats t_allowed t_order t_best t_fewest) → va_S (va_A (wd_tExch cI cZ a_t t_boats t_allowed t_order t_best t_fewest) s.heap.size) s.heap H locs → lv_has ls 4 [(0, .ref (a_t 0)), (1, .int x1), (2, .int x2), (3, .int x3)] → m_Exch_rings_L6  n6 x1 x2 x3 t_boats t_order = some r0 → W p l e (headSpec wsX3_rings ({ frames := 1, cells := 0, slots := 0, locals := 24 })).room s m ([.ref (a_t 0)] : List Value).toArray below meth c H locs 0 0 (MQ below (cQi (dC, dI) (wd_tExch cI cZ a_t t_boats t_allowed t_order t_best t_fewest) (wd_tExch cI cZ a_t t_boats t_allowed t_order t_best t_fewest) s.heap.size r0) ([.ref (a_t 0)] : List Value).toArray s 0 0 (va_A (wd_tExch cI cZ a_t t_boats t_allowed t_order t_best t_fewest) s.heap.size)) (F0 m 6 ls []) := by
    intro n6
    induction n6 with
    | zero => intro x1 x2 x3 H locs ls hP hD hS hl h; have h : none = some r0 := h; cases h
    | succ n6 ih6 =>
      intro x1 x2 x3 H locs ls hP hD hS hl h
      have h : m_Exch_rings_B6  (m_Exch_rings_L6  n6) x1 x2 x3 t_boats t_order = some r0 := h
      have J36 : ∀ (x1 : Int32) (x2 : Int32) (x3 : Int32)  (H : Heap) (locs : List Loc) (ls : Array Slot), va_P (dC, dI) vwCl (wd_tExch cI cZ a_t t_boats t_allowed t_order t_best t_fewest) H → va_D (va_A (wd_tExch cI cZ a_t t_boats t_allowed t_order t_best t_fewest) s.heap.size) (wd_tExch cI cZ a_t t_boats t_allowed t_order t_best t_fewest) → va_S (va_A (wd_tExch cI cZ a_t t_boats t_allowed t_order t_best t_fewest) s.heap.size) s.heap H locs → lv_has ls 4 [(0, .ref (a_t 0)), (1, .int x1), (2, .int x2), (3, .int x3)] → m_Exch_rings_B36 (m_Exch_rings_L6  n6) x1 x2 x3 t_boats t_order = some r0 → W p l e (headSpec wsX3_rings ({ frames := 1, cells := 0, slots := 0, locals := 24 })).room s m ([.ref (a_t 0)] : List Value).toArray below meth c H locs 0 0 (MQ below (cQi (dC, dI) (wd_tExch cI cZ a_t t_boats t_allowed t_order t_best t_fewest) (wd_tExch cI cZ a_t t_boats t_allowed t_order t_best t_fewest) s.heap.size r0) ([.ref (a_t 0)] : List Value).toArray s 0 0 (va_A (wd_tExch cI cZ a_t t_boats t_allowed t_order t_best t_fewest) s.heap.size)) (F0 m 36 ls []) := by
        intro x1 x2 x3 H locs ls hP hD hS hl h
        unfold m_Exch_rings_B36 at h
        refine lv_iinc (v := (x3 + 1)) (lv' := [(3, .int (x3 + 1)), (0, .ref (a_t 0)), (1, .int x1), (2, .int x2)]) hx hb dX3_rings_36 hl (k := 3) rfl rfl (by decide) rfl (fun ls hl => ?_)
        refine lv_goto (tgt := 6) hx hb dX3_rings_39 (by decide) ?_
        exact ih6 x1 x2 (x3 + 1) _ _ _ hP hD hS (lv_sub hl [1, 2, 3, 0] rfl) h
      unfold m_Exch_rings_B6 at h
      refine lv_iload_n hx hb dX3_rings_6 rfl (lv_at hl 3 rfl) ?_
      refine lv_aload_n hx hb dX3_rings_7 rfl (lv_at hl 0 rfl) ?_
      refine va_get (D := (dC, dI)) (ci := 3) (v := .int t_boats) (C := RX3) (T := TX3) (N := 5) hx hb hts hin3 hown hK hP 0 rfl rfl 0 (by decide) (hts (.fieldLink RX3 9 "TowedBack$Exchange" "boats" "I") (List.mem_of_getElem? (i := 1) rfl)) (fun _ h9 => h9) rfl dX3_rings_8 ?_
      refine lv_icmp_ge (tgt := 42) hx hb dX3_rings_11 (by decide) (fun hc => ?_) (fun hc => ?_)
      · have h := k_pos hc h
        refine lv_iload_n hx hb dX3_rings_42 rfl (lv_at hl 1 rfl) ?_
        obtain rfl := k_in1 h
        exact k_ri hx hb hr hlocks hP hS dX3_rings_43
      · have h := k_neg hc h
        refine lv_iload_n hx hb dX3_rings_14 rfl (lv_at hl 2 rfl) ?_
        refine lv_iload_n hx hb dX3_rings_15 rfl (lv_at hl 3 rfl) ?_
        refine lv_ishr hx hb dX3_rings_16 ?_
        refine lv_iconst (v := 1) hx hb dX3_rings_17 (by decide) ?_
        refine lv_iand hx hb dX3_rings_18 ?_
        refine lv_if_eq (tgt := 25) hx hb dX3_rings_19 (by decide) (fun hc => ?_) (fun hc => ?_)
        · have h := k_pos hc h
          refine lv_iinc (v := (x1 + 1)) (lv' := [(1, .int (x1 + 1)), (0, .ref (a_t 0)), (2, .int x2), (3, .int x3)]) hx hb dX3_rings_25 hl (k := 1) rfl rfl (by decide) rfl (fun ls hl => ?_)
          refine lv_iload_n hx hb dX3_rings_28 rfl (lv_at hl 2 rfl) ?_
          refine lv_aload_n hx hb dX3_rings_29 rfl (lv_at hl 1 rfl) ?_
          refine lv_iload_n hx hb dX3_rings_30 rfl (lv_at hl 3 rfl) ?_
          obtain ⟨r1, hc1, h⟩ := kb1_some h
          refine k_FVi (rest := [.int x2]) (As := [.int x3]) ⟨hx, hb, hml, hown, hts⟩ (c_Exch_ringOf l dC dI cI cZ a_t t_boats t_allowed t_order t_best t_fewest x3 r1 hc1) (cwV 1 hts gX3_rings_X3_ringOf rfl rfl rfl hd_3_ringOf ⟨Nat.le_of_ble_eq_true rfl, Nat.le_of_ble_eq_true rfl⟩) hK hP hD hS hA 0 3 rfl rfl rfl (wd_tExch_f.trans wd_tExch_f.symm) rfl hl.1 rfl (Nat.le_of_ble_eq_true rfl) dX3_rings_31 ⟨Nat.zero_le _, Nat.zero_le _⟩ (fun H locs hP hD hS => ?_)
          refine lv_ior hx hb dX3_rings_34 ?_
          refine lv_istore_n (lv' := [(2, .int (x2 ||| r1)), (1, .int (x1 + 1)), (0, .ref (a_t 0)), (3, .int x3)]) hx hb dX3_rings_35 rfl hl (by decide) rfl (fun ls hl => ?_)
          exact J36 (x1 + 1) (x2 ||| r1) x3 _ _ _ hP hD hS (lv_sub hl [2, 1, 0, 3] rfl) h
        · have h := k_neg hc h
          refine lv_goto (tgt := 36) hx hb dX3_rings_22 (by decide) ?_
          exact J36 x1 x2 x3 _ _ _ hP hD hS (lv_sub hl [0, 1, 2, 3] rfl) h
  unfold m_Exch_rings at h
  refine lv_iconst (v := 0) hx hb dX3_rings_0 (by decide) ?_
  refine lv_istore_n (lv' := [(1, .int 0), (0, .ref (a_t 0))]) hx hb dX3_rings_1 rfl hl (by decide) rfl (fun ls hl => ?_)
  refine lv_iconst (v := 0) hx hb dX3_rings_2 (by decide) ?_
  refine lv_istore_n (lv' := [(2, .int 0), (1, .int 0), (0, .ref (a_t 0))]) hx hb dX3_rings_3 rfl hl (by decide) rfl (fun ls hl => ?_)
  refine lv_iconst (v := 0) hx hb dX3_rings_4 (by decide) ?_
  refine lv_istore_n (lv' := [(3, .int 0), (2, .int 0), (1, .int 0), (0, .ref (a_t 0))]) hx hb dX3_rings_5 rfl hl (by decide) rfl (fun ls hl => ?_)
  exact L6 FU 0 0 0 _ _ _ hP hD hS (lv_sub hl [3, 2, 1, 0] rfl) h
set_option maxHeartbeats 4000000 in
set_option maxRecDepth 100000 in
theorem c_Exch_compare (l : Launch) (dC : Nat → ClassId) (dI : Nat → Nat → Nat) (cI cZ : ClassId) (a_t : Nat → Nat) (t_boats : Int32) (t_allowed : Nat → Int32) (t_order : Nat → Int32) (i_t_best : Nat → Int32) (i_t_fewest : Int32)  (o_t_best : Nat → Int32) (o_t_fewest : Int32) (h : m_Exch_compare t_boats t_order i_t_best i_t_fewest = some (o_t_best, o_t_fewest)) : (MV l yX3_compare wsX3_compare ({ frames := 2, cells := 0, slots := 0, locals := 47 }) (dC, dI) [(cI, .int), (cZ, .boolean)] (wd_tExch cI cZ a_t t_boats t_allowed t_order i_t_best i_t_fewest) (wd_tExch cI cZ a_t t_boats t_allowed t_order o_t_best o_t_fewest) [.ref (a_t 0)]) := by
  intro sz
  refine Met.ofW (cc := cX3_compare) (maxL := 3) (ret := none) (by decide) rfl ?_
  intro p e s m args below meth c s₁ B hml hv
  obtain ⟨rfl, hsz, hP, hK, hD0⟩ := hv
  have hx := B.exec
  have hb := B.bytes
  have hr := B.returns
  have hts := atoms_spec (ws := wsX3_compare) B.pre
  have hown : s.vm.findClass RX3 = some m.cls := findClass_of_methodNamed B.named
  have hlocks := B.notSynchronized
  subst hsz
  have hD := hD0.self (sz := s.heap.size)
  have hA : ∀ q : Nat, s.heap.size ≤ q → va_A (wd_tExch cI cZ a_t t_boats t_allowed t_order i_t_best i_t_fewest) s.heap.size q := fun q h => Or.inr h
  have hS : va_S (va_A (wd_tExch cI cZ a_t t_boats t_allowed t_order i_t_best i_t_fewest) s.heap.size) s.heap s.heap [] := va_S.rf
  have hin3 : ∀ w ∈ u_ws RX3 TX3 5, w ∈ wsX3_compare := fun w h => List.mem_cons_of_mem _ (List.mem_append_right _ h)
  have hl := lv_entry ([.ref (a_t 0)]) (n := 3) (Nat.le_of_ble_eq_true rfl)
  rw [lg_entry_eq]
  generalize (lg_sl ([.ref (a_t 0)]) ++ List.replicate (3 - (lg_sl ([.ref (a_t 0)])).length) Slot.unset).toArray = ls at hl ⊢
  have hl : lv_has ls 3 [(0, .ref (a_t 0))] := hl
  have L34 : ∀ (n34 : Nat) (x2 : Int32) (t_best : Nat → Int32) (t_fewest : Int32) (H : Heap) (locs : List Loc) (ls : Array Slot), va_P (dC, dI) vwCl (wd_tExch cI cZ a_t t_boats t_allowed t_order t_best t_fewest) H → va_D (va_A (wd_tExch cI cZ a_t t_boats t_allowed t_order i_t_best i_t_fewest) s.heap.size) (wd_tExch cI cZ a_t t_boats t_allowed t_order t_best t_fewest) → va_S (va_A (wd_tExch cI cZ a_t t_boats t_allowed t_order i_t_best i_t_fewest) s.heap.size) s.heap H locs → lv_has ls 3 [(0, .ref (a_t 0)), (2, .int x2)] → m_Exch_compare_L34  n34 x2 t_boats t_order t_best t_fewest = some (o_t_best, o_t_fewest) → W p l e (headSpec wsX3_compare ({ frames := 2, cells := 0, slots := 0, locals := 47 })).room s m ([.ref (a_t 0)] : List Value).toArray below meth c H locs 0 0 (MQ below (cQv (dC, dI) (wd_tExch cI cZ a_t t_boats t_allowed t_order i_t_best i_t_fewest) (wd_tExch cI cZ a_t t_boats t_allowed t_order o_t_best o_t_fewest) s.heap.size) ([.ref (a_t 0)] : List Value).toArray s 0 0 (va_A (wd_tExch cI cZ a_t t_boats t_allowed t_order i_t_best i_t_fewest) s.heap.size)) (F0 m 34 ls []) := by
    intro n34
    induction n34 with
    | zero => intro x2 t_best t_fewest H locs ls hP hD hS hl h; have h : none = some (o_t_best, o_t_fewest) := h; cases h
    | succ n34 ih34 =>
      intro x2 t_best t_fewest H locs ls hP hD hS hl h
      have h : m_Exch_compare_B34  (m_Exch_compare_L34  n34) x2 t_boats t_order t_best t_fewest = some (o_t_best, o_t_fewest) := h
      unfold m_Exch_compare_B34 at h
      refine lv_iload_n hx hb dX3_compare_34 rfl (lv_at hl 1 rfl) ?_
      refine lv_aload_n hx hb dX3_compare_35 rfl (lv_at hl 0 rfl) ?_
      refine va_get (D := (dC, dI)) (ci := 3) (v := .int t_boats) (C := RX3) (T := TX3) (N := 5) hx hb hts hin3 hown hK hP 0 rfl rfl 0 (by decide) (hts (.fieldLink RX3 9 "TowedBack$Exchange" "boats" "I") (List.mem_of_getElem? (i := 1) rfl)) (fun _ h9 => h9) rfl dX3_compare_36 ?_
      refine lv_icmp_ge (tgt := 60) hx hb dX3_compare_39 (by decide) (fun hc => ?_) (fun hc => ?_)
      · have h := k_pos hc h
        obtain ⟨rfl, rfl⟩ := k_in2 h
        exact k_rv hx hb hr hlocks hP hS dX3_compare_60
      · have h := k_neg hc h
        refine lv_aload_n hx hb dX3_compare_42 rfl (lv_at hl 0 rfl) ?_
        refine va_get (D := (dC, dI)) (ci := 3) (v := .ref (a_t 3)) (C := RX3) (T := TX3) (N := 5) hx hb hts hin3 hown hK hP 0 rfl rfl 3 (by decide) (hts (.fieldLink RX3 22 "TowedBack$Exchange" "best" "[I") (List.mem_of_getElem? (i := 3) rfl)) (fun _ h9 => h9) rfl dX3_compare_43 ?_
        refine lv_iload_n hx hb dX3_compare_46 rfl (lv_at hl 1 rfl) ?_
        refine lv_aload_n hx hb dX3_compare_47 rfl (lv_at hl 0 rfl) ?_
        refine va_get (D := (dC, dI)) (ci := 3) (v := .ref (a_t 2)) (C := RX3) (T := TX3) (N := 5) hx hb hts hin3 hown hK hP 0 rfl rfl 2 (by decide) (hts (.fieldLink RX3 19 "TowedBack$Exchange" "order" "[I") (List.mem_of_getElem? (i := 4) rfl)) (fun _ h9 => h9) rfl dX3_compare_48 ?_
        refine lv_iload_n hx hb dX3_compare_51 rfl (lv_at hl 1 rfl) ?_
        obtain ⟨hi1, h⟩ := kg_some h
        refine va_iald hx hb hK hP 2 0 rfl rfl hi1 dX3_compare_52 ?_
        obtain ⟨hi2, h⟩ := kg_some h
        refine va_iast hx hb hK hP hD hS 3 0 rfl rfl hi2 dX3_compare_53 (fun H locs hP hD hS => ?_)
        have hP : va_P (dC, dI) vwCl (wd_tExch cI cZ a_t t_boats t_allowed t_order (upd t_best x2.toNatClampNeg (t_order x2.toNatClampNeg)) t_fewest) H := hP
        have hD : va_D (va_A (wd_tExch cI cZ a_t t_boats t_allowed t_order i_t_best i_t_fewest) s.heap.size) (wd_tExch cI cZ a_t t_boats t_allowed t_order (upd t_best x2.toNatClampNeg (t_order x2.toNatClampNeg)) t_fewest) := hD
        refine lv_iinc (v := (x2 + 1)) (lv' := [(2, .int (x2 + 1)), (0, .ref (a_t 0))]) hx hb dX3_compare_54 hl (k := 1) rfl rfl (by decide) rfl (fun ls hl => ?_)
        refine lv_goto (tgt := 34) hx hb dX3_compare_57 (by decide) ?_
        exact ih34 (x2 + 1) (upd t_best x2.toNatClampNeg (t_order x2.toNatClampNeg)) t_fewest _ _ _ hP hD hS (lv_sub hl [1, 0] rfl) h
  have J27 : ∀ (x1 : Int32) (t_best : Nat → Int32) (t_fewest : Int32) (H : Heap) (locs : List Loc) (ls : Array Slot), va_P (dC, dI) vwCl (wd_tExch cI cZ a_t t_boats t_allowed t_order t_best t_fewest) H → va_D (va_A (wd_tExch cI cZ a_t t_boats t_allowed t_order i_t_best i_t_fewest) s.heap.size) (wd_tExch cI cZ a_t t_boats t_allowed t_order t_best t_fewest) → va_S (va_A (wd_tExch cI cZ a_t t_boats t_allowed t_order i_t_best i_t_fewest) s.heap.size) s.heap H locs → lv_has ls 3 [(0, .ref (a_t 0)), (1, .int x1)] → m_Exch_compare_B27  x1 t_boats t_order t_best t_fewest = some (o_t_best, o_t_fewest) → W p l e (headSpec wsX3_compare ({ frames := 2, cells := 0, slots := 0, locals := 47 })).room s m ([.ref (a_t 0)] : List Value).toArray below meth c H locs 0 0 (MQ below (cQv (dC, dI) (wd_tExch cI cZ a_t t_boats t_allowed t_order i_t_best i_t_fewest) (wd_tExch cI cZ a_t t_boats t_allowed t_order o_t_best o_t_fewest) s.heap.size) ([.ref (a_t 0)] : List Value).toArray s 0 0 (va_A (wd_tExch cI cZ a_t t_boats t_allowed t_order i_t_best i_t_fewest) s.heap.size)) (F0 m 27 ls []) := by
    intro x1 t_best t_fewest H locs ls hP hD hS hl h
    unfold m_Exch_compare_B27 at h
    refine lv_aload_n hx hb dX3_compare_27 rfl (lv_at hl 0 rfl) ?_
    refine lv_iload_n hx hb dX3_compare_28 rfl (lv_at hl 1 rfl) ?_
    refine va_put (D := (dC, dI)) (ci := 3) (v := .int x1) (ty := tyX3 4) (C := RX3) (T := TX3) (N := 5) hx hb hts hin3 tyX3 tyX3_ok nmX3 hown hK hP hD hS 0 rfl rfl 4 (by decide) (hts (.fieldLink RX3 25 "TowedBack$Exchange" "fewest" "I") (List.mem_of_getElem? (i := 2) rfl)) (fun _ h9 => h9) rfl (tyX3_ok 4 (by decide)) rfl rfl (Nat.le_of_ble_eq_true rfl) dX3_compare_29 (fun H locs hP hD hS => ?_)
    have hP : va_P (dC, dI) vwCl (wd_tExch cI cZ a_t t_boats t_allowed t_order t_best x1) H := hP
    have hD : va_D (va_A (wd_tExch cI cZ a_t t_boats t_allowed t_order i_t_best i_t_fewest) s.heap.size) (wd_tExch cI cZ a_t t_boats t_allowed t_order t_best x1) := hD
    refine lv_iconst (v := 0) hx hb dX3_compare_32 (by decide) ?_
    refine lv_istore_n (lv' := [(2, .int 0), (0, .ref (a_t 0)), (1, .int x1)]) hx hb dX3_compare_33 rfl hl (by decide) rfl (fun ls hl => ?_)
    exact L34 FU 0 t_best x1 _ _ _ hP hD hS (lv_sub hl [1, 0] rfl) h
  unfold m_Exch_compare at h
  refine lv_aload_n hx hb dX3_compare_0 rfl (lv_at hl 0 rfl) ?_
  refine va_get (D := (dC, dI)) (ci := 3) (v := .int t_boats) (C := RX3) (T := TX3) (N := 5) hx hb hts hin3 hown hK hP 0 rfl rfl 0 (by decide) (hts (.fieldLink RX3 9 "TowedBack$Exchange" "boats" "I") (List.mem_of_getElem? (i := 1) rfl)) (fun _ h9 => h9) rfl dX3_compare_1 ?_
  refine lv_aload_n hx hb dX3_compare_4 rfl (lv_at hl 0 rfl) ?_
  obtain ⟨r3, hc3, h⟩ := kb1_some h
  refine k_FVi (rest := [.int t_boats]) (As := []) ⟨hx, hb, hml, hown, hts⟩ (c_Exch_rings l dC dI cI cZ a_t t_boats t_allowed t_order i_t_best i_t_fewest r3 hc3) (cwV 0 hts gX3_compare_X3_rings rfl rfl rfl hd_3_rings ⟨Nat.le_of_ble_eq_true rfl, Nat.le_of_ble_eq_true rfl⟩) hK hP hD hS hA 0 3 rfl rfl rfl (wd_tExch_f.trans wd_tExch_f.symm) rfl hl.1 rfl (Nat.le_of_ble_eq_true rfl) dX3_compare_5 ⟨Nat.zero_le _, Nat.zero_le _⟩ (fun H locs hP hD hS => ?_)
  refine lv_isub hx hb dX3_compare_8 ?_
  refine lv_istore_n (lv' := [(1, .int (t_boats - r3)), (0, .ref (a_t 0))]) hx hb dX3_compare_9 rfl hl (by decide) rfl (fun ls hl => ?_)
  refine lv_aload_n hx hb dX3_compare_10 rfl (lv_at hl 1 rfl) ?_
  refine va_get (D := (dC, dI)) (ci := 3) (v := .int i_t_fewest) (C := RX3) (T := TX3) (N := 5) hx hb hts hin3 hown hK hP 0 rfl rfl 4 (by decide) (hts (.fieldLink RX3 25 "TowedBack$Exchange" "fewest" "I") (List.mem_of_getElem? (i := 2) rfl)) (fun _ h9 => h9) rfl dX3_compare_11 ?_
  refine lv_iconst (v := (-1)) hx hb dX3_compare_14 (by decide) ?_
  refine lv_icmp_eq (tgt := 27) hx hb dX3_compare_15 (by decide) (fun hc => ?_) (fun hc => ?_)
  · have h := k_pos hc h
    exact J27 (t_boats - r3) i_t_best i_t_fewest _ _ _ hP hD hS (lv_sub hl [1, 0] rfl) h
  · have h := k_neg hc h
    refine lv_aload_n hx hb dX3_compare_18 rfl (lv_at hl 1 rfl) ?_
    refine va_get (D := (dC, dI)) (ci := 3) (v := .int i_t_fewest) (C := RX3) (T := TX3) (N := 5) hx hb hts hin3 hown hK hP 0 rfl rfl 4 (by decide) (hts (.fieldLink RX3 25 "TowedBack$Exchange" "fewest" "I") (List.mem_of_getElem? (i := 2) rfl)) (fun _ h9 => h9) rfl dX3_compare_19 ?_
    refine lv_iload_n hx hb dX3_compare_22 rfl (lv_at hl 0 rfl) ?_
    refine lv_icmp_gt (tgt := 27) hx hb dX3_compare_23 (by decide) (fun hc => ?_) (fun hc => ?_)
    · have h := k_pos hc h
      exact J27 (t_boats - r3) i_t_best i_t_fewest _ _ _ hP hD hS (lv_sub hl [1, 0] rfl) h
    · have h := k_neg hc h
      obtain ⟨rfl, rfl⟩ := k_in2 h
      exact k_rv hx hb hr hlocks hP hS dX3_compare_26
set_option maxHeartbeats 4000000 in
set_option maxRecDepth 100000 in
theorem c_Exch_swap (l : Launch) (dC : Nat → ClassId) (dI : Nat → Nat → Nat) (cI cZ : ClassId) (a_t : Nat → Nat) (t_boats : Int32) (t_allowed : Nat → Int32) (i_t_order : Nat → Int32) (t_best : Nat → Int32) (t_fewest : Int32) (y1 : Int32) (y2 : Int32) (o_t_order : Nat → Int32) (h : m_Exch_swap y1 y2 i_t_order = some o_t_order) : (MV l yX3_swap wsX3_swap ({ frames := 0, cells := 0, slots := 0, locals := 0 }) (dC, dI) [(cI, .int), (cZ, .boolean)] (wd_tExch cI cZ a_t t_boats t_allowed i_t_order t_best t_fewest) (wd_tExch cI cZ a_t t_boats t_allowed o_t_order t_best t_fewest) [.ref (a_t 0), .int y1, .int y2]) := by
  intro sz
  refine Met.ofW (cc := cX3_swap) (maxL := 4) (ret := none) (by decide) rfl ?_
  intro p e s m args below meth c s₁ B hml hv
  obtain ⟨rfl, hsz, hP, hK, hD0⟩ := hv
  have hx := B.exec
  have hb := B.bytes
  have hr := B.returns
  have hts := atoms_spec (ws := wsX3_swap) B.pre
  have hown : s.vm.findClass RX3 = some m.cls := findClass_of_methodNamed B.named
  have hlocks := B.notSynchronized
  subst hsz
  have hD := hD0.self (sz := s.heap.size)
  have hA : ∀ q : Nat, s.heap.size ≤ q → va_A (wd_tExch cI cZ a_t t_boats t_allowed i_t_order t_best t_fewest) s.heap.size q := fun q h => Or.inr h
  have hS : va_S (va_A (wd_tExch cI cZ a_t t_boats t_allowed i_t_order t_best t_fewest) s.heap.size) s.heap s.heap [] := va_S.rf
  have hin3 : ∀ w ∈ u_ws RX3 TX3 5, w ∈ wsX3_swap := fun w h => List.mem_cons_of_mem _ (List.mem_append_right _ h)
  have hl := lv_entry ([.ref (a_t 0), .int y1, .int y2]) (n := 4) (Nat.le_of_ble_eq_true rfl)
  rw [lg_entry_eq]
  generalize (lg_sl ([.ref (a_t 0), .int y1, .int y2]) ++ List.replicate (4 - (lg_sl ([.ref (a_t 0), .int y1, .int y2])).length) Slot.unset).toArray = ls at hl ⊢
  have hl : lv_has ls 4 [(0, .ref (a_t 0)), (1, .int y1), (2, .int y2)] := hl
  unfold m_Exch_swap at h
  refine lv_iload_n hx hb dX3_swap_0 rfl (lv_at hl 1 rfl) ?_
  refine lv_if_lt (tgt := 18) hx hb dX3_swap_1 (by decide) (fun hc => ?_) (fun hc => ?_)
  · have h := k_pos hc h
    obtain rfl := k_in1 h
    exact k_rv hx hb hr hlocks hP hS dX3_swap_18
  · have h := k_neg hc h
    refine lv_iload_n hx hb dX3_swap_4 rfl (lv_at hl 1 rfl) ?_
    refine lv_iconst (v := 5) hx hb dX3_swap_5 (by decide) ?_
    refine lv_icmp_ge (tgt := 18) hx hb dX3_swap_6 (by decide) (fun hc => ?_) (fun hc => ?_)
    · have h := k_pos hc h
      obtain rfl := k_in1 h
      exact k_rv hx hb hr hlocks hP hS dX3_swap_18
    · have h := k_neg hc h
      refine lv_iload_n hx hb dX3_swap_9 rfl (lv_at hl 2 rfl) ?_
      refine lv_if_lt (tgt := 18) hx hb dX3_swap_10 (by decide) (fun hc => ?_) (fun hc => ?_)
      · have h := k_pos hc h
        obtain rfl := k_in1 h
        exact k_rv hx hb hr hlocks hP hS dX3_swap_18
      · have h := k_neg hc h
        refine lv_iload_n hx hb dX3_swap_13 rfl (lv_at hl 2 rfl) ?_
        refine lv_iconst (v := 5) hx hb dX3_swap_14 (by decide) ?_
        refine lv_icmp_lt (tgt := 19) hx hb dX3_swap_15 (by decide) (fun hc => ?_) (fun hc => ?_)
        · have h := k_pos hc h
          refine lv_aload_n hx hb dX3_swap_19 rfl (lv_at hl 0 rfl) ?_
          refine va_get (D := (dC, dI)) (ci := 3) (v := .ref (a_t 2)) (C := RX3) (T := TX3) (N := 5) hx hb hts hin3 hown hK hP 0 rfl rfl 2 (by decide) (hts (.fieldLink RX3 19 "TowedBack$Exchange" "order" "[I") (List.mem_of_getElem? (i := 1) rfl)) (fun _ h9 => h9) rfl dX3_swap_20 ?_
          refine lv_iload_n hx hb dX3_swap_23 rfl (lv_at hl 1 rfl) ?_
          obtain ⟨hi1, h⟩ := kg_some h
          refine va_iald hx hb hK hP 2 0 rfl rfl hi1 dX3_swap_24 ?_
          refine lv_istore_n (lv' := [(3, .int (i_t_order y1.toNatClampNeg)), (0, .ref (a_t 0)), (1, .int y1), (2, .int y2)]) hx hb dX3_swap_25 rfl hl (by decide) rfl (fun ls hl => ?_)
          refine lv_aload_n hx hb dX3_swap_26 rfl (lv_at hl 1 rfl) ?_
          refine va_get (D := (dC, dI)) (ci := 3) (v := .ref (a_t 2)) (C := RX3) (T := TX3) (N := 5) hx hb hts hin3 hown hK hP 0 rfl rfl 2 (by decide) (hts (.fieldLink RX3 19 "TowedBack$Exchange" "order" "[I") (List.mem_of_getElem? (i := 1) rfl)) (fun _ h9 => h9) rfl dX3_swap_27 ?_
          refine lv_iload_n hx hb dX3_swap_30 rfl (lv_at hl 2 rfl) ?_
          refine lv_aload_n hx hb dX3_swap_31 rfl (lv_at hl 1 rfl) ?_
          refine va_get (D := (dC, dI)) (ci := 3) (v := .ref (a_t 2)) (C := RX3) (T := TX3) (N := 5) hx hb hts hin3 hown hK hP 0 rfl rfl 2 (by decide) (hts (.fieldLink RX3 19 "TowedBack$Exchange" "order" "[I") (List.mem_of_getElem? (i := 1) rfl)) (fun _ h9 => h9) rfl dX3_swap_32 ?_
          refine lv_iload_n hx hb dX3_swap_35 rfl (lv_at hl 3 rfl) ?_
          obtain ⟨hi2, h⟩ := kg_some h
          refine va_iald hx hb hK hP 2 0 rfl rfl hi2 dX3_swap_36 ?_
          obtain ⟨hi3, h⟩ := kg_some h
          refine va_iast hx hb hK hP hD hS 2 0 rfl rfl hi3 dX3_swap_37 (fun H locs hP hD hS => ?_)
          have hP : va_P (dC, dI) vwCl (wd_tExch cI cZ a_t t_boats t_allowed (upd i_t_order y1.toNatClampNeg (i_t_order y2.toNatClampNeg)) t_best t_fewest) H := hP
          have hD : va_D (va_A (wd_tExch cI cZ a_t t_boats t_allowed i_t_order t_best t_fewest) s.heap.size) (wd_tExch cI cZ a_t t_boats t_allowed (upd i_t_order y1.toNatClampNeg (i_t_order y2.toNatClampNeg)) t_best t_fewest) := hD
          refine lv_aload_n hx hb dX3_swap_38 rfl (lv_at hl 1 rfl) ?_
          refine va_get (D := (dC, dI)) (ci := 3) (v := .ref (a_t 2)) (C := RX3) (T := TX3) (N := 5) hx hb hts hin3 hown hK hP 0 rfl rfl 2 (by decide) (hts (.fieldLink RX3 19 "TowedBack$Exchange" "order" "[I") (List.mem_of_getElem? (i := 1) rfl)) (fun _ h9 => h9) rfl dX3_swap_39 ?_
          refine lv_iload_n hx hb dX3_swap_42 rfl (lv_at hl 3 rfl) ?_
          refine lv_iload_n hx hb dX3_swap_43 rfl (lv_at hl 0 rfl) ?_
          obtain ⟨hi4, h⟩ := kg_some h
          refine va_iast hx hb hK hP hD hS 2 0 rfl rfl hi4 dX3_swap_44 (fun H locs hP hD hS => ?_)
          have hP : va_P (dC, dI) vwCl (wd_tExch cI cZ a_t t_boats t_allowed (upd (upd i_t_order y1.toNatClampNeg (i_t_order y2.toNatClampNeg)) y2.toNatClampNeg (i_t_order y1.toNatClampNeg)) t_best t_fewest) H := hP
          have hD : va_D (va_A (wd_tExch cI cZ a_t t_boats t_allowed i_t_order t_best t_fewest) s.heap.size) (wd_tExch cI cZ a_t t_boats t_allowed (upd (upd i_t_order y1.toNatClampNeg (i_t_order y2.toNatClampNeg)) y2.toNatClampNeg (i_t_order y1.toNatClampNeg)) t_best t_fewest) := hD
          obtain rfl := k_in1 h
          exact k_rv hx hb hr hlocks hP hS dX3_swap_45
        · have h := k_neg hc h
          obtain rfl := k_in1 h
          exact k_rv hx hb hr hlocks hP hS dX3_swap_18
