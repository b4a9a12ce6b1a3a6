set_option maxHeartbeats 4000000 in
set_option maxRecDepth 100000 in
theorem c_Exch_nextOrder (l : Launch) (dC : Nat → ClassId) (dI : Nat → Nat → Nat) (cI cZ : ClassId) (a_t : Nat → Nat) (t_boats : Int32) (t_allowed : Nat → Int32) (i_t_order : Nat → Int32) (t_best : Nat → Int32) (t_fewest : Int32)  (r0 : Int32) (o_t_order : Nat → Int32) (h : m_Exch_nextOrder t_boats i_t_order = some (r0, o_t_order)) : (MI l yX3_nextOrder wsX3_nextOrder ({ frames := 1, cells := 0, slots := 0, locals := 23 }) (dC, dI) [(cI, .int), (cZ, .boolean)] (wd_tExch cI cZ a_t t_boats t_allowed i_t_order t_best t_fewest) (wd_tExch cI cZ a_t t_boats t_allowed o_t_order t_best t_fewest) [.ref (a_t 0)] r0) := by
  intro sz
  refine Met.ofW (cc := cX3_nextOrder) (maxL := 5) (ret := (some .boolean)) (by decide) rfl ?_
  intro p e s m args below meth c s₁ B hml hv
  obtain ⟨rfl, hsz, hP, hK, hD0⟩ := hv
  have hx := B.exec
  have hb := B.bytes
  have hr := B.returns
  have hts := atoms_spec (ws := wsX3_nextOrder) B.pre
  have hown : s.vm.findClass RX3 = some m.cls := findClass_of_methodNamed B.named
  have hlocks := B.notSynchronized
  subst hsz
  have hD := hD0.self (sz := s.heap.size)
  have hA : ∀ q : Nat, s.heap.size ≤ q → va_A (wd_tExch cI cZ a_t t_boats t_allowed i_t_order t_best t_fewest) s.heap.size q := fun q h => Or.inr h
  have hS : va_S (va_A (wd_tExch cI cZ a_t t_boats t_allowed i_t_order t_best t_fewest) s.heap.size) s.heap s.heap [] := va_S.rf
  have hin3 : ∀ w ∈ u_ws RX3 TX3 5, w ∈ wsX3_nextOrder := fun w h => List.mem_cons_of_mem _ (List.mem_append_right _ h)
  have hl := lv_entry ([.ref (a_t 0)]) (n := 5) (Nat.le_of_ble_eq_true rfl)
  rw [lg_entry_eq]
  generalize (lg_sl ([.ref (a_t 0)]) ++ List.replicate (5 - (lg_sl ([.ref (a_t 0)])).length) Slot.unset).toArray = ls at hl ⊢
  have hl : lv_has ls 5 [(0, .ref (a_t 0))] := hl
  have L91 : ∀ (n91 : Nat) (x3 : Int32) (x4 : Int32) (t_order : Nat → Int32) (H : Heap) (locs : List Loc) (ls : Array Slot), va_P (dC, dI) vwCl (wd_tExch cI cZ a_t t_boats t_allowed t_order t_best t_fewest) H → va_D (va_A (wd_tExch cI cZ a_t t_boats t_allowed i_t_order t_best t_fewest) s.heap.size) (wd_tExch cI cZ a_t t_boats t_allowed t_order t_best t_fewest) → va_S (va_A (wd_tExch cI cZ a_t t_boats t_allowed i_t_order t_best t_fewest) s.heap.size) s.heap H locs → lv_has ls 5 [(0, .ref (a_t 0)), (3, .int x3), (4, .int x4)] → m_Exch_nextOrder_L91  n91 x3 x4 t_boats t_order = some (r0, o_t_order) → W p l e (headSpec wsX3_nextOrder ({ frames := 1, cells := 0, slots := 0, locals := 23 })).room s m ([.ref (a_t 0)] : List Value).toArray below meth c H locs 0 0 (MQ below (cQi (dC, dI) (wd_tExch cI cZ a_t t_boats t_allowed i_t_order t_best t_fewest) (wd_tExch cI cZ a_t t_boats t_allowed o_t_order t_best t_fewest) s.heap.size r0) ([.ref (a_t 0)] : List Value).toArray s 0 0 (va_A (wd_tExch cI cZ a_t t_boats t_allowed i_t_order t_best t_fewest) s.heap.size)) (F0 m 91 ls []) := by
    intro n91
    induction n91 with
    | zero => intro x3 x4 t_order H locs ls hP hD hS hl h; have h : none = some (r0, o_t_order) := h; cases h
    | succ n91 ih91 =>
      intro x3 x4 t_order H locs ls hP hD hS hl h
      have h : m_Exch_nextOrder_B91  (m_Exch_nextOrder_L91  n91) x3 x4 t_boats t_order = some (r0, o_t_order) := h
      unfold m_Exch_nextOrder_B91 at h
      refine lv_iload_n hx hb dX3_nextOrder_91 rfl (lv_at hl 1 rfl) ?_
      refine lv_iload hx hb dX3_nextOrder_92 (lv_at hl 2 rfl) ?_
      refine lv_icmp_ge (tgt := 113) hx hb dX3_nextOrder_94 (by decide) (fun hc => ?_) (fun hc => ?_)
      · have h := k_pos hc h
        refine lv_iconst (v := 1) hx hb dX3_nextOrder_113 (by decide) ?_
        obtain ⟨rfl, rfl⟩ := k_in2 h
        exact k_rz hx hb hr hlocks rfl hP hS dX3_nextOrder_114
      · have h := k_neg hc h
        refine lv_aload_n hx hb dX3_nextOrder_97 rfl (lv_at hl 0 rfl) ?_
        refine lv_iload_n hx hb dX3_nextOrder_98 rfl (lv_at hl 1 rfl) ?_
        refine lv_iload hx hb dX3_nextOrder_99 (lv_at hl 2 rfl) ?_
        obtain ⟨t_order_1, hc1, h⟩ := kb1_some h
        refine k_FVv (rest := []) (As := [.int x3, .int x4]) ⟨hx, hb, hml, hown, hts⟩ (c_Exch_swap l dC dI cI cZ a_t t_boats t_allowed t_order t_best t_fewest x3 x4 t_order_1 hc1) (cwV 2 hts gX3_nextOrder_X3_swap rfl rfl rfl hd_3_swap ⟨Nat.le_of_ble_eq_true rfl, Nat.le_of_ble_eq_true rfl⟩) hK hP hD hS hA 0 3 rfl rfl rfl (wd_tExch_f.trans wd_tExch_f.symm) rfl hl.1 rfl (Nat.le_of_ble_eq_true rfl) dX3_nextOrder_101 ⟨Nat.zero_le _, Nat.zero_le _⟩ (fun H locs hP hD hS => ?_)
        refine lv_iinc (v := (x3 + 1)) (lv' := [(3, .int (x3 + 1)), (0, .ref (a_t 0)), (4, .int x4)]) hx hb dX3_nextOrder_104 hl (k := 1) rfl rfl (by decide) rfl (fun ls hl => ?_)
        refine lv_iinc (v := (x4 + (-1))) (lv' := [(4, .int (x4 + (-1))), (3, .int (x3 + 1)), (0, .ref (a_t 0))]) hx hb dX3_nextOrder_107 hl (k := 2) rfl rfl (by decide) rfl (fun ls hl => ?_)
        refine lv_goto (tgt := 91) hx hb dX3_nextOrder_110 (by decide) ?_
        exact ih91 (x3 + 1) (x4 + (-1)) t_order_1 _ _ _ hP hD hS (lv_sub hl [2, 1, 0] rfl) h
  have J73 : ∀ (x1 : Int32) (x2 : Int32) (t_order : Nat → Int32) (H : Heap) (locs : List Loc) (ls : Array Slot), va_P (dC, dI) vwCl (wd_tExch cI cZ a_t t_boats t_allowed t_order t_best t_fewest) H → va_D (va_A (wd_tExch cI cZ a_t t_boats t_allowed i_t_order t_best t_fewest) s.heap.size) (wd_tExch cI cZ a_t t_boats t_allowed t_order t_best t_fewest) → va_S (va_A (wd_tExch cI cZ a_t t_boats t_allowed i_t_order t_best t_fewest) s.heap.size) s.heap H locs → lv_has ls 5 [(0, .ref (a_t 0)), (1, .int x1), (2, .int x2)] → m_Exch_nextOrder_B73  x1 x2 t_boats t_order = some (r0, o_t_order) → W p l e (headSpec wsX3_nextOrder ({ frames := 1, cells := 0, slots := 0, locals := 23 })).room s m ([.ref (a_t 0)] : List Value).toArray below meth c H locs 0 0 (MQ below (cQi (dC, dI) (wd_tExch cI cZ a_t t_boats t_allowed i_t_order t_best t_fewest) (wd_tExch cI cZ a_t t_boats t_allowed o_t_order t_best t_fewest) s.heap.size r0) ([.ref (a_t 0)] : List Value).toArray s 0 0 (va_A (wd_tExch cI cZ a_t t_boats t_allowed i_t_order t_best t_fewest) s.heap.size)) (F0 m 73 ls []) := by
    intro x1 x2 t_order H locs ls hP hD hS hl h
    unfold m_Exch_nextOrder_B73 at h
    refine lv_aload_n hx hb dX3_nextOrder_73 rfl (lv_at hl 0 rfl) ?_
    refine lv_iload_n hx hb dX3_nextOrder_74 rfl (lv_at hl 1 rfl) ?_
    refine lv_iload_n hx hb dX3_nextOrder_75 rfl (lv_at hl 2 rfl) ?_
    obtain ⟨t_order_2, hc2, h⟩ := kb1_some h
    refine k_FVv (rest := []) (As := [.int x1, .int x2]) ⟨hx, hb, hml, hown, hts⟩ (c_Exch_swap l dC dI cI cZ a_t t_boats t_allowed t_order t_best t_fewest x1 x2 t_order_2 hc2) (cwV 2 hts gX3_nextOrder_X3_swap rfl rfl rfl hd_3_swap ⟨Nat.le_of_ble_eq_true rfl, Nat.le_of_ble_eq_true rfl⟩) hK hP hD hS hA 0 3 rfl rfl rfl (wd_tExch_f.trans wd_tExch_f.symm) rfl hl.1 rfl (Nat.le_of_ble_eq_true rfl) dX3_nextOrder_76 ⟨Nat.zero_le _, Nat.zero_le _⟩ (fun H locs hP hD hS => ?_)
    refine lv_iload_n hx hb dX3_nextOrder_79 rfl (lv_at hl 1 rfl) ?_
    refine lv_iconst (v := 1) hx hb dX3_nextOrder_80 (by decide) ?_
    refine lv_iadd hx hb dX3_nextOrder_81 ?_
    refine lv_istore_n (lv' := [(3, .int (x1 + 1)), (0, .ref (a_t 0)), (1, .int x1), (2, .int x2)]) hx hb dX3_nextOrder_82 rfl hl (by decide) rfl (fun ls hl => ?_)
    refine lv_aload_n hx hb dX3_nextOrder_83 rfl (lv_at hl 1 rfl) ?_
    refine va_get (D := (dC, dI)) (ci := 3) (v := .int t_boats) (C := RX3) (T := TX3) (N := 5) hx hb hts hin3 hown hK hP 0 rfl rfl 0 (by decide) (hts (.fieldLink RX3 9 "TowedBack$Exchange" "boats" "I") (List.mem_of_getElem? (i := 1) rfl)) (fun _ h9 => h9) rfl dX3_nextOrder_84 ?_
    refine lv_iconst (v := 1) hx hb dX3_nextOrder_87 (by decide) ?_
    refine lv_isub hx hb dX3_nextOrder_88 ?_
    refine lv_istore (lv' := [(4, .int (t_boats - 1)), (3, .int (x1 + 1)), (0, .ref (a_t 0)), (1, .int x1), (2, .int x2)]) hx hb dX3_nextOrder_89 hl (by decide) rfl (fun ls hl => ?_)
    exact L91 FU (x1 + 1) (t_boats - 1) t_order_2 _ _ _ hP hD hS (lv_sub hl [2, 1, 0] rfl) h
  have L47 : ∀ (n47 : Nat) (x1 : Int32) (x2 : Int32) (t_order : Nat → Int32) (H : Heap) (locs : List Loc) (ls : Array Slot), va_P (dC, dI) vwCl (wd_tExch cI cZ a_t t_boats t_allowed t_order t_best t_fewest) H → va_D (va_A (wd_tExch cI cZ a_t t_boats t_allowed i_t_order t_best t_fewest) s.heap.size) (wd_tExch cI cZ a_t t_boats t_allowed t_order t_best t_fewest) → va_S (va_A (wd_tExch cI cZ a_t t_boats t_allowed i_t_order t_best t_fewest) s.heap.size) s.heap H locs → lv_has ls 5 [(0, .ref (a_t 0)), (1, .int x1), (2, .int x2)] → m_Exch_nextOrder_L47  n47 x1 x2 t_boats t_order = some (r0, o_t_order) → W p l e (headSpec wsX3_nextOrder ({ frames := 1, cells := 0, slots := 0, locals := 23 })).room s m ([.ref (a_t 0)] : List Value).toArray below meth c H locs 0 0 (MQ below (cQi (dC, dI) (wd_tExch cI cZ a_t t_boats t_allowed i_t_order t_best t_fewest) (wd_tExch cI cZ a_t t_boats t_allowed o_t_order t_best t_fewest) s.heap.size r0) ([.ref (a_t 0)] : List Value).toArray s 0 0 (va_A (wd_tExch cI cZ a_t t_boats t_allowed i_t_order t_best t_fewest) s.heap.size)) (F0 m 47 ls []) := by
    intro n47
    induction n47 with
    | zero => intro x1 x2 t_order H locs ls hP hD hS hl h; have h : none = some (r0, o_t_order) := h; cases h
    | succ n47 ih47 =>
      intro x1 x2 t_order H locs ls hP hD hS hl h
      have h : m_Exch_nextOrder_B47  (m_Exch_nextOrder_L47  n47) x1 x2 t_boats t_order = some (r0, o_t_order) := h
      unfold m_Exch_nextOrder_B47 at h
      refine lv_iload_n hx hb dX3_nextOrder_47 rfl (lv_at hl 2 rfl) ?_
      refine lv_iload_n hx hb dX3_nextOrder_48 rfl (lv_at hl 1 rfl) ?_
      refine lv_icmp_le (tgt := 73) hx hb dX3_nextOrder_49 (by decide) (fun hc => ?_) (fun hc => ?_)
      · have h := k_pos hc h
        exact J73 x1 x2 t_order _ _ _ hP hD hS (lv_sub hl [0, 1, 2] rfl) h
      · have h := k_neg hc h
        refine lv_aload_n hx hb dX3_nextOrder_52 rfl (lv_at hl 0 rfl) ?_
        refine va_get (D := (dC, dI)) (ci := 3) (v := .ref (a_t 2)) (C := RX3) (T := TX3) (N := 5) hx hb hts hin3 hown hK hP 0 rfl rfl 2 (by decide) (hts (.fieldLink RX3 19 "TowedBack$Exchange" "order" "[I") (List.mem_of_getElem? (i := 2) rfl)) (fun _ h9 => h9) rfl dX3_nextOrder_53 ?_
        refine lv_iload_n hx hb dX3_nextOrder_56 rfl (lv_at hl 2 rfl) ?_
        obtain ⟨hi3, h⟩ := kg_some h
        refine va_iald hx hb hK hP 2 0 rfl rfl hi3 dX3_nextOrder_57 ?_
        refine lv_aload_n hx hb dX3_nextOrder_58 rfl (lv_at hl 0 rfl) ?_
        refine va_get (D := (dC, dI)) (ci := 3) (v := .ref (a_t 2)) (C := RX3) (T := TX3) (N := 5) hx hb hts hin3 hown hK hP 0 rfl rfl 2 (by decide) (hts (.fieldLink RX3 19 "TowedBack$Exchange" "order" "[I") (List.mem_of_getElem? (i := 2) rfl)) (fun _ h9 => h9) rfl dX3_nextOrder_59 ?_
        refine lv_iload_n hx hb dX3_nextOrder_62 rfl (lv_at hl 1 rfl) ?_
        obtain ⟨hi4, h⟩ := kg_some h
        refine va_iald hx hb hK hP 2 0 rfl rfl hi4 dX3_nextOrder_63 ?_
        refine lv_icmp_ge (tgt := 73) hx hb dX3_nextOrder_64 (by decide) (fun hc => ?_) (fun hc => ?_)
        · have h := k_pos hc h
          exact J73 x1 x2 t_order _ _ _ hP hD hS (lv_sub hl [0, 1, 2] rfl) h
        · have h := k_neg hc h
          refine lv_iinc (v := (x2 + (-1))) (lv' := [(2, .int (x2 + (-1))), (0, .ref (a_t 0)), (1, .int x1)]) hx hb dX3_nextOrder_67 hl (k := 2) rfl rfl (by decide) rfl (fun ls hl => ?_)
          refine lv_goto (tgt := 47) hx hb dX3_nextOrder_70 (by decide) ?_
          exact ih47 x1 (x2 + (-1)) t_order _ _ _ hP hD hS (lv_sub hl [1, 2, 0] rfl) h
  have J34 : ∀ (x1 : Int32) (t_order : Nat → Int32) (H : Heap) (locs : List Loc) (ls : Array Slot), va_P (dC, dI) vwCl (wd_tExch cI cZ a_t t_boats t_allowed t_order t_best t_fewest) H → va_D (va_A (wd_tExch cI cZ a_t t_boats t_allowed i_t_order t_best t_fewest) s.heap.size) (wd_tExch cI cZ a_t t_boats t_allowed t_order t_best t_fewest) → va_S (va_A (wd_tExch cI cZ a_t t_boats t_allowed i_t_order t_best t_fewest) s.heap.size) s.heap H locs → lv_has ls 5 [(0, .ref (a_t 0)), (1, .int x1)] → m_Exch_nextOrder_B34  x1 t_boats t_order = some (r0, o_t_order) → W p l e (headSpec wsX3_nextOrder ({ frames := 1, cells := 0, slots := 0, locals := 23 })).room s m ([.ref (a_t 0)] : List Value).toArray below meth c H locs 0 0 (MQ below (cQi (dC, dI) (wd_tExch cI cZ a_t t_boats t_allowed i_t_order t_best t_fewest) (wd_tExch cI cZ a_t t_boats t_allowed o_t_order t_best t_fewest) s.heap.size r0) ([.ref (a_t 0)] : List Value).toArray s 0 0 (va_A (wd_tExch cI cZ a_t t_boats t_allowed i_t_order t_best t_fewest) s.heap.size)) (F0 m 34 ls []) := by
    intro x1 t_order H locs ls hP hD hS hl h
    unfold m_Exch_nextOrder_B34 at h
    refine lv_iload_n hx hb dX3_nextOrder_34 rfl (lv_at hl 1 rfl) ?_
    refine lv_if_ge (tgt := 40) hx hb dX3_nextOrder_35 (by decide) (fun hc => ?_) (fun hc => ?_)
    · have h := k_pos hc h
      refine lv_aload_n hx hb dX3_nextOrder_40 rfl (lv_at hl 0 rfl) ?_
      refine va_get (D := (dC, dI)) (ci := 3) (v := .int t_boats) (C := RX3) (T := TX3) (N := 5) hx hb hts hin3 hown hK hP 0 rfl rfl 0 (by decide) (hts (.fieldLink RX3 9 "TowedBack$Exchange" "boats" "I") (List.mem_of_getElem? (i := 1) rfl)) (fun _ h9 => h9) rfl dX3_nextOrder_41 ?_
      refine lv_iconst (v := 1) hx hb dX3_nextOrder_44 (by decide) ?_
      refine lv_isub hx hb dX3_nextOrder_45 ?_
      refine lv_istore_n (lv' := [(2, .int (t_boats - 1)), (0, .ref (a_t 0)), (1, .int x1)]) hx hb dX3_nextOrder_46 rfl hl (by decide) rfl (fun ls hl => ?_)
      exact L47 FU x1 (t_boats - 1) t_order _ _ _ hP hD hS (lv_sub hl [1, 2, 0] rfl) h
    · have h := k_neg hc h
      refine lv_iconst (v := 0) hx hb dX3_nextOrder_38 (by decide) ?_
      obtain ⟨rfl, rfl⟩ := k_in2 h
      exact k_rz hx hb hr hlocks rfl hP hS dX3_nextOrder_39
  have L7 : ∀ (n7 : Nat) (x1 : Int32) (t_order : Nat → Int32) (H : Heap) (locs : List Loc) (ls : Array Slot), va_P (dC, dI) vwCl (wd_tExch cI cZ a_t t_boats t_allowed t_order t_best t_fewest) H → va_D (va_A (wd_tExch cI cZ a_t t_boats t_allowed i_t_order t_best t_fewest) s.heap.size) (wd_tExch cI cZ a_t t_boats t_allowed t_order t_best t_fewest) → va_S (va_A (wd_tExch cI cZ a_t t_boats t_allowed i_t_order t_best t_fewest) s.heap.size) s.heap H locs → lv_has ls 5 [(0, .ref (a_t 0)), (1, .int x1)] → m_Exch_nextOrder_L7  n7 x1 t_boats t_order = some (r0, o_t_order) → W p l e (headSpec wsX3_nextOrder ({ frames := 1, cells := 0, slots := 0, locals := 23 })).room s m ([.ref (a_t 0)] : List Value).toArray below meth c H locs 0 0 (MQ below (cQi (dC, dI) (wd_tExch cI cZ a_t t_boats t_allowed i_t_order t_best t_fewest) (wd_tExch cI cZ a_t t_boats t_allowed o_t_order t_best t_fewest) s.heap.size r0) ([.ref (a_t 0)] : List Value).toArray s 0 0 (va_A (wd_tExch cI cZ a_t t_boats t_allowed i_t_order t_best t_fewest) s.heap.size)) (F0 m 7 ls []) := by
    intro n7
    induction n7 with
    | zero => intro x1 t_order H locs ls hP hD hS hl h; have h : none = some (r0, o_t_order) := h; cases h
    | succ n7 ih7 =>
      intro x1 t_order H locs ls hP hD hS hl h
      have h : m_Exch_nextOrder_B7  (m_Exch_nextOrder_L7  n7) x1 t_boats t_order = some (r0, o_t_order) := h
      unfold m_Exch_nextOrder_B7 at h
      refine lv_iload_n hx hb dX3_nextOrder_7 rfl (lv_at hl 1 rfl) ?_
      refine lv_if_lt (tgt := 34) hx hb dX3_nextOrder_8 (by decide) (fun hc => ?_) (fun hc => ?_)
      · have h := k_pos hc h
        exact J34 x1 t_order _ _ _ hP hD hS (lv_sub hl [0, 1] rfl) h
      · have h := k_neg hc h
        refine lv_aload_n hx hb dX3_nextOrder_11 rfl (lv_at hl 0 rfl) ?_
        refine va_get (D := (dC, dI)) (ci := 3) (v := .ref (a_t 2)) (C := RX3) (T := TX3) (N := 5) hx hb hts hin3 hown hK hP 0 rfl rfl 2 (by decide) (hts (.fieldLink RX3 19 "TowedBack$Exchange" "order" "[I") (List.mem_of_getElem? (i := 2) rfl)) (fun _ h9 => h9) rfl dX3_nextOrder_12 ?_
        refine lv_iload_n hx hb dX3_nextOrder_15 rfl (lv_at hl 1 rfl) ?_
        obtain ⟨hi5, h⟩ := kg_some h
        refine va_iald hx hb hK hP 2 0 rfl rfl hi5 dX3_nextOrder_16 ?_
        refine lv_aload_n hx hb dX3_nextOrder_17 rfl (lv_at hl 0 rfl) ?_
        refine va_get (D := (dC, dI)) (ci := 3) (v := .ref (a_t 2)) (C := RX3) (T := TX3) (N := 5) hx hb hts hin3 hown hK hP 0 rfl rfl 2 (by decide) (hts (.fieldLink RX3 19 "TowedBack$Exchange" "order" "[I") (List.mem_of_getElem? (i := 2) rfl)) (fun _ h9 => h9) rfl dX3_nextOrder_18 ?_
        refine lv_iload_n hx hb dX3_nextOrder_21 rfl (lv_at hl 1 rfl) ?_
        refine lv_iconst (v := 1) hx hb dX3_nextOrder_22 (by decide) ?_
        refine lv_iadd hx hb dX3_nextOrder_23 ?_
        obtain ⟨hi6, h⟩ := kg_some h
        refine va_iald hx hb hK hP 2 0 rfl rfl hi6 dX3_nextOrder_24 ?_
        refine lv_icmp_le (tgt := 34) hx hb dX3_nextOrder_25 (by decide) (fun hc => ?_) (fun hc => ?_)
        · have h := k_pos hc h
          exact J34 x1 t_order _ _ _ hP hD hS (lv_sub hl [0, 1] rfl) h
        · have h := k_neg hc h
          refine lv_iinc (v := (x1 + (-1))) (lv' := [(1, .int (x1 + (-1))), (0, .ref (a_t 0))]) hx hb dX3_nextOrder_28 hl (k := 1) rfl rfl (by decide) rfl (fun ls hl => ?_)
          refine lv_goto (tgt := 7) hx hb dX3_nextOrder_31 (by decide) ?_
          exact ih7 (x1 + (-1)) t_order _ _ _ hP hD hS (lv_sub hl [1, 0] rfl) h
  unfold m_Exch_nextOrder at h
  refine lv_aload_n hx hb dX3_nextOrder_0 rfl (lv_at hl 0 rfl) ?_
  refine va_get (D := (dC, dI)) (ci := 3) (v := .int t_boats) (C := RX3) (T := TX3) (N := 5) hx hb hts hin3 hown hK hP 0 rfl rfl 0 (by decide) (hts (.fieldLink RX3 9 "TowedBack$Exchange" "boats" "I") (List.mem_of_getElem? (i := 1) rfl)) (fun _ h9 => h9) rfl dX3_nextOrder_1 ?_
  refine lv_iconst (v := 2) hx hb dX3_nextOrder_4 (by decide) ?_
  refine lv_isub hx hb dX3_nextOrder_5 ?_
  refine lv_istore_n (lv' := [(1, .int (t_boats - 2)), (0, .ref (a_t 0))]) hx hb dX3_nextOrder_6 rfl hl (by decide) rfl (fun ls hl => ?_)
  exact L7 FU (t_boats - 2) i_t_order _ _ _ hP hD hS (lv_sub hl [1, 0] rfl) h
set_option maxHeartbeats 4000000 in
set_option maxRecDepth 100000 in
theorem c_Exch_search (l : Launch) (dC : Nat → ClassId) (dI : Nat → Nat → Nat) (cI cZ : ClassId) (a_t : Nat → Nat) (t_boats : Int32) (t_allowed : Nat → Int32) (i_t_order : Nat → Int32) (i_t_best : Nat → Int32) (i_t_fewest : Int32)  (o_t_order : Nat → Int32) (o_t_best : Nat → Int32) (o_t_fewest : Int32) (h : m_Exch_search t_boats t_allowed i_t_order i_t_best i_t_fewest = some (o_t_order, o_t_best, o_t_fewest)) : (MV l yX3_search wsX3_search ({ frames := 3, cells := 0, slots := 0, locals := 69 }) (dC, dI) [(cI, .int), (cZ, .boolean)] (wd_tExch cI cZ a_t t_boats t_allowed i_t_order i_t_best i_t_fewest) (wd_tExch cI cZ a_t t_boats t_allowed o_t_order o_t_best o_t_fewest) [.ref (a_t 0)]) := by
  intro sz
  refine Met.ofW (cc := cX3_search) (maxL := 3) (ret := none) (by decide) rfl ?_
  intro p e s m args below meth c s₁ B hml hv
  obtain ⟨rfl, hsz, hP, hK, hD0⟩ := hv
  have hx := B.exec
  have hb := B.bytes
  have hr := B.returns
  have hts := atoms_spec (ws := wsX3_search) B.pre
  have hown : s.vm.findClass RX3 = some m.cls := findClass_of_methodNamed B.named
  have hlocks := B.notSynchronized
  subst hsz
  have hD := hD0.self (sz := s.heap.size)
  have hA : ∀ q : Nat, s.heap.size ≤ q → va_A (wd_tExch cI cZ a_t t_boats t_allowed i_t_order i_t_best i_t_fewest) s.heap.size q := fun q h => Or.inr h
  have hS : va_S (va_A (wd_tExch cI cZ a_t t_boats t_allowed i_t_order i_t_best i_t_fewest) s.heap.size) s.heap s.heap [] := va_S.rf
  have hl := lv_entry ([.ref (a_t 0)]) (n := 3) (Nat.le_of_ble_eq_true rfl)
  rw [lg_entry_eq]
  generalize (lg_sl ([.ref (a_t 0)]) ++ List.replicate (3 - (lg_sl ([.ref (a_t 0)])).length) Slot.unset).toArray = ls at hl ⊢
  have hl : lv_has ls 3 [(0, .ref (a_t 0))] := hl
  have L4 : ∀ (n4 : Nat) (x1 : Int32) (x2 : Int32) (t_order : Nat → Int32) (t_best : Nat → Int32) (t_fewest : Int32) (H : Heap) (locs : List Loc) (ls : Array Slot), va_P (dC, dI) vwCl (wd_tExch cI cZ a_t t_boats t_allowed t_order t_best t_fewest) H → va_D (va_A (wd_tExch cI cZ a_t t_boats t_allowed i_t_order i_t_best i_t_fewest) s.heap.size) (wd_tExch cI cZ a_t t_boats t_allowed t_order t_best t_fewest) → va_S (va_A (wd_tExch cI cZ a_t t_boats t_allowed i_t_order i_t_best i_t_fewest) s.heap.size) s.heap H locs → lv_has ls 3 [(0, .ref (a_t 0)), (1, .int x1), (2, .int x2)] → m_Exch_search_L4  n4 x1 x2 t_boats t_allowed t_order t_best t_fewest = some (o_t_order, o_t_best, o_t_fewest) → W p l e (headSpec wsX3_search ({ frames := 3, cells := 0, slots := 0, locals := 69 })).room s m ([.ref (a_t 0)] : List Value).toArray below meth c H locs 0 0 (MQ below (cQv (dC, dI) (wd_tExch cI cZ a_t t_boats t_allowed i_t_order i_t_best i_t_fewest) (wd_tExch cI cZ a_t t_boats t_allowed o_t_order o_t_best o_t_fewest) s.heap.size) ([.ref (a_t 0)] : List Value).toArray s 0 0 (va_A (wd_tExch cI cZ a_t t_boats t_allowed i_t_order i_t_best i_t_fewest) s.heap.size)) (F0 m 4 ls []) := by
    intro n4
    induction n4 with
    | zero => intro x1 x2 t_order t_best t_fewest H locs ls hP hD hS hl h; have h : none = some (o_t_order, o_t_best, o_t_fewest) := h; cases h
    | succ n4 ih4 =>
      intro x1 x2 t_order t_best t_fewest H locs ls hP hD hS hl h
      have h : m_Exch_search_B4  (m_Exch_search_L4  n4) x1 x2 t_boats t_allowed t_order t_best t_fewest = some (o_t_order, o_t_best, o_t_fewest) := h
      have J25 : ∀ (x2 : Int32) (t_order : Nat → Int32) (t_best : Nat → Int32) (t_fewest : Int32) (H : Heap) (locs : List Loc) (ls : Array Slot), va_P (dC, dI) vwCl (wd_tExch cI cZ a_t t_boats t_allowed t_order t_best t_fewest) H → va_D (va_A (wd_tExch cI cZ a_t t_boats t_allowed i_t_order i_t_best i_t_fewest) s.heap.size) (wd_tExch cI cZ a_t t_boats t_allowed t_order t_best t_fewest) → va_S (va_A (wd_tExch cI cZ a_t t_boats t_allowed i_t_order i_t_best i_t_fewest) s.heap.size) s.heap H locs → lv_has ls 3 [(0, .ref (a_t 0)), (2, .int x2)] → m_Exch_search_B25 (m_Exch_search_L4  n4) x2 t_boats t_allowed t_order t_best t_fewest = some (o_t_order, o_t_best, o_t_fewest) → W p l e (headSpec wsX3_search ({ frames := 3, cells := 0, slots := 0, locals := 69 })).room s m ([.ref (a_t 0)] : List Value).toArray below meth c H locs 0 0 (MQ below (cQv (dC, dI) (wd_tExch cI cZ a_t t_boats t_allowed i_t_order i_t_best i_t_fewest) (wd_tExch cI cZ a_t t_boats t_allowed o_t_order o_t_best o_t_fewest) s.heap.size) ([.ref (a_t 0)] : List Value).toArray s 0 0 (va_A (wd_tExch cI cZ a_t t_boats t_allowed i_t_order i_t_best i_t_fewest) s.heap.size)) (F0 m 25 ls []) := by
        intro x2 t_order t_best t_fewest H locs ls hP hD hS hl h
        unfold m_Exch_search_B25 at h
        refine lv_aload_n hx hb dX3_search_25 rfl (lv_at hl 0 rfl) ?_
        obtain ⟨r1, t_order_1, hc1, h⟩ := kb2_some h
        refine k_FVi (rest := []) (As := []) ⟨hx, hb, hml, hown, hts⟩ (c_Exch_nextOrder l dC dI cI cZ a_t t_boats t_allowed t_order t_best t_fewest r1 t_order_1 hc1) (cwV 0 hts gX3_search_X3_nextOrder rfl rfl rfl hd_3_nextOrder ⟨Nat.le_of_ble_eq_true rfl, Nat.le_of_ble_eq_true rfl⟩) hK hP hD hS hA 0 3 rfl rfl rfl (wd_tExch_f.trans wd_tExch_f.symm) rfl hl.1 rfl (Nat.le_of_ble_eq_true rfl) dX3_search_26 ⟨Nat.zero_le _, Nat.zero_le _⟩ (fun H locs hP hD hS => ?_)
        refine lv_istore_n (lv' := [(1, .int r1), (0, .ref (a_t 0)), (2, .int x2)]) hx hb dX3_search_29 rfl hl (by decide) rfl (fun ls hl => ?_)
        refine lv_iinc (v := (x2 + 1)) (lv' := [(2, .int (x2 + 1)), (1, .int r1), (0, .ref (a_t 0))]) hx hb dX3_search_30 hl (k := 2) rfl rfl (by decide) rfl (fun ls hl => ?_)
        refine lv_goto (tgt := 4) hx hb dX3_search_33 (by decide) ?_
        exact ih4 r1 (x2 + 1) t_order_1 t_best t_fewest _ _ _ hP hD hS (lv_sub hl [2, 1, 0] rfl) h
      unfold m_Exch_search_B4 at h
      refine lv_iload_n hx hb dX3_search_4 rfl (lv_at hl 2 rfl) ?_
      refine lv_bipush (v := 120) hx hb dX3_search_5 (by decide) ?_
      refine lv_icmp_ge (tgt := 36) hx hb dX3_search_7 (by decide) (fun hc => ?_) (fun hc => ?_)
      · have h := k_pos hc h
        obtain ⟨rfl, rfl, rfl⟩ := k_in3 h
        exact k_rv hx hb hr hlocks hP hS dX3_search_36
      · have h := k_neg hc h
        refine lv_iload_n hx hb dX3_search_10 rfl (lv_at hl 1 rfl) ?_
        refine lv_if_eq (tgt := 36) hx hb dX3_search_11 (by decide) (fun hc => ?_) (fun hc => ?_)
        · have h := k_pos hc h
          obtain ⟨rfl, rfl, rfl⟩ := k_in3 h
          exact k_rv hx hb hr hlocks hP hS dX3_search_36
        · have h := k_neg hc h
          refine lv_aload_n hx hb dX3_search_14 rfl (lv_at hl 0 rfl) ?_
          obtain ⟨r2, hc2, h⟩ := kb1_some h
          refine k_FVi (rest := []) (As := []) ⟨hx, hb, hml, hown, hts⟩ (c_Exch_isAllowed l dC dI cI cZ a_t t_boats t_allowed t_order t_best t_fewest r2 hc2) (cwV 0 hts gX3_search_X3_isAllowed rfl rfl rfl hd_3_isAllowed ⟨Nat.le_of_ble_eq_true rfl, Nat.le_of_ble_eq_true rfl⟩) hK hP hD hS hA 0 3 rfl rfl rfl (wd_tExch_f.trans wd_tExch_f.symm) rfl hl.1 rfl (Nat.le_of_ble_eq_true rfl) dX3_search_15 ⟨Nat.zero_le _, Nat.zero_le _⟩ (fun H locs hP hD hS => ?_)
          refine lv_if_eq (tgt := 25) hx hb dX3_search_18 (by decide) (fun hc => ?_) (fun hc => ?_)
          · have h := k_pos hc h
            exact J25 x2 t_order t_best t_fewest _ _ _ hP hD hS (lv_sub hl [0, 2] rfl) h
          · have h := k_neg hc h
            refine lv_aload_n hx hb dX3_search_21 rfl (lv_at hl 0 rfl) ?_
            obtain ⟨t_best_3, t_fewest_3, hc3, h⟩ := kb2_some h
            refine k_FVv (rest := []) (As := []) ⟨hx, hb, hml, hown, hts⟩ (c_Exch_compare l dC dI cI cZ a_t t_boats t_allowed t_order t_best t_fewest t_best_3 t_fewest_3 hc3) (cwV 0 hts gX3_search_X3_compare rfl rfl rfl hd_3_compare ⟨Nat.le_of_ble_eq_true rfl, Nat.le_of_ble_eq_true rfl⟩) hK hP hD hS hA 0 3 rfl rfl rfl (wd_tExch_f.trans wd_tExch_f.symm) rfl hl.1 rfl (Nat.le_of_ble_eq_true rfl) dX3_search_22 ⟨Nat.zero_le _, Nat.zero_le _⟩ (fun H locs hP hD hS => ?_)
            exact J25 x2 t_order t_best_3 t_fewest_3 _ _ _ hP hD hS (lv_sub hl [0, 2] rfl) h
  unfold m_Exch_search at h
  refine lv_iconst (v := 1) hx hb dX3_search_0 (by decide) ?_
  refine lv_istore_n (lv' := [(1, .int 1), (0, .ref (a_t 0))]) hx hb dX3_search_1 rfl hl (by decide) rfl (fun ls hl => ?_)
  refine lv_iconst (v := 0) hx hb dX3_search_2 (by decide) ?_
  refine lv_istore_n (lv' := [(2, .int 0), (1, .int 1), (0, .ref (a_t 0))]) hx hb dX3_search_3 rfl hl (by decide) rfl (fun ls hl => ?_)
  exact L4 FU 1 0 i_t_order i_t_best i_t_fewest _ _ _ hP hD hS (lv_sub hl [2, 1, 0] rfl) h
