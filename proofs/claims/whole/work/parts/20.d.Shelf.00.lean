set_option maxHeartbeats 4000000 in
set_option maxRecDepth 100000 in
theorem c_Shelf_store (l : Launch) (dC : Nat → ClassId) (dI : Nat → Nat → Nat) (cI cZ : ClassId) (a_t a_fl : Nat → Nat) (t_nz : Nat) (t_slots : Int32) (i_t_rows : Nat → Int32) (fl_row : Nat → Int32) (y1 : Int32) (o_t_rows : Nat → Int32) (h : m_Shelf_store y1 t_nz t_slots i_t_rows fl_row = some o_t_rows) : (MV l yX8_store wsX8_store ({ frames := 1, cells := 0, slots := 0, locals := 26 }) (dC, dI) [(cI, .int), (cZ, .boolean)] (wd_tShelf_flFleet cI cZ a_t a_fl t_nz t_slots i_t_rows fl_row) (wd_tShelf_flFleet cI cZ a_t a_fl t_nz t_slots o_t_rows fl_row) [.ref (a_t 0), .int y1, .ref (a_fl 0)]) := by
  intro sz
  refine Met.ofW (cc := cX8_store) (maxL := 3) (ret := none) (by decide) rfl ?_
  intro p e s m args below meth c s₁ B hml hv
  obtain ⟨rfl, hsz, hP, hK, hD0⟩ := hv
  have hx := B.exec
  have hb := B.bytes
  have hr := B.returns
  have hts := atoms_spec (ws := wsX8_store) B.pre
  have hown : s.vm.findClass RX8 = some m.cls := findClass_of_methodNamed B.named
  have hlocks := B.notSynchronized
  subst hsz
  have hD := hD0.self (sz := s.heap.size)
  have hA : ∀ q : Nat, s.heap.size ≤ q → va_A (wd_tShelf_flFleet cI cZ a_t a_fl t_nz t_slots i_t_rows fl_row) s.heap.size q := fun q h => Or.inr h
  have hS : va_S (va_A (wd_tShelf_flFleet cI cZ a_t a_fl t_nz t_slots i_t_rows fl_row) s.heap.size) s.heap s.heap [] := va_S.rf
  have hin4 : ∀ w ∈ u_ws RX4 TX4 1, w ∈ wsX8_store := fun w h => List.mem_cons_of_mem _ (List.mem_append_right _ h)
  have hin8 : ∀ w ∈ u_ws RX8 TX8 2, w ∈ wsX8_store := fun w h => List.mem_cons_of_mem _ (List.mem_append_left _ (List.mem_append_right _ h))
  have hl := lv_entry ([.ref (a_t 0), .int y1, .ref (a_fl 0)]) (n := 3) (Nat.le_of_ble_eq_true rfl)
  rw [lg_entry_eq]
  generalize (lg_sl ([.ref (a_t 0), .int y1, .ref (a_fl 0)]) ++ List.replicate (3 - (lg_sl ([.ref (a_t 0), .int y1, .ref (a_fl 0)])).length) Slot.unset).toArray = ls at hl ⊢
  have hl : lv_has ls 3 [(0, .ref (a_t 0)), (1, .int y1), (2, .ref (a_fl 0))] := hl
  unfold m_Shelf_store at h
  refine lv_iload_n hx hb dX8_store_0 rfl (lv_at hl 1 rfl) ?_
  refine lv_if_lt (tgt := 30) hx hb dX8_store_1 (by decide) (fun hc => ?_) (fun hc => ?_)
  · have h := k_pos hc h
    obtain rfl := k_in1 h
    exact k_rv hx hb hr hlocks hP hS dX8_store_30
  · have h := k_neg hc h
    refine lv_iload_n hx hb dX8_store_4 rfl (lv_at hl 1 rfl) ?_
    refine lv_aload_n hx hb dX8_store_5 rfl (lv_at hl 0 rfl) ?_
    refine va_get (D := (dC, dI)) (ci := 8) (v := .int t_slots) (C := RX8) (T := TX8) (N := 2) hx hb hts hin8 hown hK hP 0 rfl rfl 0 (by decide) (hts (.fieldLink RX8 13 "TowedBack$Shelf" "slots" "I") (List.mem_of_getElem? (i := 1) rfl)) (fun _ h9 => h9) rfl dX8_store_6 ?_
    refine lv_icmp_ge (tgt := 30) hx hb dX8_store_9 (by decide) (fun hc => ?_) (fun hc => ?_)
    · have h := k_pos hc h
      obtain rfl := k_in1 h
      exact k_rv hx hb hr hlocks hP hS dX8_store_30
    · have h := k_neg hc h
      refine lv_aload_n hx hb dX8_store_12 rfl (lv_at hl 2 rfl) ?_
      refine va_get (D := (dC, dI)) (ci := 4) (v := .ref (a_fl 1)) (C := RX4) (T := TX4) (N := 1) hx hb hts hin4 hown hK hP 2 rfl rfl 0 (by decide) (hts (.fieldLink RX8 25 "TowedBack$Fleet" "row" "[I") (List.mem_of_getElem? (i := 2) rfl)) (fun _ h9 => h9) rfl dX8_store_13 ?_
      refine lv_iconst (v := 0) hx hb dX8_store_16 (by decide) ?_
      refine lv_aload_n hx hb dX8_store_17 rfl (lv_at hl 0 rfl) ?_
      refine va_get (D := (dC, dI)) (ci := 8) (v := .ref (a_t 1)) (C := RX8) (T := TX8) (N := 2) hx hb hts hin8 hown hK hP 0 rfl rfl 1 (by decide) (hts (.fieldLink RX8 21 "TowedBack$Shelf" "rows" "[I") (List.mem_of_getElem? (i := 3) rfl)) (fun _ h9 => h9) rfl dX8_store_18 ?_
      refine lv_iload_n hx hb dX8_store_21 rfl (lv_at hl 1 rfl) ?_
      refine lv_bipush (v := 21) hx hb dX8_store_22 (by decide) ?_
      refine lv_imul hx hb dX8_store_24 ?_
      refine lv_bipush (v := 21) hx hb dX8_store_25 (by decide) ?_
      obtain ⟨⟨hq1, hq2, hq3, hq4, hq5⟩, h⟩ := kcp_some h
      refine va_copyi hx hb (hml.trans hl.1.symm) hown (hts (.methodLink RX8 28 arraycopyName) (List.mem_of_getElem? (i := 4) rfl)) (hts (.native arraycopyName) (List.mem_of_getElem? (i := 5) rfl)) (hts (.static arraycopyName) (List.mem_of_getElem? (i := 6) rfl)) (hts (.initialized "java/lang/System") (List.mem_of_getElem? (i := 7) rfl)) hK hP hD hS 3 1 0 0 rfl rfl rfl rfl rfl hq1 hq2 hq3 hq4 hq5 (fun _ _ => rfl) (Nat.le_of_ble_eq_true rfl) (by decide) dX8_store_27 (fun H locs hP hD hS => ?_)
      have hP : va_P (dC, dI) vwCl (wd_tShelf_flFleet cI cZ a_t a_fl t_nz t_slots (va_cpy fl_row i_t_rows (0 : Int32).toNatClampNeg (y1 * 21).toNatClampNeg (21 : Int32).toNatClampNeg) fl_row) H := hP
      have hD : va_D (va_A (wd_tShelf_flFleet cI cZ a_t a_fl t_nz t_slots i_t_rows fl_row) s.heap.size) (wd_tShelf_flFleet cI cZ a_t a_fl t_nz t_slots (va_cpy fl_row i_t_rows (0 : Int32).toNatClampNeg (y1 * 21).toNatClampNeg (21 : Int32).toNatClampNeg) fl_row) := hD
      obtain rfl := k_in1 h
      exact k_rv hx hb hr hlocks hP hS dX8_store_30
set_option maxHeartbeats 4000000 in
set_option maxRecDepth 100000 in
theorem c_Shelf_fetch (l : Launch) (dC : Nat → ClassId) (dI : Nat → Nat → Nat) (cI cZ : ClassId) (a_t a_fl : Nat → Nat) (t_nz : Nat) (t_slots : Int32) (t_rows : Nat → Int32) (i_fl_row : Nat → Int32) (y1 : Int32) (o_fl_row : Nat → Int32) (h : m_Shelf_fetch y1 t_nz t_slots t_rows i_fl_row = some o_fl_row) : (MV l yX8_fetch wsX8_fetch ({ frames := 1, cells := 0, slots := 0, locals := 26 }) (dC, dI) [(cI, .int), (cZ, .boolean)] (wd_tShelf_flFleet cI cZ a_t a_fl t_nz t_slots t_rows i_fl_row) (wd_tShelf_flFleet cI cZ a_t a_fl t_nz t_slots t_rows o_fl_row) [.ref (a_t 0), .int y1, .ref (a_fl 0)]) := by
  intro sz
  refine Met.ofW (cc := cX8_fetch) (maxL := 3) (ret := none) (by decide) rfl ?_
  intro p e s m args below meth c s₁ B hml hv
  obtain ⟨rfl, hsz, hP, hK, hD0⟩ := hv
  have hx := B.exec
  have hb := B.bytes
  have hr := B.returns
  have hts := atoms_spec (ws := wsX8_fetch) B.pre
  have hown : s.vm.findClass RX8 = some m.cls := findClass_of_methodNamed B.named
  have hlocks := B.notSynchronized
  subst hsz
  have hD := hD0.self (sz := s.heap.size)
  have hA : ∀ q : Nat, s.heap.size ≤ q → va_A (wd_tShelf_flFleet cI cZ a_t a_fl t_nz t_slots t_rows i_fl_row) s.heap.size q := fun q h => Or.inr h
  have hS : va_S (va_A (wd_tShelf_flFleet cI cZ a_t a_fl t_nz t_slots t_rows i_fl_row) s.heap.size) s.heap s.heap [] := va_S.rf
  have hin4 : ∀ w ∈ u_ws RX4 TX4 1, w ∈ wsX8_fetch := fun w h => List.mem_cons_of_mem _ (List.mem_append_right _ h)
  have hin8 : ∀ w ∈ u_ws RX8 TX8 2, w ∈ wsX8_fetch := fun w h => List.mem_cons_of_mem _ (List.mem_append_left _ (List.mem_append_right _ h))
  have hl := lv_entry ([.ref (a_t 0), .int y1, .ref (a_fl 0)]) (n := 3) (Nat.le_of_ble_eq_true rfl)
  rw [lg_entry_eq]
  generalize (lg_sl ([.ref (a_t 0), .int y1, .ref (a_fl 0)]) ++ List.replicate (3 - (lg_sl ([.ref (a_t 0), .int y1, .ref (a_fl 0)])).length) Slot.unset).toArray = ls at hl ⊢
  have hl : lv_has ls 3 [(0, .ref (a_t 0)), (1, .int y1), (2, .ref (a_fl 0))] := hl
  unfold m_Shelf_fetch at h
  refine lv_iload_n hx hb dX8_fetch_0 rfl (lv_at hl 1 rfl) ?_
  refine lv_if_lt (tgt := 30) hx hb dX8_fetch_1 (by decide) (fun hc => ?_) (fun hc => ?_)
  · have h := k_pos hc h
    obtain rfl := k_in1 h
    exact k_rv hx hb hr hlocks hP hS dX8_fetch_30
  · have h := k_neg hc h
    refine lv_iload_n hx hb dX8_fetch_4 rfl (lv_at hl 1 rfl) ?_
    refine lv_aload_n hx hb dX8_fetch_5 rfl (lv_at hl 0 rfl) ?_
    refine va_get (D := (dC, dI)) (ci := 8) (v := .int t_slots) (C := RX8) (T := TX8) (N := 2) hx hb hts hin8 hown hK hP 0 rfl rfl 0 (by decide) (hts (.fieldLink RX8 13 "TowedBack$Shelf" "slots" "I") (List.mem_of_getElem? (i := 1) rfl)) (fun _ h9 => h9) rfl dX8_fetch_6 ?_
    refine lv_icmp_ge (tgt := 30) hx hb dX8_fetch_9 (by decide) (fun hc => ?_) (fun hc => ?_)
    · have h := k_pos hc h
      obtain rfl := k_in1 h
      exact k_rv hx hb hr hlocks hP hS dX8_fetch_30
    · have h := k_neg hc h
      refine lv_aload_n hx hb dX8_fetch_12 rfl (lv_at hl 0 rfl) ?_
      refine va_get (D := (dC, dI)) (ci := 8) (v := .ref (a_t 1)) (C := RX8) (T := TX8) (N := 2) hx hb hts hin8 hown hK hP 0 rfl rfl 1 (by decide) (hts (.fieldLink RX8 21 "TowedBack$Shelf" "rows" "[I") (List.mem_of_getElem? (i := 2) rfl)) (fun _ h9 => h9) rfl dX8_fetch_13 ?_
      refine lv_iload_n hx hb dX8_fetch_16 rfl (lv_at hl 1 rfl) ?_
      refine lv_bipush (v := 21) hx hb dX8_fetch_17 (by decide) ?_
      refine lv_imul hx hb dX8_fetch_19 ?_
      refine lv_aload_n hx hb dX8_fetch_20 rfl (lv_at hl 2 rfl) ?_
      refine va_get (D := (dC, dI)) (ci := 4) (v := .ref (a_fl 1)) (C := RX4) (T := TX4) (N := 1) hx hb hts hin4 hown hK hP 2 rfl rfl 0 (by decide) (hts (.fieldLink RX8 25 "TowedBack$Fleet" "row" "[I") (List.mem_of_getElem? (i := 3) rfl)) (fun _ h9 => h9) rfl dX8_fetch_21 ?_
      refine lv_iconst (v := 0) hx hb dX8_fetch_24 (by decide) ?_
      refine lv_bipush (v := 21) hx hb dX8_fetch_25 (by decide) ?_
      obtain ⟨⟨hq1, hq2, hq3, hq4, hq5⟩, h⟩ := kcp_some h
      refine va_copyi hx hb (hml.trans hl.1.symm) hown (hts (.methodLink RX8 28 arraycopyName) (List.mem_of_getElem? (i := 4) rfl)) (hts (.native arraycopyName) (List.mem_of_getElem? (i := 5) rfl)) (hts (.static arraycopyName) (List.mem_of_getElem? (i := 6) rfl)) (hts (.initialized "java/lang/System") (List.mem_of_getElem? (i := 7) rfl)) hK hP hD hS 1 3 0 0 rfl rfl rfl rfl rfl hq1 hq2 hq3 hq4 hq5 (fun _ _ => rfl) (Nat.le_of_ble_eq_true rfl) (by decide) dX8_fetch_27 (fun H locs hP hD hS => ?_)
      have hP : va_P (dC, dI) vwCl (wd_tShelf_flFleet cI cZ a_t a_fl t_nz t_slots t_rows (va_cpy t_rows i_fl_row (y1 * 21).toNatClampNeg (0 : Int32).toNatClampNeg (21 : Int32).toNatClampNeg)) H := hP
      have hD : va_D (va_A (wd_tShelf_flFleet cI cZ a_t a_fl t_nz t_slots t_rows i_fl_row) s.heap.size) (wd_tShelf_flFleet cI cZ a_t a_fl t_nz t_slots t_rows (va_cpy t_rows i_fl_row (y1 * 21).toNatClampNeg (0 : Int32).toNatClampNeg (21 : Int32).toNatClampNeg)) := hD
      obtain rfl := k_in1 h
      exact k_rv hx hb hr hlocks hP hS dX8_fetch_30
