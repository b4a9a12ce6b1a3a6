set_option maxHeartbeats 4000000 in
set_option maxRecDepth 100000 in
theorem c_Past_remember (l : Launch) (dC : Nat → ClassId) (dI : Nat → Nat → Nat) (cI cZ : ClassId) (a_t a_t_shelf a_fl : Nat → Nat) (i_t_next : Int32) (i_t_count : Int32) (t_shelf_nz : Nat) (t_shelf_slots : Int32) (i_t_shelf_rows : Nat → Int32) (fl_row : Nat → Int32)  (o_t_next : Int32) (o_t_count : Int32) (o_t_shelf_rows : Nat → Int32) (h : m_Past_remember i_t_next i_t_count t_shelf_nz t_shelf_slots i_t_shelf_rows fl_row = some (o_t_next, o_t_count, o_t_shelf_rows)) : (MV l yX6_remember wsX6_remember ({ frames := 2, cells := 0, slots := 0, locals := 48 }) (dC, dI) [(cI, .int), (cZ, .boolean)] (wd_tPast_flFleet cI cZ a_t a_t_shelf a_fl i_t_next i_t_count t_shelf_nz t_shelf_slots i_t_shelf_rows fl_row) (wd_tPast_flFleet cI cZ a_t a_t_shelf a_fl o_t_next o_t_count t_shelf_nz t_shelf_slots o_t_shelf_rows fl_row) [.ref (a_t 0), .ref (a_fl 0)]) := by
  intro sz
  refine Met.ofW (cc := cX6_remember) (maxL := 2) (ret := none) (by decide) rfl ?_
  intro p e s m args below meth c s₁ B hml hv
  obtain ⟨rfl, hsz, hP, hK, hD0⟩ := hv
  have hx := B.exec
  have hb := B.bytes
  have hr := B.returns
  have hts := atoms_spec (ws := wsX6_remember) B.pre
  have hown : s.vm.findClass RX6 = some m.cls := findClass_of_methodNamed B.named
  have hlocks := B.notSynchronized
  subst hsz
  have hD := hD0.self (sz := s.heap.size)
  have hA : ∀ q : Nat, s.heap.size ≤ q → va_A (wd_tPast_flFleet cI cZ a_t a_t_shelf a_fl i_t_next i_t_count t_shelf_nz t_shelf_slots i_t_shelf_rows fl_row) s.heap.size q := fun q h => Or.inr h
  have hS : va_S (va_A (wd_tPast_flFleet cI cZ a_t a_t_shelf a_fl i_t_next i_t_count t_shelf_nz t_shelf_slots i_t_shelf_rows fl_row) s.heap.size) s.heap s.heap [] := va_S.rf
  have hin6 : ∀ w ∈ u_ws RX6 TX6 3, w ∈ wsX6_remember := fun w h => List.mem_cons_of_mem _ (List.mem_append_left _ (List.mem_append_left _ (List.mem_append_right _ h)))
  have hl := lv_entry ([.ref (a_t 0), .ref (a_fl 0)]) (n := 2) (Nat.le_of_ble_eq_true rfl)
  rw [lg_entry_eq]
  generalize (lg_sl ([.ref (a_t 0), .ref (a_fl 0)]) ++ List.replicate (2 - (lg_sl ([.ref (a_t 0), .ref (a_fl 0)])).length) Slot.unset).toArray = ls at hl ⊢
  have hl : lv_has ls 2 [(0, .ref (a_t 0)), (1, .ref (a_fl 0))] := hl
  unfold m_Past_remember at h
  refine lv_aload_n hx hb dX6_remember_0 rfl (lv_at hl 0 rfl) ?_
  refine va_get (D := (dC, dI)) (ci := 6) (v := .ref (a_t_shelf 0)) (C := RX6) (T := TX6) (N := 3) hx hb hts hin6 hown hK hP 0 rfl rfl 0 (by decide) (hts (.fieldLink RX6 14 "TowedBack$Past" "shelf" "LTowedBack$Shelf;") (List.mem_of_getElem? (i := 1) rfl)) (fun _ h9 => h9) rfl dX6_remember_1 ?_
  refine lv_aload_n hx hb dX6_remember_4 rfl (lv_at hl 0 rfl) ?_
  refine va_get (D := (dC, dI)) (ci := 6) (v := .int i_t_next) (C := RX6) (T := TX6) (N := 3) hx hb hts hin6 hown hK hP 0 rfl rfl 1 (by decide) (hts (.fieldLink RX6 20 "TowedBack$Past" "next" "I") (List.mem_of_getElem? (i := 2) rfl)) (fun _ h9 => h9) rfl dX6_remember_5 ?_
  refine lv_aload_n hx hb dX6_remember_8 rfl (lv_at hl 1 rfl) ?_
  obtain ⟨t_shelf_rows_1, hc1, h⟩ := kb1_some h
  refine k_GVv (rest := []) (As := [.int i_t_next, .ref (a_fl 0)]) (ws' := (wd_tPast_flFleet cI cZ a_t a_t_shelf a_fl i_t_next i_t_count t_shelf_nz t_shelf_slots t_shelf_rows_1 fl_row)) ⟨hx, hb, hml, hown, hts⟩ (c_Shelf_store l dC dI cI cZ a_t_shelf a_fl t_shelf_nz t_shelf_slots i_t_shelf_rows fl_row i_t_next t_shelf_rows_1 hc1) (cwV 2 hts gX6_remember_X8_store rfl rfl rfl hd_8_store ⟨Nat.le_of_ble_eq_true rfl, Nat.le_of_ble_eq_true rfl⟩) hK hP hD hS hA [1, 2, 3, 4] rfl (by decide +kernel) 1 8 rfl rfl rfl [0] rfl (k_allc rfl rfl k_alln) 5 rfl (by decide +kernel) (wd_tPast_flFleet_f.trans wd_tPast_flFleet_f.symm) rfl hl.1 rfl (Nat.le_of_ble_eq_true rfl) dX6_remember_9 ⟨Nat.zero_le _, Nat.zero_le _⟩ (fun H locs hP hD hS => ?_)
  refine lv_aload_n hx hb dX6_remember_12 rfl (lv_at hl 0 rfl) ?_
  refine lv_aload_n hx hb dX6_remember_13 rfl (lv_at hl 0 rfl) ?_
  refine va_get (D := (dC, dI)) (ci := 6) (v := .int i_t_next) (C := RX6) (T := TX6) (N := 3) hx hb hts hin6 hown hK hP 0 rfl rfl 1 (by decide) (hts (.fieldLink RX6 20 "TowedBack$Past" "next" "I") (List.mem_of_getElem? (i := 2) rfl)) (fun _ h9 => h9) rfl dX6_remember_14 ?_
  refine lv_iconst (v := 1) hx hb dX6_remember_17 (by decide) ?_
  refine lv_iadd hx hb dX6_remember_18 ?_
  refine lv_bipush (v := 20) hx hb dX6_remember_19 (by decide) ?_
  obtain ⟨hz2, h⟩ := kz_some h
  refine lv_irem hx hb dX6_remember_21 hz2 ?_
  refine va_put (D := (dC, dI)) (ci := 6) (v := .int ((i_t_next + 1) - (i_t_next + 1) / 20 * 20)) (ty := tyX6 1) (C := RX6) (T := TX6) (N := 3) hx hb hts hin6 tyX6 tyX6_ok nmX6 hown hK hP hD hS 0 rfl rfl 1 (by decide) (hts (.fieldLink RX6 20 "TowedBack$Past" "next" "I") (List.mem_of_getElem? (i := 2) rfl)) (fun _ h9 => h9) rfl (tyX6_ok 1 (by decide)) rfl rfl (Nat.le_of_ble_eq_true rfl) dX6_remember_22 (fun H locs hP hD hS => ?_)
  have hP : va_P (dC, dI) vwCl (wd_tPast_flFleet cI cZ a_t a_t_shelf a_fl ((i_t_next + 1) - (i_t_next + 1) / 20 * 20) i_t_count t_shelf_nz t_shelf_slots t_shelf_rows_1 fl_row) H := hP
  have hD : va_D (va_A (wd_tPast_flFleet cI cZ a_t a_t_shelf a_fl i_t_next i_t_count t_shelf_nz t_shelf_slots i_t_shelf_rows fl_row) s.heap.size) (wd_tPast_flFleet cI cZ a_t a_t_shelf a_fl ((i_t_next + 1) - (i_t_next + 1) / 20 * 20) i_t_count t_shelf_nz t_shelf_slots t_shelf_rows_1 fl_row) := hD
  refine lv_aload_n hx hb dX6_remember_25 rfl (lv_at hl 0 rfl) ?_
  refine va_get (D := (dC, dI)) (ci := 6) (v := .int i_t_count) (C := RX6) (T := TX6) (N := 3) hx hb hts hin6 hown hK hP 0 rfl rfl 2 (by decide) (hts (.fieldLink RX6 24 "TowedBack$Past" "count" "I") (List.mem_of_getElem? (i := 3) rfl)) (fun _ h9 => h9) rfl dX6_remember_26 ?_
  refine lv_bipush (v := 20) hx hb dX6_remember_29 (by decide) ?_
  refine lv_icmp_ge (tgt := 44) hx hb dX6_remember_31 (by decide) (fun hc => ?_) (fun hc => ?_)
  · have h := k_pos hc h
    obtain ⟨rfl, rfl, rfl⟩ := k_in3 h
    exact k_rv hx hb hr hlocks hP hS dX6_remember_44
  · have h := k_neg hc h
    refine lv_aload_n hx hb dX6_remember_34 rfl (lv_at hl 0 rfl) ?_
    refine lv_dup hx hb dX6_remember_35 rfl ?_
    refine va_get (D := (dC, dI)) (ci := 6) (v := .int i_t_count) (C := RX6) (T := TX6) (N := 3) hx hb hts hin6 hown hK hP 0 rfl rfl 2 (by decide) (hts (.fieldLink RX6 24 "TowedBack$Past" "count" "I") (List.mem_of_getElem? (i := 3) rfl)) (fun _ h9 => h9) rfl dX6_remember_36 ?_
    refine lv_iconst (v := 1) hx hb dX6_remember_39 (by decide) ?_
    refine lv_iadd hx hb dX6_remember_40 ?_
    refine va_put (D := (dC, dI)) (ci := 6) (v := .int (i_t_count + 1)) (ty := tyX6 2) (C := RX6) (T := TX6) (N := 3) hx hb hts hin6 tyX6 tyX6_ok nmX6 hown hK hP hD hS 0 rfl rfl 2 (by decide) (hts (.fieldLink RX6 24 "TowedBack$Past" "count" "I") (List.mem_of_getElem? (i := 3) rfl)) (fun _ h9 => h9) rfl (tyX6_ok 2 (by decide)) rfl rfl (Nat.le_of_ble_eq_true rfl) dX6_remember_41 (fun H locs hP hD hS => ?_)
    have hP : va_P (dC, dI) vwCl (wd_tPast_flFleet cI cZ a_t a_t_shelf a_fl ((i_t_next + 1) - (i_t_next + 1) / 20 * 20) (i_t_count + 1) t_shelf_nz t_shelf_slots t_shelf_rows_1 fl_row) H := hP
    have hD : va_D (va_A (wd_tPast_flFleet cI cZ a_t a_t_shelf a_fl i_t_next i_t_count t_shelf_nz t_shelf_slots i_t_shelf_rows fl_row) s.heap.size) (wd_tPast_flFleet cI cZ a_t a_t_shelf a_fl ((i_t_next + 1) - (i_t_next + 1) / 20 * 20) (i_t_count + 1) t_shelf_nz t_shelf_slots t_shelf_rows_1 fl_row) := hD
    obtain ⟨rfl, rfl, rfl⟩ := k_in3 h
    exact k_rv hx hb hr hlocks hP hS dX6_remember_44
set_option maxHeartbeats 4000000 in
set_option maxRecDepth 100000 in
theorem c_Past_bringBack (l : Launch) (dC : Nat → ClassId) (dI : Nat → Nat → Nat) (cI cZ : ClassId) (a_t a_t_shelf a_fl : Nat → Nat) (i_t_next : Int32) (i_t_count : Int32) (t_shelf_nz : Nat) (t_shelf_slots : Int32) (t_shelf_rows : Nat → Int32) (i_fl_row : Nat → Int32)  (o_t_next : Int32) (o_t_count : Int32) (o_fl_row : Nat → Int32) (h : m_Past_bringBack i_t_next i_t_count t_shelf_nz t_shelf_slots t_shelf_rows i_fl_row = some (o_t_next, o_t_count, o_fl_row)) : (MV l yX6_bringBack wsX6_bringBack ({ frames := 2, cells := 0, slots := 0, locals := 48 }) (dC, dI) [(cI, .int), (cZ, .boolean)] (wd_tPast_flFleet cI cZ a_t a_t_shelf a_fl i_t_next i_t_count t_shelf_nz t_shelf_slots t_shelf_rows i_fl_row) (wd_tPast_flFleet cI cZ a_t a_t_shelf a_fl o_t_next o_t_count t_shelf_nz t_shelf_slots t_shelf_rows o_fl_row) [.ref (a_t 0), .ref (a_fl 0)]) := by
  intro sz
  refine Met.ofW (cc := cX6_bringBack) (maxL := 2) (ret := none) (by decide) rfl ?_
  intro p e s m args below meth c s₁ B hml hv
  obtain ⟨rfl, hsz, hP, hK, hD0⟩ := hv
  have hx := B.exec
  have hb := B.bytes
  have hr := B.returns
  have hts := atoms_spec (ws := wsX6_bringBack) B.pre
  have hown : s.vm.findClass RX6 = some m.cls := findClass_of_methodNamed B.named
  have hlocks := B.notSynchronized
  subst hsz
  have hD := hD0.self (sz := s.heap.size)
  have hA : ∀ q : Nat, s.heap.size ≤ q → va_A (wd_tPast_flFleet cI cZ a_t a_t_shelf a_fl i_t_next i_t_count t_shelf_nz t_shelf_slots t_shelf_rows i_fl_row) s.heap.size q := fun q h => Or.inr h
  have hS : va_S (va_A (wd_tPast_flFleet cI cZ a_t a_t_shelf a_fl i_t_next i_t_count t_shelf_nz t_shelf_slots t_shelf_rows i_fl_row) s.heap.size) s.heap s.heap [] := va_S.rf
  have hin6 : ∀ w ∈ u_ws RX6 TX6 3, w ∈ wsX6_bringBack := fun w h => List.mem_cons_of_mem _ (List.mem_append_left _ (List.mem_append_left _ (List.mem_append_right _ h)))
  have hl := lv_entry ([.ref (a_t 0), .ref (a_fl 0)]) (n := 2) (Nat.le_of_ble_eq_true rfl)
  rw [lg_entry_eq]
  generalize (lg_sl ([.ref (a_t 0), .ref (a_fl 0)]) ++ List.replicate (2 - (lg_sl ([.ref (a_t 0), .ref (a_fl 0)])).length) Slot.unset).toArray = ls at hl ⊢
  have hl : lv_has ls 2 [(0, .ref (a_t 0)), (1, .ref (a_fl 0))] := hl
  unfold m_Past_bringBack at h
  refine lv_aload_n hx hb dX6_bringBack_0 rfl (lv_at hl 0 rfl) ?_
  refine va_get (D := (dC, dI)) (ci := 6) (v := .int i_t_count) (C := RX6) (T := TX6) (N := 3) hx hb hts hin6 hown hK hP 0 rfl rfl 2 (by decide) (hts (.fieldLink RX6 24 "TowedBack$Past" "count" "I") (List.mem_of_getElem? (i := 1) rfl)) (fun _ h9 => h9) rfl dX6_bringBack_1 ?_
  refine lv_iconst (v := 1) hx hb dX6_bringBack_4 (by decide) ?_
  refine lv_icmp_ge (tgt := 9) hx hb dX6_bringBack_5 (by decide) (fun hc => ?_) (fun hc => ?_)
  · have h := k_pos hc h
    refine lv_aload_n hx hb dX6_bringBack_9 rfl (lv_at hl 0 rfl) ?_
    refine lv_aload_n hx hb dX6_bringBack_10 rfl (lv_at hl 0 rfl) ?_
    refine va_get (D := (dC, dI)) (ci := 6) (v := .int i_t_next) (C := RX6) (T := TX6) (N := 3) hx hb hts hin6 hown hK hP 0 rfl rfl 1 (by decide) (hts (.fieldLink RX6 20 "TowedBack$Past" "next" "I") (List.mem_of_getElem? (i := 2) rfl)) (fun _ h9 => h9) rfl dX6_bringBack_11 ?_
    refine lv_bipush (v := 20) hx hb dX6_bringBack_14 (by decide) ?_
    refine lv_iadd hx hb dX6_bringBack_16 ?_
    refine lv_iconst (v := 1) hx hb dX6_bringBack_17 (by decide) ?_
    refine lv_isub hx hb dX6_bringBack_18 ?_
    refine lv_bipush (v := 20) hx hb dX6_bringBack_19 (by decide) ?_
    obtain ⟨hz1, h⟩ := kz_some h
    refine lv_irem hx hb dX6_bringBack_21 hz1 ?_
    refine va_put (D := (dC, dI)) (ci := 6) (v := .int (((i_t_next + 20) - 1) - ((i_t_next + 20) - 1) / 20 * 20)) (ty := tyX6 1) (C := RX6) (T := TX6) (N := 3) hx hb hts hin6 tyX6 tyX6_ok nmX6 hown hK hP hD hS 0 rfl rfl 1 (by decide) (hts (.fieldLink RX6 20 "TowedBack$Past" "next" "I") (List.mem_of_getElem? (i := 2) rfl)) (fun _ h9 => h9) rfl (tyX6_ok 1 (by decide)) rfl rfl (Nat.le_of_ble_eq_true rfl) dX6_bringBack_22 (fun H locs hP hD hS => ?_)
    have hP : va_P (dC, dI) vwCl (wd_tPast_flFleet cI cZ a_t a_t_shelf a_fl (((i_t_next + 20) - 1) - ((i_t_next + 20) - 1) / 20 * 20) i_t_count t_shelf_nz t_shelf_slots t_shelf_rows i_fl_row) H := hP
    have hD : va_D (va_A (wd_tPast_flFleet cI cZ a_t a_t_shelf a_fl i_t_next i_t_count t_shelf_nz t_shelf_slots t_shelf_rows i_fl_row) s.heap.size) (wd_tPast_flFleet cI cZ a_t a_t_shelf a_fl (((i_t_next + 20) - 1) - ((i_t_next + 20) - 1) / 20 * 20) i_t_count t_shelf_nz t_shelf_slots t_shelf_rows i_fl_row) := hD
    refine lv_aload_n hx hb dX6_bringBack_25 rfl (lv_at hl 0 rfl) ?_
    refine lv_dup hx hb dX6_bringBack_26 rfl ?_
    refine va_get (D := (dC, dI)) (ci := 6) (v := .int i_t_count) (C := RX6) (T := TX6) (N := 3) hx hb hts hin6 hown hK hP 0 rfl rfl 2 (by decide) (hts (.fieldLink RX6 24 "TowedBack$Past" "count" "I") (List.mem_of_getElem? (i := 1) rfl)) (fun _ h9 => h9) rfl dX6_bringBack_27 ?_
    refine lv_iconst (v := 1) hx hb dX6_bringBack_30 (by decide) ?_
    refine lv_isub hx hb dX6_bringBack_31 ?_
    refine va_put (D := (dC, dI)) (ci := 6) (v := .int (i_t_count - 1)) (ty := tyX6 2) (C := RX6) (T := TX6) (N := 3) hx hb hts hin6 tyX6 tyX6_ok nmX6 hown hK hP hD hS 0 rfl rfl 2 (by decide) (hts (.fieldLink RX6 24 "TowedBack$Past" "count" "I") (List.mem_of_getElem? (i := 1) rfl)) (fun _ h9 => h9) rfl (tyX6_ok 2 (by decide)) rfl rfl (Nat.le_of_ble_eq_true rfl) dX6_bringBack_32 (fun H locs hP hD hS => ?_)
    have hP : va_P (dC, dI) vwCl (wd_tPast_flFleet cI cZ a_t a_t_shelf a_fl (((i_t_next + 20) - 1) - ((i_t_next + 20) - 1) / 20 * 20) (i_t_count - 1) t_shelf_nz t_shelf_slots t_shelf_rows i_fl_row) H := hP
    have hD : va_D (va_A (wd_tPast_flFleet cI cZ a_t a_t_shelf a_fl i_t_next i_t_count t_shelf_nz t_shelf_slots t_shelf_rows i_fl_row) s.heap.size) (wd_tPast_flFleet cI cZ a_t a_t_shelf a_fl (((i_t_next + 20) - 1) - ((i_t_next + 20) - 1) / 20 * 20) (i_t_count - 1) t_shelf_nz t_shelf_slots t_shelf_rows i_fl_row) := hD
    refine lv_aload_n hx hb dX6_bringBack_35 rfl (lv_at hl 0 rfl) ?_
    refine va_get (D := (dC, dI)) (ci := 6) (v := .ref (a_t_shelf 0)) (C := RX6) (T := TX6) (N := 3) hx hb hts hin6 hown hK hP 0 rfl rfl 0 (by decide) (hts (.fieldLink RX6 14 "TowedBack$Past" "shelf" "LTowedBack$Shelf;") (List.mem_of_getElem? (i := 3) rfl)) (fun _ h9 => h9) rfl dX6_bringBack_36 ?_
    refine lv_aload_n hx hb dX6_bringBack_39 rfl (lv_at hl 0 rfl) ?_
    refine va_get (D := (dC, dI)) (ci := 6) (v := .int (((i_t_next + 20) - 1) - ((i_t_next + 20) - 1) / 20 * 20)) (C := RX6) (T := TX6) (N := 3) hx hb hts hin6 hown hK hP 0 rfl rfl 1 (by decide) (hts (.fieldLink RX6 20 "TowedBack$Past" "next" "I") (List.mem_of_getElem? (i := 2) rfl)) (fun _ h9 => h9) rfl dX6_bringBack_40 ?_
    refine lv_aload_n hx hb dX6_bringBack_43 rfl (lv_at hl 1 rfl) ?_
    obtain ⟨fl_row_2, hc2, h⟩ := kb1_some h
    refine k_GVv (rest := []) (As := [.int (((i_t_next + 20) - 1) - ((i_t_next + 20) - 1) / 20 * 20), .ref (a_fl 0)]) (ws' := (wd_tPast_flFleet cI cZ a_t a_t_shelf a_fl (((i_t_next + 20) - 1) - ((i_t_next + 20) - 1) / 20 * 20) (i_t_count - 1) t_shelf_nz t_shelf_slots t_shelf_rows fl_row_2)) ⟨hx, hb, hml, hown, hts⟩ (c_Shelf_fetch l dC dI cI cZ a_t_shelf a_fl t_shelf_nz t_shelf_slots t_shelf_rows i_fl_row (((i_t_next + 20) - 1) - ((i_t_next + 20) - 1) / 20 * 20) fl_row_2 hc2) (cwV 2 hts gX6_bringBack_X8_fetch rfl rfl rfl hd_8_fetch ⟨Nat.le_of_ble_eq_true rfl, Nat.le_of_ble_eq_true rfl⟩) hK hP hD hS hA [1, 2, 3, 4] rfl (by decide +kernel) 1 8 rfl rfl rfl [0] rfl (k_allc rfl rfl k_alln) 5 rfl (by decide +kernel) (wd_tPast_flFleet_f.trans wd_tPast_flFleet_f.symm) rfl hl.1 rfl (Nat.le_of_ble_eq_true rfl) dX6_bringBack_44 ⟨Nat.zero_le _, Nat.zero_le _⟩ (fun H locs hP hD hS => ?_)
    obtain ⟨rfl, rfl, rfl⟩ := k_in3 h
    exact k_rv hx hb hr hlocks hP hS dX6_bringBack_47
  · have h := k_neg hc h
    obtain ⟨rfl, rfl, rfl⟩ := k_in3 h
    exact k_rv hx hb hr hlocks hP hS dX6_bringBack_8
set_option maxHeartbeats 4000000 in
set_option maxRecDepth 100000 in
theorem c_Past_forget (l : Launch) (dC : Nat → ClassId) (dI : Nat → Nat → Nat) (cI cZ : ClassId) (a_t a_t_shelf : Nat → Nat) (t_next : Int32) (i_t_count : Int32) (t_shelf_nz : Nat) (t_shelf_slots : Int32) (t_shelf_rows : Nat → Int32)  (o_t_count : Int32) (h : m_Past_forget i_t_count = some o_t_count) : (MV l yX6_forget wsX6_forget ({ frames := 0, cells := 0, slots := 0, locals := 0 }) (dC, dI) [(cI, .int), (cZ, .boolean)] (wd_tPast cI cZ a_t a_t_shelf t_next i_t_count t_shelf_nz t_shelf_slots t_shelf_rows) (wd_tPast cI cZ a_t a_t_shelf t_next o_t_count t_shelf_nz t_shelf_slots t_shelf_rows) [.ref (a_t 0)]) := by
  intro sz
  refine Met.ofW (cc := cX6_forget) (maxL := 1) (ret := none) (by decide) rfl ?_
  intro p e s m args below meth c s₁ B hml hv
  obtain ⟨rfl, hsz, hP, hK, hD0⟩ := hv
  have hx := B.exec
  have hb := B.bytes
  have hr := B.returns
  have hts := atoms_spec (ws := wsX6_forget) B.pre
  have hown : s.vm.findClass RX6 = some m.cls := findClass_of_methodNamed B.named
  have hlocks := B.notSynchronized
  subst hsz
  have hD := hD0.self (sz := s.heap.size)
  have hA : ∀ q : Nat, s.heap.size ≤ q → va_A (wd_tPast cI cZ a_t a_t_shelf t_next i_t_count t_shelf_nz t_shelf_slots t_shelf_rows) s.heap.size q := fun q h => Or.inr h
  have hS : va_S (va_A (wd_tPast cI cZ a_t a_t_shelf t_next i_t_count t_shelf_nz t_shelf_slots t_shelf_rows) s.heap.size) s.heap s.heap [] := va_S.rf
  have hin6 : ∀ w ∈ u_ws RX6 TX6 3, w ∈ wsX6_forget := fun w h => List.mem_cons_of_mem _ (List.mem_append_right _ h)
  have hl := lv_entry ([.ref (a_t 0)]) (n := 1) (Nat.le_of_ble_eq_true rfl)
  rw [lg_entry_eq]
  generalize (lg_sl ([.ref (a_t 0)]) ++ List.replicate (1 - (lg_sl ([.ref (a_t 0)])).length) Slot.unset).toArray = ls at hl ⊢
  have hl : lv_has ls 1 [(0, .ref (a_t 0))] := hl
  unfold m_Past_forget at h
  refine lv_aload_n hx hb dX6_forget_0 rfl (lv_at hl 0 rfl) ?_
  refine lv_iconst (v := 0) hx hb dX6_forget_1 (by decide) ?_
  refine va_put (D := (dC, dI)) (ci := 6) (v := .int 0) (ty := tyX6 2) (C := RX6) (T := TX6) (N := 3) hx hb hts hin6 tyX6 tyX6_ok nmX6 hown hK hP hD hS 0 rfl rfl 2 (by decide) (hts (.fieldLink RX6 24 "TowedBack$Past" "count" "I") (List.mem_of_getElem? (i := 1) rfl)) (fun _ h9 => h9) rfl (tyX6_ok 2 (by decide)) rfl rfl (Nat.le_of_ble_eq_true rfl) dX6_forget_2 (fun H locs hP hD hS => ?_)
  have hP : va_P (dC, dI) vwCl (wd_tPast cI cZ a_t a_t_shelf t_next 0 t_shelf_nz t_shelf_slots t_shelf_rows) H := hP
  have hD : va_D (va_A (wd_tPast cI cZ a_t a_t_shelf t_next i_t_count t_shelf_nz t_shelf_slots t_shelf_rows) s.heap.size) (wd_tPast cI cZ a_t a_t_shelf t_next 0 t_shelf_nz t_shelf_slots t_shelf_rows) := hD
  obtain rfl := k_in1 h
  exact k_rv hx hb hr hlocks hP hS dX6_forget_5
