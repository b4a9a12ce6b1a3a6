set_option maxHeartbeats 4000000 in
set_option maxRecDepth 100000 in
theorem c_Tb_keep (l : Launch) (dC : Nat → ClassId) (dI : Nat → Nat → Nat) (cI cZ : ClassId) (a_t a_t_reader a_t_here a_t_spare a_t_fleet a_t_past a_t_past_shelf a_t_images a_t_images_shelf a_t_draws a_t_seen a_t_book a_t_way a_t_bands a_t_exchange : Nat → Nat) (t_lettersFed : Int32) (t_faultAt : Int32) (t_fleet_row : Nat → Int32) (t_past_next : Int32) (i_t_past_count : Int32) (t_past_shelf_slots : Int32) (t_past_shelf_rows : Nat → Int32) (i_t_images_seeds : Nat → Int32) (i_t_images_kept : Nat → Int32) (t_images_shelf_slots : Int32) (i_t_images_shelf_rows : Nat → Int32) (t_draws_value : Int32) (y1 : Int32) (r0 : Int32) (o_t_past_count : Int32) (o_t_images_seeds : Nat → Int32) (o_t_images_kept : Nat → Int32) (o_t_images_shelf_rows : Nat → Int32) (h : m_Tb_keep y1 t_fleet_row i_t_past_count i_t_images_seeds i_t_images_kept t_images_shelf_slots i_t_images_shelf_rows t_draws_value = some (r0, o_t_past_count, o_t_images_seeds, o_t_images_kept, o_t_images_shelf_rows)) : (MI l yX11_keep wsX11_keep ({ frames := 3, cells := 0, slots := 0, locals := 71 }) (dC, dI) [(cI, .int), (cZ, .boolean)] (wd_tTb23 cI cZ a_t a_t_reader a_t_here a_t_spare a_t_fleet a_t_past a_t_past_shelf a_t_images a_t_images_shelf a_t_draws a_t_seen a_t_book a_t_way a_t_bands a_t_exchange (a_t_here 0) (a_t_spare 0) t_lettersFed t_faultAt t_fleet_row t_past_next i_t_past_count t_past_shelf_slots t_past_shelf_rows i_t_images_seeds i_t_images_kept t_images_shelf_slots i_t_images_shelf_rows t_draws_value) (wd_tTb23 cI cZ a_t a_t_reader a_t_here a_t_spare a_t_fleet a_t_past a_t_past_shelf a_t_images a_t_images_shelf a_t_draws a_t_seen a_t_book a_t_way a_t_bands a_t_exchange (a_t_here 0) (a_t_spare 0) t_lettersFed t_faultAt t_fleet_row t_past_next o_t_past_count t_past_shelf_slots t_past_shelf_rows o_t_images_seeds o_t_images_kept t_images_shelf_slots o_t_images_shelf_rows t_draws_value) [.ref (a_t 0), .int y1] r0) := by
  intro sz
  refine Met.ofW (cc := cX11_keep) (maxL := 2) (ret := (some .int)) (by decide) rfl ?_
  intro p e s m args below meth c s₁ B hml hv
  obtain ⟨rfl, hsz, hP, hK, hD0⟩ := hv
  have hx := B.exec
  have hb := B.bytes
  have hr := B.returns
  have hts := atoms_spec (ws := wsX11_keep) B.pre
  have hown : s.vm.findClass RX11 = some m.cls := findClass_of_methodNamed B.named
  have hlocks := B.notSynchronized
  subst hsz
  have hD := hD0.self (sz := s.heap.size)
  have hA : ∀ q : Nat, s.heap.size ≤ q → va_A (wd_tTb23 cI cZ a_t a_t_reader a_t_here a_t_spare a_t_fleet a_t_past a_t_past_shelf a_t_images a_t_images_shelf a_t_draws a_t_seen a_t_book a_t_way a_t_bands a_t_exchange (a_t_here 0) (a_t_spare 0) t_lettersFed t_faultAt t_fleet_row t_past_next i_t_past_count t_past_shelf_slots t_past_shelf_rows i_t_images_seeds i_t_images_kept t_images_shelf_slots i_t_images_shelf_rows t_draws_value) s.heap.size q := fun q h => Or.inr h
  have hS : va_S (va_A (wd_tTb23 cI cZ a_t a_t_reader a_t_here a_t_spare a_t_fleet a_t_past a_t_past_shelf a_t_images a_t_images_shelf a_t_draws a_t_seen a_t_book a_t_way a_t_bands a_t_exchange (a_t_here 0) (a_t_spare 0) t_lettersFed t_faultAt t_fleet_row t_past_next i_t_past_count t_past_shelf_slots t_past_shelf_rows i_t_images_seeds i_t_images_kept t_images_shelf_slots i_t_images_shelf_rows t_draws_value) s.heap.size) s.heap s.heap [] := va_S.rf
  have hin11 : ∀ w ∈ u_ws RX11 TX11 16, w ∈ wsX11_keep := fun w h => List.mem_cons_of_mem _ (List.mem_append_left _ (List.mem_append_left _ (List.mem_append_left _ (List.mem_append_left _ (List.mem_append_left _ (List.mem_append_right _ h))))))
  have hl := lv_entry ([.ref (a_t 0), .int y1]) (n := 2) (Nat.le_of_ble_eq_true rfl)
  rw [lg_entry_eq]
  generalize (lg_sl ([.ref (a_t 0), .int y1]) ++ List.replicate (2 - (lg_sl ([.ref (a_t 0), .int y1])).length) Slot.unset).toArray = ls at hl ⊢
  have hl : lv_has ls 2 [(0, .ref (a_t 0)), (1, .int y1)] := hl
  unfold m_Tb_keep at h
  refine lv_iload_n hx hb dX11_keep_0 rfl (lv_at hl 1 rfl) ?_
  refine lv_if_lt (tgt := 9) hx hb dX11_keep_1 (by decide) (fun hc => ?_) (fun hc => ?_)
  · have h := k_pos hc h
    refine lv_ldc (v := (-1000000001)) hx hb hown (hts (.constant RX11 145 (-1000000001)) (List.mem_of_getElem? (i := 1) rfl)) dX11_keep_9 ?_
    obtain ⟨rfl, rfl, rfl, rfl, rfl⟩ := k_in5 h
    exact k_ri hx hb hr hlocks hP hS dX11_keep_11
  · have h := k_neg hc h
    refine lv_iload_n hx hb dX11_keep_4 rfl (lv_at hl 1 rfl) ?_
    refine lv_iconst (v := 2) hx hb dX11_keep_5 (by decide) ?_
    refine lv_icmp_lt (tgt := 12) hx hb dX11_keep_6 (by decide) (fun hc => ?_) (fun hc => ?_)
    · have h := k_pos hc h
      refine lv_aload_n hx hb dX11_keep_12 rfl (lv_at hl 0 rfl) ?_
      refine va_get (D := (dC, dI)) (ci := 11) (v := .ref (a_t_images 0)) (C := RX11) (T := TX11) (N := 16) hx hb hts hin11 hown hK hP 0 rfl rfl 9 (by decide) (hts (.fieldLink RX11 57 "TowedBack" "images" "LTowedBack$Images;") (List.mem_of_getElem? (i := 2) rfl)) (fun _ h9 => h9) rfl dX11_keep_13 ?_
      refine lv_iload_n hx hb dX11_keep_16 rfl (lv_at hl 1 rfl) ?_
      refine lv_aload_n hx hb dX11_keep_17 rfl (lv_at hl 0 rfl) ?_
      refine va_get (D := (dC, dI)) (ci := 11) (v := .ref (a_t_fleet 0)) (C := RX11) (T := TX11) (N := 16) hx hb hts hin11 hown hK hP 0 rfl rfl 6 (by decide) (hts (.fieldLink RX11 40 "TowedBack" "fleet" "LTowedBack$Fleet;") (List.mem_of_getElem? (i := 3) rfl)) (fun _ h9 => h9) rfl dX11_keep_18 ?_
      refine lv_aload_n hx hb dX11_keep_21 rfl (lv_at hl 0 rfl) ?_
      refine va_get (D := (dC, dI)) (ci := 11) (v := .ref (a_t_draws 0)) (C := RX11) (T := TX11) (N := 16) hx hb hts hin11 hown hK hP 0 rfl rfl 10 (by decide) (hts (.fieldLink RX11 64 "TowedBack" "draws" "LTowedBack$Draws;") (List.mem_of_getElem? (i := 4) rfl)) (fun _ h9 => h9) rfl dX11_keep_22 ?_
      obtain ⟨t_images_seeds_1, t_images_kept_1, t_images_shelf_rows_1, hc1, h⟩ := kb3_some h
      refine k_GVv (rest := []) (As := [.int y1, .ref (a_t_fleet 0), .ref (a_t_draws 0)]) (ws' := (wd_tTb23 cI cZ a_t a_t_reader a_t_here a_t_spare a_t_fleet a_t_past a_t_past_shelf a_t_images a_t_images_shelf a_t_draws a_t_seen a_t_book a_t_way a_t_bands a_t_exchange (a_t_here 0) (a_t_spare 0) t_lettersFed t_faultAt t_fleet_row t_past_next i_t_past_count t_past_shelf_slots t_past_shelf_rows t_images_seeds_1 t_images_kept_1 t_images_shelf_slots t_images_shelf_rows_1 t_draws_value)) ⟨hx, hb, hml, hown, hts⟩ (c_Images_keepIn l dC dI cI cZ a_t_images a_t_images_shelf a_t_fleet a_t_draws i_t_images_seeds i_t_images_kept 42 t_images_shelf_slots i_t_images_shelf_rows t_fleet_row t_draws_value y1 t_images_seeds_1 t_images_kept_1 t_images_shelf_rows_1 hc1) (cwV 3 hts gX11_keep_X5_keepIn rfl rfl rfl hd_5_keepIn ⟨Nat.le_of_ble_eq_true rfl, Nat.le_of_ble_eq_true rfl⟩) hK hP hD hS hA [6, 7, 8, 9, 10, 1, 2, 11] rfl (by decide +kernel) 6 5 rfl rfl rfl [0, 3, 4, 5] rfl (k_allc rfl rfl (k_allc rfl rfl (k_allc rfl rfl (k_allc rfl rfl k_alln)))) 12 rfl (by decide +kernel) (wd_tTb23_f.trans wd_tTb23_f.symm) rfl hl.1 rfl (Nat.le_of_ble_eq_true rfl) dX11_keep_25 ⟨Nat.zero_le _, Nat.zero_le _⟩ (fun H locs hP hD hS => ?_)
      refine lv_aload_n hx hb dX11_keep_28 rfl (lv_at hl 0 rfl) ?_
      refine va_get (D := (dC, dI)) (ci := 11) (v := .ref (a_t_past 0)) (C := RX11) (T := TX11) (N := 16) hx hb hts hin11 hown hK hP 0 rfl rfl 8 (by decide) (hts (.fieldLink RX11 50 "TowedBack" "past" "LTowedBack$Past;") (List.mem_of_getElem? (i := 5) rfl)) (fun _ h9 => h9) rfl dX11_keep_29 ?_
      obtain ⟨t_past_count_2, hc2, h⟩ := kb1_some h
      refine k_GVv (rest := []) (As := []) (ws' := (wd_tTb23 cI cZ a_t a_t_reader a_t_here a_t_spare a_t_fleet a_t_past a_t_past_shelf a_t_images a_t_images_shelf a_t_draws a_t_seen a_t_book a_t_way a_t_bands a_t_exchange (a_t_here 0) (a_t_spare 0) t_lettersFed t_faultAt t_fleet_row t_past_next t_past_count_2 t_past_shelf_slots t_past_shelf_rows t_images_seeds_1 t_images_kept_1 t_images_shelf_slots t_images_shelf_rows_1 t_draws_value)) ⟨hx, hb, hml, hown, hts⟩ (c_Past_forget l dC dI cI cZ a_t_past a_t_past_shelf t_past_next i_t_past_count 420 t_past_shelf_slots t_past_shelf_rows t_past_count_2 hc2) (cwV 0 hts gX11_keep_X6_forget rfl rfl rfl hd_6_forget ⟨Nat.le_of_ble_eq_true rfl, Nat.le_of_ble_eq_true rfl⟩) hK hP hD hS hA [3, 4, 5] rfl (by decide +kernel) 3 6 rfl rfl rfl [0, 1, 2, 6, 7, 8, 9, 10, 11] rfl (k_allc rfl rfl (k_allc rfl rfl (k_allc rfl rfl (k_allc rfl rfl (k_allc rfl rfl (k_allc rfl rfl (k_allc rfl rfl (k_allc rfl rfl (k_allc rfl rfl k_alln))))))))) 12 rfl (by decide +kernel) (wd_tTb23_f.trans wd_tTb23_f.symm) rfl hl.1 rfl (Nat.le_of_ble_eq_true rfl) dX11_keep_32 ⟨Nat.zero_le _, Nat.zero_le _⟩ (fun H locs hP hD hS => ?_)
      refine lv_iconst (v := 1) hx hb dX11_keep_35 (by decide) ?_
      obtain ⟨rfl, rfl, rfl, rfl, rfl⟩ := k_in5 h
      exact k_ri hx hb hr hlocks hP hS dX11_keep_36
    · have h := k_neg hc h
      refine lv_ldc (v := (-1000000001)) hx hb hown (hts (.constant RX11 145 (-1000000001)) (List.mem_of_getElem? (i := 1) rfl)) dX11_keep_9 ?_
      obtain ⟨rfl, rfl, rfl, rfl, rfl⟩ := k_in5 h
      exact k_ri hx hb hr hlocks hP hS dX11_keep_11
set_option maxHeartbeats 4000000 in
set_option maxRecDepth 100000 in
theorem c_Tb_goBack (l : Launch) (dC : Nat → ClassId) (dI : Nat → Nat → Nat) (cI cZ : ClassId) (a_t a_t_reader a_t_here a_t_spare a_t_fleet a_t_past a_t_past_shelf a_t_images a_t_images_shelf a_t_draws a_t_seen a_t_book a_t_way a_t_bands a_t_exchange : Nat → Nat) (t_lettersFed : Int32) (t_faultAt : Int32) (i_t_fleet_row : Nat → Int32) (t_past_next : Int32) (i_t_past_count : Int32) (t_past_shelf_slots : Int32) (t_past_shelf_rows : Nat → Int32) (t_images_seeds : Nat → Int32) (t_images_kept : Nat → Int32) (t_images_shelf_slots : Int32) (t_images_shelf_rows : Nat → Int32) (i_t_draws_value : Int32) (y1 : Int32) (r0 : Int32) (o_t_fleet_row : Nat → Int32) (o_t_past_count : Int32) (o_t_draws_value : Int32) (h : m_Tb_goBack y1 i_t_fleet_row i_t_past_count t_images_seeds t_images_kept t_images_shelf_slots t_images_shelf_rows i_t_draws_value = some (r0, o_t_fleet_row, o_t_past_count, o_t_draws_value)) : (MI l yX11_goBack wsX11_goBack ({ frames := 3, cells := 0, slots := 0, locals := 71 }) (dC, dI) [(cI, .int), (cZ, .boolean)] (wd_tTb23 cI cZ a_t a_t_reader a_t_here a_t_spare a_t_fleet a_t_past a_t_past_shelf a_t_images a_t_images_shelf a_t_draws a_t_seen a_t_book a_t_way a_t_bands a_t_exchange (a_t_here 0) (a_t_spare 0) t_lettersFed t_faultAt i_t_fleet_row t_past_next i_t_past_count t_past_shelf_slots t_past_shelf_rows t_images_seeds t_images_kept t_images_shelf_slots t_images_shelf_rows i_t_draws_value) (wd_tTb23 cI cZ a_t a_t_reader a_t_here a_t_spare a_t_fleet a_t_past a_t_past_shelf a_t_images a_t_images_shelf a_t_draws a_t_seen a_t_book a_t_way a_t_bands a_t_exchange (a_t_here 0) (a_t_spare 0) t_lettersFed t_faultAt o_t_fleet_row t_past_next o_t_past_count t_past_shelf_slots t_past_shelf_rows t_images_seeds t_images_kept t_images_shelf_slots t_images_shelf_rows o_t_draws_value) [.ref (a_t 0), .int y1] r0) := by
  intro sz
  refine Met.ofW (cc := cX11_goBack) (maxL := 2) (ret := (some .int)) (by decide) rfl ?_
  intro p e s m args below meth c s₁ B hml hv
  obtain ⟨rfl, hsz, hP, hK, hD0⟩ := hv
  have hx := B.exec
  have hb := B.bytes
  have hr := B.returns
  have hts := atoms_spec (ws := wsX11_goBack) B.pre
  have hown : s.vm.findClass RX11 = some m.cls := findClass_of_methodNamed B.named
  have hlocks := B.notSynchronized
  subst hsz
  have hD := hD0.self (sz := s.heap.size)
  have hA : ∀ q : Nat, s.heap.size ≤ q → va_A (wd_tTb23 cI cZ a_t a_t_reader a_t_here a_t_spare a_t_fleet a_t_past a_t_past_shelf a_t_images a_t_images_shelf a_t_draws a_t_seen a_t_book a_t_way a_t_bands a_t_exchange (a_t_here 0) (a_t_spare 0) t_lettersFed t_faultAt i_t_fleet_row t_past_next i_t_past_count t_past_shelf_slots t_past_shelf_rows t_images_seeds t_images_kept t_images_shelf_slots t_images_shelf_rows i_t_draws_value) s.heap.size q := fun q h => Or.inr h
  have hS : va_S (va_A (wd_tTb23 cI cZ a_t a_t_reader a_t_here a_t_spare a_t_fleet a_t_past a_t_past_shelf a_t_images a_t_images_shelf a_t_draws a_t_seen a_t_book a_t_way a_t_bands a_t_exchange (a_t_here 0) (a_t_spare 0) t_lettersFed t_faultAt i_t_fleet_row t_past_next i_t_past_count t_past_shelf_slots t_past_shelf_rows t_images_seeds t_images_kept t_images_shelf_slots t_images_shelf_rows i_t_draws_value) s.heap.size) s.heap s.heap [] := va_S.rf
  have hin11 : ∀ w ∈ u_ws RX11 TX11 16, w ∈ wsX11_goBack := fun w h => List.mem_cons_of_mem _ (List.mem_append_left _ (List.mem_append_left _ (List.mem_append_left _ (List.mem_append_left _ (List.mem_append_left _ (List.mem_append_right _ h))))))
  have hl := lv_entry ([.ref (a_t 0), .int y1]) (n := 2) (Nat.le_of_ble_eq_true rfl)
  rw [lg_entry_eq]
  generalize (lg_sl ([.ref (a_t 0), .int y1]) ++ List.replicate (2 - (lg_sl ([.ref (a_t 0), .int y1])).length) Slot.unset).toArray = ls at hl ⊢
  have hl : lv_has ls 2 [(0, .ref (a_t 0)), (1, .int y1)] := hl
  unfold m_Tb_goBack at h
  refine lv_iload_n hx hb dX11_goBack_0 rfl (lv_at hl 1 rfl) ?_
  refine lv_if_lt (tgt := 9) hx hb dX11_goBack_1 (by decide) (fun hc => ?_) (fun hc => ?_)
  · have h := k_pos hc h
    refine lv_ldc (v := (-1000000001)) hx hb hown (hts (.constant RX11 145 (-1000000001)) (List.mem_of_getElem? (i := 1) rfl)) dX11_goBack_9 ?_
    obtain ⟨rfl, rfl, rfl, rfl⟩ := k_in4 h
    exact k_ri hx hb hr hlocks hP hS dX11_goBack_11
  · have h := k_neg hc h
    refine lv_iload_n hx hb dX11_goBack_4 rfl (lv_at hl 1 rfl) ?_
    refine lv_iconst (v := 2) hx hb dX11_goBack_5 (by decide) ?_
    refine lv_icmp_lt (tgt := 12) hx hb dX11_goBack_6 (by decide) (fun hc => ?_) (fun hc => ?_)
    · have h := k_pos hc h
      refine lv_aload_n hx hb dX11_goBack_12 rfl (lv_at hl 0 rfl) ?_
      refine va_get (D := (dC, dI)) (ci := 11) (v := .ref (a_t_images 0)) (C := RX11) (T := TX11) (N := 16) hx hb hts hin11 hown hK hP 0 rfl rfl 9 (by decide) (hts (.fieldLink RX11 57 "TowedBack" "images" "LTowedBack$Images;") (List.mem_of_getElem? (i := 2) rfl)) (fun _ h9 => h9) rfl dX11_goBack_13 ?_
      refine lv_iload_n hx hb dX11_goBack_16 rfl (lv_at hl 1 rfl) ?_
      obtain ⟨r1, hc1, h⟩ := kb1_some h
      refine k_RVi (rest := []) (As := [.int y1]) ⟨hx, hb, hml, hown, hts⟩ (c_Images_isKept l dC dI cI cZ a_t_images a_t_images_shelf t_images_seeds t_images_kept 42 t_images_shelf_slots t_images_shelf_rows y1 r1 hc1) (cwV 1 hts gX11_goBack_X5_isKept rfl rfl rfl hd_5_isKept ⟨Nat.le_of_ble_eq_true rfl, Nat.le_of_ble_eq_true rfl⟩) hK hP hD hS hA [6, 7, 8, 9, 10] rfl (by decide +kernel) 6 5 rfl rfl rfl rfl hl.1 rfl (Nat.le_of_ble_eq_true rfl) dX11_goBack_17 ⟨Nat.zero_le _, Nat.zero_le _⟩ (fun H locs hP hD hS => ?_)
      refine lv_if_ne (tgt := 26) hx hb dX11_goBack_20 (by decide) (fun hc => ?_) (fun hc => ?_)
      · have h := k_neg hc h
        refine lv_aload_n hx hb dX11_goBack_26 rfl (lv_at hl 0 rfl) ?_
        refine va_get (D := (dC, dI)) (ci := 11) (v := .ref (a_t_images 0)) (C := RX11) (T := TX11) (N := 16) hx hb hts hin11 hown hK hP 0 rfl rfl 9 (by decide) (hts (.fieldLink RX11 57 "TowedBack" "images" "LTowedBack$Images;") (List.mem_of_getElem? (i := 2) rfl)) (fun _ h9 => h9) rfl dX11_goBack_27 ?_
        refine lv_iload_n hx hb dX11_goBack_30 rfl (lv_at hl 1 rfl) ?_
        refine lv_aload_n hx hb dX11_goBack_31 rfl (lv_at hl 0 rfl) ?_
        refine va_get (D := (dC, dI)) (ci := 11) (v := .ref (a_t_fleet 0)) (C := RX11) (T := TX11) (N := 16) hx hb hts hin11 hown hK hP 0 rfl rfl 6 (by decide) (hts (.fieldLink RX11 40 "TowedBack" "fleet" "LTowedBack$Fleet;") (List.mem_of_getElem? (i := 4) rfl)) (fun _ h9 => h9) rfl dX11_goBack_32 ?_
        refine lv_aload_n hx hb dX11_goBack_35 rfl (lv_at hl 0 rfl) ?_
        refine va_get (D := (dC, dI)) (ci := 11) (v := .ref (a_t_draws 0)) (C := RX11) (T := TX11) (N := 16) hx hb hts hin11 hown hK hP 0 rfl rfl 10 (by decide) (hts (.fieldLink RX11 64 "TowedBack" "draws" "LTowedBack$Draws;") (List.mem_of_getElem? (i := 5) rfl)) (fun _ h9 => h9) rfl dX11_goBack_36 ?_
        obtain ⟨t_fleet_row_2, t_draws_value_2, hc2, h⟩ := kb2_some h
        refine k_GVv (rest := []) (As := [.int y1, .ref (a_t_fleet 0), .ref (a_t_draws 0)]) (ws' := (wd_tTb23 cI cZ a_t a_t_reader a_t_here a_t_spare a_t_fleet a_t_past a_t_past_shelf a_t_images a_t_images_shelf a_t_draws a_t_seen a_t_book a_t_way a_t_bands a_t_exchange (a_t_here 0) (a_t_spare 0) t_lettersFed t_faultAt t_fleet_row_2 t_past_next i_t_past_count t_past_shelf_slots t_past_shelf_rows t_images_seeds t_images_kept t_images_shelf_slots t_images_shelf_rows t_draws_value_2)) ⟨hx, hb, hml, hown, hts⟩ (c_Images_bringBack l dC dI cI cZ a_t_images a_t_images_shelf a_t_fleet a_t_draws t_images_seeds t_images_kept 42 t_images_shelf_slots t_images_shelf_rows i_t_fleet_row i_t_draws_value y1 t_fleet_row_2 t_draws_value_2 hc2) (cwV 3 hts gX11_goBack_X5_bringBack rfl rfl rfl hd_5_bringBack ⟨Nat.le_of_ble_eq_true rfl, Nat.le_of_ble_eq_true rfl⟩) hK hP hD hS hA [6, 7, 8, 9, 10, 1, 2, 11] rfl (by decide +kernel) 6 5 rfl rfl rfl [0, 3, 4, 5] rfl (k_allc rfl rfl (k_allc rfl rfl (k_allc rfl rfl (k_allc rfl rfl k_alln)))) 12 rfl (by decide +kernel) (wd_tTb23_f.trans wd_tTb23_f.symm) rfl hl.1 rfl (Nat.le_of_ble_eq_true rfl) dX11_goBack_39 ⟨Nat.zero_le _, Nat.zero_le _⟩ (fun H locs hP hD hS => ?_)
        refine lv_aload_n hx hb dX11_goBack_42 rfl (lv_at hl 0 rfl) ?_
        refine va_get (D := (dC, dI)) (ci := 11) (v := .ref (a_t_past 0)) (C := RX11) (T := TX11) (N := 16) hx hb hts hin11 hown hK hP 0 rfl rfl 8 (by decide) (hts (.fieldLink RX11 50 "TowedBack" "past" "LTowedBack$Past;") (List.mem_of_getElem? (i := 6) rfl)) (fun _ h9 => h9) rfl dX11_goBack_43 ?_
        obtain ⟨t_past_count_3, hc3, h⟩ := kb1_some h
        refine k_GVv (rest := []) (As := []) (ws' := (wd_tTb23 cI cZ a_t a_t_reader a_t_here a_t_spare a_t_fleet a_t_past a_t_past_shelf a_t_images a_t_images_shelf a_t_draws a_t_seen a_t_book a_t_way a_t_bands a_t_exchange (a_t_here 0) (a_t_spare 0) t_lettersFed t_faultAt t_fleet_row_2 t_past_next t_past_count_3 t_past_shelf_slots t_past_shelf_rows t_images_seeds t_images_kept t_images_shelf_slots t_images_shelf_rows t_draws_value_2)) ⟨hx, hb, hml, hown, hts⟩ (c_Past_forget l dC dI cI cZ a_t_past a_t_past_shelf t_past_next i_t_past_count 420 t_past_shelf_slots t_past_shelf_rows t_past_count_3 hc3) (cwV 0 hts gX11_goBack_X6_forget rfl rfl rfl hd_6_forget ⟨Nat.le_of_ble_eq_true rfl, Nat.le_of_ble_eq_true rfl⟩) hK hP hD hS hA [3, 4, 5] rfl (by decide +kernel) 3 6 rfl rfl rfl [0, 1, 2, 6, 7, 8, 9, 10, 11] rfl (k_allc rfl rfl (k_allc rfl rfl (k_allc rfl rfl (k_allc rfl rfl (k_allc rfl rfl (k_allc rfl rfl (k_allc rfl rfl (k_allc rfl rfl (k_allc rfl rfl k_alln))))))))) 12 rfl (by decide +kernel) (wd_tTb23_f.trans wd_tTb23_f.symm) rfl hl.1 rfl (Nat.le_of_ble_eq_true rfl) dX11_goBack_46 ⟨Nat.zero_le _, Nat.zero_le _⟩ (fun H locs hP hD hS => ?_)
        refine lv_iconst (v := 1) hx hb dX11_goBack_49 (by decide) ?_
        obtain ⟨rfl, rfl, rfl, rfl⟩ := k_in4 h
        exact k_ri hx hb hr hlocks hP hS dX11_goBack_50
      · have h := k_pos hc h
        refine lv_ldc (v := (-1000000003)) hx hb hown (hts (.constant RX11 201 (-1000000003)) (List.mem_of_getElem? (i := 3) rfl)) dX11_goBack_23 ?_
        obtain ⟨rfl, rfl, rfl, rfl⟩ := k_in4 h
        exact k_ri hx hb hr hlocks hP hS dX11_goBack_25
    · have h := k_neg hc h
      refine lv_ldc (v := (-1000000001)) hx hb hown (hts (.constant RX11 145 (-1000000001)) (List.mem_of_getElem? (i := 1) rfl)) dX11_goBack_9 ?_
      obtain ⟨rfl, rfl, rfl, rfl⟩ := k_in4 h
      exact k_ri hx hb hr hlocks hP hS dX11_goBack_11
