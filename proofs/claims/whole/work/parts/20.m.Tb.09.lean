set_option maxHeartbeats 4000000 in
set_option maxRecDepth 100000 in
theorem c_Tb_left (l : Launch) (dC : Nat → ClassId) (dI : Nat → Nat → Nat) (cI cZ : ClassId) (a_t a_t_reader a_t_here a_t_spare a_t_fleet a_t_past a_t_images a_t_draws a_t_seen a_t_book a_t_way a_t_bands a_t_exchange : Nat → Nat) (t_lettersFed : Int32) (t_faultAt : Int32) (t_here_junctions : Int32) (t_here_cuts : Int32) (t_here_boats : Int32) (t_here_cutA : Nat → Int32) (t_here_cutB : Nat → Int32) (t_here_cutHard : Nat → Int32) (t_here_boatAt : Nat → Int32) (t_here_boatPull : Nat → Int32) (t_here_boatWear : Nat → Int32) (t_here_onward : Nat → Int32) (t_here_onwardHard : Nat → Int32) (t_fleet_row : Nat → Int32) (t_seen_most : Int32) (t_seen_boats : Nat → Int32) (t_seen_steps : Nat → Int32) (t_seen_junctions : Nat → Int32) (t_seen_count : Int32) (i_t_way_places : Nat → Int32) (i_t_way_needs : Nat → Int32) (i_t_way_last : Int32) (i_t_bands_lows : Nat → Int32) (i_t_bands_sizes : Nat → Int32) (t_bands_parts : Nat → Int32) (y1 : Int32) (y2 : Int32) (r0 : Int32) (o_t_way_places : Nat → Int32) (o_t_way_needs : Nat → Int32) (o_t_way_last : Int32) (o_t_bands_lows : Nat → Int32) (o_t_bands_sizes : Nat → Int32) (h : m_Tb_left y1 y2 t_here_boats t_here_boatWear t_here_onward t_here_onwardHard t_fleet_row t_seen_most t_seen_boats t_seen_steps t_seen_junctions t_seen_count i_t_way_places i_t_way_needs i_t_way_last i_t_bands_lows i_t_bands_sizes = some (r0, o_t_way_places, o_t_way_needs, o_t_way_last, o_t_bands_lows, o_t_bands_sizes)) : (MI l yX11_left wsX11_left ({ frames := 5, cells := 0, slots := 0, locals := 111 }) (dC, dI) [(cI, .int), (cZ, .boolean)] (wd_tTb18 cI cZ a_t a_t_reader a_t_here a_t_spare a_t_fleet a_t_past a_t_images a_t_draws a_t_seen a_t_book a_t_way a_t_bands a_t_exchange (a_t_here 0) (a_t_spare 0) t_lettersFed t_faultAt t_here_junctions t_here_cuts t_here_boats t_here_cutA t_here_cutB t_here_cutHard t_here_boatAt t_here_boatPull t_here_boatWear t_here_onward t_here_onwardHard t_fleet_row t_seen_most t_seen_boats t_seen_steps t_seen_junctions t_seen_count i_t_way_places i_t_way_needs i_t_way_last i_t_bands_lows i_t_bands_sizes t_bands_parts) (wd_tTb18 cI cZ a_t a_t_reader a_t_here a_t_spare a_t_fleet a_t_past a_t_images a_t_draws a_t_seen a_t_book a_t_way a_t_bands a_t_exchange (a_t_here 0) (a_t_spare 0) t_lettersFed t_faultAt t_here_junctions t_here_cuts t_here_boats t_here_cutA t_here_cutB t_here_cutHard t_here_boatAt t_here_boatPull t_here_boatWear t_here_onward t_here_onwardHard t_fleet_row t_seen_most t_seen_boats t_seen_steps t_seen_junctions t_seen_count o_t_way_places o_t_way_needs o_t_way_last o_t_bands_lows o_t_bands_sizes t_bands_parts) [.ref (a_t 0), .int y1, .int y2] r0) := by
  intro sz
  refine Met.ofW (cc := cX11_left) (maxL := 3) (ret := (some .int)) (by decide) rfl ?_
  intro p e s m args below meth c s₁ B hml hv
  obtain ⟨rfl, hsz, hP, hK, hD0⟩ := hv
  have hx := B.exec
  have hb := B.bytes
  have hr := B.returns
  have hts := atoms_spec (ws := wsX11_left) B.pre
  have hown : s.vm.findClass RX11 = some m.cls := findClass_of_methodNamed B.named
  have hlocks := B.notSynchronized
  subst hsz
  have hD := hD0.self (sz := s.heap.size)
  have hA : ∀ q : Nat, s.heap.size ≤ q → va_A (wd_tTb18 cI cZ a_t a_t_reader a_t_here a_t_spare a_t_fleet a_t_past a_t_images a_t_draws a_t_seen a_t_book a_t_way a_t_bands a_t_exchange (a_t_here 0) (a_t_spare 0) t_lettersFed t_faultAt t_here_junctions t_here_cuts t_here_boats t_here_cutA t_here_cutB t_here_cutHard t_here_boatAt t_here_boatPull t_here_boatWear t_here_onward t_here_onwardHard t_fleet_row t_seen_most t_seen_boats t_seen_steps t_seen_junctions t_seen_count i_t_way_places i_t_way_needs i_t_way_last i_t_bands_lows i_t_bands_sizes t_bands_parts) s.heap.size q := fun q h => Or.inr h
  have hS : va_S (va_A (wd_tTb18 cI cZ a_t a_t_reader a_t_here a_t_spare a_t_fleet a_t_past a_t_images a_t_draws a_t_seen a_t_book a_t_way a_t_bands a_t_exchange (a_t_here 0) (a_t_spare 0) t_lettersFed t_faultAt t_here_junctions t_here_cuts t_here_boats t_here_cutA t_here_cutB t_here_cutHard t_here_boatAt t_here_boatPull t_here_boatWear t_here_onward t_here_onwardHard t_fleet_row t_seen_most t_seen_boats t_seen_steps t_seen_junctions t_seen_count i_t_way_places i_t_way_needs i_t_way_last i_t_bands_lows i_t_bands_sizes t_bands_parts) s.heap.size) s.heap s.heap [] := va_S.rf
  have hin11 : ∀ w ∈ u_ws RX11 TX11 16, w ∈ wsX11_left := fun w h => List.mem_cons_of_mem _ (List.mem_append_left _ (List.mem_append_left _ (List.mem_append_left _ (List.mem_append_left _ (List.mem_append_left _ (List.mem_append_right _ h))))))
  have hl := lv_entry ([.ref (a_t 0), .int y1, .int y2]) (n := 3) (Nat.le_of_ble_eq_true rfl)
  rw [lg_entry_eq]
  generalize (lg_sl ([.ref (a_t 0), .int y1, .int y2]) ++ List.replicate (3 - (lg_sl ([.ref (a_t 0), .int y1, .int y2])).length) Slot.unset).toArray = ls at hl ⊢
  have hl : lv_has ls 3 [(0, .ref (a_t 0)), (1, .int y1), (2, .int y2)] := hl
  unfold m_Tb_left at h
  refine lv_aload_n hx hb dX11_left_0 rfl (lv_at hl 0 rfl) ?_
  refine va_get (D := (dC, dI)) (ci := 11) (v := .ref (a_t_here 0)) (C := RX11) (T := TX11) (N := 16) hx hb hts hin11 hown hK hP 0 rfl rfl 4 (by decide) (hts (.fieldLink RX11 30 "TowedBack" "here" "LTowedBack$Water;") (List.mem_of_getElem? (i := 1) rfl)) (fun _ h9 => h9) rfl dX11_left_1 ?_
  refine lv_iload_n hx hb dX11_left_4 rfl (lv_at hl 1 rfl) ?_
  obtain ⟨r1, hc1, h⟩ := kb1_some h
  refine k_RVi (rest := []) (As := [.int y1]) ⟨hx, hb, hml, hown, hts⟩ (c_Water_hasBoat l dC dI cI cZ a_t_here t_here_junctions t_here_cuts t_here_boats t_here_cutA t_here_cutB t_here_cutHard t_here_boatAt t_here_boatPull t_here_boatWear t_here_onward t_here_onwardHard y1 r1 hc1) (cwV 1 hts gX11_left_X9_hasBoat rfl rfl rfl hd_9_hasBoat ⟨Nat.le_of_ble_eq_true rfl, Nat.le_of_ble_eq_true rfl⟩) hK hP hD hS hA [1, 2, 3, 4, 5, 6, 7, 8, 9] rfl (by decide +kernel) 1 9 rfl rfl rfl rfl hl.1 rfl (Nat.le_of_ble_eq_true rfl) dX11_left_5 ⟨Nat.zero_le _, Nat.zero_le _⟩ (fun H locs hP hD hS => ?_)
  refine lv_if_ne (tgt := 14) hx hb dX11_left_8 (by decide) (fun hc => ?_) (fun hc => ?_)
  · have h := k_neg hc h
    refine lv_aload_n hx hb dX11_left_14 rfl (lv_at hl 0 rfl) ?_
    refine lv_iload_n hx hb dX11_left_15 rfl (lv_at hl 1 rfl) ?_
    obtain ⟨t_way_places_2, t_way_needs_2, t_way_last_2, t_bands_lows_2, t_bands_sizes_2, hc2, h⟩ := kb5_some h
    refine k_FVv (rest := []) (As := [.int y1]) ⟨hx, hb, hml, hown, hts⟩ (c_Tb_sortPulls l dC dI cI cZ a_t a_t_reader a_t_here a_t_spare a_t_fleet a_t_past a_t_images a_t_draws a_t_seen a_t_book a_t_way a_t_bands a_t_exchange t_lettersFed t_faultAt t_here_junctions t_here_cuts t_here_boats t_here_cutA t_here_cutB t_here_cutHard t_here_boatAt t_here_boatPull t_here_boatWear t_here_onward t_here_onwardHard t_fleet_row t_seen_most t_seen_boats t_seen_steps t_seen_junctions t_seen_count i_t_way_places i_t_way_needs i_t_way_last i_t_bands_lows i_t_bands_sizes t_bands_parts y1 t_way_places_2 t_way_needs_2 t_way_last_2 t_bands_lows_2 t_bands_sizes_2 hc2) (cwV 1 hts gX11_left_X11_sortPulls rfl rfl rfl hd_11_sortPulls ⟨Nat.le_of_ble_eq_true rfl, Nat.le_of_ble_eq_true rfl⟩) hK hP hD hS hA 0 11 rfl rfl rfl (wd_tTb18_f.trans wd_tTb18_f.symm) rfl hl.1 rfl (Nat.le_of_ble_eq_true rfl) dX11_left_16 ⟨Nat.zero_le _, Nat.zero_le _⟩ (fun H locs hP hD hS => ?_)
    refine lv_iload_n hx hb dX11_left_19 rfl (lv_at hl 2 rfl) ?_
    refine lv_iconst (v := (-1)) hx hb dX11_left_20 (by decide) ?_
    refine lv_icmp_ne (tgt := 34) hx hb dX11_left_21 (by decide) (fun hc => ?_) (fun hc => ?_)
    · have h := k_neg hc h
      refine lv_aload_n hx hb dX11_left_34 rfl (lv_at hl 0 rfl) ?_
      refine va_get (D := (dC, dI)) (ci := 11) (v := .ref (a_t_bands 0)) (C := RX11) (T := TX11) (N := 16) hx hb hts hin11 hown hK hP 0 rfl rfl 14 (by decide) (hts (.fieldLink RX11 90 "TowedBack" "bands" "LTowedBack$Bands;") (List.mem_of_getElem? (i := 3) rfl)) (fun _ h9 => h9) rfl dX11_left_35 ?_
      refine lv_iload_n hx hb dX11_left_38 rfl (lv_at hl 2 rfl) ?_
      obtain ⟨r3, hc3, h⟩ := kb1_some h
      refine k_RVi (rest := []) (As := [.int y2]) ⟨hx, hb, hml, hown, hts⟩ (c_Bands_pullAt l dC dI cI cZ a_t_bands t_bands_lows_2 t_bands_sizes_2 t_bands_parts y2 r3 hc3) (cwV 1 hts gX11_left_X0_pullAt rfl rfl rfl hd_0_pullAt ⟨Nat.le_of_ble_eq_true rfl, Nat.le_of_ble_eq_true rfl⟩) hK hP hD hS hA [19, 20, 21, 22] rfl (by decide +kernel) 19 0 rfl rfl rfl rfl hl.1 rfl (Nat.le_of_ble_eq_true rfl) dX11_left_39 ⟨Nat.zero_le _, Nat.zero_le _⟩ (fun H locs hP hD hS => ?_)
      obtain ⟨rfl, rfl, rfl, rfl, rfl, rfl⟩ := k_in6 h
      exact k_ri hx hb hr hlocks hP hS dX11_left_42
    · have h := k_pos hc h
      refine lv_aload_n hx hb dX11_left_24 rfl (lv_at hl 0 rfl) ?_
      refine va_get (D := (dC, dI)) (ci := 11) (v := .ref (a_t_bands 0)) (C := RX11) (T := TX11) (N := 16) hx hb hts hin11 hown hK hP 0 rfl rfl 14 (by decide) (hts (.fieldLink RX11 90 "TowedBack" "bands" "LTowedBack$Bands;") (List.mem_of_getElem? (i := 3) rfl)) (fun _ h9 => h9) rfl dX11_left_25 ?_
      obtain ⟨r4, hc4, h⟩ := kb1_some h
      refine k_RVi (rest := []) (As := []) ⟨hx, hb, hml, hown, hts⟩ (c_Bands_total l dC dI cI cZ a_t_bands t_bands_lows_2 t_bands_sizes_2 t_bands_parts r4 hc4) (cwV 0 hts gX11_left_X0_total rfl rfl rfl hd_0_total ⟨Nat.le_of_ble_eq_true rfl, Nat.le_of_ble_eq_true rfl⟩) hK hP hD hS hA [19, 20, 21, 22] rfl (by decide +kernel) 19 0 rfl rfl rfl rfl hl.1 rfl (Nat.le_of_ble_eq_true rfl) dX11_left_28 ⟨Nat.zero_le _, Nat.zero_le _⟩ (fun H locs hP hD hS => ?_)
      refine lv_goto (tgt := 42) hx hb dX11_left_31 (by decide) ?_
      obtain ⟨rfl, rfl, rfl, rfl, rfl, rfl⟩ := k_in6 h
      exact k_ri hx hb hr hlocks hP hS dX11_left_42
  · have h := k_pos hc h
    refine lv_ldc (v := (-1000000001)) hx hb hown (hts (.constant RX11 145 (-1000000001)) (List.mem_of_getElem? (i := 2) rfl)) dX11_left_11 ?_
    obtain ⟨rfl, rfl, rfl, rfl, rfl, rfl⟩ := k_in6 h
    exact k_ri hx hb hr hlocks hP hS dX11_left_13
set_option maxHeartbeats 4000000 in
set_option maxRecDepth 100000 in
theorem c_Tb_look (l : Launch) (dC : Nat → ClassId) (dI : Nat → Nat → Nat) (cI cZ : ClassId) (a_t a_t_reader a_t_here a_t_spare a_t_fleet a_t_past a_t_images a_t_draws a_t_seen a_t_book a_t_way a_t_bands a_t_exchange : Nat → Nat) (t_lettersFed : Int32) (t_faultAt : Int32) (t_here_junctions : Int32) (t_here_cuts : Int32) (t_here_boats : Int32) (t_here_cutA : Nat → Int32) (t_here_cutB : Nat → Int32) (t_here_cutHard : Nat → Int32) (t_here_boatAt : Nat → Int32) (t_here_boatPull : Nat → Int32) (t_here_boatWear : Nat → Int32) (t_here_onward : Nat → Int32) (t_here_onwardHard : Nat → Int32) (t_fleet_row : Nat → Int32) (t_seen_most : Int32) (t_seen_boats : Nat → Int32) (t_seen_steps : Nat → Int32) (t_seen_junctions : Nat → Int32) (t_seen_count : Int32) (i_t_way_places : Nat → Int32) (i_t_way_needs : Nat → Int32) (i_t_way_last : Int32) (i_t_bands_lows : Nat → Int32) (i_t_bands_sizes : Nat → Int32) (i_t_bands_parts : Nat → Int32) (y1 : Int32) (r0 : Int32) (o_t_way_places : Nat → Int32) (o_t_way_needs : Nat → Int32) (o_t_way_last : Int32) (o_t_bands_lows : Nat → Int32) (o_t_bands_sizes : Nat → Int32) (o_t_bands_parts : Nat → Int32) (h : m_Tb_look y1 t_here_boats t_here_boatWear t_here_onward t_here_onwardHard t_fleet_row t_seen_most t_seen_boats t_seen_steps t_seen_junctions t_seen_count i_t_way_places i_t_way_needs i_t_way_last i_t_bands_lows i_t_bands_sizes i_t_bands_parts = some (r0, o_t_way_places, o_t_way_needs, o_t_way_last, o_t_bands_lows, o_t_bands_sizes, o_t_bands_parts)) : (MI l yX11_look wsX11_look ({ frames := 5, cells := 0, slots := 0, locals := 111 }) (dC, dI) [(cI, .int), (cZ, .boolean)] (wd_tTb18 cI cZ a_t a_t_reader a_t_here a_t_spare a_t_fleet a_t_past a_t_images a_t_draws a_t_seen a_t_book a_t_way a_t_bands a_t_exchange (a_t_here 0) (a_t_spare 0) t_lettersFed t_faultAt t_here_junctions t_here_cuts t_here_boats t_here_cutA t_here_cutB t_here_cutHard t_here_boatAt t_here_boatPull t_here_boatWear t_here_onward t_here_onwardHard t_fleet_row t_seen_most t_seen_boats t_seen_steps t_seen_junctions t_seen_count i_t_way_places i_t_way_needs i_t_way_last i_t_bands_lows i_t_bands_sizes i_t_bands_parts) (wd_tTb18 cI cZ a_t a_t_reader a_t_here a_t_spare a_t_fleet a_t_past a_t_images a_t_draws a_t_seen a_t_book a_t_way a_t_bands a_t_exchange (a_t_here 0) (a_t_spare 0) t_lettersFed t_faultAt t_here_junctions t_here_cuts t_here_boats t_here_cutA t_here_cutB t_here_cutHard t_here_boatAt t_here_boatPull t_here_boatWear t_here_onward t_here_onwardHard t_fleet_row t_seen_most t_seen_boats t_seen_steps t_seen_junctions t_seen_count o_t_way_places o_t_way_needs o_t_way_last o_t_bands_lows o_t_bands_sizes o_t_bands_parts) [.ref (a_t 0), .int y1] r0) := by
  intro sz
  refine Met.ofW (cc := cX11_look) (maxL := 2) (ret := (some .int)) (by decide) rfl ?_
  intro p e s m args below meth c s₁ B hml hv
  obtain ⟨rfl, hsz, hP, hK, hD0⟩ := hv
  have hx := B.exec
  have hb := B.bytes
  have hr := B.returns
  have hts := atoms_spec (ws := wsX11_look) B.pre
  have hown : s.vm.findClass RX11 = some m.cls := findClass_of_methodNamed B.named
  have hlocks := B.notSynchronized
  subst hsz
  have hD := hD0.self (sz := s.heap.size)
  have hA : ∀ q : Nat, s.heap.size ≤ q → va_A (wd_tTb18 cI cZ a_t a_t_reader a_t_here a_t_spare a_t_fleet a_t_past a_t_images a_t_draws a_t_seen a_t_book a_t_way a_t_bands a_t_exchange (a_t_here 0) (a_t_spare 0) t_lettersFed t_faultAt t_here_junctions t_here_cuts t_here_boats t_here_cutA t_here_cutB t_here_cutHard t_here_boatAt t_here_boatPull t_here_boatWear t_here_onward t_here_onwardHard t_fleet_row t_seen_most t_seen_boats t_seen_steps t_seen_junctions t_seen_count i_t_way_places i_t_way_needs i_t_way_last i_t_bands_lows i_t_bands_sizes i_t_bands_parts) s.heap.size q := fun q h => Or.inr h
  have hS : va_S (va_A (wd_tTb18 cI cZ a_t a_t_reader a_t_here a_t_spare a_t_fleet a_t_past a_t_images a_t_draws a_t_seen a_t_book a_t_way a_t_bands a_t_exchange (a_t_here 0) (a_t_spare 0) t_lettersFed t_faultAt t_here_junctions t_here_cuts t_here_boats t_here_cutA t_here_cutB t_here_cutHard t_here_boatAt t_here_boatPull t_here_boatWear t_here_onward t_here_onwardHard t_fleet_row t_seen_most t_seen_boats t_seen_steps t_seen_junctions t_seen_count i_t_way_places i_t_way_needs i_t_way_last i_t_bands_lows i_t_bands_sizes i_t_bands_parts) s.heap.size) s.heap s.heap [] := va_S.rf
  have hin11 : ∀ w ∈ u_ws RX11 TX11 16, w ∈ wsX11_look := fun w h => List.mem_cons_of_mem _ (List.mem_append_left _ (List.mem_append_left _ (List.mem_append_left _ (List.mem_append_left _ (List.mem_append_left _ (List.mem_append_right _ h))))))
  have hl := lv_entry ([.ref (a_t 0), .int y1]) (n := 2) (Nat.le_of_ble_eq_true rfl)
  rw [lg_entry_eq]
  generalize (lg_sl ([.ref (a_t 0), .int y1]) ++ List.replicate (2 - (lg_sl ([.ref (a_t 0), .int y1])).length) Slot.unset).toArray = ls at hl ⊢
  have hl : lv_has ls 2 [(0, .ref (a_t 0)), (1, .int y1)] := hl
  unfold m_Tb_look at h
  refine lv_aload_n hx hb dX11_look_0 rfl (lv_at hl 0 rfl) ?_
  refine va_get (D := (dC, dI)) (ci := 11) (v := .ref (a_t_here 0)) (C := RX11) (T := TX11) (N := 16) hx hb hts hin11 hown hK hP 0 rfl rfl 4 (by decide) (hts (.fieldLink RX11 30 "TowedBack" "here" "LTowedBack$Water;") (List.mem_of_getElem? (i := 1) rfl)) (fun _ h9 => h9) rfl dX11_look_1 ?_
  refine lv_iload_n hx hb dX11_look_4 rfl (lv_at hl 1 rfl) ?_
  obtain ⟨r1, hc1, h⟩ := kb1_some h
  refine k_RVi (rest := []) (As := [.int y1]) ⟨hx, hb, hml, hown, hts⟩ (c_Water_hasBoat l dC dI cI cZ a_t_here t_here_junctions t_here_cuts t_here_boats t_here_cutA t_here_cutB t_here_cutHard t_here_boatAt t_here_boatPull t_here_boatWear t_here_onward t_here_onwardHard y1 r1 hc1) (cwV 1 hts gX11_look_X9_hasBoat rfl rfl rfl hd_9_hasBoat ⟨Nat.le_of_ble_eq_true rfl, Nat.le_of_ble_eq_true rfl⟩) hK hP hD hS hA [1, 2, 3, 4, 5, 6, 7, 8, 9] rfl (by decide +kernel) 1 9 rfl rfl rfl rfl hl.1 rfl (Nat.le_of_ble_eq_true rfl) dX11_look_5 ⟨Nat.zero_le _, Nat.zero_le _⟩ (fun H locs hP hD hS => ?_)
  refine lv_if_ne (tgt := 14) hx hb dX11_look_8 (by decide) (fun hc => ?_) (fun hc => ?_)
  · have h := k_neg hc h
    refine lv_aload_n hx hb dX11_look_14 rfl (lv_at hl 0 rfl) ?_
    refine lv_iload_n hx hb dX11_look_15 rfl (lv_at hl 1 rfl) ?_
    obtain ⟨t_way_places_2, t_way_needs_2, t_way_last_2, t_bands_lows_2, t_bands_sizes_2, hc2, h⟩ := kb5_some h
    refine k_FVv (rest := []) (As := [.int y1]) ⟨hx, hb, hml, hown, hts⟩ (c_Tb_sortPulls l dC dI cI cZ a_t a_t_reader a_t_here a_t_spare a_t_fleet a_t_past a_t_images a_t_draws a_t_seen a_t_book a_t_way a_t_bands a_t_exchange t_lettersFed t_faultAt t_here_junctions t_here_cuts t_here_boats t_here_cutA t_here_cutB t_here_cutHard t_here_boatAt t_here_boatPull t_here_boatWear t_here_onward t_here_onwardHard t_fleet_row t_seen_most t_seen_boats t_seen_steps t_seen_junctions t_seen_count i_t_way_places i_t_way_needs i_t_way_last i_t_bands_lows i_t_bands_sizes i_t_bands_parts y1 t_way_places_2 t_way_needs_2 t_way_last_2 t_bands_lows_2 t_bands_sizes_2 hc2) (cwV 1 hts gX11_look_X11_sortPulls rfl rfl rfl hd_11_sortPulls ⟨Nat.le_of_ble_eq_true rfl, Nat.le_of_ble_eq_true rfl⟩) hK hP hD hS hA 0 11 rfl rfl rfl (wd_tTb18_f.trans wd_tTb18_f.symm) rfl hl.1 rfl (Nat.le_of_ble_eq_true rfl) dX11_look_16 ⟨Nat.zero_le _, Nat.zero_le _⟩ (fun H locs hP hD hS => ?_)
    refine lv_aload_n hx hb dX11_look_19 rfl (lv_at hl 0 rfl) ?_
    refine va_get (D := (dC, dI)) (ci := 11) (v := .ref (a_t_bands 0)) (C := RX11) (T := TX11) (N := 16) hx hb hts hin11 hown hK hP 0 rfl rfl 14 (by decide) (hts (.fieldLink RX11 90 "TowedBack" "bands" "LTowedBack$Bands;") (List.mem_of_getElem? (i := 3) rfl)) (fun _ h9 => h9) rfl dX11_look_20 ?_
    refine lv_aload_n hx hb dX11_look_23 rfl (lv_at hl 0 rfl) ?_
    refine va_get (D := (dC, dI)) (ci := 11) (v := .ref (a_t_way 0)) (C := RX11) (T := TX11) (N := 16) hx hb hts hin11 hown hK hP 0 rfl rfl 13 (by decide) (hts (.fieldLink RX11 83 "TowedBack" "way" "LTowedBack$Way;") (List.mem_of_getElem? (i := 4) rfl)) (fun _ h9 => h9) rfl dX11_look_24 ?_
    obtain ⟨r3, t_bands_parts_3, hc3, h⟩ := kb2_some h
    refine k_GVi (rest := []) (As := [.ref (a_t_way 0)]) (ws' := (wd_tTb18 cI cZ a_t a_t_reader a_t_here a_t_spare a_t_fleet a_t_past a_t_images a_t_draws a_t_seen a_t_book a_t_way a_t_bands a_t_exchange (a_t_here 0) (a_t_spare 0) t_lettersFed t_faultAt t_here_junctions t_here_cuts t_here_boats t_here_cutA t_here_cutB t_here_cutHard t_here_boatAt t_here_boatPull t_here_boatWear t_here_onward t_here_onwardHard t_fleet_row t_seen_most t_seen_boats t_seen_steps t_seen_junctions t_seen_count t_way_places_2 t_way_needs_2 t_way_last_2 t_bands_lows_2 t_bands_sizes_2 t_bands_parts_3)) ⟨hx, hb, hml, hown, hts⟩ (c_Bands_bestParting l dC dI cI cZ a_t_bands a_t_way t_bands_lows_2 t_bands_sizes_2 i_t_bands_parts t_way_places_2 t_way_needs_2 t_way_last_2 r3 t_bands_parts_3 hc3) (cwV 1 hts gX11_look_X0_bestParting rfl rfl rfl hd_0_bestParting ⟨Nat.le_of_ble_eq_true rfl, Nat.le_of_ble_eq_true rfl⟩) hK hP hD hS hA [19, 20, 21, 22, 16, 17, 18] rfl (by decide +kernel) 19 0 rfl rfl rfl [0, 1, 2, 3, 4, 5, 6, 7, 8, 9, 10, 11, 12, 13, 14, 15] rfl (k_allc rfl rfl (k_allc rfl rfl (k_allc rfl rfl (k_allc rfl rfl (k_allc rfl rfl (k_allc rfl rfl (k_allc rfl rfl (k_allc rfl rfl (k_allc rfl rfl (k_allc rfl rfl (k_allc rfl rfl (k_allc rfl rfl (k_allc rfl rfl (k_allc rfl rfl (k_allc rfl rfl (k_allc rfl rfl k_alln)))))))))))))))) 23 rfl (by decide +kernel) (wd_tTb18_f.trans wd_tTb18_f.symm) rfl hl.1 rfl (Nat.le_of_ble_eq_true rfl) dX11_look_27 ⟨Nat.zero_le _, Nat.zero_le _⟩ (fun H locs hP hD hS => ?_)
    obtain ⟨rfl, rfl, rfl, rfl, rfl, rfl, rfl⟩ := k_in7 h
    exact k_ri hx hb hr hlocks hP hS dX11_look_30
  · have h := k_pos hc h
    refine lv_ldc (v := (-1000000001)) hx hb hown (hts (.constant RX11 145 (-1000000001)) (List.mem_of_getElem? (i := 2) rfl)) dX11_look_11 ?_
    obtain ⟨rfl, rfl, rfl, rfl, rfl, rfl, rfl⟩ := k_in7 h
    exact k_ri hx hb hr hlocks hP hS dX11_look_13
set_option maxHeartbeats 4000000 in
set_option maxRecDepth 100000 in
theorem c_Tb_write (l : Launch) (dC : Nat → ClassId) (dI : Nat → Nat → Nat) (cI cZ : ClassId) (a_t a_t_reader a_t_here a_t_spare a_t_fleet a_t_past a_t_images a_t_draws a_t_seen a_t_book a_t_way a_t_bands a_t_exchange : Nat → Nat) (t_lettersFed : Int32) (t_faultAt : Int32) (t_here_junctions : Int32) (t_here_cuts : Int32) (t_here_boats : Int32) (t_here_cutA : Nat → Int32) (t_here_cutB : Nat → Int32) (t_here_cutHard : Nat → Int32) (t_here_boatAt : Nat → Int32) (t_here_boatPull : Nat → Int32) (t_here_boatWear : Nat → Int32) (t_here_onward : Nat → Int32) (t_here_onwardHard : Nat → Int32) (t_book_most : Int32) (i_t_book_boats : Nat → Int32) (i_t_book_steps : Nat → Int32) (i_t_book_junctions : Nat → Int32) (i_t_book_count : Int32) (y1 : Int32) (y2 : Int32) (r0 : Int32) (o_t_book_boats : Nat → Int32) (o_t_book_steps : Nat → Int32) (o_t_book_junctions : Nat → Int32) (o_t_book_count : Int32) (h : m_Tb_write y1 y2 t_here_junctions t_here_boats t_book_most i_t_book_boats i_t_book_steps i_t_book_junctions i_t_book_count = some (r0, o_t_book_boats, o_t_book_steps, o_t_book_junctions, o_t_book_count)) : (MI l yX11_write wsX11_write ({ frames := 1, cells := 0, slots := 0, locals := 23 }) (dC, dI) [(cI, .int), (cZ, .boolean)] (wd_tTb19 cI cZ a_t a_t_reader a_t_here a_t_spare a_t_fleet a_t_past a_t_images a_t_draws a_t_seen a_t_book a_t_way a_t_bands a_t_exchange (a_t_here 0) (a_t_spare 0) t_lettersFed t_faultAt t_here_junctions t_here_cuts t_here_boats t_here_cutA t_here_cutB t_here_cutHard t_here_boatAt t_here_boatPull t_here_boatWear t_here_onward t_here_onwardHard t_book_most i_t_book_boats i_t_book_steps i_t_book_junctions i_t_book_count) (wd_tTb19 cI cZ a_t a_t_reader a_t_here a_t_spare a_t_fleet a_t_past a_t_images a_t_draws a_t_seen a_t_book a_t_way a_t_bands a_t_exchange (a_t_here 0) (a_t_spare 0) t_lettersFed t_faultAt t_here_junctions t_here_cuts t_here_boats t_here_cutA t_here_cutB t_here_cutHard t_here_boatAt t_here_boatPull t_here_boatWear t_here_onward t_here_onwardHard t_book_most o_t_book_boats o_t_book_steps o_t_book_junctions o_t_book_count) [.ref (a_t 0), .int y1, .int y2] r0) := by
  intro sz
  refine Met.ofW (cc := cX11_write) (maxL := 3) (ret := (some .int)) (by decide) rfl ?_
  intro p e s m args below meth c s₁ B hml hv
  obtain ⟨rfl, hsz, hP, hK, hD0⟩ := hv
  have hx := B.exec
  have hb := B.bytes
  have hr := B.returns
  have hts := atoms_spec (ws := wsX11_write) B.pre
  have hown : s.vm.findClass RX11 = some m.cls := findClass_of_methodNamed B.named
  have hlocks := B.notSynchronized
  subst hsz
  have hD := hD0.self (sz := s.heap.size)
  have hA : ∀ q : Nat, s.heap.size ≤ q → va_A (wd_tTb19 cI cZ a_t a_t_reader a_t_here a_t_spare a_t_fleet a_t_past a_t_images a_t_draws a_t_seen a_t_book a_t_way a_t_bands a_t_exchange (a_t_here 0) (a_t_spare 0) t_lettersFed t_faultAt t_here_junctions t_here_cuts t_here_boats t_here_cutA t_here_cutB t_here_cutHard t_here_boatAt t_here_boatPull t_here_boatWear t_here_onward t_here_onwardHard t_book_most i_t_book_boats i_t_book_steps i_t_book_junctions i_t_book_count) s.heap.size q := fun q h => Or.inr h
  have hS : va_S (va_A (wd_tTb19 cI cZ a_t a_t_reader a_t_here a_t_spare a_t_fleet a_t_past a_t_images a_t_draws a_t_seen a_t_book a_t_way a_t_bands a_t_exchange (a_t_here 0) (a_t_spare 0) t_lettersFed t_faultAt t_here_junctions t_here_cuts t_here_boats t_here_cutA t_here_cutB t_here_cutHard t_here_boatAt t_here_boatPull t_here_boatWear t_here_onward t_here_onwardHard t_book_most i_t_book_boats i_t_book_steps i_t_book_junctions i_t_book_count) s.heap.size) s.heap s.heap [] := va_S.rf
  have hin2 : ∀ w ∈ u_ws RX2 TX2 5, w ∈ wsX11_write := fun w h => List.mem_cons_of_mem _ (List.mem_append_left _ (List.mem_append_right _ h))
  have hin11 : ∀ w ∈ u_ws RX11 TX11 16, w ∈ wsX11_write := fun w h => List.mem_cons_of_mem _ (List.mem_append_left _ (List.mem_append_left _ (List.mem_append_right _ h)))
  have hl := lv_entry ([.ref (a_t 0), .int y1, .int y2]) (n := 3) (Nat.le_of_ble_eq_true rfl)
  rw [lg_entry_eq]
  generalize (lg_sl ([.ref (a_t 0), .int y1, .int y2]) ++ List.replicate (3 - (lg_sl ([.ref (a_t 0), .int y1, .int y2])).length) Slot.unset).toArray = ls at hl ⊢
  have hl : lv_has ls 3 [(0, .ref (a_t 0)), (1, .int y1), (2, .int y2)] := hl
  unfold m_Tb_write at h
  refine lv_aload_n hx hb dX11_write_0 rfl (lv_at hl 0 rfl) ?_
  refine va_get (D := (dC, dI)) (ci := 11) (v := .ref (a_t_here 0)) (C := RX11) (T := TX11) (N := 16) hx hb hts hin11 hown hK hP 0 rfl rfl 4 (by decide) (hts (.fieldLink RX11 30 "TowedBack" "here" "LTowedBack$Water;") (List.mem_of_getElem? (i := 1) rfl)) (fun _ h9 => h9) rfl dX11_write_1 ?_
  refine lv_iload_n hx hb dX11_write_4 rfl (lv_at hl 1 rfl) ?_
  obtain ⟨r1, hc1, h⟩ := kb1_some h
  refine k_RVi (rest := []) (As := [.int y1]) ⟨hx, hb, hml, hown, hts⟩ (c_Water_hasBoat l dC dI cI cZ a_t_here t_here_junctions t_here_cuts t_here_boats t_here_cutA t_here_cutB t_here_cutHard t_here_boatAt t_here_boatPull t_here_boatWear t_here_onward t_here_onwardHard y1 r1 hc1) (cwV 1 hts gX11_write_X9_hasBoat rfl rfl rfl hd_9_hasBoat ⟨Nat.le_of_ble_eq_true rfl, Nat.le_of_ble_eq_true rfl⟩) hK hP hD hS hA [1, 2, 3, 4, 5, 6, 7, 8, 9] rfl (by decide +kernel) 1 9 rfl rfl rfl rfl hl.1 rfl (Nat.le_of_ble_eq_true rfl) dX11_write_5 ⟨Nat.zero_le _, Nat.zero_le _⟩ (fun H locs hP hD hS => ?_)
  refine lv_if_eq (tgt := 22) hx hb dX11_write_8 (by decide) (fun hc => ?_) (fun hc => ?_)
  · have h := k_pos hc h
    refine lv_ldc (v := (-1000000001)) hx hb hown (hts (.constant RX11 145 (-1000000001)) (List.mem_of_getElem? (i := 2) rfl)) dX11_write_22 ?_
    obtain ⟨rfl, rfl, rfl, rfl, rfl⟩ := k_in5 h
    exact k_ri hx hb hr hlocks hP hS dX11_write_24
  · have h := k_neg hc h
    refine lv_aload_n hx hb dX11_write_11 rfl (lv_at hl 0 rfl) ?_
    refine va_get (D := (dC, dI)) (ci := 11) (v := .ref (a_t_here 0)) (C := RX11) (T := TX11) (N := 16) hx hb hts hin11 hown hK hP 0 rfl rfl 4 (by decide) (hts (.fieldLink RX11 30 "TowedBack" "here" "LTowedBack$Water;") (List.mem_of_getElem? (i := 1) rfl)) (fun _ h9 => h9) rfl dX11_write_12 ?_
    refine lv_iload_n hx hb dX11_write_15 rfl (lv_at hl 2 rfl) ?_
    obtain ⟨r2, hc2, h⟩ := kb1_some h
    refine k_RVi (rest := []) (As := [.int y2]) ⟨hx, hb, hml, hown, hts⟩ (c_Water_hasJunction l dC dI cI cZ a_t_here t_here_junctions t_here_cuts t_here_boats t_here_cutA t_here_cutB t_here_cutHard t_here_boatAt t_here_boatPull t_here_boatWear t_here_onward t_here_onwardHard y2 r2 hc2) (cwV 1 hts gX11_write_X9_hasJunction rfl rfl rfl hd_9_hasJunction ⟨Nat.le_of_ble_eq_true rfl, Nat.le_of_ble_eq_true rfl⟩) hK hP hD hS hA [1, 2, 3, 4, 5, 6, 7, 8, 9] rfl (by decide +kernel) 1 9 rfl rfl rfl rfl hl.1 rfl (Nat.le_of_ble_eq_true rfl) dX11_write_16 ⟨Nat.zero_le _, Nat.zero_le _⟩ (fun H locs hP hD hS => ?_)
    refine lv_if_ne (tgt := 25) hx hb dX11_write_19 (by decide) (fun hc => ?_) (fun hc => ?_)
    · have h := k_neg hc h
      refine lv_aload_n hx hb dX11_write_25 rfl (lv_at hl 0 rfl) ?_
      refine va_get (D := (dC, dI)) (ci := 11) (v := .ref (a_t_book 0)) (C := RX11) (T := TX11) (N := 16) hx hb hts hin11 hown hK hP 0 rfl rfl 12 (by decide) (hts (.fieldLink RX11 77 "TowedBack" "book" "LTowedBack$Entries;") (List.mem_of_getElem? (i := 3) rfl)) (fun _ h9 => h9) rfl dX11_write_26 ?_
      refine lv_iload_n hx hb dX11_write_29 rfl (lv_at hl 1 rfl) ?_
      refine lv_iconst (v := 0) hx hb dX11_write_30 (by decide) ?_
      refine lv_iload_n hx hb dX11_write_31 rfl (lv_at hl 2 rfl) ?_
      obtain ⟨r3, t_book_boats_3, t_book_steps_3, t_book_junctions_3, t_book_count_3, hc3, h⟩ := kb5_some h
      refine k_GVi (rest := []) (As := [.int y1, .int 0, .int y2]) (ws' := (wd_tTb19 cI cZ a_t a_t_reader a_t_here a_t_spare a_t_fleet a_t_past a_t_images a_t_draws a_t_seen a_t_book a_t_way a_t_bands a_t_exchange (a_t_here 0) (a_t_spare 0) t_lettersFed t_faultAt t_here_junctions t_here_cuts t_here_boats t_here_cutA t_here_cutB t_here_cutHard t_here_boatAt t_here_boatPull t_here_boatWear t_here_onward t_here_onwardHard t_book_most t_book_boats_3 t_book_steps_3 t_book_junctions_3 t_book_count_3)) ⟨hx, hb, hml, hown, hts⟩ (c_Entries_add l dC dI cI cZ a_t_book 15 t_book_most i_t_book_boats i_t_book_steps i_t_book_junctions i_t_book_count y1 0 y2 r3 t_book_boats_3 t_book_steps_3 t_book_junctions_3 t_book_count_3 hc3) (cwV 3 hts gX11_write_X2_add rfl rfl rfl hd_2_add ⟨Nat.le_of_ble_eq_true rfl, Nat.le_of_ble_eq_true rfl⟩) hK hP hD hS hA [10, 11, 12, 13] rfl (by decide +kernel) 10 2 rfl rfl rfl [0, 1, 2, 3, 4, 5, 6, 7, 8, 9] rfl (k_allc rfl rfl (k_allc rfl rfl (k_allc rfl rfl (k_allc rfl rfl (k_allc rfl rfl (k_allc rfl rfl (k_allc rfl rfl (k_allc rfl rfl (k_allc rfl rfl (k_allc rfl rfl k_alln)))))))))) 14 rfl (by decide +kernel) (wd_tTb19_f.trans wd_tTb19_f.symm) rfl hl.1 rfl (Nat.le_of_ble_eq_true rfl) dX11_write_32 ⟨Nat.zero_le _, Nat.zero_le _⟩ (fun H locs hP hD hS => ?_)
      refine lv_if_eq (tgt := 48) hx hb dX11_write_35 (by decide) (fun hc => ?_) (fun hc => ?_)
      · have h := k_pos hc h
        refine lv_ldc (v := (-1000000004)) hx hb hown (hts (.constant RX11 105 (-1000000004)) (List.mem_of_getElem? (i := 5) rfl)) dX11_write_48 ?_
        obtain ⟨rfl, rfl, rfl, rfl, rfl⟩ := k_in5 h
        exact k_ri hx hb hr hlocks hP hS dX11_write_50
      · have h := k_neg hc h
        refine lv_aload_n hx hb dX11_write_38 rfl (lv_at hl 0 rfl) ?_
        refine va_get (D := (dC, dI)) (ci := 11) (v := .ref (a_t_book 0)) (C := RX11) (T := TX11) (N := 16) hx hb hts hin11 hown hK hP 0 rfl rfl 12 (by decide) (hts (.fieldLink RX11 77 "TowedBack" "book" "LTowedBack$Entries;") (List.mem_of_getElem? (i := 3) rfl)) (fun _ h9 => h9) rfl dX11_write_39 ?_
        refine va_get (D := (dC, dI)) (ci := 2) (v := .int t_book_count_3) (C := RX2) (T := TX2) (N := 5) hx hb hts hin2 hown hK hP 10 rfl rfl 4 (by decide) (hts (.fieldLink RX11 137 "TowedBack$Entries" "count" "I") (List.mem_of_getElem? (i := 4) rfl)) (fun _ h9 => h9) rfl dX11_write_42 ?_
        refine lv_goto (tgt := 50) hx hb dX11_write_45 (by decide) ?_
        obtain ⟨rfl, rfl, rfl, rfl, rfl⟩ := k_in5 h
        exact k_ri hx hb hr hlocks hP hS dX11_write_50
    · have h := k_pos hc h
      refine lv_ldc (v := (-1000000001)) hx hb hown (hts (.constant RX11 145 (-1000000001)) (List.mem_of_getElem? (i := 2) rfl)) dX11_write_22 ?_
      obtain ⟨rfl, rfl, rfl, rfl, rfl⟩ := k_in5 h
      exact k_ri hx hb hr hlocks hP hS dX11_write_24
set_option maxHeartbeats 4000000 in
set_option maxRecDepth 100000 in
theorem c_Tb_tear (l : Launch) (dC : Nat → ClassId) (dI : Nat → Nat → Nat) (cI cZ : ClassId) (a_t a_t_reader a_t_here a_t_spare a_t_fleet a_t_past a_t_images a_t_draws a_t_seen a_t_book a_t_way a_t_bands a_t_exchange : Nat → Nat) (t_lettersFed : Int32) (t_faultAt : Int32) (t_seen_most : Int32) (t_seen_boats : Nat → Int32) (t_seen_steps : Nat → Int32) (t_seen_junctions : Nat → Int32) (i_t_seen_count : Int32) (t_book_most : Int32) (t_book_boats : Nat → Int32) (t_book_steps : Nat → Int32) (t_book_junctions : Nat → Int32) (i_t_book_count : Int32)  (r0 : Int32) (o_t_seen_count : Int32) (o_t_book_count : Int32) (h : m_Tb_tear i_t_seen_count i_t_book_count = some (r0, o_t_seen_count, o_t_book_count)) : (MI l yX11_tear wsX11_tear ({ frames := 0, cells := 0, slots := 0, locals := 0 }) (dC, dI) [(cI, .int), (cZ, .boolean)] (wd_tTb20 cI cZ a_t a_t_reader a_t_here a_t_spare a_t_fleet a_t_past a_t_images a_t_draws a_t_seen a_t_book a_t_way a_t_bands a_t_exchange (a_t_here 0) (a_t_spare 0) t_lettersFed t_faultAt t_seen_most t_seen_boats t_seen_steps t_seen_junctions i_t_seen_count t_book_most t_book_boats t_book_steps t_book_junctions i_t_book_count) (wd_tTb20 cI cZ a_t a_t_reader a_t_here a_t_spare a_t_fleet a_t_past a_t_images a_t_draws a_t_seen a_t_book a_t_way a_t_bands a_t_exchange (a_t_here 0) (a_t_spare 0) t_lettersFed t_faultAt t_seen_most t_seen_boats t_seen_steps t_seen_junctions o_t_seen_count t_book_most t_book_boats t_book_steps t_book_junctions o_t_book_count) [.ref (a_t 0)] r0) := by
  intro sz
  refine Met.ofW (cc := cX11_tear) (maxL := 2) (ret := (some .int)) (by decide) rfl ?_
  intro p e s m args below meth c s₁ B hml hv
  obtain ⟨rfl, hsz, hP, hK, hD0⟩ := hv
  have hx := B.exec
  have hb := B.bytes
  have hr := B.returns
  have hts := atoms_spec (ws := wsX11_tear) B.pre
  have hown : s.vm.findClass RX11 = some m.cls := findClass_of_methodNamed B.named
  have hlocks := B.notSynchronized
  subst hsz
  have hD := hD0.self (sz := s.heap.size)
  have hA : ∀ q : Nat, s.heap.size ≤ q → va_A (wd_tTb20 cI cZ a_t a_t_reader a_t_here a_t_spare a_t_fleet a_t_past a_t_images a_t_draws a_t_seen a_t_book a_t_way a_t_bands a_t_exchange (a_t_here 0) (a_t_spare 0) t_lettersFed t_faultAt t_seen_most t_seen_boats t_seen_steps t_seen_junctions i_t_seen_count t_book_most t_book_boats t_book_steps t_book_junctions i_t_book_count) s.heap.size q := fun q h => Or.inr h
  have hS : va_S (va_A (wd_tTb20 cI cZ a_t a_t_reader a_t_here a_t_spare a_t_fleet a_t_past a_t_images a_t_draws a_t_seen a_t_book a_t_way a_t_bands a_t_exchange (a_t_here 0) (a_t_spare 0) t_lettersFed t_faultAt t_seen_most t_seen_boats t_seen_steps t_seen_junctions i_t_seen_count t_book_most t_book_boats t_book_steps t_book_junctions i_t_book_count) s.heap.size) s.heap s.heap [] := va_S.rf
  have hin2 : ∀ w ∈ u_ws RX2 TX2 5, w ∈ wsX11_tear := fun w h => List.mem_cons_of_mem _ (List.mem_append_right _ h)
  have hin11 : ∀ w ∈ u_ws RX11 TX11 16, w ∈ wsX11_tear := fun w h => List.mem_cons_of_mem _ (List.mem_append_left _ (List.mem_append_right _ h))
  have hl := lv_entry ([.ref (a_t 0)]) (n := 2) (Nat.le_of_ble_eq_true rfl)
  rw [lg_entry_eq]
  generalize (lg_sl ([.ref (a_t 0)]) ++ List.replicate (2 - (lg_sl ([.ref (a_t 0)])).length) Slot.unset).toArray = ls at hl ⊢
  have hl : lv_has ls 2 [(0, .ref (a_t 0))] := hl
  unfold m_Tb_tear at h
  refine lv_aload_n hx hb dX11_tear_0 rfl (lv_at hl 0 rfl) ?_
  refine va_get (D := (dC, dI)) (ci := 11) (v := .ref (a_t_seen 0)) (C := RX11) (T := TX11) (N := 16) hx hb hts hin11 hown hK hP 0 rfl rfl 11 (by decide) (hts (.fieldLink RX11 73 "TowedBack" "seen" "LTowedBack$Entries;") (List.mem_of_getElem? (i := 1) rfl)) (fun _ h9 => h9) rfl dX11_tear_1 ?_
  refine va_get (D := (dC, dI)) (ci := 2) (v := .int i_t_seen_count) (C := RX2) (T := TX2) (N := 5) hx hb hts hin2 hown hK hP 1 rfl rfl 4 (by decide) (hts (.fieldLink RX11 137 "TowedBack$Entries" "count" "I") (List.mem_of_getElem? (i := 2) rfl)) (fun _ h9 => h9) rfl dX11_tear_4 ?_
  refine lv_aload_n hx hb dX11_tear_7 rfl (lv_at hl 0 rfl) ?_
  refine va_get (D := (dC, dI)) (ci := 11) (v := .ref (a_t_book 0)) (C := RX11) (T := TX11) (N := 16) hx hb hts hin11 hown hK hP 0 rfl rfl 12 (by decide) (hts (.fieldLink RX11 77 "TowedBack" "book" "LTowedBack$Entries;") (List.mem_of_getElem? (i := 3) rfl)) (fun _ h9 => h9) rfl dX11_tear_8 ?_
  refine va_get (D := (dC, dI)) (ci := 2) (v := .int i_t_book_count) (C := RX2) (T := TX2) (N := 5) hx hb hts hin2 hown hK hP 5 rfl rfl 4 (by decide) (hts (.fieldLink RX11 137 "TowedBack$Entries" "count" "I") (List.mem_of_getElem? (i := 2) rfl)) (fun _ h9 => h9) rfl dX11_tear_11 ?_
  refine lv_iadd hx hb dX11_tear_14 ?_
  refine lv_istore_n (lv' := [(1, .int (i_t_seen_count + i_t_book_count)), (0, .ref (a_t 0))]) hx hb dX11_tear_15 rfl hl (by decide) rfl (fun ls hl => ?_)
  refine lv_aload_n hx hb dX11_tear_16 rfl (lv_at hl 1 rfl) ?_
  refine va_get (D := (dC, dI)) (ci := 11) (v := .ref (a_t_seen 0)) (C := RX11) (T := TX11) (N := 16) hx hb hts hin11 hown hK hP 0 rfl rfl 11 (by decide) (hts (.fieldLink RX11 73 "TowedBack" "seen" "LTowedBack$Entries;") (List.mem_of_getElem? (i := 1) rfl)) (fun _ h9 => h9) rfl dX11_tear_17 ?_
  refine lv_iconst (v := 0) hx hb dX11_tear_20 (by decide) ?_
  refine va_put (D := (dC, dI)) (ci := 2) (v := .int 0) (ty := tyX2 4) (C := RX2) (T := TX2) (N := 5) hx hb hts hin2 tyX2 tyX2_ok nmX2 hown hK hP hD hS 1 rfl rfl 4 (by decide) (hts (.fieldLink RX11 137 "TowedBack$Entries" "count" "I") (List.mem_of_getElem? (i := 2) rfl)) (fun _ h9 => h9) rfl (tyX2_ok 4 (by decide)) rfl rfl (Nat.le_of_ble_eq_true rfl) dX11_tear_21 (fun H locs hP hD hS => ?_)
  have hP : va_P (dC, dI) vwCl (wd_tTb20 cI cZ a_t a_t_reader a_t_here a_t_spare a_t_fleet a_t_past a_t_images a_t_draws a_t_seen a_t_book a_t_way a_t_bands a_t_exchange (a_t_here 0) (a_t_spare 0) t_lettersFed t_faultAt t_seen_most t_seen_boats t_seen_steps t_seen_junctions 0 t_book_most t_book_boats t_book_steps t_book_junctions i_t_book_count) H := hP
  have hD : va_D (va_A (wd_tTb20 cI cZ a_t a_t_reader a_t_here a_t_spare a_t_fleet a_t_past a_t_images a_t_draws a_t_seen a_t_book a_t_way a_t_bands a_t_exchange (a_t_here 0) (a_t_spare 0) t_lettersFed t_faultAt t_seen_most t_seen_boats t_seen_steps t_seen_junctions i_t_seen_count t_book_most t_book_boats t_book_steps t_book_junctions i_t_book_count) s.heap.size) (wd_tTb20 cI cZ a_t a_t_reader a_t_here a_t_spare a_t_fleet a_t_past a_t_images a_t_draws a_t_seen a_t_book a_t_way a_t_bands a_t_exchange (a_t_here 0) (a_t_spare 0) t_lettersFed t_faultAt t_seen_most t_seen_boats t_seen_steps t_seen_junctions 0 t_book_most t_book_boats t_book_steps t_book_junctions i_t_book_count) := hD
  refine lv_aload_n hx hb dX11_tear_24 rfl (lv_at hl 1 rfl) ?_
  refine va_get (D := (dC, dI)) (ci := 11) (v := .ref (a_t_book 0)) (C := RX11) (T := TX11) (N := 16) hx hb hts hin11 hown hK hP 0 rfl rfl 12 (by decide) (hts (.fieldLink RX11 77 "TowedBack" "book" "LTowedBack$Entries;") (List.mem_of_getElem? (i := 3) rfl)) (fun _ h9 => h9) rfl dX11_tear_25 ?_
  refine lv_iconst (v := 0) hx hb dX11_tear_28 (by decide) ?_
  refine va_put (D := (dC, dI)) (ci := 2) (v := .int 0) (ty := tyX2 4) (C := RX2) (T := TX2) (N := 5) hx hb hts hin2 tyX2 tyX2_ok nmX2 hown hK hP hD hS 5 rfl rfl 4 (by decide) (hts (.fieldLink RX11 137 "TowedBack$Entries" "count" "I") (List.mem_of_getElem? (i := 2) rfl)) (fun _ h9 => h9) rfl (tyX2_ok 4 (by decide)) rfl rfl (Nat.le_of_ble_eq_true rfl) dX11_tear_29 (fun H locs hP hD hS => ?_)
  have hP : va_P (dC, dI) vwCl (wd_tTb20 cI cZ a_t a_t_reader a_t_here a_t_spare a_t_fleet a_t_past a_t_images a_t_draws a_t_seen a_t_book a_t_way a_t_bands a_t_exchange (a_t_here 0) (a_t_spare 0) t_lettersFed t_faultAt t_seen_most t_seen_boats t_seen_steps t_seen_junctions 0 t_book_most t_book_boats t_book_steps t_book_junctions 0) H := hP
  have hD : va_D (va_A (wd_tTb20 cI cZ a_t a_t_reader a_t_here a_t_spare a_t_fleet a_t_past a_t_images a_t_draws a_t_seen a_t_book a_t_way a_t_bands a_t_exchange (a_t_here 0) (a_t_spare 0) t_lettersFed t_faultAt t_seen_most t_seen_boats t_seen_steps t_seen_junctions i_t_seen_count t_book_most t_book_boats t_book_steps t_book_junctions i_t_book_count) s.heap.size) (wd_tTb20 cI cZ a_t a_t_reader a_t_here a_t_spare a_t_fleet a_t_past a_t_images a_t_draws a_t_seen a_t_book a_t_way a_t_bands a_t_exchange (a_t_here 0) (a_t_spare 0) t_lettersFed t_faultAt t_seen_most t_seen_boats t_seen_steps t_seen_junctions 0 t_book_most t_book_boats t_book_steps t_book_junctions 0) := hD
  refine lv_iload_n hx hb dX11_tear_32 rfl (lv_at hl 0 rfl) ?_
  obtain ⟨rfl, rfl, rfl⟩ := k_in3 h
  exact k_ri hx hb hr hlocks hP hS dX11_tear_33
set_option maxHeartbeats 4000000 in
set_option maxRecDepth 100000 in
theorem c_Tb_judge (l : Launch) (dC : Nat → ClassId) (dI : Nat → Nat → Nat) (cI cZ : ClassId) (a_t a_t_reader a_t_here a_t_spare a_t_fleet a_t_past a_t_images a_t_draws a_t_seen a_t_book a_t_way a_t_bands a_t_exchange : Nat → Nat) (t_lettersFed : Int32) (t_faultAt : Int32) (t_fleet_row : Nat → Int32) (t_book_most : Int32) (t_book_boats : Nat → Int32) (t_book_steps : Nat → Int32) (t_book_junctions : Nat → Int32) (t_book_count : Int32)  (r0 : Int32) (h : m_Tb_judge t_fleet_row t_book_most t_book_boats t_book_junctions t_book_count = some r0) : (MI l yX11_judge wsX11_judge ({ frames := 2, cells := 0, slots := 0, locals := 43 }) (dC, dI) [(cI, .int), (cZ, .boolean)] (wd_tTb21 cI cZ a_t a_t_reader a_t_here a_t_spare a_t_fleet a_t_past a_t_images a_t_draws a_t_seen a_t_book a_t_way a_t_bands a_t_exchange (a_t_here 0) (a_t_spare 0) t_lettersFed t_faultAt t_fleet_row t_book_most t_book_boats t_book_steps t_book_junctions t_book_count) (wd_tTb21 cI cZ a_t a_t_reader a_t_here a_t_spare a_t_fleet a_t_past a_t_images a_t_draws a_t_seen a_t_book a_t_way a_t_bands a_t_exchange (a_t_here 0) (a_t_spare 0) t_lettersFed t_faultAt t_fleet_row t_book_most t_book_boats t_book_steps t_book_junctions t_book_count) [.ref (a_t 0)] r0) := by
  intro sz
  refine Met.ofW (cc := cX11_judge) (maxL := 2) (ret := (some .int)) (by decide) rfl ?_
  intro p e s m args below meth c s₁ B hml hv
  obtain ⟨rfl, hsz, hP, hK, hD0⟩ := hv
  have hx := B.exec
  have hb := B.bytes
  have hr := B.returns
  have hts := atoms_spec (ws := wsX11_judge) B.pre
  have hown : s.vm.findClass RX11 = some m.cls := findClass_of_methodNamed B.named
  have hlocks := B.notSynchronized
  subst hsz
  have hD := hD0.self (sz := s.heap.size)
  have hA : ∀ q : Nat, s.heap.size ≤ q → va_A (wd_tTb21 cI cZ a_t a_t_reader a_t_here a_t_spare a_t_fleet a_t_past a_t_images a_t_draws a_t_seen a_t_book a_t_way a_t_bands a_t_exchange (a_t_here 0) (a_t_spare 0) t_lettersFed t_faultAt t_fleet_row t_book_most t_book_boats t_book_steps t_book_junctions t_book_count) s.heap.size q := fun q h => Or.inr h
  have hS : va_S (va_A (wd_tTb21 cI cZ a_t a_t_reader a_t_here a_t_spare a_t_fleet a_t_past a_t_images a_t_draws a_t_seen a_t_book a_t_way a_t_bands a_t_exchange (a_t_here 0) (a_t_spare 0) t_lettersFed t_faultAt t_fleet_row t_book_most t_book_boats t_book_steps t_book_junctions t_book_count) s.heap.size) s.heap s.heap [] := va_S.rf
  have hin2 : ∀ w ∈ u_ws RX2 TX2 5, w ∈ wsX11_judge := fun w h => List.mem_cons_of_mem _ (List.mem_append_left _ (List.mem_append_right _ h))
  have hin11 : ∀ w ∈ u_ws RX11 TX11 16, w ∈ wsX11_judge := fun w h => List.mem_cons_of_mem _ (List.mem_append_left _ (List.mem_append_left _ (List.mem_append_right _ h)))
  have hl := lv_entry ([.ref (a_t 0)]) (n := 2) (Nat.le_of_ble_eq_true rfl)
  rw [lg_entry_eq]
  generalize (lg_sl ([.ref (a_t 0)]) ++ List.replicate (2 - (lg_sl ([.ref (a_t 0)])).length) Slot.unset).toArray = ls at hl ⊢
  have hl : lv_has ls 2 [(0, .ref (a_t 0))] := hl
  have L2 : ∀ (n2 : Nat) (x1 : Int32)  (H : Heap) (locs : List Loc) (ls : Array Slot), va_P (dC, dI) vwCl (wd_tTb21 cI cZ a_t a_t_reader a_t_here a_t_spare a_t_fleet a_t_past a_t_images a_t_draws a_t_seen a_t_book a_t_way a_t_bands a_t_exchange (a_t_here 0) (a_t_spare 0) t_lettersFed t_faultAt t_fleet_row t_book_most t_book_boats t_book_steps t_book_junctions t_book_count) H → va_D (va_A (wd_tTb21 cI cZ a_t a_t_reader a_t_here a_t_spare a_t_fleet a_t_past a_t_images a_t_draws a_t_seen a_t_book a_t_way a_t_bands a_t_exchange (a_t_here 0) (a_t_spare 0) t_lettersFed t_faultAt t_fleet_row t_book_most t_book_boats t_book_steps t_book_junctions t_book_count) s.heap.size) (wd_tTb21 cI cZ a_t a_t_reader a_t_here a_t_spare a_t_fleet a_t_past a_t_images a_t_draws a_t_seen a_t_book a_t_way a_t_bands a_t_exchange (a_t_here 0) (a_t_spare 0) t_lettersFed t_faultAt t_fleet_row t_book_most t_book_boats t_book_steps t_book_junctions t_book_count) → va_S (va_A (wd_tTb21 cI cZ a_t a_t_reader a_t_here a_t_spare a_t_fleet a_t_past a_t_images a_t_draws a_t_seen a_t_book a_t_way a_t_bands a_t_exchange (a_t_here 0) (a_t_spare 0) t_lettersFed t_faultAt t_fleet_row t_book_most t_book_boats t_book_steps t_book_junctions t_book_count) s.heap.size) s.heap H locs → lv_has ls 2 [(0, .ref (a_t 0)), (1, .int x1)] → m_Tb_judge_L2  n2 x1 t_fleet_row t_book_most t_book_boats t_book_junctions t_book_count = some r0 → W p l e (headSpec wsX11_judge ({ frames := 2, cells := 0, slots := 0, locals := 43 })).room s m ([.ref (a_t 0)] : List Value).toArray below meth c H locs 0 0 (MQ below (cQi (dC, dI) (wd_tTb21 cI cZ a_t a_t_reader a_t_here a_t_spare a_t_fleet a_t_past a_t_images a_t_draws a_t_seen a_t_book a_t_way a_t_bands a_t_exchange (a_t_here 0) (a_t_spare 0) t_lettersFed t_faultAt t_fleet_row t_book_most t_book_boats t_book_steps t_book_junctions t_book_count) (wd_tTb21 cI cZ a_t a_t_reader a_t_here a_t_spare a_t_fleet a_t_past a_t_images a_t_draws a_t_seen a_t_book a_t_way a_t_bands a_t_exchange (a_t_here 0) (a_t_spare 0) t_lettersFed t_faultAt t_fleet_row t_book_most t_book_boats t_book_steps t_book_junctions t_book_count) s.heap.size r0) ([.ref (a_t 0)] : List Value).toArray s 0 0 (va_A (wd_tTb21 cI cZ a_t a_t_reader a_t_here a_t_spare a_t_fleet a_t_past a_t_images a_t_draws a_t_seen a_t_book a_t_way a_t_bands a_t_exchange (a_t_here 0) (a_t_spare 0) t_lettersFed t_faultAt t_fleet_row t_book_most t_book_boats t_book_steps t_book_junctions t_book_count) s.heap.size)) (F0 m 2 ls []) := by
    intro n2
    induction n2 with
    | zero => intro x1 H locs ls hP hD hS hl h; have h : none = some r0 := h; cases h
    | succ n2 ih2 =>
      intro x1 H locs ls hP hD hS hl h
      have h : m_Tb_judge_B2  (m_Tb_judge_L2  n2) x1 t_fleet_row t_book_most t_book_boats t_book_junctions t_book_count = some r0 := h
      unfold m_Tb_judge_B2 at h
      refine lv_iload_n hx hb dX11_judge_2 rfl (lv_at hl 1 rfl) ?_
      refine lv_aload_n hx hb dX11_judge_3 rfl (lv_at hl 0 rfl) ?_
      refine va_get (D := (dC, dI)) (ci := 11) (v := .ref (a_t_book 0)) (C := RX11) (T := TX11) (N := 16) hx hb hts hin11 hown hK hP 0 rfl rfl 12 (by decide) (hts (.fieldLink RX11 77 "TowedBack" "book" "LTowedBack$Entries;") (List.mem_of_getElem? (i := 1) rfl)) (fun _ h9 => h9) rfl dX11_judge_4 ?_
      refine va_get (D := (dC, dI)) (ci := 2) (v := .int t_book_count) (C := RX2) (T := TX2) (N := 5) hx hb hts hin2 hown hK hP 3 rfl rfl 4 (by decide) (hts (.fieldLink RX11 137 "TowedBack$Entries" "count" "I") (List.mem_of_getElem? (i := 2) rfl)) (fun _ h9 => h9) rfl dX11_judge_7 ?_
      refine lv_icmp_ge (tgt := 47) hx hb dX11_judge_10 (by decide) (fun hc => ?_) (fun hc => ?_)
      · have h := k_pos hc h
        refine lv_iconst (v := (-1)) hx hb dX11_judge_47 (by decide) ?_
        obtain rfl := k_in1 h
        exact k_ri hx hb hr hlocks hP hS dX11_judge_48
      · have h := k_neg hc h
        refine lv_aload_n hx hb dX11_judge_13 rfl (lv_at hl 0 rfl) ?_
        refine va_get (D := (dC, dI)) (ci := 11) (v := .ref (a_t_fleet 0)) (C := RX11) (T := TX11) (N := 16) hx hb hts hin11 hown hK hP 0 rfl rfl 6 (by decide) (hts (.fieldLink RX11 40 "TowedBack" "fleet" "LTowedBack$Fleet;") (List.mem_of_getElem? (i := 3) rfl)) (fun _ h9 => h9) rfl dX11_judge_14 ?_
        refine lv_aload_n hx hb dX11_judge_17 rfl (lv_at hl 0 rfl) ?_
        refine va_get (D := (dC, dI)) (ci := 11) (v := .ref (a_t_book 0)) (C := RX11) (T := TX11) (N := 16) hx hb hts hin11 hown hK hP 0 rfl rfl 12 (by decide) (hts (.fieldLink RX11 77 "TowedBack" "book" "LTowedBack$Entries;") (List.mem_of_getElem? (i := 1) rfl)) (fun _ h9 => h9) rfl dX11_judge_18 ?_
        refine lv_iload_n hx hb dX11_judge_21 rfl (lv_at hl 1 rfl) ?_
        obtain ⟨r1, hc1, h⟩ := kb1_some h
        refine k_RVi (rest := [.ref (a_t_fleet 0)]) (As := [.int x1]) ⟨hx, hb, hml, hown, hts⟩ (c_Entries_boatIn l dC dI cI cZ a_t_book 15 t_book_most t_book_boats t_book_steps t_book_junctions t_book_count x1 r1 hc1) (cwV 1 hts gX11_judge_X2_boatIn rfl rfl rfl hd_2_boatIn ⟨Nat.le_of_ble_eq_true rfl, Nat.le_of_ble_eq_true rfl⟩) hK hP hD hS hA [3, 4, 5, 6] rfl (by decide +kernel) 3 2 rfl rfl rfl rfl hl.1 rfl (Nat.le_of_ble_eq_true rfl) dX11_judge_22 ⟨Nat.zero_le _, Nat.zero_le _⟩ (fun H locs hP hD hS => ?_)
        obtain ⟨r2, hc2, h⟩ := kb1_some h
        refine k_RVi (rest := []) (As := [.int r1]) ⟨hx, hb, hml, hown, hts⟩ (c_Fleet_at l dC dI cI cZ a_t_fleet t_fleet_row r1 r2 hc2) (cwV 1 hts gX11_judge_X4_at rfl rfl rfl hd_4_at ⟨Nat.le_of_ble_eq_true rfl, Nat.le_of_ble_eq_true rfl⟩) hK hP hD hS hA [1, 2] rfl (by decide +kernel) 1 4 rfl rfl rfl rfl hl.1 rfl (Nat.le_of_ble_eq_true rfl) dX11_judge_25 ⟨Nat.zero_le _, Nat.zero_le _⟩ (fun H locs hP hD hS => ?_)
        refine lv_aload_n hx hb dX11_judge_28 rfl (lv_at hl 0 rfl) ?_
        refine va_get (D := (dC, dI)) (ci := 11) (v := .ref (a_t_book 0)) (C := RX11) (T := TX11) (N := 16) hx hb hts hin11 hown hK hP 0 rfl rfl 12 (by decide) (hts (.fieldLink RX11 77 "TowedBack" "book" "LTowedBack$Entries;") (List.mem_of_getElem? (i := 1) rfl)) (fun _ h9 => h9) rfl dX11_judge_29 ?_
        refine lv_iload_n hx hb dX11_judge_32 rfl (lv_at hl 1 rfl) ?_
        obtain ⟨r3, hc3, h⟩ := kb1_some h
        refine k_RVi (rest := [.int r2]) (As := [.int x1]) ⟨hx, hb, hml, hown, hts⟩ (c_Entries_junctionIn l dC dI cI cZ a_t_book 15 t_book_most t_book_boats t_book_steps t_book_junctions t_book_count x1 r3 hc3) (cwV 1 hts gX11_judge_X2_junctionIn rfl rfl rfl hd_2_junctionIn ⟨Nat.le_of_ble_eq_true rfl, Nat.le_of_ble_eq_true rfl⟩) hK hP hD hS hA [3, 4, 5, 6] rfl (by decide +kernel) 3 2 rfl rfl rfl rfl hl.1 rfl (Nat.le_of_ble_eq_true rfl) dX11_judge_33 ⟨Nat.zero_le _, Nat.zero_le _⟩ (fun H locs hP hD hS => ?_)
        refine lv_icmp_eq (tgt := 41) hx hb dX11_judge_36 (by decide) (fun hc => ?_) (fun hc => ?_)
        · have h := k_pos hc h
          refine lv_iinc (v := (x1 + 1)) (lv' := [(1, .int (x1 + 1)), (0, .ref (a_t 0))]) hx hb dX11_judge_41 hl (k := 1) rfl rfl (by decide) rfl (fun ls hl => ?_)
          refine lv_goto (tgt := 2) hx hb dX11_judge_44 (by decide) ?_
          exact ih2 (x1 + 1) _ _ _ hP hD hS (lv_sub hl [1, 0] rfl) h
        · have h := k_neg hc h
          refine lv_iload_n hx hb dX11_judge_39 rfl (lv_at hl 1 rfl) ?_
          obtain rfl := k_in1 h
          exact k_ri hx hb hr hlocks hP hS dX11_judge_40
  unfold m_Tb_judge at h
  refine lv_iconst (v := 0) hx hb dX11_judge_0 (by decide) ?_
  refine lv_istore_n (lv' := [(1, .int 0), (0, .ref (a_t 0))]) hx hb dX11_judge_1 rfl hl (by decide) rfl (fun ls hl => ?_)
  exact L2 FU 0 _ _ _ hP hD hS (lv_sub hl [1, 0] rfl) h
set_option maxHeartbeats 4000000 in
set_option maxRecDepth 100000 in
theorem c_Tb_seed (l : Launch) (dC : Nat → ClassId) (dI : Nat → Nat → Nat) (cI cZ : ClassId) (a_t a_t_reader a_t_here a_t_spare a_t_fleet a_t_past a_t_images a_t_draws a_t_seen a_t_book a_t_way a_t_bands a_t_exchange : Nat → Nat) (t_lettersFed : Int32) (t_faultAt : Int32) (i_t_draws_value : Int32) (y1 : Int32) (r0 : Int32) (o_t_draws_value : Int32) (h : m_Tb_seed y1 i_t_draws_value = some (r0, o_t_draws_value)) : (MI l yX11_seed wsX11_seed ({ frames := 0, cells := 0, slots := 0, locals := 0 }) (dC, dI) [(cI, .int), (cZ, .boolean)] (wd_tTb22 cI cZ a_t a_t_reader a_t_here a_t_spare a_t_fleet a_t_past a_t_images a_t_draws a_t_seen a_t_book a_t_way a_t_bands a_t_exchange (a_t_here 0) (a_t_spare 0) t_lettersFed t_faultAt i_t_draws_value) (wd_tTb22 cI cZ a_t a_t_reader a_t_here a_t_spare a_t_fleet a_t_past a_t_images a_t_draws a_t_seen a_t_book a_t_way a_t_bands a_t_exchange (a_t_here 0) (a_t_spare 0) t_lettersFed t_faultAt o_t_draws_value) [.ref (a_t 0), .int y1] r0) := by
  intro sz
  refine Met.ofW (cc := cX11_seed) (maxL := 3) (ret := (some .int)) (by decide) rfl ?_
  intro p e s m args below meth c s₁ B hml hv
  obtain ⟨rfl, hsz, hP, hK, hD0⟩ := hv
  have hx := B.exec
  have hb := B.bytes
  have hr := B.returns
  have hts := atoms_spec (ws := wsX11_seed) B.pre
  have hown : s.vm.findClass RX11 = some m.cls := findClass_of_methodNamed B.named
  have hlocks := B.notSynchronized
  subst hsz
  have hD := hD0.self (sz := s.heap.size)
  have hA : ∀ q : Nat, s.heap.size ≤ q → va_A (wd_tTb22 cI cZ a_t a_t_reader a_t_here a_t_spare a_t_fleet a_t_past a_t_images a_t_draws a_t_seen a_t_book a_t_way a_t_bands a_t_exchange (a_t_here 0) (a_t_spare 0) t_lettersFed t_faultAt i_t_draws_value) s.heap.size q := fun q h => Or.inr h
  have hS : va_S (va_A (wd_tTb22 cI cZ a_t a_t_reader a_t_here a_t_spare a_t_fleet a_t_past a_t_images a_t_draws a_t_seen a_t_book a_t_way a_t_bands a_t_exchange (a_t_here 0) (a_t_spare 0) t_lettersFed t_faultAt i_t_draws_value) s.heap.size) s.heap s.heap [] := va_S.rf
  have hin1 : ∀ w ∈ u_ws RX1 TX1 1, w ∈ wsX11_seed := fun w h => List.mem_cons_of_mem _ (List.mem_append_right _ h)
  have hin11 : ∀ w ∈ u_ws RX11 TX11 16, w ∈ wsX11_seed := fun w h => List.mem_cons_of_mem _ (List.mem_append_left _ (List.mem_append_right _ h))
  have hl := lv_entry ([.ref (a_t 0), .int y1]) (n := 3) (Nat.le_of_ble_eq_true rfl)
  rw [lg_entry_eq]
  generalize (lg_sl ([.ref (a_t 0), .int y1]) ++ List.replicate (3 - (lg_sl ([.ref (a_t 0), .int y1])).length) Slot.unset).toArray = ls at hl ⊢
  have hl : lv_has ls 3 [(0, .ref (a_t 0)), (1, .int y1)] := hl
  unfold m_Tb_seed at h
  refine lv_iload_n hx hb dX11_seed_0 rfl (lv_at hl 1 rfl) ?_
  refine lv_if_ge (tgt := 7) hx hb dX11_seed_1 (by decide) (fun hc => ?_) (fun hc => ?_)
  · have h := k_pos hc h
    refine lv_aload_n hx hb dX11_seed_7 rfl (lv_at hl 0 rfl) ?_
    refine va_get (D := (dC, dI)) (ci := 11) (v := .ref (a_t_draws 0)) (C := RX11) (T := TX11) (N := 16) hx hb hts hin11 hown hK hP 0 rfl rfl 10 (by decide) (hts (.fieldLink RX11 64 "TowedBack" "draws" "LTowedBack$Draws;") (List.mem_of_getElem? (i := 2) rfl)) (fun _ h9 => h9) rfl dX11_seed_8 ?_
    refine va_get (D := (dC, dI)) (ci := 1) (v := .int i_t_draws_value) (C := RX1) (T := TX1) (N := 1) hx hb hts hin1 hown hK hP 1 rfl rfl 0 (by decide) (hts (.fieldLink RX11 281 "TowedBack$Draws" "value" "I") (List.mem_of_getElem? (i := 3) rfl)) (fun _ h9 => h9) rfl dX11_seed_11 ?_
    refine lv_istore_n (lv' := [(2, .int i_t_draws_value), (0, .ref (a_t 0)), (1, .int y1)]) hx hb dX11_seed_14 rfl hl (by decide) rfl (fun ls hl => ?_)
    refine lv_aload_n hx hb dX11_seed_15 rfl (lv_at hl 1 rfl) ?_
    refine va_get (D := (dC, dI)) (ci := 11) (v := .ref (a_t_draws 0)) (C := RX11) (T := TX11) (N := 16) hx hb hts hin11 hown hK hP 0 rfl rfl 10 (by decide) (hts (.fieldLink RX11 64 "TowedBack" "draws" "LTowedBack$Draws;") (List.mem_of_getElem? (i := 2) rfl)) (fun _ h9 => h9) rfl dX11_seed_16 ?_
    refine lv_iload_n hx hb dX11_seed_19 rfl (lv_at hl 2 rfl) ?_
    refine va_put (D := (dC, dI)) (ci := 1) (v := .int y1) (ty := tyX1 0) (C := RX1) (T := TX1) (N := 1) hx hb hts hin1 tyX1 tyX1_ok nmX1 hown hK hP hD hS 1 rfl rfl 0 (by decide) (hts (.fieldLink RX11 281 "TowedBack$Draws" "value" "I") (List.mem_of_getElem? (i := 3) rfl)) (fun _ h9 => h9) rfl (tyX1_ok 0 (by decide)) rfl rfl (Nat.le_of_ble_eq_true rfl) dX11_seed_20 (fun H locs hP hD hS => ?_)
    have hP : va_P (dC, dI) vwCl (wd_tTb22 cI cZ a_t a_t_reader a_t_here a_t_spare a_t_fleet a_t_past a_t_images a_t_draws a_t_seen a_t_book a_t_way a_t_bands a_t_exchange (a_t_here 0) (a_t_spare 0) t_lettersFed t_faultAt y1) H := hP
    have hD : va_D (va_A (wd_tTb22 cI cZ a_t a_t_reader a_t_here a_t_spare a_t_fleet a_t_past a_t_images a_t_draws a_t_seen a_t_book a_t_way a_t_bands a_t_exchange (a_t_here 0) (a_t_spare 0) t_lettersFed t_faultAt i_t_draws_value) s.heap.size) (wd_tTb22 cI cZ a_t a_t_reader a_t_here a_t_spare a_t_fleet a_t_past a_t_images a_t_draws a_t_seen a_t_book a_t_way a_t_bands a_t_exchange (a_t_here 0) (a_t_spare 0) t_lettersFed t_faultAt y1) := hD
    refine lv_iload_n hx hb dX11_seed_23 rfl (lv_at hl 0 rfl) ?_
    obtain ⟨rfl, rfl⟩ := k_in2 h
    exact k_ri hx hb hr hlocks hP hS dX11_seed_24
  · have h := k_neg hc h
    refine lv_ldc (v := (-1000000002)) hx hb hown (hts (.constant RX11 104 (-1000000002)) (List.mem_of_getElem? (i := 1) rfl)) dX11_seed_4 ?_
    obtain ⟨rfl, rfl⟩ := k_in2 h
    exact k_ri hx hb hr hlocks hP hS dX11_seed_6
