set_option maxHeartbeats 4000000 in
set_option maxRecDepth 100000 in
theorem c_Tb_forgive (l : Launch) (dC : Nat → ClassId) (dI : Nat → Nat → Nat) (cI cZ : ClassId) (a_t a_t_reader a_t_here a_t_spare a_t_fleet a_t_past a_t_past_shelf a_t_images a_t_draws a_t_seen a_t_book a_t_way a_t_bands a_t_exchange : Nat → Nat) (t_lettersFed : Int32) (t_faultAt : Int32) (t_here_junctions : Int32) (t_here_cuts : Int32) (t_here_boats : Int32) (t_here_cutA : Nat → Int32) (t_here_cutB : Nat → Int32) (t_here_cutHard : Nat → Int32) (t_here_boatAt : Nat → Int32) (t_here_boatPull : Nat → Int32) (t_here_boatWear : Nat → Int32) (t_here_onward : Nat → Int32) (t_here_onwardHard : Nat → Int32) (i_t_fleet_row : Nat → Int32) (i_t_past_next : Int32) (i_t_past_count : Int32) (t_past_shelf_slots : Int32) (i_t_past_shelf_rows : Nat → Int32) (y1 : Int32) (y2 : Int32) (r0 : Int32) (o_t_fleet_row : Nat → Int32) (o_t_past_next : Int32) (o_t_past_count : Int32) (o_t_past_shelf_rows : Nat → Int32) (h : m_Tb_forgive y1 y2 t_here_boats i_t_fleet_row i_t_past_next i_t_past_count t_past_shelf_slots i_t_past_shelf_rows = some (r0, o_t_fleet_row, o_t_past_next, o_t_past_count, o_t_past_shelf_rows)) : (MI l yX11_forgive wsX11_forgive ({ frames := 3, cells := 0, slots := 0, locals := 69 }) (dC, dI) [(cI, .int), (cZ, .boolean)] (wd_tTb9 cI cZ a_t a_t_reader a_t_here a_t_spare a_t_fleet a_t_past a_t_past_shelf a_t_images a_t_draws a_t_seen a_t_book a_t_way a_t_bands a_t_exchange (a_t_here 0) (a_t_spare 0) t_lettersFed t_faultAt t_here_junctions t_here_cuts t_here_boats t_here_cutA t_here_cutB t_here_cutHard t_here_boatAt t_here_boatPull t_here_boatWear t_here_onward t_here_onwardHard i_t_fleet_row i_t_past_next i_t_past_count t_past_shelf_slots i_t_past_shelf_rows) (wd_tTb9 cI cZ a_t a_t_reader a_t_here a_t_spare a_t_fleet a_t_past a_t_past_shelf a_t_images a_t_draws a_t_seen a_t_book a_t_way a_t_bands a_t_exchange (a_t_here 0) (a_t_spare 0) t_lettersFed t_faultAt t_here_junctions t_here_cuts t_here_boats t_here_cutA t_here_cutB t_here_cutHard t_here_boatAt t_here_boatPull t_here_boatWear t_here_onward t_here_onwardHard o_t_fleet_row o_t_past_next o_t_past_count t_past_shelf_slots o_t_past_shelf_rows) [.ref (a_t 0), .int y1, .int y2] r0) := by
  intro sz
  refine Met.ofW (cc := cX11_forgive) (maxL := 3) (ret := (some .int)) (by decide) rfl ?_
  intro p e s m args below meth c s₁ B hml hv
  obtain ⟨rfl, hsz, hP, hK, hD0⟩ := hv
  have hx := B.exec
  have hb := B.bytes
  have hr := B.returns
  have hts := atoms_spec (ws := wsX11_forgive) B.pre
  have hown : s.vm.findClass RX11 = some m.cls := findClass_of_methodNamed B.named
  have hlocks := B.notSynchronized
  subst hsz
  have hD := hD0.self (sz := s.heap.size)
  have hA : ∀ q : Nat, s.heap.size ≤ q → va_A (wd_tTb9 cI cZ a_t a_t_reader a_t_here a_t_spare a_t_fleet a_t_past a_t_past_shelf a_t_images a_t_draws a_t_seen a_t_book a_t_way a_t_bands a_t_exchange (a_t_here 0) (a_t_spare 0) t_lettersFed t_faultAt t_here_junctions t_here_cuts t_here_boats t_here_cutA t_here_cutB t_here_cutHard t_here_boatAt t_here_boatPull t_here_boatWear t_here_onward t_here_onwardHard i_t_fleet_row i_t_past_next i_t_past_count t_past_shelf_slots i_t_past_shelf_rows) s.heap.size q := fun q h => Or.inr h
  have hS : va_S (va_A (wd_tTb9 cI cZ a_t a_t_reader a_t_here a_t_spare a_t_fleet a_t_past a_t_past_shelf a_t_images a_t_draws a_t_seen a_t_book a_t_way a_t_bands a_t_exchange (a_t_here 0) (a_t_spare 0) t_lettersFed t_faultAt t_here_junctions t_here_cuts t_here_boats t_here_cutA t_here_cutB t_here_cutHard t_here_boatAt t_here_boatPull t_here_boatWear t_here_onward t_here_onwardHard i_t_fleet_row i_t_past_next i_t_past_count t_past_shelf_slots i_t_past_shelf_rows) s.heap.size) s.heap s.heap [] := va_S.rf
  have hin11 : ∀ w ∈ u_ws RX11 TX11 16, w ∈ wsX11_forgive := fun w h => List.mem_cons_of_mem _ (List.mem_append_left _ (List.mem_append_left _ (List.mem_append_left _ (List.mem_append_left _ (List.mem_append_right _ h)))))
  have hl := lv_entry ([.ref (a_t 0), .int y1, .int y2]) (n := 3) (Nat.le_of_ble_eq_true rfl)
  rw [lg_entry_eq]
  generalize (lg_sl ([.ref (a_t 0), .int y1, .int y2]) ++ List.replicate (3 - (lg_sl ([.ref (a_t 0), .int y1, .int y2])).length) Slot.unset).toArray = ls at hl ⊢
  have hl : lv_has ls 3 [(0, .ref (a_t 0)), (1, .int y1), (2, .int y2)] := hl
  unfold m_Tb_forgive at h
  refine lv_aload_n hx hb dX11_forgive_0 rfl (lv_at hl 0 rfl) ?_
  refine va_get (D := (dC, dI)) (ci := 11) (v := .ref (a_t_here 0)) (C := RX11) (T := TX11) (N := 16) hx hb hts hin11 hown hK hP 0 rfl rfl 4 (by decide) (hts (.fieldLink RX11 30 "TowedBack" "here" "LTowedBack$Water;") (List.mem_of_getElem? (i := 1) rfl)) (fun _ h9 => h9) rfl dX11_forgive_1 ?_
  refine lv_iload_n hx hb dX11_forgive_4 rfl (lv_at hl 1 rfl) ?_
  obtain ⟨r1, hc1, h⟩ := kb1_some h
  refine k_RVi (rest := []) (As := [.int y1]) ⟨hx, hb, hml, hown, hts⟩ (c_Water_hasBoat l dC dI cI cZ a_t_here t_here_junctions t_here_cuts t_here_boats t_here_cutA t_here_cutB t_here_cutHard t_here_boatAt t_here_boatPull t_here_boatWear t_here_onward t_here_onwardHard y1 r1 hc1) (cwV 1 hts gX11_forgive_X9_hasBoat rfl rfl rfl hd_9_hasBoat ⟨Nat.le_of_ble_eq_true rfl, Nat.le_of_ble_eq_true rfl⟩) hK hP hD hS hA [1, 2, 3, 4, 5, 6, 7, 8, 9] rfl (by decide +kernel) 1 9 rfl rfl rfl rfl hl.1 rfl (Nat.le_of_ble_eq_true rfl) dX11_forgive_5 ⟨Nat.zero_le _, Nat.zero_le _⟩ (fun H locs hP hD hS => ?_)
  refine lv_if_ne (tgt := 14) hx hb dX11_forgive_8 (by decide) (fun hc => ?_) (fun hc => ?_)
  · have h := k_neg hc h
    refine lv_iload_n hx hb dX11_forgive_14 rfl (lv_at hl 2 rfl) ?_
    refine lv_iconst (v := 1) hx hb dX11_forgive_15 (by decide) ?_
    refine lv_icmp_lt (tgt := 26) hx hb dX11_forgive_16 (by decide) (fun hc => ?_) (fun hc => ?_)
    · have h := k_pos hc h
      refine lv_ldc (v := (-1000000002)) hx hb hown (hts (.constant RX11 104 (-1000000002)) (List.mem_of_getElem? (i := 3) rfl)) dX11_forgive_26 ?_
      obtain ⟨rfl, rfl, rfl, rfl, rfl⟩ := k_in5 h
      exact k_ri hx hb hr hlocks hP hS dX11_forgive_28
    · have h := k_neg hc h
      refine lv_iload_n hx hb dX11_forgive_19 rfl (lv_at hl 2 rfl) ?_
      refine lv_sipush (v := 999) hx hb dX11_forgive_20 (by decide) ?_
      refine lv_icmp_le (tgt := 29) hx hb dX11_forgive_23 (by decide) (fun hc => ?_) (fun hc => ?_)
      · have h := k_pos hc h
        refine lv_aload_n hx hb dX11_forgive_29 rfl (lv_at hl 0 rfl) ?_
        refine va_get (D := (dC, dI)) (ci := 11) (v := .ref (a_t_past 0)) (C := RX11) (T := TX11) (N := 16) hx hb hts hin11 hown hK hP 0 rfl rfl 8 (by decide) (hts (.fieldLink RX11 50 "TowedBack" "past" "LTowedBack$Past;") (List.mem_of_getElem? (i := 4) rfl)) (fun _ h9 => h9) rfl dX11_forgive_30 ?_
        refine lv_aload_n hx hb dX11_forgive_33 rfl (lv_at hl 0 rfl) ?_
        refine va_get (D := (dC, dI)) (ci := 11) (v := .ref (a_t_fleet 0)) (C := RX11) (T := TX11) (N := 16) hx hb hts hin11 hown hK hP 0 rfl rfl 6 (by decide) (hts (.fieldLink RX11 40 "TowedBack" "fleet" "LTowedBack$Fleet;") (List.mem_of_getElem? (i := 5) rfl)) (fun _ h9 => h9) rfl dX11_forgive_34 ?_
        obtain ⟨t_past_next_2, t_past_count_2, t_past_shelf_rows_2, hc2, h⟩ := kb3_some h
        refine k_GVv (rest := []) (As := [.ref (a_t_fleet 0)]) (ws' := (wd_tTb9 cI cZ a_t a_t_reader a_t_here a_t_spare a_t_fleet a_t_past a_t_past_shelf a_t_images a_t_draws a_t_seen a_t_book a_t_way a_t_bands a_t_exchange (a_t_here 0) (a_t_spare 0) t_lettersFed t_faultAt t_here_junctions t_here_cuts t_here_boats t_here_cutA t_here_cutB t_here_cutHard t_here_boatAt t_here_boatPull t_here_boatWear t_here_onward t_here_onwardHard i_t_fleet_row t_past_next_2 t_past_count_2 t_past_shelf_slots t_past_shelf_rows_2)) ⟨hx, hb, hml, hown, hts⟩ (c_Past_remember l dC dI cI cZ a_t_past a_t_past_shelf a_t_fleet i_t_past_next i_t_past_count 420 t_past_shelf_slots i_t_past_shelf_rows i_t_fleet_row t_past_next_2 t_past_count_2 t_past_shelf_rows_2 hc2) (cwV 1 hts gX11_forgive_X6_remember rfl rfl rfl hd_6_remember ⟨Nat.le_of_ble_eq_true rfl, Nat.le_of_ble_eq_true rfl⟩) hK hP hD hS hA [12, 13, 14, 10, 11] rfl (by decide +kernel) 12 6 rfl rfl rfl [0, 1, 2, 3, 4, 5, 6, 7, 8, 9] rfl (k_allc rfl rfl (k_allc rfl rfl (k_allc rfl rfl (k_allc rfl rfl (k_allc rfl rfl (k_allc rfl rfl (k_allc rfl rfl (k_allc rfl rfl (k_allc rfl rfl (k_allc rfl rfl k_alln)))))))))) 15 rfl (by decide +kernel) (wd_tTb9_f.trans wd_tTb9_f.symm) rfl hl.1 rfl (Nat.le_of_ble_eq_true rfl) dX11_forgive_37 ⟨Nat.zero_le _, Nat.zero_le _⟩ (fun H locs hP hD hS => ?_)
        refine lv_aload_n hx hb dX11_forgive_40 rfl (lv_at hl 0 rfl) ?_
        refine va_get (D := (dC, dI)) (ci := 11) (v := .ref (a_t_fleet 0)) (C := RX11) (T := TX11) (N := 16) hx hb hts hin11 hown hK hP 0 rfl rfl 6 (by decide) (hts (.fieldLink RX11 40 "TowedBack" "fleet" "LTowedBack$Fleet;") (List.mem_of_getElem? (i := 5) rfl)) (fun _ h9 => h9) rfl dX11_forgive_41 ?_
        refine lv_iload_n hx hb dX11_forgive_44 rfl (lv_at hl 1 rfl) ?_
        refine lv_iload_n hx hb dX11_forgive_45 rfl (lv_at hl 2 rfl) ?_
        obtain ⟨t_fleet_row_3, hc3, h⟩ := kb1_some h
        refine k_GVv (rest := []) (As := [.int y1, .int y2]) (ws' := (wd_tTb9 cI cZ a_t a_t_reader a_t_here a_t_spare a_t_fleet a_t_past a_t_past_shelf a_t_images a_t_draws a_t_seen a_t_book a_t_way a_t_bands a_t_exchange (a_t_here 0) (a_t_spare 0) t_lettersFed t_faultAt t_here_junctions t_here_cuts t_here_boats t_here_cutA t_here_cutB t_here_cutHard t_here_boatAt t_here_boatPull t_here_boatWear t_here_onward t_here_onwardHard t_fleet_row_3 t_past_next_2 t_past_count_2 t_past_shelf_slots t_past_shelf_rows_2)) ⟨hx, hb, hml, hown, hts⟩ (c_Fleet_lighten l dC dI cI cZ a_t_fleet i_t_fleet_row y1 y2 t_fleet_row_3 hc3) (cwV 2 hts gX11_forgive_X4_lighten rfl rfl rfl hd_4_lighten ⟨Nat.le_of_ble_eq_true rfl, Nat.le_of_ble_eq_true rfl⟩) hK hP hD hS hA [10, 11] rfl (by decide +kernel) 10 4 rfl rfl rfl [0, 1, 2, 3, 4, 5, 6, 7, 8, 9, 12, 13, 14] rfl (k_allc rfl rfl (k_allc rfl rfl (k_allc rfl rfl (k_allc rfl rfl (k_allc rfl rfl (k_allc rfl rfl (k_allc rfl rfl (k_allc rfl rfl (k_allc rfl rfl (k_allc rfl rfl (k_allc rfl rfl (k_allc rfl rfl (k_allc rfl rfl k_alln))))))))))))) 15 rfl (by decide +kernel) (wd_tTb9_f.trans wd_tTb9_f.symm) rfl hl.1 rfl (Nat.le_of_ble_eq_true rfl) dX11_forgive_46 ⟨Nat.zero_le _, Nat.zero_le _⟩ (fun H locs hP hD hS => ?_)
        refine lv_aload_n hx hb dX11_forgive_49 rfl (lv_at hl 0 rfl) ?_
        refine va_get (D := (dC, dI)) (ci := 11) (v := .ref (a_t_fleet 0)) (C := RX11) (T := TX11) (N := 16) hx hb hts hin11 hown hK hP 0 rfl rfl 6 (by decide) (hts (.fieldLink RX11 40 "TowedBack" "fleet" "LTowedBack$Fleet;") (List.mem_of_getElem? (i := 5) rfl)) (fun _ h9 => h9) rfl dX11_forgive_50 ?_
        refine lv_iload_n hx hb dX11_forgive_53 rfl (lv_at hl 1 rfl) ?_
        obtain ⟨r4, hc4, h⟩ := kb1_some h
        refine k_RVi (rest := []) (As := [.int y1]) ⟨hx, hb, hml, hown, hts⟩ (c_Fleet_pull l dC dI cI cZ a_t_fleet t_fleet_row_3 y1 r4 hc4) (cwV 1 hts gX11_forgive_X4_pull rfl rfl rfl hd_4_pull ⟨Nat.le_of_ble_eq_true rfl, Nat.le_of_ble_eq_true rfl⟩) hK hP hD hS hA [10, 11] rfl (by decide +kernel) 10 4 rfl rfl rfl rfl hl.1 rfl (Nat.le_of_ble_eq_true rfl) dX11_forgive_54 ⟨Nat.zero_le _, Nat.zero_le _⟩ (fun H locs hP hD hS => ?_)
        obtain ⟨rfl, rfl, rfl, rfl, rfl⟩ := k_in5 h
        exact k_ri hx hb hr hlocks hP hS dX11_forgive_57
      · have h := k_neg hc h
        refine lv_ldc (v := (-1000000002)) hx hb hown (hts (.constant RX11 104 (-1000000002)) (List.mem_of_getElem? (i := 3) rfl)) dX11_forgive_26 ?_
        obtain ⟨rfl, rfl, rfl, rfl, rfl⟩ := k_in5 h
        exact k_ri hx hb hr hlocks hP hS dX11_forgive_28
  · have h := k_pos hc h
    refine lv_ldc (v := (-1000000001)) hx hb hown (hts (.constant RX11 145 (-1000000001)) (List.mem_of_getElem? (i := 2) rfl)) dX11_forgive_11 ?_
    obtain ⟨rfl, rfl, rfl, rfl, rfl⟩ := k_in5 h
    exact k_ri hx hb hr hlocks hP hS dX11_forgive_13
set_option maxHeartbeats 4000000 in
set_option maxRecDepth 100000 in
theorem c_Tb_weigh (l : Launch) (dC : Nat → ClassId) (dI : Nat → Nat → Nat) (cI cZ : ClassId) (a_t a_t_reader a_t_here a_t_spare a_t_fleet a_t_past a_t_past_shelf a_t_images a_t_draws a_t_seen a_t_book a_t_way a_t_bands a_t_exchange : Nat → Nat) (t_lettersFed : Int32) (t_faultAt : Int32) (t_here_junctions : Int32) (t_here_cuts : Int32) (t_here_boats : Int32) (t_here_cutA : Nat → Int32) (t_here_cutB : Nat → Int32) (t_here_cutHard : Nat → Int32) (t_here_boatAt : Nat → Int32) (t_here_boatPull : Nat → Int32) (t_here_boatWear : Nat → Int32) (t_here_onward : Nat → Int32) (t_here_onwardHard : Nat → Int32) (i_t_fleet_row : Nat → Int32) (i_t_past_next : Int32) (i_t_past_count : Int32) (t_past_shelf_slots : Int32) (i_t_past_shelf_rows : Nat → Int32) (y1 : Int32) (y2 : Int32) (r0 : Int32) (o_t_fleet_row : Nat → Int32) (o_t_past_next : Int32) (o_t_past_count : Int32) (o_t_past_shelf_rows : Nat → Int32) (h : m_Tb_weigh y1 y2 t_here_boats i_t_fleet_row i_t_past_next i_t_past_count t_past_shelf_slots i_t_past_shelf_rows = some (r0, o_t_fleet_row, o_t_past_next, o_t_past_count, o_t_past_shelf_rows)) : (MI l yX11_weigh wsX11_weigh ({ frames := 3, cells := 0, slots := 0, locals := 69 }) (dC, dI) [(cI, .int), (cZ, .boolean)] (wd_tTb9 cI cZ a_t a_t_reader a_t_here a_t_spare a_t_fleet a_t_past a_t_past_shelf a_t_images a_t_draws a_t_seen a_t_book a_t_way a_t_bands a_t_exchange (a_t_here 0) (a_t_spare 0) t_lettersFed t_faultAt t_here_junctions t_here_cuts t_here_boats t_here_cutA t_here_cutB t_here_cutHard t_here_boatAt t_here_boatPull t_here_boatWear t_here_onward t_here_onwardHard i_t_fleet_row i_t_past_next i_t_past_count t_past_shelf_slots i_t_past_shelf_rows) (wd_tTb9 cI cZ a_t a_t_reader a_t_here a_t_spare a_t_fleet a_t_past a_t_past_shelf a_t_images a_t_draws a_t_seen a_t_book a_t_way a_t_bands a_t_exchange (a_t_here 0) (a_t_spare 0) t_lettersFed t_faultAt t_here_junctions t_here_cuts t_here_boats t_here_cutA t_here_cutB t_here_cutHard t_here_boatAt t_here_boatPull t_here_boatWear t_here_onward t_here_onwardHard o_t_fleet_row o_t_past_next o_t_past_count t_past_shelf_slots o_t_past_shelf_rows) [.ref (a_t 0), .int y1, .int y2] r0) := by
  intro sz
  refine Met.ofW (cc := cX11_weigh) (maxL := 3) (ret := (some .int)) (by decide) rfl ?_
  intro p e s m args below meth c s₁ B hml hv
  obtain ⟨rfl, hsz, hP, hK, hD0⟩ := hv
  have hx := B.exec
  have hb := B.bytes
  have hr := B.returns
  have hts := atoms_spec (ws := wsX11_weigh) B.pre
  have hown : s.vm.findClass RX11 = some m.cls := findClass_of_methodNamed B.named
  have hlocks := B.notSynchronized
  subst hsz
  have hD := hD0.self (sz := s.heap.size)
  have hA : ∀ q : Nat, s.heap.size ≤ q → va_A (wd_tTb9 cI cZ a_t a_t_reader a_t_here a_t_spare a_t_fleet a_t_past a_t_past_shelf a_t_images a_t_draws a_t_seen a_t_book a_t_way a_t_bands a_t_exchange (a_t_here 0) (a_t_spare 0) t_lettersFed t_faultAt t_here_junctions t_here_cuts t_here_boats t_here_cutA t_here_cutB t_here_cutHard t_here_boatAt t_here_boatPull t_here_boatWear t_here_onward t_here_onwardHard i_t_fleet_row i_t_past_next i_t_past_count t_past_shelf_slots i_t_past_shelf_rows) s.heap.size q := fun q h => Or.inr h
  have hS : va_S (va_A (wd_tTb9 cI cZ a_t a_t_reader a_t_here a_t_spare a_t_fleet a_t_past a_t_past_shelf a_t_images a_t_draws a_t_seen a_t_book a_t_way a_t_bands a_t_exchange (a_t_here 0) (a_t_spare 0) t_lettersFed t_faultAt t_here_junctions t_here_cuts t_here_boats t_here_cutA t_here_cutB t_here_cutHard t_here_boatAt t_here_boatPull t_here_boatWear t_here_onward t_here_onwardHard i_t_fleet_row i_t_past_next i_t_past_count t_past_shelf_slots i_t_past_shelf_rows) s.heap.size) s.heap s.heap [] := va_S.rf
  have hin11 : ∀ w ∈ u_ws RX11 TX11 16, w ∈ wsX11_weigh := fun w h => List.mem_cons_of_mem _ (List.mem_append_left _ (List.mem_append_left _ (List.mem_append_left _ (List.mem_append_left _ (List.mem_append_right _ h)))))
  have hl := lv_entry ([.ref (a_t 0), .int y1, .int y2]) (n := 3) (Nat.le_of_ble_eq_true rfl)
  rw [lg_entry_eq]
  generalize (lg_sl ([.ref (a_t 0), .int y1, .int y2]) ++ List.replicate (3 - (lg_sl ([.ref (a_t 0), .int y1, .int y2])).length) Slot.unset).toArray = ls at hl ⊢
  have hl : lv_has ls 3 [(0, .ref (a_t 0)), (1, .int y1), (2, .int y2)] := hl
  unfold m_Tb_weigh at h
  refine lv_aload_n hx hb dX11_weigh_0 rfl (lv_at hl 0 rfl) ?_
  refine va_get (D := (dC, dI)) (ci := 11) (v := .ref (a_t_here 0)) (C := RX11) (T := TX11) (N := 16) hx hb hts hin11 hown hK hP 0 rfl rfl 4 (by decide) (hts (.fieldLink RX11 30 "TowedBack" "here" "LTowedBack$Water;") (List.mem_of_getElem? (i := 1) rfl)) (fun _ h9 => h9) rfl dX11_weigh_1 ?_
  refine lv_iload_n hx hb dX11_weigh_4 rfl (lv_at hl 1 rfl) ?_
  obtain ⟨r1, hc1, h⟩ := kb1_some h
  refine k_RVi (rest := []) (As := [.int y1]) ⟨hx, hb, hml, hown, hts⟩ (c_Water_hasBoat l dC dI cI cZ a_t_here t_here_junctions t_here_cuts t_here_boats t_here_cutA t_here_cutB t_here_cutHard t_here_boatAt t_here_boatPull t_here_boatWear t_here_onward t_here_onwardHard y1 r1 hc1) (cwV 1 hts gX11_weigh_X9_hasBoat rfl rfl rfl hd_9_hasBoat ⟨Nat.le_of_ble_eq_true rfl, Nat.le_of_ble_eq_true rfl⟩) hK hP hD hS hA [1, 2, 3, 4, 5, 6, 7, 8, 9] rfl (by decide +kernel) 1 9 rfl rfl rfl rfl hl.1 rfl (Nat.le_of_ble_eq_true rfl) dX11_weigh_5 ⟨Nat.zero_le _, Nat.zero_le _⟩ (fun H locs hP hD hS => ?_)
  refine lv_if_ne (tgt := 14) hx hb dX11_weigh_8 (by decide) (fun hc => ?_) (fun hc => ?_)
  · have h := k_neg hc h
    refine lv_iload_n hx hb dX11_weigh_14 rfl (lv_at hl 2 rfl) ?_
    refine lv_iconst (v := 1) hx hb dX11_weigh_15 (by decide) ?_
    refine lv_icmp_lt (tgt := 26) hx hb dX11_weigh_16 (by decide) (fun hc => ?_) (fun hc => ?_)
    · have h := k_pos hc h
      refine lv_ldc (v := (-1000000002)) hx hb hown (hts (.constant RX11 104 (-1000000002)) (List.mem_of_getElem? (i := 3) rfl)) dX11_weigh_26 ?_
      obtain ⟨rfl, rfl, rfl, rfl, rfl⟩ := k_in5 h
      exact k_ri hx hb hr hlocks hP hS dX11_weigh_28
    · have h := k_neg hc h
      refine lv_iload_n hx hb dX11_weigh_19 rfl (lv_at hl 2 rfl) ?_
      refine lv_sipush (v := 999) hx hb dX11_weigh_20 (by decide) ?_
      refine lv_icmp_le (tgt := 29) hx hb dX11_weigh_23 (by decide) (fun hc => ?_) (fun hc => ?_)
      · have h := k_pos hc h
        refine lv_aload_n hx hb dX11_weigh_29 rfl (lv_at hl 0 rfl) ?_
        refine va_get (D := (dC, dI)) (ci := 11) (v := .ref (a_t_past 0)) (C := RX11) (T := TX11) (N := 16) hx hb hts hin11 hown hK hP 0 rfl rfl 8 (by decide) (hts (.fieldLink RX11 50 "TowedBack" "past" "LTowedBack$Past;") (List.mem_of_getElem? (i := 4) rfl)) (fun _ h9 => h9) rfl dX11_weigh_30 ?_
        refine lv_aload_n hx hb dX11_weigh_33 rfl (lv_at hl 0 rfl) ?_
        refine va_get (D := (dC, dI)) (ci := 11) (v := .ref (a_t_fleet 0)) (C := RX11) (T := TX11) (N := 16) hx hb hts hin11 hown hK hP 0 rfl rfl 6 (by decide) (hts (.fieldLink RX11 40 "TowedBack" "fleet" "LTowedBack$Fleet;") (List.mem_of_getElem? (i := 5) rfl)) (fun _ h9 => h9) rfl dX11_weigh_34 ?_
        obtain ⟨t_past_next_2, t_past_count_2, t_past_shelf_rows_2, hc2, h⟩ := kb3_some h
        refine k_GVv (rest := []) (As := [.ref (a_t_fleet 0)]) (ws' := (wd_tTb9 cI cZ a_t a_t_reader a_t_here a_t_spare a_t_fleet a_t_past a_t_past_shelf a_t_images a_t_draws a_t_seen a_t_book a_t_way a_t_bands a_t_exchange (a_t_here 0) (a_t_spare 0) t_lettersFed t_faultAt t_here_junctions t_here_cuts t_here_boats t_here_cutA t_here_cutB t_here_cutHard t_here_boatAt t_here_boatPull t_here_boatWear t_here_onward t_here_onwardHard i_t_fleet_row t_past_next_2 t_past_count_2 t_past_shelf_slots t_past_shelf_rows_2)) ⟨hx, hb, hml, hown, hts⟩ (c_Past_remember l dC dI cI cZ a_t_past a_t_past_shelf a_t_fleet i_t_past_next i_t_past_count 420 t_past_shelf_slots i_t_past_shelf_rows i_t_fleet_row t_past_next_2 t_past_count_2 t_past_shelf_rows_2 hc2) (cwV 1 hts gX11_weigh_X6_remember rfl rfl rfl hd_6_remember ⟨Nat.le_of_ble_eq_true rfl, Nat.le_of_ble_eq_true rfl⟩) hK hP hD hS hA [12, 13, 14, 10, 11] rfl (by decide +kernel) 12 6 rfl rfl rfl [0, 1, 2, 3, 4, 5, 6, 7, 8, 9] rfl (k_allc rfl rfl (k_allc rfl rfl (k_allc rfl rfl (k_allc rfl rfl (k_allc rfl rfl (k_allc rfl rfl (k_allc rfl rfl (k_allc rfl rfl (k_allc rfl rfl (k_allc rfl rfl k_alln)))))))))) 15 rfl (by decide +kernel) (wd_tTb9_f.trans wd_tTb9_f.symm) rfl hl.1 rfl (Nat.le_of_ble_eq_true rfl) dX11_weigh_37 ⟨Nat.zero_le _, Nat.zero_le _⟩ (fun H locs hP hD hS => ?_)
        refine lv_aload_n hx hb dX11_weigh_40 rfl (lv_at hl 0 rfl) ?_
        refine va_get (D := (dC, dI)) (ci := 11) (v := .ref (a_t_fleet 0)) (C := RX11) (T := TX11) (N := 16) hx hb hts hin11 hown hK hP 0 rfl rfl 6 (by decide) (hts (.fieldLink RX11 40 "TowedBack" "fleet" "LTowedBack$Fleet;") (List.mem_of_getElem? (i := 5) rfl)) (fun _ h9 => h9) rfl dX11_weigh_41 ?_
        refine lv_iload_n hx hb dX11_weigh_44 rfl (lv_at hl 1 rfl) ?_
        refine lv_iload_n hx hb dX11_weigh_45 rfl (lv_at hl 2 rfl) ?_
        obtain ⟨t_fleet_row_3, hc3, h⟩ := kb1_some h
        refine k_GVv (rest := []) (As := [.int y1, .int y2]) (ws' := (wd_tTb9 cI cZ a_t a_t_reader a_t_here a_t_spare a_t_fleet a_t_past a_t_past_shelf a_t_images a_t_draws a_t_seen a_t_book a_t_way a_t_bands a_t_exchange (a_t_here 0) (a_t_spare 0) t_lettersFed t_faultAt t_here_junctions t_here_cuts t_here_boats t_here_cutA t_here_cutB t_here_cutHard t_here_boatAt t_here_boatPull t_here_boatWear t_here_onward t_here_onwardHard t_fleet_row_3 t_past_next_2 t_past_count_2 t_past_shelf_slots t_past_shelf_rows_2)) ⟨hx, hb, hml, hown, hts⟩ (c_Fleet_load l dC dI cI cZ a_t_fleet i_t_fleet_row y1 y2 t_fleet_row_3 hc3) (cwV 2 hts gX11_weigh_X4_load rfl rfl rfl hd_4_load ⟨Nat.le_of_ble_eq_true rfl, Nat.le_of_ble_eq_true rfl⟩) hK hP hD hS hA [10, 11] rfl (by decide +kernel) 10 4 rfl rfl rfl [0, 1, 2, 3, 4, 5, 6, 7, 8, 9, 12, 13, 14] rfl (k_allc rfl rfl (k_allc rfl rfl (k_allc rfl rfl (k_allc rfl rfl (k_allc rfl rfl (k_allc rfl rfl (k_allc rfl rfl (k_allc rfl rfl (k_allc rfl rfl (k_allc rfl rfl (k_allc rfl rfl (k_allc rfl rfl (k_allc rfl rfl k_alln))))))))))))) 15 rfl (by decide +kernel) (wd_tTb9_f.trans wd_tTb9_f.symm) rfl hl.1 rfl (Nat.le_of_ble_eq_true rfl) dX11_weigh_46 ⟨Nat.zero_le _, Nat.zero_le _⟩ (fun H locs hP hD hS => ?_)
        refine lv_aload_n hx hb dX11_weigh_49 rfl (lv_at hl 0 rfl) ?_
        refine va_get (D := (dC, dI)) (ci := 11) (v := .ref (a_t_fleet 0)) (C := RX11) (T := TX11) (N := 16) hx hb hts hin11 hown hK hP 0 rfl rfl 6 (by decide) (hts (.fieldLink RX11 40 "TowedBack" "fleet" "LTowedBack$Fleet;") (List.mem_of_getElem? (i := 5) rfl)) (fun _ h9 => h9) rfl dX11_weigh_50 ?_
        refine lv_iload_n hx hb dX11_weigh_53 rfl (lv_at hl 1 rfl) ?_
        obtain ⟨r4, hc4, h⟩ := kb1_some h
        refine k_RVi (rest := []) (As := [.int y1]) ⟨hx, hb, hml, hown, hts⟩ (c_Fleet_pull l dC dI cI cZ a_t_fleet t_fleet_row_3 y1 r4 hc4) (cwV 1 hts gX11_weigh_X4_pull rfl rfl rfl hd_4_pull ⟨Nat.le_of_ble_eq_true rfl, Nat.le_of_ble_eq_true rfl⟩) hK hP hD hS hA [10, 11] rfl (by decide +kernel) 10 4 rfl rfl rfl rfl hl.1 rfl (Nat.le_of_ble_eq_true rfl) dX11_weigh_54 ⟨Nat.zero_le _, Nat.zero_le _⟩ (fun H locs hP hD hS => ?_)
        obtain ⟨rfl, rfl, rfl, rfl, rfl⟩ := k_in5 h
        exact k_ri hx hb hr hlocks hP hS dX11_weigh_57
      · have h := k_neg hc h
        refine lv_ldc (v := (-1000000002)) hx hb hown (hts (.constant RX11 104 (-1000000002)) (List.mem_of_getElem? (i := 3) rfl)) dX11_weigh_26 ?_
        obtain ⟨rfl, rfl, rfl, rfl, rfl⟩ := k_in5 h
        exact k_ri hx hb hr hlocks hP hS dX11_weigh_28
  · have h := k_pos hc h
    refine lv_ldc (v := (-1000000001)) hx hb hown (hts (.constant RX11 145 (-1000000001)) (List.mem_of_getElem? (i := 2) rfl)) dX11_weigh_11 ?_
    obtain ⟨rfl, rfl, rfl, rfl, rfl⟩ := k_in5 h
    exact k_ri hx hb hr hlocks hP hS dX11_weigh_13
set_option maxHeartbeats 4000000 in
set_option maxRecDepth 100000 in
theorem c_Tb_change (l : Launch) (dC : Nat → ClassId) (dI : Nat → Nat → Nat) (cI cZ : ClassId) (a_t a_t_reader a_t_here a_t_spare a_t_fleet a_t_past a_t_past_shelf a_t_images a_t_draws a_t_seen a_t_book a_t_way a_t_bands a_t_exchange : Nat → Nat) (t_lettersFed : Int32) (t_faultAt : Int32) (t_here_junctions : Int32) (t_here_cuts : Int32) (t_here_boats : Int32) (t_here_cutA : Nat → Int32) (t_here_cutB : Nat → Int32) (t_here_cutHard : Nat → Int32) (t_here_boatAt : Nat → Int32) (t_here_boatPull : Nat → Int32) (t_here_boatWear : Nat → Int32) (t_here_onward : Nat → Int32) (t_here_onwardHard : Nat → Int32) (i_t_fleet_row : Nat → Int32) (i_t_past_next : Int32) (i_t_past_count : Int32) (t_past_shelf_slots : Int32) (i_t_past_shelf_rows : Nat → Int32) (y1 : Int32) (y2 : Int32) (r0 : Int32) (o_t_fleet_row : Nat → Int32) (o_t_past_next : Int32) (o_t_past_count : Int32) (o_t_past_shelf_rows : Nat → Int32) (h : m_Tb_change y1 y2 t_here_boats i_t_fleet_row i_t_past_next i_t_past_count t_past_shelf_slots i_t_past_shelf_rows = some (r0, o_t_fleet_row, o_t_past_next, o_t_past_count, o_t_past_shelf_rows)) : (MI l yX11_change wsX11_change ({ frames := 3, cells := 0, slots := 0, locals := 69 }) (dC, dI) [(cI, .int), (cZ, .boolean)] (wd_tTb9 cI cZ a_t a_t_reader a_t_here a_t_spare a_t_fleet a_t_past a_t_past_shelf a_t_images a_t_draws a_t_seen a_t_book a_t_way a_t_bands a_t_exchange (a_t_here 0) (a_t_spare 0) t_lettersFed t_faultAt t_here_junctions t_here_cuts t_here_boats t_here_cutA t_here_cutB t_here_cutHard t_here_boatAt t_here_boatPull t_here_boatWear t_here_onward t_here_onwardHard i_t_fleet_row i_t_past_next i_t_past_count t_past_shelf_slots i_t_past_shelf_rows) (wd_tTb9 cI cZ a_t a_t_reader a_t_here a_t_spare a_t_fleet a_t_past a_t_past_shelf a_t_images a_t_draws a_t_seen a_t_book a_t_way a_t_bands a_t_exchange (a_t_here 0) (a_t_spare 0) t_lettersFed t_faultAt t_here_junctions t_here_cuts t_here_boats t_here_cutA t_here_cutB t_here_cutHard t_here_boatAt t_here_boatPull t_here_boatWear t_here_onward t_here_onwardHard o_t_fleet_row o_t_past_next o_t_past_count t_past_shelf_slots o_t_past_shelf_rows) [.ref (a_t 0), .int y1, .int y2] r0) := by
  intro sz
  refine Met.ofW (cc := cX11_change) (maxL := 3) (ret := (some .int)) (by decide) rfl ?_
  intro p e s m args below meth c s₁ B hml hv
  obtain ⟨rfl, hsz, hP, hK, hD0⟩ := hv
  have hx := B.exec
  have hb := B.bytes
  have hr := B.returns
  have hts := atoms_spec (ws := wsX11_change) B.pre
  have hown : s.vm.findClass RX11 = some m.cls := findClass_of_methodNamed B.named
  have hlocks := B.notSynchronized
  subst hsz
  have hD := hD0.self (sz := s.heap.size)
  have hA : ∀ q : Nat, s.heap.size ≤ q → va_A (wd_tTb9 cI cZ a_t a_t_reader a_t_here a_t_spare a_t_fleet a_t_past a_t_past_shelf a_t_images a_t_draws a_t_seen a_t_book a_t_way a_t_bands a_t_exchange (a_t_here 0) (a_t_spare 0) t_lettersFed t_faultAt t_here_junctions t_here_cuts t_here_boats t_here_cutA t_here_cutB t_here_cutHard t_here_boatAt t_here_boatPull t_here_boatWear t_here_onward t_here_onwardHard i_t_fleet_row i_t_past_next i_t_past_count t_past_shelf_slots i_t_past_shelf_rows) s.heap.size q := fun q h => Or.inr h
  have hS : va_S (va_A (wd_tTb9 cI cZ a_t a_t_reader a_t_here a_t_spare a_t_fleet a_t_past a_t_past_shelf a_t_images a_t_draws a_t_seen a_t_book a_t_way a_t_bands a_t_exchange (a_t_here 0) (a_t_spare 0) t_lettersFed t_faultAt t_here_junctions t_here_cuts t_here_boats t_here_cutA t_here_cutB t_here_cutHard t_here_boatAt t_here_boatPull t_here_boatWear t_here_onward t_here_onwardHard i_t_fleet_row i_t_past_next i_t_past_count t_past_shelf_slots i_t_past_shelf_rows) s.heap.size) s.heap s.heap [] := va_S.rf
  have hin11 : ∀ w ∈ u_ws RX11 TX11 16, w ∈ wsX11_change := fun w h => List.mem_cons_of_mem _ (List.mem_append_left _ (List.mem_append_left _ (List.mem_append_left _ (List.mem_append_left _ (List.mem_append_right _ h)))))
  have hl := lv_entry ([.ref (a_t 0), .int y1, .int y2]) (n := 3) (Nat.le_of_ble_eq_true rfl)
  rw [lg_entry_eq]
  generalize (lg_sl ([.ref (a_t 0), .int y1, .int y2]) ++ List.replicate (3 - (lg_sl ([.ref (a_t 0), .int y1, .int y2])).length) Slot.unset).toArray = ls at hl ⊢
  have hl : lv_has ls 3 [(0, .ref (a_t 0)), (1, .int y1), (2, .int y2)] := hl
  unfold m_Tb_change at h
  refine lv_aload_n hx hb dX11_change_0 rfl (lv_at hl 0 rfl) ?_
  refine va_get (D := (dC, dI)) (ci := 11) (v := .ref (a_t_here 0)) (C := RX11) (T := TX11) (N := 16) hx hb hts hin11 hown hK hP 0 rfl rfl 4 (by decide) (hts (.fieldLink RX11 30 "TowedBack" "here" "LTowedBack$Water;") (List.mem_of_getElem? (i := 1) rfl)) (fun _ h9 => h9) rfl dX11_change_1 ?_
  refine lv_iload_n hx hb dX11_change_4 rfl (lv_at hl 1 rfl) ?_
  obtain ⟨r1, hc1, h⟩ := kb1_some h
  refine k_RVi (rest := []) (As := [.int y1]) ⟨hx, hb, hml, hown, hts⟩ (c_Water_hasBoat l dC dI cI cZ a_t_here t_here_junctions t_here_cuts t_here_boats t_here_cutA t_here_cutB t_here_cutHard t_here_boatAt t_here_boatPull t_here_boatWear t_here_onward t_here_onwardHard y1 r1 hc1) (cwV 1 hts gX11_change_X9_hasBoat rfl rfl rfl hd_9_hasBoat ⟨Nat.le_of_ble_eq_true rfl, Nat.le_of_ble_eq_true rfl⟩) hK hP hD hS hA [1, 2, 3, 4, 5, 6, 7, 8, 9] rfl (by decide +kernel) 1 9 rfl rfl rfl rfl hl.1 rfl (Nat.le_of_ble_eq_true rfl) dX11_change_5 ⟨Nat.zero_le _, Nat.zero_le _⟩ (fun H locs hP hD hS => ?_)
  refine lv_if_eq (tgt := 27) hx hb dX11_change_8 (by decide) (fun hc => ?_) (fun hc => ?_)
  · have h := k_pos hc h
    refine lv_ldc (v := (-1000000001)) hx hb hown (hts (.constant RX11 145 (-1000000001)) (List.mem_of_getElem? (i := 2) rfl)) dX11_change_27 ?_
    obtain ⟨rfl, rfl, rfl, rfl, rfl⟩ := k_in5 h
    exact k_ri hx hb hr hlocks hP hS dX11_change_29
  · have h := k_neg hc h
    refine lv_aload_n hx hb dX11_change_11 rfl (lv_at hl 0 rfl) ?_
    refine va_get (D := (dC, dI)) (ci := 11) (v := .ref (a_t_here 0)) (C := RX11) (T := TX11) (N := 16) hx hb hts hin11 hown hK hP 0 rfl rfl 4 (by decide) (hts (.fieldLink RX11 30 "TowedBack" "here" "LTowedBack$Water;") (List.mem_of_getElem? (i := 1) rfl)) (fun _ h9 => h9) rfl dX11_change_12 ?_
    refine lv_iload_n hx hb dX11_change_15 rfl (lv_at hl 2 rfl) ?_
    obtain ⟨r2, hc2, h⟩ := kb1_some h
    refine k_RVi (rest := []) (As := [.int y2]) ⟨hx, hb, hml, hown, hts⟩ (c_Water_hasBoat l dC dI cI cZ a_t_here t_here_junctions t_here_cuts t_here_boats t_here_cutA t_here_cutB t_here_cutHard t_here_boatAt t_here_boatPull t_here_boatWear t_here_onward t_here_onwardHard y2 r2 hc2) (cwV 1 hts gX11_change_X9_hasBoat rfl rfl rfl hd_9_hasBoat ⟨Nat.le_of_ble_eq_true rfl, Nat.le_of_ble_eq_true rfl⟩) hK hP hD hS hA [1, 2, 3, 4, 5, 6, 7, 8, 9] rfl (by decide +kernel) 1 9 rfl rfl rfl rfl hl.1 rfl (Nat.le_of_ble_eq_true rfl) dX11_change_16 ⟨Nat.zero_le _, Nat.zero_le _⟩ (fun H locs hP hD hS => ?_)
    refine lv_if_eq (tgt := 27) hx hb dX11_change_19 (by decide) (fun hc => ?_) (fun hc => ?_)
    · have h := k_pos hc h
      refine lv_ldc (v := (-1000000001)) hx hb hown (hts (.constant RX11 145 (-1000000001)) (List.mem_of_getElem? (i := 2) rfl)) dX11_change_27 ?_
      obtain ⟨rfl, rfl, rfl, rfl, rfl⟩ := k_in5 h
      exact k_ri hx hb hr hlocks hP hS dX11_change_29
    · have h := k_neg hc h
      refine lv_iload_n hx hb dX11_change_22 rfl (lv_at hl 1 rfl) ?_
      refine lv_iload_n hx hb dX11_change_23 rfl (lv_at hl 2 rfl) ?_
      refine lv_icmp_ne (tgt := 30) hx hb dX11_change_24 (by decide) (fun hc => ?_) (fun hc => ?_)
      · have h := k_neg hc h
        refine lv_aload_n hx hb dX11_change_30 rfl (lv_at hl 0 rfl) ?_
        refine va_get (D := (dC, dI)) (ci := 11) (v := .ref (a_t_past 0)) (C := RX11) (T := TX11) (N := 16) hx hb hts hin11 hown hK hP 0 rfl rfl 8 (by decide) (hts (.fieldLink RX11 50 "TowedBack" "past" "LTowedBack$Past;") (List.mem_of_getElem? (i := 3) rfl)) (fun _ h9 => h9) rfl dX11_change_31 ?_
        refine lv_aload_n hx hb dX11_change_34 rfl (lv_at hl 0 rfl) ?_
        refine va_get (D := (dC, dI)) (ci := 11) (v := .ref (a_t_fleet 0)) (C := RX11) (T := TX11) (N := 16) hx hb hts hin11 hown hK hP 0 rfl rfl 6 (by decide) (hts (.fieldLink RX11 40 "TowedBack" "fleet" "LTowedBack$Fleet;") (List.mem_of_getElem? (i := 4) rfl)) (fun _ h9 => h9) rfl dX11_change_35 ?_
        obtain ⟨t_past_next_3, t_past_count_3, t_past_shelf_rows_3, hc3, h⟩ := kb3_some h
        refine k_GVv (rest := []) (As := [.ref (a_t_fleet 0)]) (ws' := (wd_tTb9 cI cZ a_t a_t_reader a_t_here a_t_spare a_t_fleet a_t_past a_t_past_shelf a_t_images a_t_draws a_t_seen a_t_book a_t_way a_t_bands a_t_exchange (a_t_here 0) (a_t_spare 0) t_lettersFed t_faultAt t_here_junctions t_here_cuts t_here_boats t_here_cutA t_here_cutB t_here_cutHard t_here_boatAt t_here_boatPull t_here_boatWear t_here_onward t_here_onwardHard i_t_fleet_row t_past_next_3 t_past_count_3 t_past_shelf_slots t_past_shelf_rows_3)) ⟨hx, hb, hml, hown, hts⟩ (c_Past_remember l dC dI cI cZ a_t_past a_t_past_shelf a_t_fleet i_t_past_next i_t_past_count 420 t_past_shelf_slots i_t_past_shelf_rows i_t_fleet_row t_past_next_3 t_past_count_3 t_past_shelf_rows_3 hc3) (cwV 1 hts gX11_change_X6_remember rfl rfl rfl hd_6_remember ⟨Nat.le_of_ble_eq_true rfl, Nat.le_of_ble_eq_true rfl⟩) hK hP hD hS hA [12, 13, 14, 10, 11] rfl (by decide +kernel) 12 6 rfl rfl rfl [0, 1, 2, 3, 4, 5, 6, 7, 8, 9] rfl (k_allc rfl rfl (k_allc rfl rfl (k_allc rfl rfl (k_allc rfl rfl (k_allc rfl rfl (k_allc rfl rfl (k_allc rfl rfl (k_allc rfl rfl (k_allc rfl rfl (k_allc rfl rfl k_alln)))))))))) 15 rfl (by decide +kernel) (wd_tTb9_f.trans wd_tTb9_f.symm) rfl hl.1 rfl (Nat.le_of_ble_eq_true rfl) dX11_change_38 ⟨Nat.zero_le _, Nat.zero_le _⟩ (fun H locs hP hD hS => ?_)
        refine lv_aload_n hx hb dX11_change_41 rfl (lv_at hl 0 rfl) ?_
        refine va_get (D := (dC, dI)) (ci := 11) (v := .ref (a_t_fleet 0)) (C := RX11) (T := TX11) (N := 16) hx hb hts hin11 hown hK hP 0 rfl rfl 6 (by decide) (hts (.fieldLink RX11 40 "TowedBack" "fleet" "LTowedBack$Fleet;") (List.mem_of_getElem? (i := 4) rfl)) (fun _ h9 => h9) rfl dX11_change_42 ?_
        refine lv_iload_n hx hb dX11_change_45 rfl (lv_at hl 1 rfl) ?_
        refine lv_iload_n hx hb dX11_change_46 rfl (lv_at hl 2 rfl) ?_
        obtain ⟨t_fleet_row_4, hc4, h⟩ := kb1_some h
        refine k_GVv (rest := []) (As := [.int y1, .int y2]) (ws' := (wd_tTb9 cI cZ a_t a_t_reader a_t_here a_t_spare a_t_fleet a_t_past a_t_past_shelf a_t_images a_t_draws a_t_seen a_t_book a_t_way a_t_bands a_t_exchange (a_t_here 0) (a_t_spare 0) t_lettersFed t_faultAt t_here_junctions t_here_cuts t_here_boats t_here_cutA t_here_cutB t_here_cutHard t_here_boatAt t_here_boatPull t_here_boatWear t_here_onward t_here_onwardHard t_fleet_row_4 t_past_next_3 t_past_count_3 t_past_shelf_slots t_past_shelf_rows_3)) ⟨hx, hb, hml, hown, hts⟩ (c_Fleet_swapPulls l dC dI cI cZ a_t_fleet i_t_fleet_row y1 y2 t_fleet_row_4 hc4) (cwV 2 hts gX11_change_X4_swapPulls rfl rfl rfl hd_4_swapPulls ⟨Nat.le_of_ble_eq_true rfl, Nat.le_of_ble_eq_true rfl⟩) hK hP hD hS hA [10, 11] rfl (by decide +kernel) 10 4 rfl rfl rfl [0, 1, 2, 3, 4, 5, 6, 7, 8, 9, 12, 13, 14] rfl (k_allc rfl rfl (k_allc rfl rfl (k_allc rfl rfl (k_allc rfl rfl (k_allc rfl rfl (k_allc rfl rfl (k_allc rfl rfl (k_allc rfl rfl (k_allc rfl rfl (k_allc rfl rfl (k_allc rfl rfl (k_allc rfl rfl (k_allc rfl rfl k_alln))))))))))))) 15 rfl (by decide +kernel) (wd_tTb9_f.trans wd_tTb9_f.symm) rfl hl.1 rfl (Nat.le_of_ble_eq_true rfl) dX11_change_47 ⟨Nat.zero_le _, Nat.zero_le _⟩ (fun H locs hP hD hS => ?_)
        refine lv_aload_n hx hb dX11_change_50 rfl (lv_at hl 0 rfl) ?_
        refine va_get (D := (dC, dI)) (ci := 11) (v := .ref (a_t_fleet 0)) (C := RX11) (T := TX11) (N := 16) hx hb hts hin11 hown hK hP 0 rfl rfl 6 (by decide) (hts (.fieldLink RX11 40 "TowedBack" "fleet" "LTowedBack$Fleet;") (List.mem_of_getElem? (i := 4) rfl)) (fun _ h9 => h9) rfl dX11_change_51 ?_
        refine lv_iload_n hx hb dX11_change_54 rfl (lv_at hl 1 rfl) ?_
        obtain ⟨r5, hc5, h⟩ := kb1_some h
        refine k_RVi (rest := []) (As := [.int y1]) ⟨hx, hb, hml, hown, hts⟩ (c_Fleet_pull l dC dI cI cZ a_t_fleet t_fleet_row_4 y1 r5 hc5) (cwV 1 hts gX11_change_X4_pull rfl rfl rfl hd_4_pull ⟨Nat.le_of_ble_eq_true rfl, Nat.le_of_ble_eq_true rfl⟩) hK hP hD hS hA [10, 11] rfl (by decide +kernel) 10 4 rfl rfl rfl rfl hl.1 rfl (Nat.le_of_ble_eq_true rfl) dX11_change_55 ⟨Nat.zero_le _, Nat.zero_le _⟩ (fun H locs hP hD hS => ?_)
        obtain ⟨rfl, rfl, rfl, rfl, rfl⟩ := k_in5 h
        exact k_ri hx hb hr hlocks hP hS dX11_change_58
      · have h := k_pos hc h
        refine lv_ldc (v := (-1000000001)) hx hb hown (hts (.constant RX11 145 (-1000000001)) (List.mem_of_getElem? (i := 2) rfl)) dX11_change_27 ?_
        obtain ⟨rfl, rfl, rfl, rfl, rfl⟩ := k_in5 h
        exact k_ri hx hb hr hlocks hP hS dX11_change_29
set_option maxHeartbeats 4000000 in
set_option maxRecDepth 100000 in
theorem c_Tb_turn (l : Launch) (dC : Nat → ClassId) (dI : Nat → Nat → Nat) (cI cZ : ClassId) (a_t a_t_reader a_t_here a_t_spare a_t_fleet a_t_past a_t_past_shelf a_t_images a_t_draws a_t_seen a_t_book a_t_way a_t_bands a_t_exchange : Nat → Nat) (t_lettersFed : Int32) (t_faultAt : Int32) (t_here_junctions : Int32) (t_here_cuts : Int32) (t_here_boats : Int32) (t_here_cutA : Nat → Int32) (t_here_cutB : Nat → Int32) (t_here_cutHard : Nat → Int32) (t_here_boatAt : Nat → Int32) (t_here_boatPull : Nat → Int32) (t_here_boatWear : Nat → Int32) (t_here_onward : Nat → Int32) (t_here_onwardHard : Nat → Int32) (i_t_fleet_row : Nat → Int32) (i_t_past_next : Int32) (i_t_past_count : Int32) (t_past_shelf_slots : Int32) (i_t_past_shelf_rows : Nat → Int32) (y1 : Int32) (r0 : Int32) (o_t_fleet_row : Nat → Int32) (o_t_past_next : Int32) (o_t_past_count : Int32) (o_t_past_shelf_rows : Nat → Int32) (h : m_Tb_turn y1 t_here_boats i_t_fleet_row i_t_past_next i_t_past_count t_past_shelf_slots i_t_past_shelf_rows = some (r0, o_t_fleet_row, o_t_past_next, o_t_past_count, o_t_past_shelf_rows)) : (MI l yX11_turn wsX11_turn ({ frames := 3, cells := 0, slots := 0, locals := 69 }) (dC, dI) [(cI, .int), (cZ, .boolean)] (wd_tTb9 cI cZ a_t a_t_reader a_t_here a_t_spare a_t_fleet a_t_past a_t_past_shelf a_t_images a_t_draws a_t_seen a_t_book a_t_way a_t_bands a_t_exchange (a_t_here 0) (a_t_spare 0) t_lettersFed t_faultAt t_here_junctions t_here_cuts t_here_boats t_here_cutA t_here_cutB t_here_cutHard t_here_boatAt t_here_boatPull t_here_boatWear t_here_onward t_here_onwardHard i_t_fleet_row i_t_past_next i_t_past_count t_past_shelf_slots i_t_past_shelf_rows) (wd_tTb9 cI cZ a_t a_t_reader a_t_here a_t_spare a_t_fleet a_t_past a_t_past_shelf a_t_images a_t_draws a_t_seen a_t_book a_t_way a_t_bands a_t_exchange (a_t_here 0) (a_t_spare 0) t_lettersFed t_faultAt t_here_junctions t_here_cuts t_here_boats t_here_cutA t_here_cutB t_here_cutHard t_here_boatAt t_here_boatPull t_here_boatWear t_here_onward t_here_onwardHard o_t_fleet_row o_t_past_next o_t_past_count t_past_shelf_slots o_t_past_shelf_rows) [.ref (a_t 0), .int y1] r0) := by
  intro sz
  refine Met.ofW (cc := cX11_turn) (maxL := 3) (ret := (some .int)) (by decide) rfl ?_
  intro p e s m args below meth c s₁ B hml hv
  obtain ⟨rfl, hsz, hP, hK, hD0⟩ := hv
  have hx := B.exec
  have hb := B.bytes
  have hr := B.returns
  have hts := atoms_spec (ws := wsX11_turn) B.pre
  have hown : s.vm.findClass RX11 = some m.cls := findClass_of_methodNamed B.named
  have hlocks := B.notSynchronized
  subst hsz
  have hD := hD0.self (sz := s.heap.size)
  have hA : ∀ q : Nat, s.heap.size ≤ q → va_A (wd_tTb9 cI cZ a_t a_t_reader a_t_here a_t_spare a_t_fleet a_t_past a_t_past_shelf a_t_images a_t_draws a_t_seen a_t_book a_t_way a_t_bands a_t_exchange (a_t_here 0) (a_t_spare 0) t_lettersFed t_faultAt t_here_junctions t_here_cuts t_here_boats t_here_cutA t_here_cutB t_here_cutHard t_here_boatAt t_here_boatPull t_here_boatWear t_here_onward t_here_onwardHard i_t_fleet_row i_t_past_next i_t_past_count t_past_shelf_slots i_t_past_shelf_rows) s.heap.size q := fun q h => Or.inr h
  have hS : va_S (va_A (wd_tTb9 cI cZ a_t a_t_reader a_t_here a_t_spare a_t_fleet a_t_past a_t_past_shelf a_t_images a_t_draws a_t_seen a_t_book a_t_way a_t_bands a_t_exchange (a_t_here 0) (a_t_spare 0) t_lettersFed t_faultAt t_here_junctions t_here_cuts t_here_boats t_here_cutA t_here_cutB t_here_cutHard t_here_boatAt t_here_boatPull t_here_boatWear t_here_onward t_here_onwardHard i_t_fleet_row i_t_past_next i_t_past_count t_past_shelf_slots i_t_past_shelf_rows) s.heap.size) s.heap s.heap [] := va_S.rf
  have hin11 : ∀ w ∈ u_ws RX11 TX11 16, w ∈ wsX11_turn := fun w h => List.mem_cons_of_mem _ (List.mem_append_left _ (List.mem_append_left _ (List.mem_append_left _ (List.mem_append_left _ (List.mem_append_right _ h)))))
  have hl := lv_entry ([.ref (a_t 0), .int y1]) (n := 3) (Nat.le_of_ble_eq_true rfl)
  rw [lg_entry_eq]
  generalize (lg_sl ([.ref (a_t 0), .int y1]) ++ List.replicate (3 - (lg_sl ([.ref (a_t 0), .int y1])).length) Slot.unset).toArray = ls at hl ⊢
  have hl : lv_has ls 3 [(0, .ref (a_t 0)), (1, .int y1)] := hl
  unfold m_Tb_turn at h
  refine lv_aload_n hx hb dX11_turn_0 rfl (lv_at hl 0 rfl) ?_
  refine va_get (D := (dC, dI)) (ci := 11) (v := .ref (a_t_here 0)) (C := RX11) (T := TX11) (N := 16) hx hb hts hin11 hown hK hP 0 rfl rfl 4 (by decide) (hts (.fieldLink RX11 30 "TowedBack" "here" "LTowedBack$Water;") (List.mem_of_getElem? (i := 1) rfl)) (fun _ h9 => h9) rfl dX11_turn_1 ?_
  refine lv_iload_n hx hb dX11_turn_4 rfl (lv_at hl 1 rfl) ?_
  obtain ⟨r1, hc1, h⟩ := kb1_some h
  refine k_RVi (rest := []) (As := [.int y1]) ⟨hx, hb, hml, hown, hts⟩ (c_Water_hasBoat l dC dI cI cZ a_t_here t_here_junctions t_here_cuts t_here_boats t_here_cutA t_here_cutB t_here_cutHard t_here_boatAt t_here_boatPull t_here_boatWear t_here_onward t_here_onwardHard y1 r1 hc1) (cwV 1 hts gX11_turn_X9_hasBoat rfl rfl rfl hd_9_hasBoat ⟨Nat.le_of_ble_eq_true rfl, Nat.le_of_ble_eq_true rfl⟩) hK hP hD hS hA [1, 2, 3, 4, 5, 6, 7, 8, 9] rfl (by decide +kernel) 1 9 rfl rfl rfl rfl hl.1 rfl (Nat.le_of_ble_eq_true rfl) dX11_turn_5 ⟨Nat.zero_le _, Nat.zero_le _⟩ (fun H locs hP hD hS => ?_)
  refine lv_if_ne (tgt := 14) hx hb dX11_turn_8 (by decide) (fun hc => ?_) (fun hc => ?_)
  · have h := k_neg hc h
    refine lv_aload_n hx hb dX11_turn_14 rfl (lv_at hl 0 rfl) ?_
    refine va_get (D := (dC, dI)) (ci := 11) (v := .ref (a_t_past 0)) (C := RX11) (T := TX11) (N := 16) hx hb hts hin11 hown hK hP 0 rfl rfl 8 (by decide) (hts (.fieldLink RX11 50 "TowedBack" "past" "LTowedBack$Past;") (List.mem_of_getElem? (i := 3) rfl)) (fun _ h9 => h9) rfl dX11_turn_15 ?_
    refine lv_aload_n hx hb dX11_turn_18 rfl (lv_at hl 0 rfl) ?_
    refine va_get (D := (dC, dI)) (ci := 11) (v := .ref (a_t_fleet 0)) (C := RX11) (T := TX11) (N := 16) hx hb hts hin11 hown hK hP 0 rfl rfl 6 (by decide) (hts (.fieldLink RX11 40 "TowedBack" "fleet" "LTowedBack$Fleet;") (List.mem_of_getElem? (i := 4) rfl)) (fun _ h9 => h9) rfl dX11_turn_19 ?_
    obtain ⟨t_past_next_2, t_past_count_2, t_past_shelf_rows_2, hc2, h⟩ := kb3_some h
    refine k_GVv (rest := []) (As := [.ref (a_t_fleet 0)]) (ws' := (wd_tTb9 cI cZ a_t a_t_reader a_t_here a_t_spare a_t_fleet a_t_past a_t_past_shelf a_t_images a_t_draws a_t_seen a_t_book a_t_way a_t_bands a_t_exchange (a_t_here 0) (a_t_spare 0) t_lettersFed t_faultAt t_here_junctions t_here_cuts t_here_boats t_here_cutA t_here_cutB t_here_cutHard t_here_boatAt t_here_boatPull t_here_boatWear t_here_onward t_here_onwardHard i_t_fleet_row t_past_next_2 t_past_count_2 t_past_shelf_slots t_past_shelf_rows_2)) ⟨hx, hb, hml, hown, hts⟩ (c_Past_remember l dC dI cI cZ a_t_past a_t_past_shelf a_t_fleet i_t_past_next i_t_past_count 420 t_past_shelf_slots i_t_past_shelf_rows i_t_fleet_row t_past_next_2 t_past_count_2 t_past_shelf_rows_2 hc2) (cwV 1 hts gX11_turn_X6_remember rfl rfl rfl hd_6_remember ⟨Nat.le_of_ble_eq_true rfl, Nat.le_of_ble_eq_true rfl⟩) hK hP hD hS hA [12, 13, 14, 10, 11] rfl (by decide +kernel) 12 6 rfl rfl rfl [0, 1, 2, 3, 4, 5, 6, 7, 8, 9] rfl (k_allc rfl rfl (k_allc rfl rfl (k_allc rfl rfl (k_allc rfl rfl (k_allc rfl rfl (k_allc rfl rfl (k_allc rfl rfl (k_allc rfl rfl (k_allc rfl rfl (k_allc rfl rfl k_alln)))))))))) 15 rfl (by decide +kernel) (wd_tTb9_f.trans wd_tTb9_f.symm) rfl hl.1 rfl (Nat.le_of_ble_eq_true rfl) dX11_turn_22 ⟨Nat.zero_le _, Nat.zero_le _⟩ (fun H locs hP hD hS => ?_)
    refine lv_aload_n hx hb dX11_turn_25 rfl (lv_at hl 0 rfl) ?_
    refine va_get (D := (dC, dI)) (ci := 11) (v := .ref (a_t_fleet 0)) (C := RX11) (T := TX11) (N := 16) hx hb hts hin11 hown hK hP 0 rfl rfl 6 (by decide) (hts (.fieldLink RX11 40 "TowedBack" "fleet" "LTowedBack$Fleet;") (List.mem_of_getElem? (i := 4) rfl)) (fun _ h9 => h9) rfl dX11_turn_26 ?_
    refine lv_iload_n hx hb dX11_turn_29 rfl (lv_at hl 1 rfl) ?_
    obtain ⟨r3, hc3, h⟩ := kb1_some h
    refine k_RVi (rest := []) (As := [.int y1]) ⟨hx, hb, hml, hown, hts⟩ (c_Fleet_from l dC dI cI cZ a_t_fleet i_t_fleet_row y1 r3 hc3) (cwV 1 hts gX11_turn_X4_from rfl rfl rfl hd_4_from ⟨Nat.le_of_ble_eq_true rfl, Nat.le_of_ble_eq_true rfl⟩) hK hP hD hS hA [10, 11] rfl (by decide +kernel) 10 4 rfl rfl rfl rfl hl.1 rfl (Nat.le_of_ble_eq_true rfl) dX11_turn_30 ⟨Nat.zero_le _, Nat.zero_le _⟩ (fun H locs hP hD hS => ?_)
    refine lv_istore_n (lv' := [(2, .int r3), (0, .ref (a_t 0)), (1, .int y1)]) hx hb dX11_turn_33 rfl hl (by decide) rfl (fun ls hl => ?_)
    refine lv_aload_n hx hb dX11_turn_34 rfl (lv_at hl 1 rfl) ?_
    refine va_get (D := (dC, dI)) (ci := 11) (v := .ref (a_t_fleet 0)) (C := RX11) (T := TX11) (N := 16) hx hb hts hin11 hown hK hP 0 rfl rfl 6 (by decide) (hts (.fieldLink RX11 40 "TowedBack" "fleet" "LTowedBack$Fleet;") (List.mem_of_getElem? (i := 4) rfl)) (fun _ h9 => h9) rfl dX11_turn_35 ?_
    refine lv_iload_n hx hb dX11_turn_38 rfl (lv_at hl 2 rfl) ?_
    obtain ⟨t_fleet_row_4, hc4, h⟩ := kb1_some h
    refine k_GVv (rest := []) (As := [.int y1]) (ws' := (wd_tTb9 cI cZ a_t a_t_reader a_t_here a_t_spare a_t_fleet a_t_past a_t_past_shelf a_t_images a_t_draws a_t_seen a_t_book a_t_way a_t_bands a_t_exchange (a_t_here 0) (a_t_spare 0) t_lettersFed t_faultAt t_here_junctions t_here_cuts t_here_boats t_here_cutA t_here_cutB t_here_cutHard t_here_boatAt t_here_boatPull t_here_boatWear t_here_onward t_here_onwardHard t_fleet_row_4 t_past_next_2 t_past_count_2 t_past_shelf_slots t_past_shelf_rows_2)) ⟨hx, hb, hml, hown, hts⟩ (c_Fleet_comeFromNowhere l dC dI cI cZ a_t_fleet i_t_fleet_row y1 t_fleet_row_4 hc4) (cwV 1 hts gX11_turn_X4_comeFromNowhere rfl rfl rfl hd_4_comeFromNowhere ⟨Nat.le_of_ble_eq_true rfl, Nat.le_of_ble_eq_true rfl⟩) hK hP hD hS hA [10, 11] rfl (by decide +kernel) 10 4 rfl rfl rfl [0, 1, 2, 3, 4, 5, 6, 7, 8, 9, 12, 13, 14] rfl (k_allc rfl rfl (k_allc rfl rfl (k_allc rfl rfl (k_allc rfl rfl (k_allc rfl rfl (k_allc rfl rfl (k_allc rfl rfl (k_allc rfl rfl (k_allc rfl rfl (k_allc rfl rfl (k_allc rfl rfl (k_allc rfl rfl (k_allc rfl rfl k_alln))))))))))))) 15 rfl (by decide +kernel) (wd_tTb9_f.trans wd_tTb9_f.symm) rfl hl.1 rfl (Nat.le_of_ble_eq_true rfl) dX11_turn_39 ⟨Nat.zero_le _, Nat.zero_le _⟩ (fun H locs hP hD hS => ?_)
    refine lv_iload_n hx hb dX11_turn_42 rfl (lv_at hl 0 rfl) ?_
    obtain ⟨rfl, rfl, rfl, rfl, rfl⟩ := k_in5 h
    exact k_ri hx hb hr hlocks hP hS dX11_turn_43
  · have h := k_pos hc h
    refine lv_ldc (v := (-1000000001)) hx hb hown (hts (.constant RX11 145 (-1000000001)) (List.mem_of_getElem? (i := 2) rfl)) dX11_turn_11 ?_
    obtain ⟨rfl, rfl, rfl, rfl, rfl⟩ := k_in5 h
    exact k_ri hx hb hr hlocks hP hS dX11_turn_13
