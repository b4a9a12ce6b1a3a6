set_option maxHeartbeats 4000000 in
set_option maxRecDepth 100000 in
theorem c_Tb_cut (l : Launch) (dC : Nat → ClassId) (dI : Nat → Nat → Nat) (cI cZ : ClassId) (a_t a_t_reader a_t_here a_t_spare a_t_fleet a_t_past a_t_images a_t_draws a_t_seen a_t_book a_t_way a_t_bands a_t_exchange : Nat → Nat) (t_lettersFed : Int32) (t_faultAt : Int32) (t_here_junctions : Int32) (t_here_cuts : Int32) (t_here_boats : Int32) (t_here_cutA : Nat → Int32) (t_here_cutB : Nat → Int32) (t_here_cutHard : Nat → Int32) (t_here_boatAt : Nat → Int32) (t_here_boatPull : Nat → Int32) (t_here_boatWear : Nat → Int32) (t_here_onward : Nat → Int32) (t_here_onwardHard : Nat → Int32) (y1 : Int32) (y2 : Int32) (r0 : Int32) (h : m_Tb_cut y1 y2 t_here_cuts t_here_cutA t_here_cutB t_here_cutHard = some r0) : (MI l yX11_cut wsX11_cut ({ frames := 1, cells := 0, slots := 0, locals := 21 }) (dC, dI) [(cI, .int), (cZ, .boolean)] (wd_tTb6 cI cZ a_t a_t_reader a_t_here a_t_spare a_t_fleet a_t_past a_t_images a_t_draws a_t_seen a_t_book a_t_way a_t_bands a_t_exchange (a_t_here 0) (a_t_spare 0) t_lettersFed t_faultAt t_here_junctions t_here_cuts t_here_boats t_here_cutA t_here_cutB t_here_cutHard t_here_boatAt t_here_boatPull t_here_boatWear t_here_onward t_here_onwardHard) (wd_tTb6 cI cZ a_t a_t_reader a_t_here a_t_spare a_t_fleet a_t_past a_t_images a_t_draws a_t_seen a_t_book a_t_way a_t_bands a_t_exchange (a_t_here 0) (a_t_spare 0) t_lettersFed t_faultAt t_here_junctions t_here_cuts t_here_boats t_here_cutA t_here_cutB t_here_cutHard t_here_boatAt t_here_boatPull t_here_boatWear t_here_onward t_here_onwardHard) [.ref (a_t 0), .int y1, .int y2] r0) := by
  intro sz
  refine Met.ofW (cc := cX11_cut) (maxL := 3) (ret := (some .int)) (by decide) rfl ?_
  intro p e s m args below meth c s₁ B hml hv
  obtain ⟨rfl, hsz, hP, hK, hD0⟩ := hv
  have hx := B.exec
  have hb := B.bytes
  have hr := B.returns
  have hts := atoms_spec (ws := wsX11_cut) B.pre
  have hown : s.vm.findClass RX11 = some m.cls := findClass_of_methodNamed B.named
  have hlocks := B.notSynchronized
  subst hsz
  have hD := hD0.self (sz := s.heap.size)
  have hA : ∀ q : Nat, s.heap.size ≤ q → va_A (wd_tTb6 cI cZ a_t a_t_reader a_t_here a_t_spare a_t_fleet a_t_past a_t_images a_t_draws a_t_seen a_t_book a_t_way a_t_bands a_t_exchange (a_t_here 0) (a_t_spare 0) t_lettersFed t_faultAt t_here_junctions t_here_cuts t_here_boats t_here_cutA t_here_cutB t_here_cutHard t_here_boatAt t_here_boatPull t_here_boatWear t_here_onward t_here_onwardHard) s.heap.size q := fun q h => Or.inr h
  have hS : va_S (va_A (wd_tTb6 cI cZ a_t a_t_reader a_t_here a_t_spare a_t_fleet a_t_past a_t_images a_t_draws a_t_seen a_t_book a_t_way a_t_bands a_t_exchange (a_t_here 0) (a_t_spare 0) t_lettersFed t_faultAt t_here_junctions t_here_cuts t_here_boats t_here_cutA t_here_cutB t_here_cutHard t_here_boatAt t_here_boatPull t_here_boatWear t_here_onward t_here_onwardHard) s.heap.size) s.heap s.heap [] := va_S.rf
  have hin9 : ∀ w ∈ u_ws RX9 TX9 11, w ∈ wsX11_cut := fun w h => List.mem_cons_of_mem _ (List.mem_append_right _ h)
  have hin11 : ∀ w ∈ u_ws RX11 TX11 16, w ∈ wsX11_cut := fun w h => List.mem_cons_of_mem _ (List.mem_append_left _ (List.mem_append_right _ h))
  have hl := lv_entry ([.ref (a_t 0), .int y1, .int y2]) (n := 3) (Nat.le_of_ble_eq_true rfl)
  rw [lg_entry_eq]
  generalize (lg_sl ([.ref (a_t 0), .int y1, .int y2]) ++ List.replicate (3 - (lg_sl ([.ref (a_t 0), .int y1, .int y2])).length) Slot.unset).toArray = ls at hl ⊢
  have hl : lv_has ls 3 [(0, .ref (a_t 0)), (1, .int y1), (2, .int y2)] := hl
  unfold m_Tb_cut at h
  refine lv_aload_n hx hb dX11_cut_0 rfl (lv_at hl 0 rfl) ?_
  refine va_get (D := (dC, dI)) (ci := 11) (v := .ref (a_t_here 0)) (C := RX11) (T := TX11) (N := 16) hx hb hts hin11 hown hK hP 0 rfl rfl 4 (by decide) (hts (.fieldLink RX11 30 "TowedBack" "here" "LTowedBack$Water;") (List.mem_of_getElem? (i := 1) rfl)) (fun _ h9 => h9) rfl dX11_cut_1 ?_
  refine lv_iload_n hx hb dX11_cut_4 rfl (lv_at hl 1 rfl) ?_
  obtain ⟨r1, hc1, h⟩ := kb1_some h
  refine k_RVi (rest := []) (As := [.int y1]) ⟨hx, hb, hml, hown, hts⟩ (c_Water_hasCut l dC dI cI cZ a_t_here t_here_junctions t_here_cuts t_here_boats t_here_cutA t_here_cutB t_here_cutHard t_here_boatAt t_here_boatPull t_here_boatWear t_here_onward t_here_onwardHard y1 r1 hc1) (cwV 1 hts gX11_cut_X9_hasCut rfl rfl rfl hd_9_hasCut ⟨Nat.le_of_ble_eq_true rfl, Nat.le_of_ble_eq_true rfl⟩) hK hP hD hS hA [1, 2, 3, 4, 5, 6, 7, 8, 9] rfl (by decide +kernel) 1 9 rfl rfl rfl rfl hl.1 rfl (Nat.le_of_ble_eq_true rfl) dX11_cut_5 ⟨Nat.zero_le _, Nat.zero_le _⟩ (fun H locs hP hD hS => ?_)
  refine lv_if_ne (tgt := 14) hx hb dX11_cut_8 (by decide) (fun hc => ?_) (fun hc => ?_)
  · have h := k_neg hc h
    refine lv_iload_n hx hb dX11_cut_14 rfl (lv_at hl 2 rfl) ?_
    by_cases hc0 : y2 = 0
    · have h := k_pos hc0 h
      refine lv_tableIn (off := 25) (tgt := 40) hx hb dX11_cut_15 (by rw [hc0]; decide) (by rw [hc0]; decide) (by rw [hc0]; decide) (by decide) ?_
      refine lv_aload_n hx hb dX11_cut_40 rfl (lv_at hl 0 rfl) ?_
      refine va_get (D := (dC, dI)) (ci := 11) (v := .ref (a_t_here 0)) (C := RX11) (T := TX11) (N := 16) hx hb hts hin11 hown hK hP 0 rfl rfl 4 (by decide) (hts (.fieldLink RX11 30 "TowedBack" "here" "LTowedBack$Water;") (List.mem_of_getElem? (i := 1) rfl)) (fun _ h9 => h9) rfl dX11_cut_41 ?_
      refine va_get (D := (dC, dI)) (ci := 9) (v := .ref (a_t_here 1)) (C := RX9) (T := TX9) (N := 11) hx hb hts hin9 hown hK hP 1 rfl rfl 3 (by decide) (hts (.fieldLink RX11 146 "TowedBack$Water" "cutA" "[I") (List.mem_of_getElem? (i := 3) rfl)) (fun _ h9 => h9) rfl dX11_cut_44 ?_
      refine lv_iload_n hx hb dX11_cut_47 rfl (lv_at hl 1 rfl) ?_
      obtain ⟨hi2, h⟩ := kg_some h
      refine va_iald hx hb hK hP 2 0 rfl rfl hi2 dX11_cut_48 ?_
      obtain rfl := k_in1 h
      exact k_ri hx hb hr hlocks hP hS dX11_cut_49
    have h := k_neg hc0 h
    by_cases hc1 : y2 = 1
    · have h := k_pos hc1 h
      refine lv_tableIn (off := 35) (tgt := 50) hx hb dX11_cut_15 (by rw [hc1]; decide) (by rw [hc1]; decide) (by rw [hc1]; decide) (by decide) ?_
      refine lv_aload_n hx hb dX11_cut_50 rfl (lv_at hl 0 rfl) ?_
      refine va_get (D := (dC, dI)) (ci := 11) (v := .ref (a_t_here 0)) (C := RX11) (T := TX11) (N := 16) hx hb hts hin11 hown hK hP 0 rfl rfl 4 (by decide) (hts (.fieldLink RX11 30 "TowedBack" "here" "LTowedBack$Water;") (List.mem_of_getElem? (i := 1) rfl)) (fun _ h9 => h9) rfl dX11_cut_51 ?_
      refine va_get (D := (dC, dI)) (ci := 9) (v := .ref (a_t_here 2)) (C := RX9) (T := TX9) (N := 11) hx hb hts hin9 hown hK hP 1 rfl rfl 4 (by decide) (hts (.fieldLink RX11 149 "TowedBack$Water" "cutB" "[I") (List.mem_of_getElem? (i := 4) rfl)) (fun _ h9 => h9) rfl dX11_cut_54 ?_
      refine lv_iload_n hx hb dX11_cut_57 rfl (lv_at hl 1 rfl) ?_
      obtain ⟨hi3, h⟩ := kg_some h
      refine va_iald hx hb hK hP 3 0 rfl rfl hi3 dX11_cut_58 ?_
      obtain rfl := k_in1 h
      exact k_ri hx hb hr hlocks hP hS dX11_cut_59
    have h := k_neg hc1 h
    by_cases hc2 : y2 = 2
    · have h := k_pos hc2 h
      refine lv_tableIn (off := 45) (tgt := 60) hx hb dX11_cut_15 (by rw [hc2]; decide) (by rw [hc2]; decide) (by rw [hc2]; decide) (by decide) ?_
      refine lv_aload_n hx hb dX11_cut_60 rfl (lv_at hl 0 rfl) ?_
      refine va_get (D := (dC, dI)) (ci := 11) (v := .ref (a_t_here 0)) (C := RX11) (T := TX11) (N := 16) hx hb hts hin11 hown hK hP 0 rfl rfl 4 (by decide) (hts (.fieldLink RX11 30 "TowedBack" "here" "LTowedBack$Water;") (List.mem_of_getElem? (i := 1) rfl)) (fun _ h9 => h9) rfl dX11_cut_61 ?_
      refine va_get (D := (dC, dI)) (ci := 9) (v := .ref (a_t_here 3)) (C := RX9) (T := TX9) (N := 11) hx hb hts hin9 hown hK hP 1 rfl rfl 5 (by decide) (hts (.fieldLink RX11 152 "TowedBack$Water" "cutHard" "[I") (List.mem_of_getElem? (i := 5) rfl)) (fun _ h9 => h9) rfl dX11_cut_64 ?_
      refine lv_iload_n hx hb dX11_cut_67 rfl (lv_at hl 1 rfl) ?_
      obtain ⟨hi4, h⟩ := kg_some h
      refine va_iald hx hb hK hP 4 0 rfl rfl hi4 dX11_cut_68 ?_
      obtain rfl := k_in1 h
      exact k_ri hx hb hr hlocks hP hS dX11_cut_69
    have h := k_neg hc2 h
    refine lv_tableOut (tgt := 70) hx hb dX11_cut_15 (k_sw2 hc0 hc1 hc2) (by decide) ?_
    refine lv_ldc (v := (-1000000002)) hx hb hown (hts (.constant RX11 104 (-1000000002)) (List.mem_of_getElem? (i := 6) rfl)) dX11_cut_70 ?_
    obtain rfl := k_in1 h
    exact k_ri hx hb hr hlocks hP hS dX11_cut_72
  · have h := k_pos hc h
    refine lv_ldc (v := (-1000000001)) hx hb hown (hts (.constant RX11 145 (-1000000001)) (List.mem_of_getElem? (i := 2) rfl)) dX11_cut_11 ?_
    obtain rfl := k_in1 h
    exact k_ri hx hb hr hlocks hP hS dX11_cut_13
set_option maxHeartbeats 4000000 in
set_option maxRecDepth 100000 in
theorem c_Tb_boat (l : Launch) (dC : Nat → ClassId) (dI : Nat → Nat → Nat) (cI cZ : ClassId) (a_t a_t_reader a_t_here a_t_spare a_t_fleet a_t_past a_t_images a_t_draws a_t_seen a_t_book a_t_way a_t_bands a_t_exchange : Nat → Nat) (t_lettersFed : Int32) (t_faultAt : Int32) (t_quays : Nat → Int32) (t_here_junctions : Int32) (t_here_cuts : Int32) (t_here_boats : Int32) (t_here_cutA : Nat → Int32) (t_here_cutB : Nat → Int32) (t_here_cutHard : Nat → Int32) (t_here_boatAt : Nat → Int32) (t_here_boatPull : Nat → Int32) (t_here_boatWear : Nat → Int32) (t_here_onward : Nat → Int32) (t_here_onwardHard : Nat → Int32) (t_fleet_row : Nat → Int32) (y1 : Int32) (y2 : Int32) (r0 : Int32) (h : m_Tb_boat y1 y2 t_quays t_here_boats t_here_boatWear t_fleet_row = some r0) : (MI l yX11_boat wsX11_boat ({ frames := 2, cells := 0, slots := 0, locals := 43 }) (dC, dI) [(cI, .int), (cZ, .boolean)] (wd_tTb7 cI cZ a_t a_t_reader a_t_here a_t_spare a_t_fleet a_t_past a_t_images a_t_draws a_t_seen a_t_book a_t_way a_t_bands a_t_exchange (a_t_here 0) (a_t_spare 0) t_lettersFed t_faultAt t_quays t_here_junctions t_here_cuts t_here_boats t_here_cutA t_here_cutB t_here_cutHard t_here_boatAt t_here_boatPull t_here_boatWear t_here_onward t_here_onwardHard t_fleet_row) (wd_tTb7 cI cZ a_t a_t_reader a_t_here a_t_spare a_t_fleet a_t_past a_t_images a_t_draws a_t_seen a_t_book a_t_way a_t_bands a_t_exchange (a_t_here 0) (a_t_spare 0) t_lettersFed t_faultAt t_quays t_here_junctions t_here_cuts t_here_boats t_here_cutA t_here_cutB t_here_cutHard t_here_boatAt t_here_boatPull t_here_boatWear t_here_onward t_here_onwardHard t_fleet_row) [.ref (a_t 0), .int y1, .int y2] r0) := by
  intro sz
  refine Met.ofW (cc := cX11_boat) (maxL := 3) (ret := (some .int)) (by decide) rfl ?_
  intro p e s m args below meth c s₁ B hml hv
  obtain ⟨rfl, hsz, hP, hK, hD0⟩ := hv
  have hx := B.exec
  have hb := B.bytes
  have hr := B.returns
  have hts := atoms_spec (ws := wsX11_boat) B.pre
  have hown : s.vm.findClass RX11 = some m.cls := findClass_of_methodNamed B.named
  have hlocks := B.notSynchronized
  subst hsz
  have hD := hD0.self (sz := s.heap.size)
  have hA : ∀ q : Nat, s.heap.size ≤ q → va_A (wd_tTb7 cI cZ a_t a_t_reader a_t_here a_t_spare a_t_fleet a_t_past a_t_images a_t_draws a_t_seen a_t_book a_t_way a_t_bands a_t_exchange (a_t_here 0) (a_t_spare 0) t_lettersFed t_faultAt t_quays t_here_junctions t_here_cuts t_here_boats t_here_cutA t_here_cutB t_here_cutHard t_here_boatAt t_here_boatPull t_here_boatWear t_here_onward t_here_onwardHard t_fleet_row) s.heap.size q := fun q h => Or.inr h
  have hS : va_S (va_A (wd_tTb7 cI cZ a_t a_t_reader a_t_here a_t_spare a_t_fleet a_t_past a_t_images a_t_draws a_t_seen a_t_book a_t_way a_t_bands a_t_exchange (a_t_here 0) (a_t_spare 0) t_lettersFed t_faultAt t_quays t_here_junctions t_here_cuts t_here_boats t_here_cutA t_here_cutB t_here_cutHard t_here_boatAt t_here_boatPull t_here_boatWear t_here_onward t_here_onwardHard t_fleet_row) s.heap.size) s.heap s.heap [] := va_S.rf
  have hin11 : ∀ w ∈ u_ws RX11 TX11 16, w ∈ wsX11_boat := fun w h => List.mem_cons_of_mem _ (List.mem_append_left _ (List.mem_append_left _ (List.mem_append_right _ h)))
  have hl := lv_entry ([.ref (a_t 0), .int y1, .int y2]) (n := 3) (Nat.le_of_ble_eq_true rfl)
  rw [lg_entry_eq]
  generalize (lg_sl ([.ref (a_t 0), .int y1, .int y2]) ++ List.replicate (3 - (lg_sl ([.ref (a_t 0), .int y1, .int y2])).length) Slot.unset).toArray = ls at hl ⊢
  have hl : lv_has ls 3 [(0, .ref (a_t 0)), (1, .int y1), (2, .int y2)] := hl
  unfold m_Tb_boat at h
  refine lv_aload_n hx hb dX11_boat_0 rfl (lv_at hl 0 rfl) ?_
  refine va_get (D := (dC, dI)) (ci := 11) (v := .ref (a_t_here 0)) (C := RX11) (T := TX11) (N := 16) hx hb hts hin11 hown hK hP 0 rfl rfl 4 (by decide) (hts (.fieldLink RX11 30 "TowedBack" "here" "LTowedBack$Water;") (List.mem_of_getElem? (i := 1) rfl)) (fun _ h9 => h9) rfl dX11_boat_1 ?_
  refine lv_iload_n hx hb dX11_boat_4 rfl (lv_at hl 1 rfl) ?_
  obtain ⟨r1, hc1, h⟩ := kb1_some h
  refine k_RVi (rest := []) (As := [.int y1]) ⟨hx, hb, hml, hown, hts⟩ (c_Water_hasBoat l dC dI cI cZ a_t_here t_here_junctions t_here_cuts t_here_boats t_here_cutA t_here_cutB t_here_cutHard t_here_boatAt t_here_boatPull t_here_boatWear t_here_onward t_here_onwardHard y1 r1 hc1) (cwV 1 hts gX11_boat_X9_hasBoat rfl rfl rfl hd_9_hasBoat ⟨Nat.le_of_ble_eq_true rfl, Nat.le_of_ble_eq_true rfl⟩) hK hP hD hS hA [2, 3, 4, 5, 6, 7, 8, 9, 10] rfl (by decide +kernel) 2 9 rfl rfl rfl rfl hl.1 rfl (Nat.le_of_ble_eq_true rfl) dX11_boat_5 ⟨Nat.zero_le _, Nat.zero_le _⟩ (fun H locs hP hD hS => ?_)
  refine lv_if_ne (tgt := 14) hx hb dX11_boat_8 (by decide) (fun hc => ?_) (fun hc => ?_)
  · have h := k_neg hc h
    refine lv_iload_n hx hb dX11_boat_14 rfl (lv_at hl 2 rfl) ?_
    by_cases hc0 : y2 = 0
    · have h := k_pos hc0 h
      refine lv_tableIn (off := 37) (tgt := 52) hx hb dX11_boat_15 (by rw [hc0]; decide) (by rw [hc0]; decide) (by rw [hc0]; decide) (by decide) ?_
      refine lv_aload_n hx hb dX11_boat_52 rfl (lv_at hl 0 rfl) ?_
      refine va_get (D := (dC, dI)) (ci := 11) (v := .ref (a_t_fleet 0)) (C := RX11) (T := TX11) (N := 16) hx hb hts hin11 hown hK hP 0 rfl rfl 6 (by decide) (hts (.fieldLink RX11 40 "TowedBack" "fleet" "LTowedBack$Fleet;") (List.mem_of_getElem? (i := 3) rfl)) (fun _ h9 => h9) rfl dX11_boat_53 ?_
      refine lv_iload_n hx hb dX11_boat_56 rfl (lv_at hl 1 rfl) ?_
      obtain ⟨r2, hc2, h⟩ := kb1_some h
      refine k_RVi (rest := []) (As := [.int y1]) ⟨hx, hb, hml, hown, hts⟩ (c_Fleet_at l dC dI cI cZ a_t_fleet t_fleet_row y1 r2 hc2) (cwV 1 hts gX11_boat_X4_at rfl rfl rfl hd_4_at ⟨Nat.le_of_ble_eq_true rfl, Nat.le_of_ble_eq_true rfl⟩) hK hP hD hS hA [11, 12] rfl (by decide +kernel) 11 4 rfl rfl rfl rfl hl.1 rfl (Nat.le_of_ble_eq_true rfl) dX11_boat_57 ⟨Nat.zero_le _, Nat.zero_le _⟩ (fun H locs hP hD hS => ?_)
      obtain rfl := k_in1 h
      exact k_ri hx hb hr hlocks hP hS dX11_boat_60
    have h := k_neg hc0 h
    by_cases hc1 : y2 = 1
    · have h := k_pos hc1 h
      refine lv_tableIn (off := 46) (tgt := 61) hx hb dX11_boat_15 (by rw [hc1]; decide) (by rw [hc1]; decide) (by rw [hc1]; decide) (by decide) ?_
      refine lv_aload_n hx hb dX11_boat_61 rfl (lv_at hl 0 rfl) ?_
      refine va_get (D := (dC, dI)) (ci := 11) (v := .ref (a_t_fleet 0)) (C := RX11) (T := TX11) (N := 16) hx hb hts hin11 hown hK hP 0 rfl rfl 6 (by decide) (hts (.fieldLink RX11 40 "TowedBack" "fleet" "LTowedBack$Fleet;") (List.mem_of_getElem? (i := 3) rfl)) (fun _ h9 => h9) rfl dX11_boat_62 ?_
      refine lv_iload_n hx hb dX11_boat_65 rfl (lv_at hl 1 rfl) ?_
      obtain ⟨r3, hc3, h⟩ := kb1_some h
      refine k_RVi (rest := []) (As := [.int y1]) ⟨hx, hb, hml, hown, hts⟩ (c_Fleet_from l dC dI cI cZ a_t_fleet t_fleet_row y1 r3 hc3) (cwV 1 hts gX11_boat_X4_from rfl rfl rfl hd_4_from ⟨Nat.le_of_ble_eq_true rfl, Nat.le_of_ble_eq_true rfl⟩) hK hP hD hS hA [11, 12] rfl (by decide +kernel) 11 4 rfl rfl rfl rfl hl.1 rfl (Nat.le_of_ble_eq_true rfl) dX11_boat_66 ⟨Nat.zero_le _, Nat.zero_le _⟩ (fun H locs hP hD hS => ?_)
      obtain rfl := k_in1 h
      exact k_ri hx hb hr hlocks hP hS dX11_boat_69
    have h := k_neg hc1 h
    by_cases hc2 : y2 = 2
    · have h := k_pos hc2 h
      refine lv_tableIn (off := 55) (tgt := 70) hx hb dX11_boat_15 (by rw [hc2]; decide) (by rw [hc2]; decide) (by rw [hc2]; decide) (by decide) ?_
      refine lv_aload_n hx hb dX11_boat_70 rfl (lv_at hl 0 rfl) ?_
      refine va_get (D := (dC, dI)) (ci := 11) (v := .ref (a_t_fleet 0)) (C := RX11) (T := TX11) (N := 16) hx hb hts hin11 hown hK hP 0 rfl rfl 6 (by decide) (hts (.fieldLink RX11 40 "TowedBack" "fleet" "LTowedBack$Fleet;") (List.mem_of_getElem? (i := 3) rfl)) (fun _ h9 => h9) rfl dX11_boat_71 ?_
      refine lv_iload_n hx hb dX11_boat_74 rfl (lv_at hl 1 rfl) ?_
      obtain ⟨r4, hc4, h⟩ := kb1_some h
      refine k_RVi (rest := []) (As := [.int y1]) ⟨hx, hb, hml, hown, hts⟩ (c_Fleet_pull l dC dI cI cZ a_t_fleet t_fleet_row y1 r4 hc4) (cwV 1 hts gX11_boat_X4_pull rfl rfl rfl hd_4_pull ⟨Nat.le_of_ble_eq_true rfl, Nat.le_of_ble_eq_true rfl⟩) hK hP hD hS hA [11, 12] rfl (by decide +kernel) 11 4 rfl rfl rfl rfl hl.1 rfl (Nat.le_of_ble_eq_true rfl) dX11_boat_75 ⟨Nat.zero_le _, Nat.zero_le _⟩ (fun H locs hP hD hS => ?_)
      obtain rfl := k_in1 h
      exact k_ri hx hb hr hlocks hP hS dX11_boat_78
    have h := k_neg hc2 h
    by_cases hc3 : y2 = 3
    · have h := k_pos hc3 h
      refine lv_tableIn (off := 64) (tgt := 79) hx hb dX11_boat_15 (by rw [hc3]; decide) (by rw [hc3]; decide) (by rw [hc3]; decide) (by decide) ?_
      refine lv_aload_n hx hb dX11_boat_79 rfl (lv_at hl 0 rfl) ?_
      refine va_get (D := (dC, dI)) (ci := 11) (v := .ref (a_t_here 0)) (C := RX11) (T := TX11) (N := 16) hx hb hts hin11 hown hK hP 0 rfl rfl 4 (by decide) (hts (.fieldLink RX11 30 "TowedBack" "here" "LTowedBack$Water;") (List.mem_of_getElem? (i := 1) rfl)) (fun _ h9 => h9) rfl dX11_boat_80 ?_
      refine lv_iload_n hx hb dX11_boat_83 rfl (lv_at hl 1 rfl) ?_
      obtain ⟨r5, hc5, h⟩ := kb1_some h
      refine k_RVi (rest := []) (As := [.int y1]) ⟨hx, hb, hml, hown, hts⟩ (c_Water_wearOf l dC dI cI cZ a_t_here t_here_junctions t_here_cuts t_here_boats t_here_cutA t_here_cutB t_here_cutHard t_here_boatAt t_here_boatPull t_here_boatWear t_here_onward t_here_onwardHard y1 r5 hc5) (cwV 1 hts gX11_boat_X9_wearOf rfl rfl rfl hd_9_wearOf ⟨Nat.le_of_ble_eq_true rfl, Nat.le_of_ble_eq_true rfl⟩) hK hP hD hS hA [2, 3, 4, 5, 6, 7, 8, 9, 10] rfl (by decide +kernel) 2 9 rfl rfl rfl rfl hl.1 rfl (Nat.le_of_ble_eq_true rfl) dX11_boat_84 ⟨Nat.zero_le _, Nat.zero_le _⟩ (fun H locs hP hD hS => ?_)
      obtain rfl := k_in1 h
      exact k_ri hx hb hr hlocks hP hS dX11_boat_87
    have h := k_neg hc3 h
    by_cases hc4 : y2 = 4
    · have h := k_pos hc4 h
      refine lv_tableIn (off := 73) (tgt := 88) hx hb dX11_boat_15 (by rw [hc4]; decide) (by rw [hc4]; decide) (by rw [hc4]; decide) (by decide) ?_
      refine lv_aload_n hx hb dX11_boat_88 rfl (lv_at hl 0 rfl) ?_
      refine va_get (D := (dC, dI)) (ci := 11) (v := .ref (a_t_fleet 0)) (C := RX11) (T := TX11) (N := 16) hx hb hts hin11 hown hK hP 0 rfl rfl 6 (by decide) (hts (.fieldLink RX11 40 "TowedBack" "fleet" "LTowedBack$Fleet;") (List.mem_of_getElem? (i := 3) rfl)) (fun _ h9 => h9) rfl dX11_boat_89 ?_
      refine lv_iload_n hx hb dX11_boat_92 rfl (lv_at hl 1 rfl) ?_
      obtain ⟨r6, hc6, h⟩ := kb1_some h
      refine k_RVi (rest := []) (As := [.int y1]) ⟨hx, hb, hml, hown, hts⟩ (c_Fleet_went l dC dI cI cZ a_t_fleet t_fleet_row y1 r6 hc6) (cwV 1 hts gX11_boat_X4_went rfl rfl rfl hd_4_went ⟨Nat.le_of_ble_eq_true rfl, Nat.le_of_ble_eq_true rfl⟩) hK hP hD hS hA [11, 12] rfl (by decide +kernel) 11 4 rfl rfl rfl rfl hl.1 rfl (Nat.le_of_ble_eq_true rfl) dX11_boat_93 ⟨Nat.zero_le _, Nat.zero_le _⟩ (fun H locs hP hD hS => ?_)
      obtain rfl := k_in1 h
      exact k_ri hx hb hr hlocks hP hS dX11_boat_96
    have h := k_neg hc4 h
    by_cases hc5 : y2 = 5
    · have h := k_pos hc5 h
      refine lv_tableIn (off := 82) (tgt := 97) hx hb dX11_boat_15 (by rw [hc5]; decide) (by rw [hc5]; decide) (by rw [hc5]; decide) (by decide) ?_
      refine lv_aload_n hx hb dX11_boat_97 rfl (lv_at hl 0 rfl) ?_
      refine va_get (D := (dC, dI)) (ci := 11) (v := .ref (a_t 2)) (C := RX11) (T := TX11) (N := 16) hx hb hts hin11 hown hK hP 0 rfl rfl 7 (by decide) (hts (.fieldLink RX11 44 "TowedBack" "quays" "[I") (List.mem_of_getElem? (i := 4) rfl)) (fun _ h9 => h9) rfl dX11_boat_98 ?_
      refine lv_iload_n hx hb dX11_boat_101 rfl (lv_at hl 1 rfl) ?_
      obtain ⟨hi7, h⟩ := kg_some h
      refine va_iald hx hb hK hP 1 0 rfl rfl hi7 dX11_boat_102 ?_
      obtain rfl := k_in1 h
      exact k_ri hx hb hr hlocks hP hS dX11_boat_103
    have h := k_neg hc5 h
    refine lv_tableOut (tgt := 104) hx hb dX11_boat_15 (k_sw5 hc0 hc1 hc2 hc3 hc4 hc5) (by decide) ?_
    refine lv_ldc (v := (-1000000002)) hx hb hown (hts (.constant RX11 104 (-1000000002)) (List.mem_of_getElem? (i := 5) rfl)) dX11_boat_104 ?_
    obtain rfl := k_in1 h
    exact k_ri hx hb hr hlocks hP hS dX11_boat_106
  · have h := k_pos hc h
    refine lv_ldc (v := (-1000000001)) hx hb hown (hts (.constant RX11 145 (-1000000001)) (List.mem_of_getElem? (i := 2) rfl)) dX11_boat_11 ?_
    obtain rfl := k_in1 h
    exact k_ri hx hb hr hlocks hP hS dX11_boat_13
set_option maxHeartbeats 4000000 in
set_option maxRecDepth 100000 in
theorem c_Tb_refusalToGo (l : Launch) (dC : Nat → ClassId) (dI : Nat → Nat → Nat) (cI cZ : ClassId) (a_t a_t_reader a_t_here a_t_spare a_t_fleet a_t_past a_t_images a_t_draws a_t_seen a_t_book a_t_way a_t_bands a_t_exchange : Nat → Nat) (t_lettersFed : Int32) (t_faultAt : Int32) (t_here_junctions : Int32) (t_here_cuts : Int32) (t_here_boats : Int32) (t_here_cutA : Nat → Int32) (t_here_cutB : Nat → Int32) (t_here_cutHard : Nat → Int32) (t_here_boatAt : Nat → Int32) (t_here_boatPull : Nat → Int32) (t_here_boatWear : Nat → Int32) (t_here_onward : Nat → Int32) (t_here_onwardHard : Nat → Int32) (t_fleet_row : Nat → Int32) (y1 : Int32) (r0 : Int32) (h : m_Tb_refusalToGo y1 t_here_junctions t_fleet_row = some r0) : (MI l yX11_refusalToGo wsX11_refusalToGo ({ frames := 1, cells := 0, slots := 0, locals := 20 }) (dC, dI) [(cI, .int), (cZ, .boolean)] (wd_tTb8 cI cZ a_t a_t_reader a_t_here a_t_spare a_t_fleet a_t_past a_t_images a_t_draws a_t_seen a_t_book a_t_way a_t_bands a_t_exchange (a_t_here 0) (a_t_spare 0) t_lettersFed t_faultAt t_here_junctions t_here_cuts t_here_boats t_here_cutA t_here_cutB t_here_cutHard t_here_boatAt t_here_boatPull t_here_boatWear t_here_onward t_here_onwardHard t_fleet_row) (wd_tTb8 cI cZ a_t a_t_reader a_t_here a_t_spare a_t_fleet a_t_past a_t_images a_t_draws a_t_seen a_t_book a_t_way a_t_bands a_t_exchange (a_t_here 0) (a_t_spare 0) t_lettersFed t_faultAt t_here_junctions t_here_cuts t_here_boats t_here_cutA t_here_cutB t_here_cutHard t_here_boatAt t_here_boatPull t_here_boatWear t_here_onward t_here_onwardHard t_fleet_row) [.ref (a_t 0), .int y1] r0) := by
  intro sz
  refine Met.ofW (cc := cX11_refusalToGo) (maxL := 2) (ret := (some .int)) (by decide) rfl ?_
  intro p e s m args below meth c s₁ B hml hv
  obtain ⟨rfl, hsz, hP, hK, hD0⟩ := hv
  have hx := B.exec
  have hb := B.bytes
  have hr := B.returns
  have hts := atoms_spec (ws := wsX11_refusalToGo) B.pre
  have hown : s.vm.findClass RX11 = some m.cls := findClass_of_methodNamed B.named
  have hlocks := B.notSynchronized
  subst hsz
  have hD := hD0.self (sz := s.heap.size)
  have hA : ∀ q : Nat, s.heap.size ≤ q → va_A (wd_tTb8 cI cZ a_t a_t_reader a_t_here a_t_spare a_t_fleet a_t_past a_t_images a_t_draws a_t_seen a_t_book a_t_way a_t_bands a_t_exchange (a_t_here 0) (a_t_spare 0) t_lettersFed t_faultAt t_here_junctions t_here_cuts t_here_boats t_here_cutA t_here_cutB t_here_cutHard t_here_boatAt t_here_boatPull t_here_boatWear t_here_onward t_here_onwardHard t_fleet_row) s.heap.size q := fun q h => Or.inr h
  have hS : va_S (va_A (wd_tTb8 cI cZ a_t a_t_reader a_t_here a_t_spare a_t_fleet a_t_past a_t_images a_t_draws a_t_seen a_t_book a_t_way a_t_bands a_t_exchange (a_t_here 0) (a_t_spare 0) t_lettersFed t_faultAt t_here_junctions t_here_cuts t_here_boats t_here_cutA t_here_cutB t_here_cutHard t_here_boatAt t_here_boatPull t_here_boatWear t_here_onward t_here_onwardHard t_fleet_row) s.heap.size) s.heap s.heap [] := va_S.rf
  have hin9 : ∀ w ∈ u_ws RX9 TX9 11, w ∈ wsX11_refusalToGo := fun w h => List.mem_cons_of_mem _ (List.mem_append_left _ (List.mem_append_right _ h))
  have hin11 : ∀ w ∈ u_ws RX11 TX11 16, w ∈ wsX11_refusalToGo := fun w h => List.mem_cons_of_mem _ (List.mem_append_left _ (List.mem_append_left _ (List.mem_append_right _ h)))
  have hl := lv_entry ([.ref (a_t 0), .int y1]) (n := 2) (Nat.le_of_ble_eq_true rfl)
  rw [lg_entry_eq]
  generalize (lg_sl ([.ref (a_t 0), .int y1]) ++ List.replicate (2 - (lg_sl ([.ref (a_t 0), .int y1])).length) Slot.unset).toArray = ls at hl ⊢
  have hl : lv_has ls 2 [(0, .ref (a_t 0)), (1, .int y1)] := hl
  unfold m_Tb_refusalToGo at h
  refine lv_iload_n hx hb dX11_refusalToGo_0 rfl (lv_at hl 1 rfl) ?_
  refine lv_iconst (v := 1) hx hb dX11_refusalToGo_1 (by decide) ?_
  refine lv_icmp_lt (tgt := 11) hx hb dX11_refusalToGo_2 (by decide) (fun hc => ?_) (fun hc => ?_)
  · have h := k_pos hc h
    refine lv_ldc (v := (-1000000002)) hx hb hown (hts (.constant RX11 104 (-1000000002)) (List.mem_of_getElem? (i := 1) rfl)) dX11_refusalToGo_11 ?_
    obtain rfl := k_in1 h
    exact k_ri hx hb hr hlocks hP hS dX11_refusalToGo_13
  · have h := k_neg hc h
    refine lv_iload_n hx hb dX11_refusalToGo_5 rfl (lv_at hl 1 rfl) ?_
    refine lv_bipush (v := 60) hx hb dX11_refusalToGo_6 (by decide) ?_
    refine lv_icmp_le (tgt := 14) hx hb dX11_refusalToGo_8 (by decide) (fun hc => ?_) (fun hc => ?_)
    · have h := k_pos hc h
      refine lv_aload_n hx hb dX11_refusalToGo_14 rfl (lv_at hl 0 rfl) ?_
      refine va_get (D := (dC, dI)) (ci := 11) (v := .ref (a_t_here 0)) (C := RX11) (T := TX11) (N := 16) hx hb hts hin11 hown hK hP 0 rfl rfl 4 (by decide) (hts (.fieldLink RX11 30 "TowedBack" "here" "LTowedBack$Water;") (List.mem_of_getElem? (i := 2) rfl)) (fun _ h9 => h9) rfl dX11_refusalToGo_15 ?_
      refine va_get (D := (dC, dI)) (ci := 9) (v := .int t_here_junctions) (C := RX9) (T := TX9) (N := 11) hx hb hts hin9 hown hK hP 1 rfl rfl 0 (by decide) (hts (.fieldLink RX11 120 "TowedBack$Water" "junctions" "I") (List.mem_of_getElem? (i := 3) rfl)) (fun _ h9 => h9) rfl dX11_refusalToGo_18 ?_
      refine lv_if_ne (tgt := 27) hx hb dX11_refusalToGo_21 (by decide) (fun hc => ?_) (fun hc => ?_)
      · have h := k_neg hc h
        refine lv_aload_n hx hb dX11_refusalToGo_27 rfl (lv_at hl 0 rfl) ?_
        refine va_get (D := (dC, dI)) (ci := 11) (v := .ref (a_t_fleet 0)) (C := RX11) (T := TX11) (N := 16) hx hb hts hin11 hown hK hP 0 rfl rfl 6 (by decide) (hts (.fieldLink RX11 40 "TowedBack" "fleet" "LTowedBack$Fleet;") (List.mem_of_getElem? (i := 5) rfl)) (fun _ h9 => h9) rfl dX11_refusalToGo_28 ?_
        obtain ⟨r1, hc1, h⟩ := kb1_some h
        refine k_RVi (rest := []) (As := []) ⟨hx, hb, hml, hown, hts⟩ (c_Fleet_stepsGone l dC dI cI cZ a_t_fleet t_fleet_row r1 hc1) (cwV 0 hts gX11_refusalToGo_X4_stepsGone rfl rfl rfl hd_4_stepsGone ⟨Nat.le_of_ble_eq_true rfl, Nat.le_of_ble_eq_true rfl⟩) hK hP hD hS hA [10, 11] rfl (by decide +kernel) 10 4 rfl rfl rfl rfl hl.1 rfl (Nat.le_of_ble_eq_true rfl) dX11_refusalToGo_31 ⟨Nat.zero_le _, Nat.zero_le _⟩ (fun H locs hP hD hS => ?_)
        refine lv_sipush (v := 9000) hx hb dX11_refusalToGo_34 (by decide) ?_
        refine lv_icmp_le (tgt := 45) hx hb dX11_refusalToGo_37 (by decide) (fun hc => ?_) (fun hc => ?_)
        · have h := k_pos hc h
          refine lv_iconst (v := 0) hx hb dX11_refusalToGo_45 (by decide) ?_
          obtain rfl := k_in1 h
          exact k_ri hx hb hr hlocks hP hS dX11_refusalToGo_46
        · have h := k_neg hc h
          refine lv_ldc (v := (-1000000004)) hx hb hown (hts (.constant RX11 105 (-1000000004)) (List.mem_of_getElem? (i := 6) rfl)) dX11_refusalToGo_40 ?_
          refine lv_goto (tgt := 46) hx hb dX11_refusalToGo_42 (by decide) ?_
          obtain rfl := k_in1 h
          exact k_ri hx hb hr hlocks hP hS dX11_refusalToGo_46
      · have h := k_pos hc h
        refine lv_ldc (v := (-1000000003)) hx hb hown (hts (.constant RX11 201 (-1000000003)) (List.mem_of_getElem? (i := 4) rfl)) dX11_refusalToGo_24 ?_
        obtain rfl := k_in1 h
        exact k_ri hx hb hr hlocks hP hS dX11_refusalToGo_26
    · have h := k_neg hc h
      refine lv_ldc (v := (-1000000002)) hx hb hown (hts (.constant RX11 104 (-1000000002)) (List.mem_of_getElem? (i := 1) rfl)) dX11_refusalToGo_11 ?_
      obtain rfl := k_in1 h
      exact k_ri hx hb hr hlocks hP hS dX11_refusalToGo_13
set_option maxHeartbeats 4000000 in
set_option maxRecDepth 100000 in
theorem c_Tb_step (l : Launch) (dC : Nat → ClassId) (dI : Nat → Nat → Nat) (cI cZ : ClassId) (a_t a_t_reader a_t_here a_t_spare a_t_fleet a_t_past a_t_past_shelf a_t_images a_t_draws a_t_seen a_t_book a_t_way a_t_bands a_t_exchange : Nat → Nat) (t_lettersFed : Int32) (t_faultAt : Int32) (t_here_junctions : Int32) (t_here_cuts : Int32) (t_here_boats : Int32) (t_here_cutA : Nat → Int32) (t_here_cutB : Nat → Int32) (t_here_cutHard : Nat → Int32) (t_here_boatAt : Nat → Int32) (t_here_boatPull : Nat → Int32) (t_here_boatWear : Nat → Int32) (t_here_onward : Nat → Int32) (t_here_onwardHard : Nat → Int32) (i_t_fleet_row : Nat → Int32) (i_t_past_next : Int32) (i_t_past_count : Int32) (t_past_shelf_slots : Int32) (i_t_past_shelf_rows : Nat → Int32) (y1 : Int32) (r0 : Int32) (o_t_fleet_row : Nat → Int32) (o_t_past_next : Int32) (o_t_past_count : Int32) (o_t_past_shelf_rows : Nat → Int32) (h : m_Tb_step y1 t_here_junctions t_here_boats t_here_boatWear t_here_onward t_here_onwardHard i_t_fleet_row i_t_past_next i_t_past_count t_past_shelf_slots i_t_past_shelf_rows = some (r0, o_t_fleet_row, o_t_past_next, o_t_past_count, o_t_past_shelf_rows)) : (MI l yX11_step wsX11_step ({ frames := 5, cells := 0, slots := 0, locals := 112 }) (dC, dI) [(cI, .int), (cZ, .boolean)] (wd_tTb9 cI cZ a_t a_t_reader a_t_here a_t_spare a_t_fleet a_t_past a_t_past_shelf a_t_images a_t_draws a_t_seen a_t_book a_t_way a_t_bands a_t_exchange (a_t_here 0) (a_t_spare 0) t_lettersFed t_faultAt t_here_junctions t_here_cuts t_here_boats t_here_cutA t_here_cutB t_here_cutHard t_here_boatAt t_here_boatPull t_here_boatWear t_here_onward t_here_onwardHard i_t_fleet_row i_t_past_next i_t_past_count t_past_shelf_slots i_t_past_shelf_rows) (wd_tTb9 cI cZ a_t a_t_reader a_t_here a_t_spare a_t_fleet a_t_past a_t_past_shelf a_t_images a_t_draws a_t_seen a_t_book a_t_way a_t_bands a_t_exchange (a_t_here 0) (a_t_spare 0) t_lettersFed t_faultAt t_here_junctions t_here_cuts t_here_boats t_here_cutA t_here_cutB t_here_cutHard t_here_boatAt t_here_boatPull t_here_boatWear t_here_onward t_here_onwardHard o_t_fleet_row o_t_past_next o_t_past_count t_past_shelf_slots o_t_past_shelf_rows) [.ref (a_t 0), .int y1] r0) := by
  intro sz
  refine Met.ofW (cc := cX11_step) (maxL := 4) (ret := (some .int)) (by decide) rfl ?_
  intro p e s m args below meth c s₁ B hml hv
  obtain ⟨rfl, hsz, hP, hK, hD0⟩ := hv
  have hx := B.exec
  have hb := B.bytes
  have hr := B.returns
  have hts := atoms_spec (ws := wsX11_step) B.pre
  have hown : s.vm.findClass RX11 = some m.cls := findClass_of_methodNamed B.named
  have hlocks := B.notSynchronized
  subst hsz
  have hD := hD0.self (sz := s.heap.size)
  have hA : ∀ q : Nat, s.heap.size ≤ q → va_A (wd_tTb9 cI cZ a_t a_t_reader a_t_here a_t_spare a_t_fleet a_t_past a_t_past_shelf a_t_images a_t_draws a_t_seen a_t_book a_t_way a_t_bands a_t_exchange (a_t_here 0) (a_t_spare 0) t_lettersFed t_faultAt t_here_junctions t_here_cuts t_here_boats t_here_cutA t_here_cutB t_here_cutHard t_here_boatAt t_here_boatPull t_here_boatWear t_here_onward t_here_onwardHard i_t_fleet_row i_t_past_next i_t_past_count t_past_shelf_slots i_t_past_shelf_rows) s.heap.size q := fun q h => Or.inr h
  have hS : va_S (va_A (wd_tTb9 cI cZ a_t a_t_reader a_t_here a_t_spare a_t_fleet a_t_past a_t_past_shelf a_t_images a_t_draws a_t_seen a_t_book a_t_way a_t_bands a_t_exchange (a_t_here 0) (a_t_spare 0) t_lettersFed t_faultAt t_here_junctions t_here_cuts t_here_boats t_here_cutA t_here_cutB t_here_cutHard t_here_boatAt t_here_boatPull t_here_boatWear t_here_onward t_here_onwardHard i_t_fleet_row i_t_past_next i_t_past_count t_past_shelf_slots i_t_past_shelf_rows) s.heap.size) s.heap s.heap [] := va_S.rf
  have hin11 : ∀ w ∈ u_ws RX11 TX11 16, w ∈ wsX11_step := fun w h => List.mem_cons_of_mem _ (List.mem_append_left _ (List.mem_append_left _ (List.mem_append_left _ (List.mem_append_left _ (List.mem_append_right _ h)))))
  have hl := lv_entry ([.ref (a_t 0), .int y1]) (n := 4) (Nat.le_of_ble_eq_true rfl)
  rw [lg_entry_eq]
  generalize (lg_sl ([.ref (a_t 0), .int y1]) ++ List.replicate (4 - (lg_sl ([.ref (a_t 0), .int y1])).length) Slot.unset).toArray = ls at hl ⊢
  have hl : lv_has ls 4 [(0, .ref (a_t 0)), (1, .int y1)] := hl
  have J47 : ∀  (t_fleet_row : Nat → Int32) (t_past_next : Int32) (t_past_count : Int32) (t_past_shelf_rows : Nat → Int32) (H : Heap) (locs : List Loc) (ls : Array Slot), va_P (dC, dI) vwCl (wd_tTb9 cI cZ a_t a_t_reader a_t_here a_t_spare a_t_fleet a_t_past a_t_past_shelf a_t_images a_t_draws a_t_seen a_t_book a_t_way a_t_bands a_t_exchange (a_t_here 0) (a_t_spare 0) t_lettersFed t_faultAt t_here_junctions t_here_cuts t_here_boats t_here_cutA t_here_cutB t_here_cutHard t_here_boatAt t_here_boatPull t_here_boatWear t_here_onward t_here_onwardHard t_fleet_row t_past_next t_past_count t_past_shelf_slots t_past_shelf_rows) H → va_D (va_A (wd_tTb9 cI cZ a_t a_t_reader a_t_here a_t_spare a_t_fleet a_t_past a_t_past_shelf a_t_images a_t_draws a_t_seen a_t_book a_t_way a_t_bands a_t_exchange (a_t_here 0) (a_t_spare 0) t_lettersFed t_faultAt t_here_junctions t_here_cuts t_here_boats t_here_cutA t_here_cutB t_here_cutHard t_here_boatAt t_here_boatPull t_here_boatWear t_here_onward t_here_onwardHard i_t_fleet_row i_t_past_next i_t_past_count t_past_shelf_slots i_t_past_shelf_rows) s.heap.size) (wd_tTb9 cI cZ a_t a_t_reader a_t_here a_t_spare a_t_fleet a_t_past a_t_past_shelf a_t_images a_t_draws a_t_seen a_t_book a_t_way a_t_bands a_t_exchange (a_t_here 0) (a_t_spare 0) t_lettersFed t_faultAt t_here_junctions t_here_cuts t_here_boats t_here_cutA t_here_cutB t_here_cutHard t_here_boatAt t_here_boatPull t_here_boatWear t_here_onward t_here_onwardHard t_fleet_row t_past_next t_past_count t_past_shelf_slots t_past_shelf_rows) → va_S (va_A (wd_tTb9 cI cZ a_t a_t_reader a_t_here a_t_spare a_t_fleet a_t_past a_t_past_shelf a_t_images a_t_draws a_t_seen a_t_book a_t_way a_t_bands a_t_exchange (a_t_here 0) (a_t_spare 0) t_lettersFed t_faultAt t_here_junctions t_here_cuts t_here_boats t_here_cutA t_here_cutB t_here_cutHard t_here_boatAt t_here_boatPull t_here_boatWear t_here_onward t_here_onwardHard i_t_fleet_row i_t_past_next i_t_past_count t_past_shelf_slots i_t_past_shelf_rows) s.heap.size) s.heap H locs → lv_has ls 4 [(0, .ref (a_t 0))] → m_Tb_step_B47  t_here_junctions t_here_boats t_here_boatWear t_here_onward t_here_onwardHard t_fleet_row t_past_next t_past_count t_past_shelf_slots t_past_shelf_rows = some (r0, o_t_fleet_row, o_t_past_next, o_t_past_count, o_t_past_shelf_rows) → W p l e (headSpec wsX11_step ({ frames := 5, cells := 0, slots := 0, locals := 112 })).room s m ([.ref (a_t 0), .int y1] : List Value).toArray below meth c H locs 0 0 (MQ below (cQi (dC, dI) (wd_tTb9 cI cZ a_t a_t_reader a_t_here a_t_spare a_t_fleet a_t_past a_t_past_shelf a_t_images a_t_draws a_t_seen a_t_book a_t_way a_t_bands a_t_exchange (a_t_here 0) (a_t_spare 0) t_lettersFed t_faultAt t_here_junctions t_here_cuts t_here_boats t_here_cutA t_here_cutB t_here_cutHard t_here_boatAt t_here_boatPull t_here_boatWear t_here_onward t_here_onwardHard i_t_fleet_row i_t_past_next i_t_past_count t_past_shelf_slots i_t_past_shelf_rows) (wd_tTb9 cI cZ a_t a_t_reader a_t_here a_t_spare a_t_fleet a_t_past a_t_past_shelf a_t_images a_t_draws a_t_seen a_t_book a_t_way a_t_bands a_t_exchange (a_t_here 0) (a_t_spare 0) t_lettersFed t_faultAt t_here_junctions t_here_cuts t_here_boats t_here_cutA t_here_cutB t_here_cutHard t_here_boatAt t_here_boatPull t_here_boatWear t_here_onward t_here_onwardHard o_t_fleet_row o_t_past_next o_t_past_count t_past_shelf_slots o_t_past_shelf_rows) s.heap.size r0) ([.ref (a_t 0), .int y1] : List Value).toArray s 0 0 (va_A (wd_tTb9 cI cZ a_t a_t_reader a_t_here a_t_spare a_t_fleet a_t_past a_t_past_shelf a_t_images a_t_draws a_t_seen a_t_book a_t_way a_t_bands a_t_exchange (a_t_here 0) (a_t_spare 0) t_lettersFed t_faultAt t_here_junctions t_here_cuts t_here_boats t_here_cutA t_here_cutB t_here_cutHard t_here_boatAt t_here_boatPull t_here_boatWear t_here_onward t_here_onwardHard i_t_fleet_row i_t_past_next i_t_past_count t_past_shelf_slots i_t_past_shelf_rows) s.heap.size)) (F0 m 47 ls []) := by
    intro t_fleet_row t_past_next t_past_count t_past_shelf_rows H locs ls hP hD hS hl h
    unfold m_Tb_step_B47 at h
    refine lv_aload_n hx hb dX11_step_47 rfl (lv_at hl 0 rfl) ?_
    refine va_get (D := (dC, dI)) (ci := 11) (v := .ref (a_t_fleet 0)) (C := RX11) (T := TX11) (N := 16) hx hb hts hin11 hown hK hP 0 rfl rfl 6 (by decide) (hts (.fieldLink RX11 40 "TowedBack" "fleet" "LTowedBack$Fleet;") (List.mem_of_getElem? (i := 2) rfl)) (fun _ h9 => h9) rfl dX11_step_48 ?_
    refine lv_aload_n hx hb dX11_step_51 rfl (lv_at hl 0 rfl) ?_
    refine va_get (D := (dC, dI)) (ci := 11) (v := .ref (a_t_here 0)) (C := RX11) (T := TX11) (N := 16) hx hb hts hin11 hown hK hP 0 rfl rfl 4 (by decide) (hts (.fieldLink RX11 30 "TowedBack" "here" "LTowedBack$Water;") (List.mem_of_getElem? (i := 3) rfl)) (fun _ h9 => h9) rfl dX11_step_52 ?_
    obtain ⟨r1, hc1, h⟩ := kb1_some h
    refine k_RVi (rest := []) (As := [.ref (a_t_here 0)]) ⟨hx, hb, hml, hown, hts⟩ (c_Fleet_sitting l dC dI cI cZ a_t_fleet a_t_here t_fleet_row t_here_junctions t_here_cuts t_here_boats t_here_cutA t_here_cutB t_here_cutHard t_here_boatAt t_here_boatPull t_here_boatWear t_here_onward t_here_onwardHard r1 hc1) (cwV 1 hts gX11_step_X4_sitting rfl rfl rfl hd_4_sitting ⟨Nat.le_of_ble_eq_true rfl, Nat.le_of_ble_eq_true rfl⟩) hK hP hD hS hA [10, 11, 1, 2, 3, 4, 5, 6, 7, 8, 9] rfl (by decide +kernel) 10 4 rfl rfl rfl rfl hl.1 rfl (Nat.le_of_ble_eq_true rfl) dX11_step_55 ⟨Nat.zero_le _, Nat.zero_le _⟩ (fun H locs hP hD hS => ?_)
    obtain ⟨rfl, rfl, rfl, rfl, rfl⟩ := k_in5 h
    exact k_ri hx hb hr hlocks hP hS dX11_step_58
  have L25 : ∀ (n25 : Nat) (x1 : Int32) (x3 : Int32) (t_fleet_row : Nat → Int32) (t_past_next : Int32) (t_past_count : Int32) (t_past_shelf_rows : Nat → Int32) (H : Heap) (locs : List Loc) (ls : Array Slot), va_P (dC, dI) vwCl (wd_tTb9 cI cZ a_t a_t_reader a_t_here a_t_spare a_t_fleet a_t_past a_t_past_shelf a_t_images a_t_draws a_t_seen a_t_book a_t_way a_t_bands a_t_exchange (a_t_here 0) (a_t_spare 0) t_lettersFed t_faultAt t_here_junctions t_here_cuts t_here_boats t_here_cutA t_here_cutB t_here_cutHard t_here_boatAt t_here_boatPull t_here_boatWear t_here_onward t_here_onwardHard t_fleet_row t_past_next t_past_count t_past_shelf_slots t_past_shelf_rows) H → va_D (va_A (wd_tTb9 cI cZ a_t a_t_reader a_t_here a_t_spare a_t_fleet a_t_past a_t_past_shelf a_t_images a_t_draws a_t_seen a_t_book a_t_way a_t_bands a_t_exchange (a_t_here 0) (a_t_spare 0) t_lettersFed t_faultAt t_here_junctions t_here_cuts t_here_boats t_here_cutA t_here_cutB t_here_cutHard t_here_boatAt t_here_boatPull t_here_boatWear t_here_onward t_here_onwardHard i_t_fleet_row i_t_past_next i_t_past_count t_past_shelf_slots i_t_past_shelf_rows) s.heap.size) (wd_tTb9 cI cZ a_t a_t_reader a_t_here a_t_spare a_t_fleet a_t_past a_t_past_shelf a_t_images a_t_draws a_t_seen a_t_book a_t_way a_t_bands a_t_exchange (a_t_here 0) (a_t_spare 0) t_lettersFed t_faultAt t_here_junctions t_here_cuts t_here_boats t_here_cutA t_here_cutB t_here_cutHard t_here_boatAt t_here_boatPull t_here_boatWear t_here_onward t_here_onwardHard t_fleet_row t_past_next t_past_count t_past_shelf_slots t_past_shelf_rows) → va_S (va_A (wd_tTb9 cI cZ a_t a_t_reader a_t_here a_t_spare a_t_fleet a_t_past a_t_past_shelf a_t_images a_t_draws a_t_seen a_t_book a_t_way a_t_bands a_t_exchange (a_t_here 0) (a_t_spare 0) t_lettersFed t_faultAt t_here_junctions t_here_cuts t_here_boats t_here_cutA t_here_cutB t_here_cutHard t_here_boatAt t_here_boatPull t_here_boatWear t_here_onward t_here_onwardHard i_t_fleet_row i_t_past_next i_t_past_count t_past_shelf_slots i_t_past_shelf_rows) s.heap.size) s.heap H locs → lv_has ls 4 [(0, .ref (a_t 0)), (1, .int x1), (3, .int x3)] → m_Tb_step_L25  n25 x1 x3 t_here_junctions t_here_boats t_here_boatWear t_here_onward t_here_onwardHard t_fleet_row t_past_next t_past_count t_past_shelf_slots t_past_shelf_rows = some (r0, o_t_fleet_row, o_t_past_next, o_t_past_count, o_t_past_shelf_rows) → W p l e (headSpec wsX11_step ({ frames := 5, cells := 0, slots := 0, locals := 112 })).room s m ([.ref (a_t 0), .int y1] : List Value).toArray below meth c H locs 0 0 (MQ below (cQi (dC, dI) (wd_tTb9 cI cZ a_t a_t_reader a_t_here a_t_spare a_t_fleet a_t_past a_t_past_shelf a_t_images a_t_draws a_t_seen a_t_book a_t_way a_t_bands a_t_exchange (a_t_here 0) (a_t_spare 0) t_lettersFed t_faultAt t_here_junctions t_here_cuts t_here_boats t_here_cutA t_here_cutB t_here_cutHard t_here_boatAt t_here_boatPull t_here_boatWear t_here_onward t_here_onwardHard i_t_fleet_row i_t_past_next i_t_past_count t_past_shelf_slots i_t_past_shelf_rows) (wd_tTb9 cI cZ a_t a_t_reader a_t_here a_t_spare a_t_fleet a_t_past a_t_past_shelf a_t_images a_t_draws a_t_seen a_t_book a_t_way a_t_bands a_t_exchange (a_t_here 0) (a_t_spare 0) t_lettersFed t_faultAt t_here_junctions t_here_cuts t_here_boats t_here_cutA t_here_cutB t_here_cutHard t_here_boatAt t_here_boatPull t_here_boatWear t_here_onward t_here_onwardHard o_t_fleet_row o_t_past_next o_t_past_count t_past_shelf_slots o_t_past_shelf_rows) s.heap.size r0) ([.ref (a_t 0), .int y1] : List Value).toArray s 0 0 (va_A (wd_tTb9 cI cZ a_t a_t_reader a_t_here a_t_spare a_t_fleet a_t_past a_t_past_shelf a_t_images a_t_draws a_t_seen a_t_book a_t_way a_t_bands a_t_exchange (a_t_here 0) (a_t_spare 0) t_lettersFed t_faultAt t_here_junctions t_here_cuts t_here_boats t_here_cutA t_here_cutB t_here_cutHard t_here_boatAt t_here_boatPull t_here_boatWear t_here_onward t_here_onwardHard i_t_fleet_row i_t_past_next i_t_past_count t_past_shelf_slots i_t_past_shelf_rows) s.heap.size)) (F0 m 25 ls []) := by
    intro n25
    induction n25 with
    | zero => intro x1 x3 t_fleet_row t_past_next t_past_count t_past_shelf_rows H locs ls hP hD hS hl h; have h : none = some (r0, o_t_fleet_row, o_t_past_next, o_t_past_count, o_t_past_shelf_rows) := h; cases h
    | succ n25 ih25 =>
      intro x1 x3 t_fleet_row t_past_next t_past_count t_past_shelf_rows H locs ls hP hD hS hl h
      have h : m_Tb_step_B25  (m_Tb_step_L25  n25) x1 x3 t_here_junctions t_here_boats t_here_boatWear t_here_onward t_here_onwardHard t_fleet_row t_past_next t_past_count t_past_shelf_slots t_past_shelf_rows = some (r0, o_t_fleet_row, o_t_past_next, o_t_past_count, o_t_past_shelf_rows) := h
      unfold m_Tb_step_B25 at h
      refine lv_iload_n hx hb dX11_step_25 rfl (lv_at hl 2 rfl) ?_
      refine lv_iload_n hx hb dX11_step_26 rfl (lv_at hl 1 rfl) ?_
      refine lv_icmp_ge (tgt := 47) hx hb dX11_step_27 (by decide) (fun hc => ?_) (fun hc => ?_)
      · have h := k_pos hc h
        exact J47 t_fleet_row t_past_next t_past_count t_past_shelf_rows _ _ _ hP hD hS (lv_sub hl [0] rfl) h
      · have h := k_neg hc h
        refine lv_aload_n hx hb dX11_step_30 rfl (lv_at hl 0 rfl) ?_
        refine va_get (D := (dC, dI)) (ci := 11) (v := .ref (a_t_fleet 0)) (C := RX11) (T := TX11) (N := 16) hx hb hts hin11 hown hK hP 0 rfl rfl 6 (by decide) (hts (.fieldLink RX11 40 "TowedBack" "fleet" "LTowedBack$Fleet;") (List.mem_of_getElem? (i := 2) rfl)) (fun _ h9 => h9) rfl dX11_step_31 ?_
        refine lv_aload_n hx hb dX11_step_34 rfl (lv_at hl 0 rfl) ?_
        refine va_get (D := (dC, dI)) (ci := 11) (v := .ref (a_t_here 0)) (C := RX11) (T := TX11) (N := 16) hx hb hts hin11 hown hK hP 0 rfl rfl 4 (by decide) (hts (.fieldLink RX11 30 "TowedBack" "here" "LTowedBack$Water;") (List.mem_of_getElem? (i := 3) rfl)) (fun _ h9 => h9) rfl dX11_step_35 ?_
        obtain ⟨t_fleet_row_2, hc2, h⟩ := kb1_some h
        refine k_GVv (rest := []) (As := [.ref (a_t_here 0)]) (ws' := (wd_tTb9 cI cZ a_t a_t_reader a_t_here a_t_spare a_t_fleet a_t_past a_t_past_shelf a_t_images a_t_draws a_t_seen a_t_book a_t_way a_t_bands a_t_exchange (a_t_here 0) (a_t_spare 0) t_lettersFed t_faultAt t_here_junctions t_here_cuts t_here_boats t_here_cutA t_here_cutB t_here_cutHard t_here_boatAt t_here_boatPull t_here_boatWear t_here_onward t_here_onwardHard t_fleet_row_2 t_past_next t_past_count t_past_shelf_slots t_past_shelf_rows)) ⟨hx, hb, hml, hown, hts⟩ (c_Fleet_advanceAll l dC dI cI cZ a_t_fleet a_t_here t_fleet_row t_here_junctions t_here_cuts t_here_boats t_here_cutA t_here_cutB t_here_cutHard t_here_boatAt t_here_boatPull t_here_boatWear t_here_onward t_here_onwardHard t_fleet_row_2 hc2) (cwV 1 hts gX11_step_X4_advanceAll rfl rfl rfl hd_4_advanceAll ⟨Nat.le_of_ble_eq_true rfl, Nat.le_of_ble_eq_true rfl⟩) hK hP hD hS hA [10, 11, 1, 2, 3, 4, 5, 6, 7, 8, 9] rfl (by decide +kernel) 10 4 rfl rfl rfl [0, 12, 13, 14] rfl (k_allc rfl rfl (k_allc rfl rfl (k_allc rfl rfl (k_allc rfl rfl k_alln)))) 15 rfl (by decide +kernel) (wd_tTb9_f.trans wd_tTb9_f.symm) rfl hl.1 rfl (Nat.le_of_ble_eq_true rfl) dX11_step_38 ⟨Nat.zero_le _, Nat.zero_le _⟩ (fun H locs hP hD hS => ?_)
        refine lv_iinc (v := (x3 + 1)) (lv' := [(3, .int (x3 + 1)), (0, .ref (a_t 0)), (1, .int x1)]) hx hb dX11_step_41 hl (k := 2) rfl rfl (by decide) rfl (fun ls hl => ?_)
        refine lv_goto (tgt := 25) hx hb dX11_step_44 (by decide) ?_
        exact ih25 x1 (x3 + 1) t_fleet_row_2 t_past_next t_past_count t_past_shelf_rows _ _ _ hP hD hS (lv_sub hl [1, 2, 0] rfl) h
  unfold m_Tb_step at h
  refine lv_aload_n hx hb dX11_step_0 rfl (lv_at hl 0 rfl) ?_
  refine lv_iload_n hx hb dX11_step_1 rfl (lv_at hl 1 rfl) ?_
  obtain ⟨r3, hc3, h⟩ := kb1_some h
  refine k_RVi (rest := []) (As := [.int y1]) ⟨hx, hb, hml, hown, hts⟩ (c_Tb_refusalToGo l dC dI cI cZ a_t a_t_reader a_t_here a_t_spare a_t_fleet a_t_past a_t_images a_t_draws a_t_seen a_t_book a_t_way a_t_bands a_t_exchange t_lettersFed t_faultAt t_here_junctions t_here_cuts t_here_boats t_here_cutA t_here_cutB t_here_cutHard t_here_boatAt t_here_boatPull t_here_boatWear t_here_onward t_here_onwardHard i_t_fleet_row y1 r3 hc3) (cwV 1 hts gX11_step_X11_refusalToGo rfl rfl rfl hd_11_refusalToGo ⟨Nat.le_of_ble_eq_true rfl, Nat.le_of_ble_eq_true rfl⟩) hK hP hD hS hA [0, 1, 2, 3, 4, 5, 6, 7, 8, 9, 10, 11] rfl (by decide +kernel) 0 11 rfl rfl rfl rfl hl.1 rfl (Nat.le_of_ble_eq_true rfl) dX11_step_2 ⟨Nat.zero_le _, Nat.zero_le _⟩ (fun H locs hP hD hS => ?_)
  refine lv_istore_n (lv' := [(2, .int r3), (0, .ref (a_t 0)), (1, .int y1)]) hx hb dX11_step_5 rfl hl (by decide) rfl (fun ls hl => ?_)
  refine lv_iload_n hx hb dX11_step_6 rfl (lv_at hl 0 rfl) ?_
  refine lv_if_eq (tgt := 12) hx hb dX11_step_7 (by decide) (fun hc => ?_) (fun hc => ?_)
  · have h := k_pos hc h
    refine lv_aload_n hx hb dX11_step_12 rfl (lv_at hl 1 rfl) ?_
    refine va_get (D := (dC, dI)) (ci := 11) (v := .ref (a_t_past 0)) (C := RX11) (T := TX11) (N := 16) hx hb hts hin11 hown hK hP 0 rfl rfl 8 (by decide) (hts (.fieldLink RX11 50 "TowedBack" "past" "LTowedBack$Past;") (List.mem_of_getElem? (i := 1) rfl)) (fun _ h9 => h9) rfl dX11_step_13 ?_
    refine lv_aload_n hx hb dX11_step_16 rfl (lv_at hl 1 rfl) ?_
    refine va_get (D := (dC, dI)) (ci := 11) (v := .ref (a_t_fleet 0)) (C := RX11) (T := TX11) (N := 16) hx hb hts hin11 hown hK hP 0 rfl rfl 6 (by decide) (hts (.fieldLink RX11 40 "TowedBack" "fleet" "LTowedBack$Fleet;") (List.mem_of_getElem? (i := 2) rfl)) (fun _ h9 => h9) rfl dX11_step_17 ?_
    obtain ⟨t_past_next_4, t_past_count_4, t_past_shelf_rows_4, hc4, h⟩ := kb3_some h
    refine k_GVv (rest := []) (As := [.ref (a_t_fleet 0)]) (ws' := (wd_tTb9 cI cZ a_t a_t_reader a_t_here a_t_spare a_t_fleet a_t_past a_t_past_shelf a_t_images a_t_draws a_t_seen a_t_book a_t_way a_t_bands a_t_exchange (a_t_here 0) (a_t_spare 0) t_lettersFed t_faultAt t_here_junctions t_here_cuts t_here_boats t_here_cutA t_here_cutB t_here_cutHard t_here_boatAt t_here_boatPull t_here_boatWear t_here_onward t_here_onwardHard i_t_fleet_row t_past_next_4 t_past_count_4 t_past_shelf_slots t_past_shelf_rows_4)) ⟨hx, hb, hml, hown, hts⟩ (c_Past_remember l dC dI cI cZ a_t_past a_t_past_shelf a_t_fleet i_t_past_next i_t_past_count 420 t_past_shelf_slots i_t_past_shelf_rows i_t_fleet_row t_past_next_4 t_past_count_4 t_past_shelf_rows_4 hc4) (cwV 1 hts gX11_step_X6_remember rfl rfl rfl hd_6_remember ⟨Nat.le_of_ble_eq_true rfl, Nat.le_of_ble_eq_true rfl⟩) hK hP hD hS hA [12, 13, 14, 10, 11] rfl (by decide +kernel) 12 6 rfl rfl rfl [0, 1, 2, 3, 4, 5, 6, 7, 8, 9] rfl (k_allc rfl rfl (k_allc rfl rfl (k_allc rfl rfl (k_allc rfl rfl (k_allc rfl rfl (k_allc rfl rfl (k_allc rfl rfl (k_allc rfl rfl (k_allc rfl rfl (k_allc rfl rfl k_alln)))))))))) 15 rfl (by decide +kernel) (wd_tTb9_f.trans wd_tTb9_f.symm) rfl hl.1 rfl (Nat.le_of_ble_eq_true rfl) dX11_step_20 ⟨Nat.zero_le _, Nat.zero_le _⟩ (fun H locs hP hD hS => ?_)
    refine lv_iconst (v := 0) hx hb dX11_step_23 (by decide) ?_
    refine lv_istore_n (lv' := [(3, .int 0), (2, .int r3), (0, .ref (a_t 0)), (1, .int y1)]) hx hb dX11_step_24 rfl hl (by decide) rfl (fun ls hl => ?_)
    exact L25 FU y1 0 i_t_fleet_row t_past_next_4 t_past_count_4 t_past_shelf_rows_4 _ _ _ hP hD hS (lv_sub hl [2, 3, 0] rfl) h
  · have h := k_neg hc h
    refine lv_iload_n hx hb dX11_step_10 rfl (lv_at hl 0 rfl) ?_
    obtain ⟨rfl, rfl, rfl, rfl, rfl⟩ := k_in5 h
    exact k_ri hx hb hr hlocks hP hS dX11_step_11
