set_option maxHeartbeats 4000000 in
set_option maxRecDepth 100000 in
theorem c_Tb_quay (l : Launch) (dC : Nat → ClassId) (dI : Nat → Nat → Nat) (cI cZ : ClassId) (a_t a_t_reader a_t_here a_t_spare a_t_fleet a_t_past a_t_images a_t_draws a_t_seen a_t_book a_t_way a_t_bands a_t_exchange : Nat → Nat) (t_lettersFed : Int32) (t_faultAt : Int32) (i_t_quays : Nat → Int32) (t_here_junctions : Int32) (t_here_cuts : Int32) (t_here_boats : Int32) (t_here_cutA : Nat → Int32) (t_here_cutB : Nat → Int32) (t_here_cutHard : Nat → Int32) (t_here_boatAt : Nat → Int32) (t_here_boatPull : Nat → Int32) (t_here_boatWear : Nat → Int32) (t_here_onward : Nat → Int32) (t_here_onwardHard : Nat → Int32) (y1 : Int32) (y2 : Int32) (r0 : Int32) (o_t_quays : Nat → Int32) (h : m_Tb_quay y1 y2 i_t_quays t_here_junctions t_here_boats = some (r0, o_t_quays)) : (MI l yX11_quay wsX11_quay ({ frames := 1, cells := 0, slots := 0, locals := 21 }) (dC, dI) [(cI, .int), (cZ, .boolean)] (wd_tTb13 cI cZ a_t a_t_reader a_t_here a_t_spare a_t_fleet a_t_past a_t_images a_t_draws a_t_seen a_t_book a_t_way a_t_bands a_t_exchange (a_t_here 0) (a_t_spare 0) t_lettersFed t_faultAt i_t_quays t_here_junctions t_here_cuts t_here_boats t_here_cutA t_here_cutB t_here_cutHard t_here_boatAt t_here_boatPull t_here_boatWear t_here_onward t_here_onwardHard) (wd_tTb13 cI cZ a_t a_t_reader a_t_here a_t_spare a_t_fleet a_t_past a_t_images a_t_draws a_t_seen a_t_book a_t_way a_t_bands a_t_exchange (a_t_here 0) (a_t_spare 0) t_lettersFed t_faultAt o_t_quays t_here_junctions t_here_cuts t_here_boats t_here_cutA t_here_cutB t_here_cutHard t_here_boatAt t_here_boatPull t_here_boatWear t_here_onward t_here_onwardHard) [.ref (a_t 0), .int y1, .int y2] r0) := by
  intro sz
  refine Met.ofW (cc := cX11_quay) (maxL := 4) (ret := (some .int)) (by decide) rfl ?_
  intro p e s m args below meth c s₁ B hml hv
  obtain ⟨rfl, hsz, hP, hK, hD0⟩ := hv
  have hx := B.exec
  have hb := B.bytes
  have hr := B.returns
  have hts := atoms_spec (ws := wsX11_quay) B.pre
  have hown : s.vm.findClass RX11 = some m.cls := findClass_of_methodNamed B.named
  have hlocks := B.notSynchronized
  subst hsz
  have hD := hD0.self (sz := s.heap.size)
  have hA : ∀ q : Nat, s.heap.size ≤ q → va_A (wd_tTb13 cI cZ a_t a_t_reader a_t_here a_t_spare a_t_fleet a_t_past a_t_images a_t_draws a_t_seen a_t_book a_t_way a_t_bands a_t_exchange (a_t_here 0) (a_t_spare 0) t_lettersFed t_faultAt i_t_quays t_here_junctions t_here_cuts t_here_boats t_here_cutA t_here_cutB t_here_cutHard t_here_boatAt t_here_boatPull t_here_boatWear t_here_onward t_here_onwardHard) s.heap.size q := fun q h => Or.inr h
  have hS : va_S (va_A (wd_tTb13 cI cZ a_t a_t_reader a_t_here a_t_spare a_t_fleet a_t_past a_t_images a_t_draws a_t_seen a_t_book a_t_way a_t_bands a_t_exchange (a_t_here 0) (a_t_spare 0) t_lettersFed t_faultAt i_t_quays t_here_junctions t_here_cuts t_here_boats t_here_cutA t_here_cutB t_here_cutHard t_here_boatAt t_here_boatPull t_here_boatWear t_here_onward t_here_onwardHard) s.heap.size) s.heap s.heap [] := va_S.rf
  have hin11 : ∀ w ∈ u_ws RX11 TX11 16, w ∈ wsX11_quay := fun w h => List.mem_cons_of_mem _ (List.mem_append_left _ (List.mem_append_right _ h))
  have hl := lv_entry ([.ref (a_t 0), .int y1, .int y2]) (n := 4) (Nat.le_of_ble_eq_true rfl)
  rw [lg_entry_eq]
  generalize (lg_sl ([.ref (a_t 0), .int y1, .int y2]) ++ List.replicate (4 - (lg_sl ([.ref (a_t 0), .int y1, .int y2])).length) Slot.unset).toArray = ls at hl ⊢
  have hl : lv_has ls 4 [(0, .ref (a_t 0)), (1, .int y1), (2, .int y2)] := hl
  have J30 : ∀ (x1 : Int32) (x2 : Int32) (t_quays : Nat → Int32) (H : Heap) (locs : List Loc) (ls : Array Slot), va_P (dC, dI) vwCl (wd_tTb13 cI cZ a_t a_t_reader a_t_here a_t_spare a_t_fleet a_t_past a_t_images a_t_draws a_t_seen a_t_book a_t_way a_t_bands a_t_exchange (a_t_here 0) (a_t_spare 0) t_lettersFed t_faultAt t_quays t_here_junctions t_here_cuts t_here_boats t_here_cutA t_here_cutB t_here_cutHard t_here_boatAt t_here_boatPull t_here_boatWear t_here_onward t_here_onwardHard) H → va_D (va_A (wd_tTb13 cI cZ a_t a_t_reader a_t_here a_t_spare a_t_fleet a_t_past a_t_images a_t_draws a_t_seen a_t_book a_t_way a_t_bands a_t_exchange (a_t_here 0) (a_t_spare 0) t_lettersFed t_faultAt i_t_quays t_here_junctions t_here_cuts t_here_boats t_here_cutA t_here_cutB t_here_cutHard t_here_boatAt t_here_boatPull t_here_boatWear t_here_onward t_here_onwardHard) s.heap.size) (wd_tTb13 cI cZ a_t a_t_reader a_t_here a_t_spare a_t_fleet a_t_past a_t_images a_t_draws a_t_seen a_t_book a_t_way a_t_bands a_t_exchange (a_t_here 0) (a_t_spare 0) t_lettersFed t_faultAt t_quays t_here_junctions t_here_cuts t_here_boats t_here_cutA t_here_cutB t_here_cutHard t_here_boatAt t_here_boatPull t_here_boatWear t_here_onward t_here_onwardHard) → va_S (va_A (wd_tTb13 cI cZ a_t a_t_reader a_t_here a_t_spare a_t_fleet a_t_past a_t_images a_t_draws a_t_seen a_t_book a_t_way a_t_bands a_t_exchange (a_t_here 0) (a_t_spare 0) t_lettersFed t_faultAt i_t_quays t_here_junctions t_here_cuts t_here_boats t_here_cutA t_here_cutB t_here_cutHard t_here_boatAt t_here_boatPull t_here_boatWear t_here_onward t_here_onwardHard) s.heap.size) s.heap H locs → lv_has ls 4 [(0, .ref (a_t 0)), (1, .int x1), (2, .int x2)] → m_Tb_quay_B30  x1 x2 t_quays t_here_junctions t_here_boats = some (r0, o_t_quays) → W p l e (headSpec wsX11_quay ({ frames := 1, cells := 0, slots := 0, locals := 21 })).room s m ([.ref (a_t 0), .int y1, .int y2] : List Value).toArray below meth c H locs 0 0 (MQ below (cQi (dC, dI) (wd_tTb13 cI cZ a_t a_t_reader a_t_here a_t_spare a_t_fleet a_t_past a_t_images a_t_draws a_t_seen a_t_book a_t_way a_t_bands a_t_exchange (a_t_here 0) (a_t_spare 0) t_lettersFed t_faultAt i_t_quays t_here_junctions t_here_cuts t_here_boats t_here_cutA t_here_cutB t_here_cutHard t_here_boatAt t_here_boatPull t_here_boatWear t_here_onward t_here_onwardHard) (wd_tTb13 cI cZ a_t a_t_reader a_t_here a_t_spare a_t_fleet a_t_past a_t_images a_t_draws a_t_seen a_t_book a_t_way a_t_bands a_t_exchange (a_t_here 0) (a_t_spare 0) t_lettersFed t_faultAt o_t_quays t_here_junctions t_here_cuts t_here_boats t_here_cutA t_here_cutB t_here_cutHard t_here_boatAt t_here_boatPull t_here_boatWear t_here_onward t_here_onwardHard) s.heap.size r0) ([.ref (a_t 0), .int y1, .int y2] : List Value).toArray s 0 0 (va_A (wd_tTb13 cI cZ a_t a_t_reader a_t_here a_t_spare a_t_fleet a_t_past a_t_images a_t_draws a_t_seen a_t_book a_t_way a_t_bands a_t_exchange (a_t_here 0) (a_t_spare 0) t_lettersFed t_faultAt i_t_quays t_here_junctions t_here_cuts t_here_boats t_here_cutA t_here_cutB t_here_cutHard t_here_boatAt t_here_boatPull t_here_boatWear t_here_onward t_here_onwardHard) s.heap.size)) (F0 m 30 ls []) := by
    intro x1 x2 t_quays H locs ls hP hD hS hl h
    unfold m_Tb_quay_B30 at h
    refine lv_aload_n hx hb dX11_quay_30 rfl (lv_at hl 0 rfl) ?_
    refine va_get (D := (dC, dI)) (ci := 11) (v := .ref (a_t 2)) (C := RX11) (T := TX11) (N := 16) hx hb hts hin11 hown hK hP 0 rfl rfl 7 (by decide) (hts (.fieldLink RX11 44 "TowedBack" "quays" "[I") (List.mem_of_getElem? (i := 3) rfl)) (fun _ h9 => h9) rfl dX11_quay_31 ?_
    refine lv_iload_n hx hb dX11_quay_34 rfl (lv_at hl 1 rfl) ?_
    obtain ⟨hi1, h⟩ := kg_some h
    refine va_iald hx hb hK hP 1 0 rfl rfl hi1 dX11_quay_35 ?_
    refine lv_istore_n (lv' := [(3, .int (t_quays x1.toNatClampNeg)), (0, .ref (a_t 0)), (1, .int x1), (2, .int x2)]) hx hb dX11_quay_36 rfl hl (by decide) rfl (fun ls hl => ?_)
    refine lv_aload_n hx hb dX11_quay_37 rfl (lv_at hl 1 rfl) ?_
    refine va_get (D := (dC, dI)) (ci := 11) (v := .ref (a_t 2)) (C := RX11) (T := TX11) (N := 16) hx hb hts hin11 hown hK hP 0 rfl rfl 7 (by decide) (hts (.fieldLink RX11 44 "TowedBack" "quays" "[I") (List.mem_of_getElem? (i := 3) rfl)) (fun _ h9 => h9) rfl dX11_quay_38 ?_
    refine lv_iload_n hx hb dX11_quay_41 rfl (lv_at hl 2 rfl) ?_
    refine lv_iload_n hx hb dX11_quay_42 rfl (lv_at hl 3 rfl) ?_
    obtain ⟨hi2, h⟩ := kg_some h
    refine va_iast hx hb hK hP hD hS 1 0 rfl rfl hi2 dX11_quay_43 (fun H locs hP hD hS => ?_)
    have hP : va_P (dC, dI) vwCl (wd_tTb13 cI cZ a_t a_t_reader a_t_here a_t_spare a_t_fleet a_t_past a_t_images a_t_draws a_t_seen a_t_book a_t_way a_t_bands a_t_exchange (a_t_here 0) (a_t_spare 0) t_lettersFed t_faultAt (upd t_quays x1.toNatClampNeg x2) t_here_junctions t_here_cuts t_here_boats t_here_cutA t_here_cutB t_here_cutHard t_here_boatAt t_here_boatPull t_here_boatWear t_here_onward t_here_onwardHard) H := hP
    have hD : va_D (va_A (wd_tTb13 cI cZ a_t a_t_reader a_t_here a_t_spare a_t_fleet a_t_past a_t_images a_t_draws a_t_seen a_t_book a_t_way a_t_bands a_t_exchange (a_t_here 0) (a_t_spare 0) t_lettersFed t_faultAt i_t_quays t_here_junctions t_here_cuts t_here_boats t_here_cutA t_here_cutB t_here_cutHard t_here_boatAt t_here_boatPull t_here_boatWear t_here_onward t_here_onwardHard) s.heap.size) (wd_tTb13 cI cZ a_t a_t_reader a_t_here a_t_spare a_t_fleet a_t_past a_t_images a_t_draws a_t_seen a_t_book a_t_way a_t_bands a_t_exchange (a_t_here 0) (a_t_spare 0) t_lettersFed t_faultAt (upd t_quays x1.toNatClampNeg x2) t_here_junctions t_here_cuts t_here_boats t_here_cutA t_here_cutB t_here_cutHard t_here_boatAt t_here_boatPull t_here_boatWear t_here_onward t_here_onwardHard) := hD
    refine lv_iload_n hx hb dX11_quay_44 rfl (lv_at hl 0 rfl) ?_
    obtain ⟨rfl, rfl⟩ := k_in2 h
    exact k_ri hx hb hr hlocks hP hS dX11_quay_45
  unfold m_Tb_quay at h
  refine lv_aload_n hx hb dX11_quay_0 rfl (lv_at hl 0 rfl) ?_
  refine va_get (D := (dC, dI)) (ci := 11) (v := .ref (a_t_here 0)) (C := RX11) (T := TX11) (N := 16) hx hb hts hin11 hown hK hP 0 rfl rfl 4 (by decide) (hts (.fieldLink RX11 30 "TowedBack" "here" "LTowedBack$Water;") (List.mem_of_getElem? (i := 1) rfl)) (fun _ h9 => h9) rfl dX11_quay_1 ?_
  refine lv_iload_n hx hb dX11_quay_4 rfl (lv_at hl 1 rfl) ?_
  obtain ⟨r3, hc3, h⟩ := kb1_some h
  refine k_RVi (rest := []) (As := [.int y1]) ⟨hx, hb, hml, hown, hts⟩ (c_Water_hasBoat l dC dI cI cZ a_t_here t_here_junctions t_here_cuts t_here_boats t_here_cutA t_here_cutB t_here_cutHard t_here_boatAt t_here_boatPull t_here_boatWear t_here_onward t_here_onwardHard y1 r3 hc3) (cwV 1 hts gX11_quay_X9_hasBoat rfl rfl rfl hd_9_hasBoat ⟨Nat.le_of_ble_eq_true rfl, Nat.le_of_ble_eq_true rfl⟩) hK hP hD hS hA [2, 3, 4, 5, 6, 7, 8, 9, 10] rfl (by decide +kernel) 2 9 rfl rfl rfl rfl hl.1 rfl (Nat.le_of_ble_eq_true rfl) dX11_quay_5 ⟨Nat.zero_le _, Nat.zero_le _⟩ (fun H locs hP hD hS => ?_)
  refine lv_if_eq (tgt := 27) hx hb dX11_quay_8 (by decide) (fun hc => ?_) (fun hc => ?_)
  · have h := k_pos hc h
    refine lv_ldc (v := (-1000000001)) hx hb hown (hts (.constant RX11 145 (-1000000001)) (List.mem_of_getElem? (i := 2) rfl)) dX11_quay_27 ?_
    obtain ⟨rfl, rfl⟩ := k_in2 h
    exact k_ri hx hb hr hlocks hP hS dX11_quay_29
  · have h := k_neg hc h
    refine lv_iload_n hx hb dX11_quay_11 rfl (lv_at hl 2 rfl) ?_
    refine lv_iconst (v := (-1)) hx hb dX11_quay_12 (by decide) ?_
    refine lv_icmp_eq (tgt := 30) hx hb dX11_quay_13 (by decide) (fun hc => ?_) (fun hc => ?_)
    · have h := k_pos hc h
      exact J30 y1 y2 i_t_quays _ _ _ hP hD hS (lv_sub hl [0, 1, 2] rfl) h
    · have h := k_neg hc h
      refine lv_aload_n hx hb dX11_quay_16 rfl (lv_at hl 0 rfl) ?_
      refine va_get (D := (dC, dI)) (ci := 11) (v := .ref (a_t_here 0)) (C := RX11) (T := TX11) (N := 16) hx hb hts hin11 hown hK hP 0 rfl rfl 4 (by decide) (hts (.fieldLink RX11 30 "TowedBack" "here" "LTowedBack$Water;") (List.mem_of_getElem? (i := 1) rfl)) (fun _ h9 => h9) rfl dX11_quay_17 ?_
      refine lv_iload_n hx hb dX11_quay_20 rfl (lv_at hl 2 rfl) ?_
      obtain ⟨r4, hc4, h⟩ := kb1_some h
      refine k_RVi (rest := []) (As := [.int y2]) ⟨hx, hb, hml, hown, hts⟩ (c_Water_hasJunction l dC dI cI cZ a_t_here t_here_junctions t_here_cuts t_here_boats t_here_cutA t_here_cutB t_here_cutHard t_here_boatAt t_here_boatPull t_here_boatWear t_here_onward t_here_onwardHard y2 r4 hc4) (cwV 1 hts gX11_quay_X9_hasJunction rfl rfl rfl hd_9_hasJunction ⟨Nat.le_of_ble_eq_true rfl, Nat.le_of_ble_eq_true rfl⟩) hK hP hD hS hA [2, 3, 4, 5, 6, 7, 8, 9, 10] rfl (by decide +kernel) 2 9 rfl rfl rfl rfl hl.1 rfl (Nat.le_of_ble_eq_true rfl) dX11_quay_21 ⟨Nat.zero_le _, Nat.zero_le _⟩ (fun H locs hP hD hS => ?_)
      refine lv_if_ne (tgt := 30) hx hb dX11_quay_24 (by decide) (fun hc => ?_) (fun hc => ?_)
      · have h := k_neg hc h
        exact J30 y1 y2 i_t_quays _ _ _ hP hD hS (lv_sub hl [0, 1, 2] rfl) h
      · have h := k_pos hc h
        refine lv_ldc (v := (-1000000001)) hx hb hown (hts (.constant RX11 145 (-1000000001)) (List.mem_of_getElem? (i := 2) rfl)) dX11_quay_27 ?_
        obtain ⟨rfl, rfl⟩ := k_in2 h
        exact k_ri hx hb hr hlocks hP hS dX11_quay_29
set_option maxHeartbeats 4000000 in
set_option maxRecDepth 100000 in
theorem c_Tb_layWay (l : Launch) (dC : Nat → ClassId) (dI : Nat → Nat → Nat) (cI cZ : ClassId) (a_t a_t_reader a_t_here a_t_spare a_t_fleet a_t_past a_t_images a_t_draws a_t_seen a_t_book a_t_way a_t_bands a_t_exchange : Nat → Nat) (t_lettersFed : Int32) (t_faultAt : Int32) (t_here_junctions : Int32) (t_here_cuts : Int32) (t_here_boats : Int32) (t_here_cutA : Nat → Int32) (t_here_cutB : Nat → Int32) (t_here_cutHard : Nat → Int32) (t_here_boatAt : Nat → Int32) (t_here_boatPull : Nat → Int32) (t_here_boatWear : Nat → Int32) (t_here_onward : Nat → Int32) (t_here_onwardHard : Nat → Int32) (t_fleet_row : Nat → Int32) (i_t_way_places : Nat → Int32) (i_t_way_needs : Nat → Int32) (i_t_way_last : Int32) (y1 : Int32) (y2 : Int32) (o_t_way_places : Nat → Int32) (o_t_way_needs : Nat → Int32) (o_t_way_last : Int32) (h : m_Tb_layWay y1 y2 t_here_boats t_here_boatWear t_here_onward t_here_onwardHard t_fleet_row i_t_way_places i_t_way_needs i_t_way_last = some (o_t_way_places, o_t_way_needs, o_t_way_last)) : (MV l yX11_layWay wsX11_layWay ({ frames := 3, cells := 0, slots := 0, locals := 75 }) (dC, dI) [(cI, .int), (cZ, .boolean)] (wd_tTb14 cI cZ a_t a_t_reader a_t_here a_t_spare a_t_fleet a_t_past a_t_images a_t_draws a_t_seen a_t_book a_t_way a_t_bands a_t_exchange (a_t_here 0) (a_t_spare 0) t_lettersFed t_faultAt t_here_junctions t_here_cuts t_here_boats t_here_cutA t_here_cutB t_here_cutHard t_here_boatAt t_here_boatPull t_here_boatWear t_here_onward t_here_onwardHard t_fleet_row i_t_way_places i_t_way_needs i_t_way_last) (wd_tTb14 cI cZ a_t a_t_reader a_t_here a_t_spare a_t_fleet a_t_past a_t_images a_t_draws a_t_seen a_t_book a_t_way a_t_bands a_t_exchange (a_t_here 0) (a_t_spare 0) t_lettersFed t_faultAt t_here_junctions t_here_cuts t_here_boats t_here_cutA t_here_cutB t_here_cutHard t_here_boatAt t_here_boatPull t_here_boatWear t_here_onward t_here_onwardHard t_fleet_row o_t_way_places o_t_way_needs o_t_way_last) [.ref (a_t 0), .int y1, .int y2]) := by
  intro sz
  refine Met.ofW (cc := cX11_layWay) (maxL := 3) (ret := none) (by decide) rfl ?_
  intro p e s m args below meth c s₁ B hml hv
  obtain ⟨rfl, hsz, hP, hK, hD0⟩ := hv
  have hx := B.exec
  have hb := B.bytes
  have hr := B.returns
  have hts := atoms_spec (ws := wsX11_layWay) B.pre
  have hown : s.vm.findClass RX11 = some m.cls := findClass_of_methodNamed B.named
  have hlocks := B.notSynchronized
  subst hsz
  have hD := hD0.self (sz := s.heap.size)
  have hA : ∀ q : Nat, s.heap.size ≤ q → va_A (wd_tTb14 cI cZ a_t a_t_reader a_t_here a_t_spare a_t_fleet a_t_past a_t_images a_t_draws a_t_seen a_t_book a_t_way a_t_bands a_t_exchange (a_t_here 0) (a_t_spare 0) t_lettersFed t_faultAt t_here_junctions t_here_cuts t_here_boats t_here_cutA t_here_cutB t_here_cutHard t_here_boatAt t_here_boatPull t_here_boatWear t_here_onward t_here_onwardHard t_fleet_row i_t_way_places i_t_way_needs i_t_way_last) s.heap.size q := fun q h => Or.inr h
  have hS : va_S (va_A (wd_tTb14 cI cZ a_t a_t_reader a_t_here a_t_spare a_t_fleet a_t_past a_t_images a_t_draws a_t_seen a_t_book a_t_way a_t_bands a_t_exchange (a_t_here 0) (a_t_spare 0) t_lettersFed t_faultAt t_here_junctions t_here_cuts t_here_boats t_here_cutA t_here_cutB t_here_cutHard t_here_boatAt t_here_boatPull t_here_boatWear t_here_onward t_here_onwardHard t_fleet_row i_t_way_places i_t_way_needs i_t_way_last) s.heap.size) s.heap s.heap [] := va_S.rf
  have hin11 : ∀ w ∈ u_ws RX11 TX11 16, w ∈ wsX11_layWay := fun w h => List.mem_cons_of_mem _ (List.mem_append_left _ (List.mem_append_left _ (List.mem_append_left _ (List.mem_append_right _ h))))
  have hl := lv_entry ([.ref (a_t 0), .int y1, .int y2]) (n := 3) (Nat.le_of_ble_eq_true rfl)
  rw [lg_entry_eq]
  generalize (lg_sl ([.ref (a_t 0), .int y1, .int y2]) ++ List.replicate (3 - (lg_sl ([.ref (a_t 0), .int y1, .int y2])).length) Slot.unset).toArray = ls at hl ⊢
  have hl : lv_has ls 3 [(0, .ref (a_t 0)), (1, .int y1), (2, .int y2)] := hl
  unfold m_Tb_layWay at h
  refine lv_aload_n hx hb dX11_layWay_0 rfl (lv_at hl 0 rfl) ?_
  refine va_get (D := (dC, dI)) (ci := 11) (v := .ref (a_t_way 0)) (C := RX11) (T := TX11) (N := 16) hx hb hts hin11 hown hK hP 0 rfl rfl 13 (by decide) (hts (.fieldLink RX11 83 "TowedBack" "way" "LTowedBack$Way;") (List.mem_of_getElem? (i := 1) rfl)) (fun _ h9 => h9) rfl dX11_layWay_1 ?_
  refine lv_aload_n hx hb dX11_layWay_4 rfl (lv_at hl 0 rfl) ?_
  refine va_get (D := (dC, dI)) (ci := 11) (v := .ref (a_t_here 0)) (C := RX11) (T := TX11) (N := 16) hx hb hts hin11 hown hK hP 0 rfl rfl 4 (by decide) (hts (.fieldLink RX11 30 "TowedBack" "here" "LTowedBack$Water;") (List.mem_of_getElem? (i := 2) rfl)) (fun _ h9 => h9) rfl dX11_layWay_5 ?_
  refine lv_aload_n hx hb dX11_layWay_8 rfl (lv_at hl 0 rfl) ?_
  refine va_get (D := (dC, dI)) (ci := 11) (v := .ref (a_t_fleet 0)) (C := RX11) (T := TX11) (N := 16) hx hb hts hin11 hown hK hP 0 rfl rfl 6 (by decide) (hts (.fieldLink RX11 40 "TowedBack" "fleet" "LTowedBack$Fleet;") (List.mem_of_getElem? (i := 3) rfl)) (fun _ h9 => h9) rfl dX11_layWay_9 ?_
  refine lv_iload_n hx hb dX11_layWay_12 rfl (lv_at hl 1 rfl) ?_
  obtain ⟨r1, hc1, h⟩ := kb1_some h
  refine k_RVi (rest := [.ref (a_t_here 0), .ref (a_t_way 0)]) (As := [.int y1]) ⟨hx, hb, hml, hown, hts⟩ (c_Fleet_at l dC dI cI cZ a_t_fleet t_fleet_row y1 r1 hc1) (cwV 1 hts gX11_layWay_X4_at rfl rfl rfl hd_4_at ⟨Nat.le_of_ble_eq_true rfl, Nat.le_of_ble_eq_true rfl⟩) hK hP hD hS hA [10, 11] rfl (by decide +kernel) 10 4 rfl rfl rfl rfl hl.1 rfl (Nat.le_of_ble_eq_true rfl) dX11_layWay_13 ⟨Nat.zero_le _, Nat.zero_le _⟩ (fun H locs hP hD hS => ?_)
  refine lv_aload_n hx hb dX11_layWay_16 rfl (lv_at hl 0 rfl) ?_
  refine va_get (D := (dC, dI)) (ci := 11) (v := .ref (a_t_fleet 0)) (C := RX11) (T := TX11) (N := 16) hx hb hts hin11 hown hK hP 0 rfl rfl 6 (by decide) (hts (.fieldLink RX11 40 "TowedBack" "fleet" "LTowedBack$Fleet;") (List.mem_of_getElem? (i := 3) rfl)) (fun _ h9 => h9) rfl dX11_layWay_17 ?_
  refine lv_iload_n hx hb dX11_layWay_20 rfl (lv_at hl 1 rfl) ?_
  obtain ⟨r2, hc2, h⟩ := kb1_some h
  refine k_RVi (rest := [.int r1, .ref (a_t_here 0), .ref (a_t_way 0)]) (As := [.int y1]) ⟨hx, hb, hml, hown, hts⟩ (c_Fleet_from l dC dI cI cZ a_t_fleet t_fleet_row y1 r2 hc2) (cwV 1 hts gX11_layWay_X4_from rfl rfl rfl hd_4_from ⟨Nat.le_of_ble_eq_true rfl, Nat.le_of_ble_eq_true rfl⟩) hK hP hD hS hA [10, 11] rfl (by decide +kernel) 10 4 rfl rfl rfl rfl hl.1 rfl (Nat.le_of_ble_eq_true rfl) dX11_layWay_21 ⟨Nat.zero_le _, Nat.zero_le _⟩ (fun H locs hP hD hS => ?_)
  refine lv_aload_n hx hb dX11_layWay_24 rfl (lv_at hl 0 rfl) ?_
  refine va_get (D := (dC, dI)) (ci := 11) (v := .ref (a_t_here 0)) (C := RX11) (T := TX11) (N := 16) hx hb hts hin11 hown hK hP 0 rfl rfl 4 (by decide) (hts (.fieldLink RX11 30 "TowedBack" "here" "LTowedBack$Water;") (List.mem_of_getElem? (i := 2) rfl)) (fun _ h9 => h9) rfl dX11_layWay_25 ?_
  refine lv_iload_n hx hb dX11_layWay_28 rfl (lv_at hl 1 rfl) ?_
  obtain ⟨r3, hc3, h⟩ := kb1_some h
  refine k_RVi (rest := [.int r2, .int r1, .ref (a_t_here 0), .ref (a_t_way 0)]) (As := [.int y1]) ⟨hx, hb, hml, hown, hts⟩ (c_Water_wearOf l dC dI cI cZ a_t_here t_here_junctions t_here_cuts t_here_boats t_here_cutA t_here_cutB t_here_cutHard t_here_boatAt t_here_boatPull t_here_boatWear t_here_onward t_here_onwardHard y1 r3 hc3) (cwV 1 hts gX11_layWay_X9_wearOf rfl rfl rfl hd_9_wearOf ⟨Nat.le_of_ble_eq_true rfl, Nat.le_of_ble_eq_true rfl⟩) hK hP hD hS hA [1, 2, 3, 4, 5, 6, 7, 8, 9] rfl (by decide +kernel) 1 9 rfl rfl rfl rfl hl.1 rfl (Nat.le_of_ble_eq_true rfl) dX11_layWay_29 ⟨Nat.zero_le _, Nat.zero_le _⟩ (fun H locs hP hD hS => ?_)
  refine lv_iload_n hx hb dX11_layWay_32 rfl (lv_at hl 2 rfl) ?_
  obtain ⟨t_way_places_4, t_way_needs_4, t_way_last_4, hc4, h⟩ := kb3_some h
  refine k_GVv (rest := []) (As := [.ref (a_t_here 0), .int r1, .int r2, .int r3, .int y2]) (ws' := (wd_tTb14 cI cZ a_t a_t_reader a_t_here a_t_spare a_t_fleet a_t_past a_t_images a_t_draws a_t_seen a_t_book a_t_way a_t_bands a_t_exchange (a_t_here 0) (a_t_spare 0) t_lettersFed t_faultAt t_here_junctions t_here_cuts t_here_boats t_here_cutA t_here_cutB t_here_cutHard t_here_boatAt t_here_boatPull t_here_boatWear t_here_onward t_here_onwardHard t_fleet_row t_way_places_4 t_way_needs_4 t_way_last_4)) ⟨hx, hb, hml, hown, hts⟩ (c_Way_lay l dC dI cI cZ a_t_way a_t_here i_t_way_places i_t_way_needs i_t_way_last t_here_junctions t_here_cuts t_here_boats t_here_cutA t_here_cutB t_here_cutHard t_here_boatAt t_here_boatPull t_here_boatWear t_here_onward t_here_onwardHard r1 r2 r3 y2 t_way_places_4 t_way_needs_4 t_way_last_4 hc4) (cwV 5 hts gX11_layWay_X10_lay rfl rfl rfl hd_10_lay ⟨Nat.le_of_ble_eq_true rfl, Nat.le_of_ble_eq_true rfl⟩) hK hP hD hS hA [12, 13, 14, 1, 2, 3, 4, 5, 6, 7, 8, 9] rfl (by decide +kernel) 12 10 rfl rfl rfl [0, 10, 11] rfl (k_allc rfl rfl (k_allc rfl rfl (k_allc rfl rfl k_alln))) 15 rfl (by decide +kernel) (wd_tTb14_f.trans wd_tTb14_f.symm) rfl hl.1 rfl (Nat.le_of_ble_eq_true rfl) dX11_layWay_33 ⟨Nat.zero_le _, Nat.zero_le _⟩ (fun H locs hP hD hS => ?_)
  obtain ⟨rfl, rfl, rfl⟩ := k_in3 h
  exact k_rv hx hb hr hlocks hP hS dX11_layWay_36
set_option maxHeartbeats 4000000 in
set_option maxRecDepth 100000 in
theorem c_Tb_where (l : Launch) (dC : Nat → ClassId) (dI : Nat → Nat → Nat) (cI cZ : ClassId) (a_t a_t_reader a_t_here a_t_spare a_t_fleet a_t_past a_t_images a_t_draws a_t_seen a_t_book a_t_way a_t_bands a_t_exchange : Nat → Nat) (t_lettersFed : Int32) (t_faultAt : Int32) (t_here_junctions : Int32) (t_here_cuts : Int32) (t_here_boats : Int32) (t_here_cutA : Nat → Int32) (t_here_cutB : Nat → Int32) (t_here_cutHard : Nat → Int32) (t_here_boatAt : Nat → Int32) (t_here_boatPull : Nat → Int32) (t_here_boatWear : Nat → Int32) (t_here_onward : Nat → Int32) (t_here_onwardHard : Nat → Int32) (t_fleet_row : Nat → Int32) (i_t_way_places : Nat → Int32) (i_t_way_needs : Nat → Int32) (i_t_way_last : Int32) (y1 : Int32) (y2 : Int32) (y3 : Int32) (r0 : Int32) (o_t_way_places : Nat → Int32) (o_t_way_needs : Nat → Int32) (o_t_way_last : Int32) (h : m_Tb_where y1 y2 y3 t_here_boats t_here_boatWear t_here_onward t_here_onwardHard t_fleet_row i_t_way_places i_t_way_needs i_t_way_last = some (r0, o_t_way_places, o_t_way_needs, o_t_way_last)) : (MI l yX11_where wsX11_where ({ frames := 4, cells := 0, slots := 0, locals := 97 }) (dC, dI) [(cI, .int), (cZ, .boolean)] (wd_tTb14 cI cZ a_t a_t_reader a_t_here a_t_spare a_t_fleet a_t_past a_t_images a_t_draws a_t_seen a_t_book a_t_way a_t_bands a_t_exchange (a_t_here 0) (a_t_spare 0) t_lettersFed t_faultAt t_here_junctions t_here_cuts t_here_boats t_here_cutA t_here_cutB t_here_cutHard t_here_boatAt t_here_boatPull t_here_boatWear t_here_onward t_here_onwardHard t_fleet_row i_t_way_places i_t_way_needs i_t_way_last) (wd_tTb14 cI cZ a_t a_t_reader a_t_here a_t_spare a_t_fleet a_t_past a_t_images a_t_draws a_t_seen a_t_book a_t_way a_t_bands a_t_exchange (a_t_here 0) (a_t_spare 0) t_lettersFed t_faultAt t_here_junctions t_here_cuts t_here_boats t_here_cutA t_here_cutB t_here_cutHard t_here_boatAt t_here_boatPull t_here_boatWear t_here_onward t_here_onwardHard t_fleet_row o_t_way_places o_t_way_needs o_t_way_last) [.ref (a_t 0), .int y1, .int y2, .int y3] r0) := by
  intro sz
  refine Met.ofW (cc := cX11_where) (maxL := 5) (ret := (some .int)) (by decide) rfl ?_
  intro p e s m args below meth c s₁ B hml hv
  obtain ⟨rfl, hsz, hP, hK, hD0⟩ := hv
  have hx := B.exec
  have hb := B.bytes
  have hr := B.returns
  have hts := atoms_spec (ws := wsX11_where) B.pre
  have hown : s.vm.findClass RX11 = some m.cls := findClass_of_methodNamed B.named
  have hlocks := B.notSynchronized
  subst hsz
  have hD := hD0.self (sz := s.heap.size)
  have hA : ∀ q : Nat, s.heap.size ≤ q → va_A (wd_tTb14 cI cZ a_t a_t_reader a_t_here a_t_spare a_t_fleet a_t_past a_t_images a_t_draws a_t_seen a_t_book a_t_way a_t_bands a_t_exchange (a_t_here 0) (a_t_spare 0) t_lettersFed t_faultAt t_here_junctions t_here_cuts t_here_boats t_here_cutA t_here_cutB t_here_cutHard t_here_boatAt t_here_boatPull t_here_boatWear t_here_onward t_here_onwardHard t_fleet_row i_t_way_places i_t_way_needs i_t_way_last) s.heap.size q := fun q h => Or.inr h
  have hS : va_S (va_A (wd_tTb14 cI cZ a_t a_t_reader a_t_here a_t_spare a_t_fleet a_t_past a_t_images a_t_draws a_t_seen a_t_book a_t_way a_t_bands a_t_exchange (a_t_here 0) (a_t_spare 0) t_lettersFed t_faultAt t_here_junctions t_here_cuts t_here_boats t_here_cutA t_here_cutB t_here_cutHard t_here_boatAt t_here_boatPull t_here_boatWear t_here_onward t_here_onwardHard t_fleet_row i_t_way_places i_t_way_needs i_t_way_last) s.heap.size) s.heap s.heap [] := va_S.rf
  have hin11 : ∀ w ∈ u_ws RX11 TX11 16, w ∈ wsX11_where := fun w h => List.mem_cons_of_mem _ (List.mem_append_left _ (List.mem_append_left _ (List.mem_append_left _ (List.mem_append_right _ h))))
  have hl := lv_entry ([.ref (a_t 0), .int y1, .int y2, .int y3]) (n := 5) (Nat.le_of_ble_eq_true rfl)
  rw [lg_entry_eq]
  generalize (lg_sl ([.ref (a_t 0), .int y1, .int y2, .int y3]) ++ List.replicate (5 - (lg_sl ([.ref (a_t 0), .int y1, .int y2, .int y3])).length) Slot.unset).toArray = ls at hl ⊢
  have hl : lv_has ls 5 [(0, .ref (a_t 0)), (1, .int y1), (2, .int y2), (3, .int y3)] := hl
  unfold m_Tb_where at h
  refine lv_aload_n hx hb dX11_where_0 rfl (lv_at hl 0 rfl) ?_
  refine va_get (D := (dC, dI)) (ci := 11) (v := .ref (a_t_here 0)) (C := RX11) (T := TX11) (N := 16) hx hb hts hin11 hown hK hP 0 rfl rfl 4 (by decide) (hts (.fieldLink RX11 30 "TowedBack" "here" "LTowedBack$Water;") (List.mem_of_getElem? (i := 1) rfl)) (fun _ h9 => h9) rfl dX11_where_1 ?_
  refine lv_iload_n hx hb dX11_where_4 rfl (lv_at hl 1 rfl) ?_
  obtain ⟨r1, hc1, h⟩ := kb1_some h
  refine k_RVi (rest := []) (As := [.int y1]) ⟨hx, hb, hml, hown, hts⟩ (c_Water_hasBoat l dC dI cI cZ a_t_here t_here_junctions t_here_cuts t_here_boats t_here_cutA t_here_cutB t_here_cutHard t_here_boatAt t_here_boatPull t_here_boatWear t_here_onward t_here_onwardHard y1 r1 hc1) (cwV 1 hts gX11_where_X9_hasBoat rfl rfl rfl hd_9_hasBoat ⟨Nat.le_of_ble_eq_true rfl, Nat.le_of_ble_eq_true rfl⟩) hK hP hD hS hA [1, 2, 3, 4, 5, 6, 7, 8, 9] rfl (by decide +kernel) 1 9 rfl rfl rfl rfl hl.1 rfl (Nat.le_of_ble_eq_true rfl) dX11_where_5 ⟨Nat.zero_le _, Nat.zero_le _⟩ (fun H locs hP hD hS => ?_)
  refine lv_if_ne (tgt := 14) hx hb dX11_where_8 (by decide) (fun hc => ?_) (fun hc => ?_)
  · have h := k_neg hc h
    refine lv_iload_n hx hb dX11_where_14 rfl (lv_at hl 2 rfl) ?_
    refine lv_if_lt (tgt := 33) hx hb dX11_where_15 (by decide) (fun hc => ?_) (fun hc => ?_)
    · have h := k_pos hc h
      refine lv_ldc (v := (-1000000002)) hx hb hown (hts (.constant RX11 104 (-1000000002)) (List.mem_of_getElem? (i := 3) rfl)) dX11_where_33 ?_
      obtain ⟨rfl, rfl, rfl, rfl⟩ := k_in4 h
      exact k_ri hx hb hr hlocks hP hS dX11_where_35
    · have h := k_neg hc h
      refine lv_iload_n hx hb dX11_where_18 rfl (lv_at hl 2 rfl) ?_
      refine lv_bipush (v := 60) hx hb dX11_where_19 (by decide) ?_
      refine lv_icmp_gt (tgt := 33) hx hb dX11_where_21 (by decide) (fun hc => ?_) (fun hc => ?_)
      · have h := k_pos hc h
        refine lv_ldc (v := (-1000000002)) hx hb hown (hts (.constant RX11 104 (-1000000002)) (List.mem_of_getElem? (i := 3) rfl)) dX11_where_33 ?_
        obtain ⟨rfl, rfl, rfl, rfl⟩ := k_in4 h
        exact k_ri hx hb hr hlocks hP hS dX11_where_35
      · have h := k_neg hc h
        refine lv_iload_n hx hb dX11_where_24 rfl (lv_at hl 3 rfl) ?_
        refine lv_if_lt (tgt := 33) hx hb dX11_where_25 (by decide) (fun hc => ?_) (fun hc => ?_)
        · have h := k_pos hc h
          refine lv_ldc (v := (-1000000002)) hx hb hown (hts (.constant RX11 104 (-1000000002)) (List.mem_of_getElem? (i := 3) rfl)) dX11_where_33 ?_
          obtain ⟨rfl, rfl, rfl, rfl⟩ := k_in4 h
          exact k_ri hx hb hr hlocks hP hS dX11_where_35
        · have h := k_neg hc h
          refine lv_iload_n hx hb dX11_where_28 rfl (lv_at hl 3 rfl) ?_
          refine lv_iconst (v := 1) hx hb dX11_where_29 (by decide) ?_
          refine lv_icmp_le (tgt := 36) hx hb dX11_where_30 (by decide) (fun hc => ?_) (fun hc => ?_)
          · have h := k_pos hc h
            refine lv_aload_n hx hb dX11_where_36 rfl (lv_at hl 0 rfl) ?_
            refine lv_iload_n hx hb dX11_where_37 rfl (lv_at hl 1 rfl) ?_
            refine lv_iload_n hx hb dX11_where_38 rfl (lv_at hl 2 rfl) ?_
            obtain ⟨t_way_places_2, t_way_needs_2, t_way_last_2, hc2, h⟩ := kb3_some h
            refine k_FVv (rest := []) (As := [.int y1, .int y2]) ⟨hx, hb, hml, hown, hts⟩ (c_Tb_layWay l dC dI cI cZ a_t a_t_reader a_t_here a_t_spare a_t_fleet a_t_past a_t_images a_t_draws a_t_seen a_t_book a_t_way a_t_bands a_t_exchange t_lettersFed t_faultAt t_here_junctions t_here_cuts t_here_boats t_here_cutA t_here_cutB t_here_cutHard t_here_boatAt t_here_boatPull t_here_boatWear t_here_onward t_here_onwardHard t_fleet_row i_t_way_places i_t_way_needs i_t_way_last y1 y2 t_way_places_2 t_way_needs_2 t_way_last_2 hc2) (cwV 2 hts gX11_where_X11_layWay rfl rfl rfl hd_11_layWay ⟨Nat.le_of_ble_eq_true rfl, Nat.le_of_ble_eq_true rfl⟩) hK hP hD hS hA 0 11 rfl rfl rfl (wd_tTb14_f.trans wd_tTb14_f.symm) rfl hl.1 rfl (Nat.le_of_ble_eq_true rfl) dX11_where_39 ⟨Nat.zero_le _, Nat.zero_le _⟩ (fun H locs hP hD hS => ?_)
            refine lv_aload_n hx hb dX11_where_42 rfl (lv_at hl 0 rfl) ?_
            refine va_get (D := (dC, dI)) (ci := 11) (v := .ref (a_t_way 0)) (C := RX11) (T := TX11) (N := 16) hx hb hts hin11 hown hK hP 0 rfl rfl 13 (by decide) (hts (.fieldLink RX11 83 "TowedBack" "way" "LTowedBack$Way;") (List.mem_of_getElem? (i := 4) rfl)) (fun _ h9 => h9) rfl dX11_where_43 ?_
            refine lv_aload_n hx hb dX11_where_46 rfl (lv_at hl 0 rfl) ?_
            refine va_get (D := (dC, dI)) (ci := 11) (v := .ref (a_t_fleet 0)) (C := RX11) (T := TX11) (N := 16) hx hb hts hin11 hown hK hP 0 rfl rfl 6 (by decide) (hts (.fieldLink RX11 40 "TowedBack" "fleet" "LTowedBack$Fleet;") (List.mem_of_getElem? (i := 5) rfl)) (fun _ h9 => h9) rfl dX11_where_47 ?_
            refine lv_iload_n hx hb dX11_where_50 rfl (lv_at hl 1 rfl) ?_
            obtain ⟨r3, hc3, h⟩ := kb1_some h
            refine k_RVi (rest := [.ref (a_t_way 0)]) (As := [.int y1]) ⟨hx, hb, hml, hown, hts⟩ (c_Fleet_pull l dC dI cI cZ a_t_fleet t_fleet_row y1 r3 hc3) (cwV 1 hts gX11_where_X4_pull rfl rfl rfl hd_4_pull ⟨Nat.le_of_ble_eq_true rfl, Nat.le_of_ble_eq_true rfl⟩) hK hP hD hS hA [10, 11] rfl (by decide +kernel) 10 4 rfl rfl rfl rfl hl.1 rfl (Nat.le_of_ble_eq_true rfl) dX11_where_51 ⟨Nat.zero_le _, Nat.zero_le _⟩ (fun H locs hP hD hS => ?_)
            refine lv_iload_n hx hb dX11_where_54 rfl (lv_at hl 2 rfl) ?_
            obtain ⟨r4, hc4, h⟩ := kb1_some h
            refine k_RVi (rest := []) (As := [.int r3, .int y2]) ⟨hx, hb, hml, hown, hts⟩ (c_Way_gone l dC dI cI cZ a_t_way t_way_places_2 t_way_needs_2 t_way_last_2 r3 y2 r4 hc4) (cwV 2 hts gX11_where_X10_gone rfl rfl rfl hd_10_gone ⟨Nat.le_of_ble_eq_true rfl, Nat.le_of_ble_eq_true rfl⟩) hK hP hD hS hA [12, 13, 14] rfl (by decide +kernel) 12 10 rfl rfl rfl rfl hl.1 rfl (Nat.le_of_ble_eq_true rfl) dX11_where_55 ⟨Nat.zero_le _, Nat.zero_le _⟩ (fun H locs hP hD hS => ?_)
            refine lv_istore (lv' := [(4, .int r4), (0, .ref (a_t 0)), (1, .int y1), (2, .int y2), (3, .int y3)]) hx hb dX11_where_58 hl (by decide) rfl (fun ls hl => ?_)
            refine lv_iload_n hx hb dX11_where_60 rfl (lv_at hl 4 rfl) ?_
            refine lv_if_ne (tgt := 74) hx hb dX11_where_61 (by decide) (fun hc => ?_) (fun hc => ?_)
            · have h := k_neg hc h
              refine lv_iconst (v := 0) hx hb dX11_where_74 (by decide) ?_
              refine lv_aload_n hx hb dX11_where_75 rfl (lv_at hl 1 rfl) ?_
              refine va_get (D := (dC, dI)) (ci := 11) (v := .ref (a_t_fleet 0)) (C := RX11) (T := TX11) (N := 16) hx hb hts hin11 hown hK hP 0 rfl rfl 6 (by decide) (hts (.fieldLink RX11 40 "TowedBack" "fleet" "LTowedBack$Fleet;") (List.mem_of_getElem? (i := 5) rfl)) (fun _ h9 => h9) rfl dX11_where_76 ?_
              refine lv_iload_n hx hb dX11_where_79 rfl (lv_at hl 2 rfl) ?_
              obtain ⟨r5, hc5, h⟩ := kb1_some h
              refine k_RVi (rest := [.int 0]) (As := [.int y1]) ⟨hx, hb, hml, hown, hts⟩ (c_Fleet_pull l dC dI cI cZ a_t_fleet t_fleet_row y1 r5 hc5) (cwV 1 hts gX11_where_X4_pull rfl rfl rfl hd_4_pull ⟨Nat.le_of_ble_eq_true rfl, Nat.le_of_ble_eq_true rfl⟩) hK hP hD hS hA [10, 11] rfl (by decide +kernel) 10 4 rfl rfl rfl rfl hl.1 rfl (Nat.le_of_ble_eq_true rfl) dX11_where_80 ⟨Nat.zero_le _, Nat.zero_le _⟩ (fun H locs hP hD hS => ?_)
              refine lv_iload hx hb dX11_where_83 (lv_at hl 0 rfl) ?_
              refine lv_aload_n hx hb dX11_where_85 rfl (lv_at hl 1 rfl) ?_
              refine va_get (D := (dC, dI)) (ci := 11) (v := .ref (a_t_here 0)) (C := RX11) (T := TX11) (N := 16) hx hb hts hin11 hown hK hP 0 rfl rfl 4 (by decide) (hts (.fieldLink RX11 30 "TowedBack" "here" "LTowedBack$Water;") (List.mem_of_getElem? (i := 1) rfl)) (fun _ h9 => h9) rfl dX11_where_86 ?_
              refine lv_iload_n hx hb dX11_where_89 rfl (lv_at hl 2 rfl) ?_
              obtain ⟨r6, hc6, h⟩ := kb1_some h
              refine k_RVi (rest := [.int r4, .int r5, .int 0]) (As := [.int y1]) ⟨hx, hb, hml, hown, hts⟩ (c_Water_wearOf l dC dI cI cZ a_t_here t_here_junctions t_here_cuts t_here_boats t_here_cutA t_here_cutB t_here_cutHard t_here_boatAt t_here_boatPull t_here_boatWear t_here_onward t_here_onwardHard y1 r6 hc6) (cwV 1 hts gX11_where_X9_wearOf rfl rfl rfl hd_9_wearOf ⟨Nat.le_of_ble_eq_true rfl, Nat.le_of_ble_eq_true rfl⟩) hK hP hD hS hA [1, 2, 3, 4, 5, 6, 7, 8, 9] rfl (by decide +kernel) 1 9 rfl rfl rfl rfl hl.1 rfl (Nat.le_of_ble_eq_true rfl) dX11_where_90 ⟨Nat.zero_le _, Nat.zero_le _⟩ (fun H locs hP hD hS => ?_)
              refine lv_imul hx hb dX11_where_93 ?_
              refine lv_isub hx hb dX11_where_94 ?_
              refine va_mmax hx hb (hml.trans hl.1.symm) hown (hts (.methodLink RX11 218 Lib.Math.max.name) (List.mem_of_getElem? (i := 6) rfl)) (hts (.static Lib.Math.max.name) (List.mem_of_getElem? (i := 7) rfl)) (hts (.initialized "java/lang/Math") (List.mem_of_getElem? (i := 8) rfl)) (hts (.code Lib.Math.max.name Lib.Math.max.code 2 (some .int)) (List.mem_of_getElem? (i := 9) rfl)) (Nat.le_of_ble_eq_true rfl) (Nat.le_of_ble_eq_true rfl) (Nat.zero_le _) (Nat.zero_le _) dX11_where_95 ?_
              obtain ⟨rfl, rfl, rfl, rfl⟩ := k_in4 h
              exact k_ri hx hb hr hlocks hP hS dX11_where_98
            · have h := k_pos hc h
              refine lv_aload_n hx hb dX11_where_64 rfl (lv_at hl 1 rfl) ?_
              refine va_get (D := (dC, dI)) (ci := 11) (v := .ref (a_t_way 0)) (C := RX11) (T := TX11) (N := 16) hx hb hts hin11 hown hK hP 0 rfl rfl 13 (by decide) (hts (.fieldLink RX11 83 "TowedBack" "way" "LTowedBack$Way;") (List.mem_of_getElem? (i := 4) rfl)) (fun _ h9 => h9) rfl dX11_where_65 ?_
              refine lv_iload hx hb dX11_where_68 (lv_at hl 0 rfl) ?_
              obtain ⟨r7, hc7, h⟩ := kb1_some h
              refine k_RVi (rest := []) (As := [.int r4]) ⟨hx, hb, hml, hown, hts⟩ (c_Way_place l dC dI cI cZ a_t_way t_way_places_2 t_way_needs_2 t_way_last_2 r4 r7 hc7) (cwV 1 hts gX11_where_X10_place rfl rfl rfl hd_10_place ⟨Nat.le_of_ble_eq_true rfl, Nat.le_of_ble_eq_true rfl⟩) hK hP hD hS hA [12, 13, 14] rfl (by decide +kernel) 12 10 rfl rfl rfl rfl hl.1 rfl (Nat.le_of_ble_eq_true rfl) dX11_where_70 ⟨Nat.zero_le _, Nat.zero_le _⟩ (fun H locs hP hD hS => ?_)
              obtain ⟨rfl, rfl, rfl, rfl⟩ := k_in4 h
              exact k_ri hx hb hr hlocks hP hS dX11_where_73
          · have h := k_neg hc h
            refine lv_ldc (v := (-1000000002)) hx hb hown (hts (.constant RX11 104 (-1000000002)) (List.mem_of_getElem? (i := 3) rfl)) dX11_where_33 ?_
            obtain ⟨rfl, rfl, rfl, rfl⟩ := k_in4 h
            exact k_ri hx hb hr hlocks hP hS dX11_where_35
  · have h := k_pos hc h
    refine lv_ldc (v := (-1000000001)) hx hb hown (hts (.constant RX11 145 (-1000000001)) (List.mem_of_getElem? (i := 2) rfl)) dX11_where_11 ?_
    obtain ⟨rfl, rfl, rfl, rfl⟩ := k_in4 h
    exact k_ri hx hb hr hlocks hP hS dX11_where_13
set_option maxHeartbeats 4000000 in
set_option maxRecDepth 100000 in
theorem c_Tb_sits (l : Launch) (dC : Nat → ClassId) (dI : Nat → Nat → Nat) (cI cZ : ClassId) (a_t a_t_reader a_t_here a_t_spare a_t_fleet a_t_past a_t_images a_t_draws a_t_seen a_t_book a_t_way a_t_bands a_t_exchange : Nat → Nat) (t_lettersFed : Int32) (t_faultAt : Int32) (t_here_junctions : Int32) (t_here_cuts : Int32) (t_here_boats : Int32) (t_here_cutA : Nat → Int32) (t_here_cutB : Nat → Int32) (t_here_cutHard : Nat → Int32) (t_here_boatAt : Nat → Int32) (t_here_boatPull : Nat → Int32) (t_here_boatWear : Nat → Int32) (t_here_onward : Nat → Int32) (t_here_onwardHard : Nat → Int32) (t_fleet_row : Nat → Int32) (i_t_way_places : Nat → Int32) (i_t_way_needs : Nat → Int32) (i_t_way_last : Int32) (y1 : Int32) (r0 : Int32) (o_t_way_places : Nat → Int32) (o_t_way_needs : Nat → Int32) (o_t_way_last : Int32) (h : m_Tb_sits y1 t_here_boats t_here_boatWear t_here_onward t_here_onwardHard t_fleet_row i_t_way_places i_t_way_needs i_t_way_last = some (r0, o_t_way_places, o_t_way_needs, o_t_way_last)) : (MI l yX11_sits wsX11_sits ({ frames := 4, cells := 0, slots := 0, locals := 97 }) (dC, dI) [(cI, .int), (cZ, .boolean)] (wd_tTb14 cI cZ a_t a_t_reader a_t_here a_t_spare a_t_fleet a_t_past a_t_images a_t_draws a_t_seen a_t_book a_t_way a_t_bands a_t_exchange (a_t_here 0) (a_t_spare 0) t_lettersFed t_faultAt t_here_junctions t_here_cuts t_here_boats t_here_cutA t_here_cutB t_here_cutHard t_here_boatAt t_here_boatPull t_here_boatWear t_here_onward t_here_onwardHard t_fleet_row i_t_way_places i_t_way_needs i_t_way_last) (wd_tTb14 cI cZ a_t a_t_reader a_t_here a_t_spare a_t_fleet a_t_past a_t_images a_t_draws a_t_seen a_t_book a_t_way a_t_bands a_t_exchange (a_t_here 0) (a_t_spare 0) t_lettersFed t_faultAt t_here_junctions t_here_cuts t_here_boats t_here_cutA t_here_cutB t_here_cutHard t_here_boatAt t_here_boatPull t_here_boatWear t_here_onward t_here_onwardHard t_fleet_row o_t_way_places o_t_way_needs o_t_way_last) [.ref (a_t 0), .int y1] r0) := by
  intro sz
  refine Met.ofW (cc := cX11_sits) (maxL := 3) (ret := (some .int)) (by decide) rfl ?_
  intro p e s m args below meth c s₁ B hml hv
  obtain ⟨rfl, hsz, hP, hK, hD0⟩ := hv
  have hx := B.exec
  have hb := B.bytes
  have hr := B.returns
  have hts := atoms_spec (ws := wsX11_sits) B.pre
  have hown : s.vm.findClass RX11 = some m.cls := findClass_of_methodNamed B.named
  have hlocks := B.notSynchronized
  subst hsz
  have hD := hD0.self (sz := s.heap.size)
  have hA : ∀ q : Nat, s.heap.size ≤ q → va_A (wd_tTb14 cI cZ a_t a_t_reader a_t_here a_t_spare a_t_fleet a_t_past a_t_images a_t_draws a_t_seen a_t_book a_t_way a_t_bands a_t_exchange (a_t_here 0) (a_t_spare 0) t_lettersFed t_faultAt t_here_junctions t_here_cuts t_here_boats t_here_cutA t_here_cutB t_here_cutHard t_here_boatAt t_here_boatPull t_here_boatWear t_here_onward t_here_onwardHard t_fleet_row i_t_way_places i_t_way_needs i_t_way_last) s.heap.size q := fun q h => Or.inr h
  have hS : va_S (va_A (wd_tTb14 cI cZ a_t a_t_reader a_t_here a_t_spare a_t_fleet a_t_past a_t_images a_t_draws a_t_seen a_t_book a_t_way a_t_bands a_t_exchange (a_t_here 0) (a_t_spare 0) t_lettersFed t_faultAt t_here_junctions t_here_cuts t_here_boats t_here_cutA t_here_cutB t_here_cutHard t_here_boatAt t_here_boatPull t_here_boatWear t_here_onward t_here_onwardHard t_fleet_row i_t_way_places i_t_way_needs i_t_way_last) s.heap.size) s.heap s.heap [] := va_S.rf
  have hin11 : ∀ w ∈ u_ws RX11 TX11 16, w ∈ wsX11_sits := fun w h => List.mem_cons_of_mem _ (List.mem_append_left _ (List.mem_append_left _ (List.mem_append_left _ (List.mem_append_right _ h))))
  have hl := lv_entry ([.ref (a_t 0), .int y1]) (n := 3) (Nat.le_of_ble_eq_true rfl)
  rw [lg_entry_eq]
  generalize (lg_sl ([.ref (a_t 0), .int y1]) ++ List.replicate (3 - (lg_sl ([.ref (a_t 0), .int y1])).length) Slot.unset).toArray = ls at hl ⊢
  have hl : lv_has ls 3 [(0, .ref (a_t 0)), (1, .int y1)] := hl
  unfold m_Tb_sits at h
  refine lv_aload_n hx hb dX11_sits_0 rfl (lv_at hl 0 rfl) ?_
  refine va_get (D := (dC, dI)) (ci := 11) (v := .ref (a_t_here 0)) (C := RX11) (T := TX11) (N := 16) hx hb hts hin11 hown hK hP 0 rfl rfl 4 (by decide) (hts (.fieldLink RX11 30 "TowedBack" "here" "LTowedBack$Water;") (List.mem_of_getElem? (i := 1) rfl)) (fun _ h9 => h9) rfl dX11_sits_1 ?_
  refine lv_iload_n hx hb dX11_sits_4 rfl (lv_at hl 1 rfl) ?_
  obtain ⟨r1, hc1, h⟩ := kb1_some h
  refine k_RVi (rest := []) (As := [.int y1]) ⟨hx, hb, hml, hown, hts⟩ (c_Water_hasBoat l dC dI cI cZ a_t_here t_here_junctions t_here_cuts t_here_boats t_here_cutA t_here_cutB t_here_cutHard t_here_boatAt t_here_boatPull t_here_boatWear t_here_onward t_here_onwardHard y1 r1 hc1) (cwV 1 hts gX11_sits_X9_hasBoat rfl rfl rfl hd_9_hasBoat ⟨Nat.le_of_ble_eq_true rfl, Nat.le_of_ble_eq_true rfl⟩) hK hP hD hS hA [1, 2, 3, 4, 5, 6, 7, 8, 9] rfl (by decide +kernel) 1 9 rfl rfl rfl rfl hl.1 rfl (Nat.le_of_ble_eq_true rfl) dX11_sits_5 ⟨Nat.zero_le _, Nat.zero_le _⟩ (fun H locs hP hD hS => ?_)
  refine lv_if_ne (tgt := 14) hx hb dX11_sits_8 (by decide) (fun hc => ?_) (fun hc => ?_)
  · have h := k_neg hc h
    refine lv_aload_n hx hb dX11_sits_14 rfl (lv_at hl 0 rfl) ?_
    refine lv_iload_n hx hb dX11_sits_15 rfl (lv_at hl 1 rfl) ?_
    refine lv_sipush (v := 201) hx hb dX11_sits_16 (by decide) ?_
    obtain ⟨t_way_places_2, t_way_needs_2, t_way_last_2, hc2, h⟩ := kb3_some h
    refine k_FVv (rest := []) (As := [.int y1, .int 201]) ⟨hx, hb, hml, hown, hts⟩ (c_Tb_layWay l dC dI cI cZ a_t a_t_reader a_t_here a_t_spare a_t_fleet a_t_past a_t_images a_t_draws a_t_seen a_t_book a_t_way a_t_bands a_t_exchange t_lettersFed t_faultAt t_here_junctions t_here_cuts t_here_boats t_here_cutA t_here_cutB t_here_cutHard t_here_boatAt t_here_boatPull t_here_boatWear t_here_onward t_here_onwardHard t_fleet_row i_t_way_places i_t_way_needs i_t_way_last y1 201 t_way_places_2 t_way_needs_2 t_way_last_2 hc2) (cwV 2 hts gX11_sits_X11_layWay rfl rfl rfl hd_11_layWay ⟨Nat.le_of_ble_eq_true rfl, Nat.le_of_ble_eq_true rfl⟩) hK hP hD hS hA 0 11 rfl rfl rfl (wd_tTb14_f.trans wd_tTb14_f.symm) rfl hl.1 rfl (Nat.le_of_ble_eq_true rfl) dX11_sits_19 ⟨Nat.zero_le _, Nat.zero_le _⟩ (fun H locs hP hD hS => ?_)
    refine lv_aload_n hx hb dX11_sits_22 rfl (lv_at hl 0 rfl) ?_
    refine va_get (D := (dC, dI)) (ci := 11) (v := .ref (a_t_way 0)) (C := RX11) (T := TX11) (N := 16) hx hb hts hin11 hown hK hP 0 rfl rfl 13 (by decide) (hts (.fieldLink RX11 83 "TowedBack" "way" "LTowedBack$Way;") (List.mem_of_getElem? (i := 3) rfl)) (fun _ h9 => h9) rfl dX11_sits_23 ?_
    refine lv_aload_n hx hb dX11_sits_26 rfl (lv_at hl 0 rfl) ?_
    refine va_get (D := (dC, dI)) (ci := 11) (v := .ref (a_t_fleet 0)) (C := RX11) (T := TX11) (N := 16) hx hb hts hin11 hown hK hP 0 rfl rfl 6 (by decide) (hts (.fieldLink RX11 40 "TowedBack" "fleet" "LTowedBack$Fleet;") (List.mem_of_getElem? (i := 4) rfl)) (fun _ h9 => h9) rfl dX11_sits_27 ?_
    refine lv_iload_n hx hb dX11_sits_30 rfl (lv_at hl 1 rfl) ?_
    obtain ⟨r3, hc3, h⟩ := kb1_some h
    refine k_RVi (rest := [.ref (a_t_way 0)]) (As := [.int y1]) ⟨hx, hb, hml, hown, hts⟩ (c_Fleet_pull l dC dI cI cZ a_t_fleet t_fleet_row y1 r3 hc3) (cwV 1 hts gX11_sits_X4_pull rfl rfl rfl hd_4_pull ⟨Nat.le_of_ble_eq_true rfl, Nat.le_of_ble_eq_true rfl⟩) hK hP hD hS hA [10, 11] rfl (by decide +kernel) 10 4 rfl rfl rfl rfl hl.1 rfl (Nat.le_of_ble_eq_true rfl) dX11_sits_31 ⟨Nat.zero_le _, Nat.zero_le _⟩ (fun H locs hP hD hS => ?_)
    refine lv_sipush (v := 201) hx hb dX11_sits_34 (by decide) ?_
    obtain ⟨r4, hc4, h⟩ := kb1_some h
    refine k_RVi (rest := []) (As := [.int r3, .int 201]) ⟨hx, hb, hml, hown, hts⟩ (c_Way_gone l dC dI cI cZ a_t_way t_way_places_2 t_way_needs_2 t_way_last_2 r3 201 r4 hc4) (cwV 2 hts gX11_sits_X10_gone rfl rfl rfl hd_10_gone ⟨Nat.le_of_ble_eq_true rfl, Nat.le_of_ble_eq_true rfl⟩) hK hP hD hS hA [12, 13, 14] rfl (by decide +kernel) 12 10 rfl rfl rfl rfl hl.1 rfl (Nat.le_of_ble_eq_true rfl) dX11_sits_37 ⟨Nat.zero_le _, Nat.zero_le _⟩ (fun H locs hP hD hS => ?_)
    refine lv_istore_n (lv' := [(2, .int r4), (0, .ref (a_t 0)), (1, .int y1)]) hx hb dX11_sits_40 rfl hl (by decide) rfl (fun ls hl => ?_)
    refine lv_iload_n hx hb dX11_sits_41 rfl (lv_at hl 0 rfl) ?_
    refine lv_sipush (v := 200) hx hb dX11_sits_42 (by decide) ?_
    refine lv_icmp_le (tgt := 52) hx hb dX11_sits_45 (by decide) (fun hc => ?_) (fun hc => ?_)
    · have h := k_pos hc h
      refine lv_iload_n hx hb dX11_sits_52 rfl (lv_at hl 0 rfl) ?_
      obtain ⟨rfl, rfl, rfl, rfl⟩ := k_in4 h
      exact k_ri hx hb hr hlocks hP hS dX11_sits_53
    · have h := k_neg hc h
      refine lv_iconst (v := (-1)) hx hb dX11_sits_48 (by decide) ?_
      refine lv_goto (tgt := 53) hx hb dX11_sits_49 (by decide) ?_
      obtain ⟨rfl, rfl, rfl, rfl⟩ := k_in4 h
      exact k_ri hx hb hr hlocks hP hS dX11_sits_53
  · have h := k_pos hc h
    refine lv_ldc (v := (-1000000001)) hx hb hown (hts (.constant RX11 145 (-1000000001)) (List.mem_of_getElem? (i := 2) rfl)) dX11_sits_11 ?_
    obtain ⟨rfl, rfl, rfl, rfl⟩ := k_in4 h
    exact k_ri hx hb hr hlocks hP hS dX11_sits_13
set_option maxHeartbeats 4000000 in
set_option maxRecDepth 100000 in
theorem c_Tb_round (l : Launch) (dC : Nat → ClassId) (dI : Nat → Nat → Nat) (cI cZ : ClassId) (a_t a_t_reader a_t_here a_t_spare a_t_fleet a_t_past a_t_images a_t_draws a_t_seen a_t_book a_t_way a_t_bands a_t_exchange : Nat → Nat) (t_lettersFed : Int32) (t_faultAt : Int32) (t_here_junctions : Int32) (t_here_cuts : Int32) (t_here_boats : Int32) (t_here_cutA : Nat → Int32) (t_here_cutB : Nat → Int32) (t_here_cutHard : Nat → Int32) (t_here_boatAt : Nat → Int32) (t_here_boatPull : Nat → Int32) (t_here_boatWear : Nat → Int32) (t_here_onward : Nat → Int32) (t_here_onwardHard : Nat → Int32) (t_fleet_row : Nat → Int32) (i_t_way_places : Nat → Int32) (i_t_way_needs : Nat → Int32) (i_t_way_last : Int32) (y1 : Int32) (r0 : Int32) (o_t_way_places : Nat → Int32) (o_t_way_needs : Nat → Int32) (o_t_way_last : Int32) (h : m_Tb_round y1 t_here_boats t_here_onward t_here_onwardHard t_fleet_row i_t_way_places i_t_way_needs i_t_way_last = some (r0, o_t_way_places, o_t_way_needs, o_t_way_last)) : (MI l yX11_round wsX11_round ({ frames := 3, cells := 0, slots := 0, locals := 75 }) (dC, dI) [(cI, .int), (cZ, .boolean)] (wd_tTb14 cI cZ a_t a_t_reader a_t_here a_t_spare a_t_fleet a_t_past a_t_images a_t_draws a_t_seen a_t_book a_t_way a_t_bands a_t_exchange (a_t_here 0) (a_t_spare 0) t_lettersFed t_faultAt t_here_junctions t_here_cuts t_here_boats t_here_cutA t_here_cutB t_here_cutHard t_here_boatAt t_here_boatPull t_here_boatWear t_here_onward t_here_onwardHard t_fleet_row i_t_way_places i_t_way_needs i_t_way_last) (wd_tTb14 cI cZ a_t a_t_reader a_t_here a_t_spare a_t_fleet a_t_past a_t_images a_t_draws a_t_seen a_t_book a_t_way a_t_bands a_t_exchange (a_t_here 0) (a_t_spare 0) t_lettersFed t_faultAt t_here_junctions t_here_cuts t_here_boats t_here_cutA t_here_cutB t_here_cutHard t_here_boatAt t_here_boatPull t_here_boatWear t_here_onward t_here_onwardHard t_fleet_row o_t_way_places o_t_way_needs o_t_way_last) [.ref (a_t 0), .int y1] r0) := by
  intro sz
  refine Met.ofW (cc := cX11_round) (maxL := 2) (ret := (some .int)) (by decide) rfl ?_
  intro p e s m args below meth c s₁ B hml hv
  obtain ⟨rfl, hsz, hP, hK, hD0⟩ := hv
  have hx := B.exec
  have hb := B.bytes
  have hr := B.returns
  have hts := atoms_spec (ws := wsX11_round) B.pre
  have hown : s.vm.findClass RX11 = some m.cls := findClass_of_methodNamed B.named
  have hlocks := B.notSynchronized
  subst hsz
  have hD := hD0.self (sz := s.heap.size)
  have hA : ∀ q : Nat, s.heap.size ≤ q → va_A (wd_tTb14 cI cZ a_t a_t_reader a_t_here a_t_spare a_t_fleet a_t_past a_t_images a_t_draws a_t_seen a_t_book a_t_way a_t_bands a_t_exchange (a_t_here 0) (a_t_spare 0) t_lettersFed t_faultAt t_here_junctions t_here_cuts t_here_boats t_here_cutA t_here_cutB t_here_cutHard t_here_boatAt t_here_boatPull t_here_boatWear t_here_onward t_here_onwardHard t_fleet_row i_t_way_places i_t_way_needs i_t_way_last) s.heap.size q := fun q h => Or.inr h
  have hS : va_S (va_A (wd_tTb14 cI cZ a_t a_t_reader a_t_here a_t_spare a_t_fleet a_t_past a_t_images a_t_draws a_t_seen a_t_book a_t_way a_t_bands a_t_exchange (a_t_here 0) (a_t_spare 0) t_lettersFed t_faultAt t_here_junctions t_here_cuts t_here_boats t_here_cutA t_here_cutB t_here_cutHard t_here_boatAt t_here_boatPull t_here_boatWear t_here_onward t_here_onwardHard t_fleet_row i_t_way_places i_t_way_needs i_t_way_last) s.heap.size) s.heap s.heap [] := va_S.rf
  have hin11 : ∀ w ∈ u_ws RX11 TX11 16, w ∈ wsX11_round := fun w h => List.mem_cons_of_mem _ (List.mem_append_left _ (List.mem_append_left _ (List.mem_append_left _ (List.mem_append_right _ h))))
  have hl := lv_entry ([.ref (a_t 0), .int y1]) (n := 2) (Nat.le_of_ble_eq_true rfl)
  rw [lg_entry_eq]
  generalize (lg_sl ([.ref (a_t 0), .int y1]) ++ List.replicate (2 - (lg_sl ([.ref (a_t 0), .int y1])).length) Slot.unset).toArray = ls at hl ⊢
  have hl : lv_has ls 2 [(0, .ref (a_t 0)), (1, .int y1)] := hl
  unfold m_Tb_round at h
  refine lv_aload_n hx hb dX11_round_0 rfl (lv_at hl 0 rfl) ?_
  refine va_get (D := (dC, dI)) (ci := 11) (v := .ref (a_t_here 0)) (C := RX11) (T := TX11) (N := 16) hx hb hts hin11 hown hK hP 0 rfl rfl 4 (by decide) (hts (.fieldLink RX11 30 "TowedBack" "here" "LTowedBack$Water;") (List.mem_of_getElem? (i := 1) rfl)) (fun _ h9 => h9) rfl dX11_round_1 ?_
  refine lv_iload_n hx hb dX11_round_4 rfl (lv_at hl 1 rfl) ?_
  obtain ⟨r1, hc1, h⟩ := kb1_some h
  refine k_RVi (rest := []) (As := [.int y1]) ⟨hx, hb, hml, hown, hts⟩ (c_Water_hasBoat l dC dI cI cZ a_t_here t_here_junctions t_here_cuts t_here_boats t_here_cutA t_here_cutB t_here_cutHard t_here_boatAt t_here_boatPull t_here_boatWear t_here_onward t_here_onwardHard y1 r1 hc1) (cwV 1 hts gX11_round_X9_hasBoat rfl rfl rfl hd_9_hasBoat ⟨Nat.le_of_ble_eq_true rfl, Nat.le_of_ble_eq_true rfl⟩) hK hP hD hS hA [1, 2, 3, 4, 5, 6, 7, 8, 9] rfl (by decide +kernel) 1 9 rfl rfl rfl rfl hl.1 rfl (Nat.le_of_ble_eq_true rfl) dX11_round_5 ⟨Nat.zero_le _, Nat.zero_le _⟩ (fun H locs hP hD hS => ?_)
  refine lv_if_ne (tgt := 14) hx hb dX11_round_8 (by decide) (fun hc => ?_) (fun hc => ?_)
  · have h := k_neg hc h
    refine lv_aload_n hx hb dX11_round_14 rfl (lv_at hl 0 rfl) ?_
    refine va_get (D := (dC, dI)) (ci := 11) (v := .ref (a_t_way 0)) (C := RX11) (T := TX11) (N := 16) hx hb hts hin11 hown hK hP 0 rfl rfl 13 (by decide) (hts (.fieldLink RX11 83 "TowedBack" "way" "LTowedBack$Way;") (List.mem_of_getElem? (i := 3) rfl)) (fun _ h9 => h9) rfl dX11_round_15 ?_
    refine lv_aload_n hx hb dX11_round_18 rfl (lv_at hl 0 rfl) ?_
    refine va_get (D := (dC, dI)) (ci := 11) (v := .ref (a_t_here 0)) (C := RX11) (T := TX11) (N := 16) hx hb hts hin11 hown hK hP 0 rfl rfl 4 (by decide) (hts (.fieldLink RX11 30 "TowedBack" "here" "LTowedBack$Water;") (List.mem_of_getElem? (i := 1) rfl)) (fun _ h9 => h9) rfl dX11_round_19 ?_
    refine lv_aload_n hx hb dX11_round_22 rfl (lv_at hl 0 rfl) ?_
    refine va_get (D := (dC, dI)) (ci := 11) (v := .ref (a_t_fleet 0)) (C := RX11) (T := TX11) (N := 16) hx hb hts hin11 hown hK hP 0 rfl rfl 6 (by decide) (hts (.fieldLink RX11 40 "TowedBack" "fleet" "LTowedBack$Fleet;") (List.mem_of_getElem? (i := 4) rfl)) (fun _ h9 => h9) rfl dX11_round_23 ?_
    refine lv_iload_n hx hb dX11_round_26 rfl (lv_at hl 1 rfl) ?_
    obtain ⟨r2, hc2, h⟩ := kb1_some h
    refine k_RVi (rest := [.ref (a_t_here 0), .ref (a_t_way 0)]) (As := [.int y1]) ⟨hx, hb, hml, hown, hts⟩ (c_Fleet_at l dC dI cI cZ a_t_fleet t_fleet_row y1 r2 hc2) (cwV 1 hts gX11_round_X4_at rfl rfl rfl hd_4_at ⟨Nat.le_of_ble_eq_true rfl, Nat.le_of_ble_eq_true rfl⟩) hK hP hD hS hA [10, 11] rfl (by decide +kernel) 10 4 rfl rfl rfl rfl hl.1 rfl (Nat.le_of_ble_eq_true rfl) dX11_round_27 ⟨Nat.zero_le _, Nat.zero_le _⟩ (fun H locs hP hD hS => ?_)
    refine lv_aload_n hx hb dX11_round_30 rfl (lv_at hl 0 rfl) ?_
    refine va_get (D := (dC, dI)) (ci := 11) (v := .ref (a_t_fleet 0)) (C := RX11) (T := TX11) (N := 16) hx hb hts hin11 hown hK hP 0 rfl rfl 6 (by decide) (hts (.fieldLink RX11 40 "TowedBack" "fleet" "LTowedBack$Fleet;") (List.mem_of_getElem? (i := 4) rfl)) (fun _ h9 => h9) rfl dX11_round_31 ?_
    refine lv_iload_n hx hb dX11_round_34 rfl (lv_at hl 1 rfl) ?_
    obtain ⟨r3, hc3, h⟩ := kb1_some h
    refine k_RVi (rest := [.int r2, .ref (a_t_here 0), .ref (a_t_way 0)]) (As := [.int y1]) ⟨hx, hb, hml, hown, hts⟩ (c_Fleet_from l dC dI cI cZ a_t_fleet t_fleet_row y1 r3 hc3) (cwV 1 hts gX11_round_X4_from rfl rfl rfl hd_4_from ⟨Nat.le_of_ble_eq_true rfl, Nat.le_of_ble_eq_true rfl⟩) hK hP hD hS hA [10, 11] rfl (by decide +kernel) 10 4 rfl rfl rfl rfl hl.1 rfl (Nat.le_of_ble_eq_true rfl) dX11_round_35 ⟨Nat.zero_le _, Nat.zero_le _⟩ (fun H locs hP hD hS => ?_)
    refine lv_iconst (v := 0) hx hb dX11_round_38 (by decide) ?_
    refine lv_bipush (v := 100) hx hb dX11_round_39 (by decide) ?_
    obtain ⟨t_way_places_4, t_way_needs_4, t_way_last_4, hc4, h⟩ := kb3_some h
    refine k_GVv (rest := []) (As := [.ref (a_t_here 0), .int r2, .int r3, .int 0, .int 100]) (ws' := (wd_tTb14 cI cZ a_t a_t_reader a_t_here a_t_spare a_t_fleet a_t_past a_t_images a_t_draws a_t_seen a_t_book a_t_way a_t_bands a_t_exchange (a_t_here 0) (a_t_spare 0) t_lettersFed t_faultAt t_here_junctions t_here_cuts t_here_boats t_here_cutA t_here_cutB t_here_cutHard t_here_boatAt t_here_boatPull t_here_boatWear t_here_onward t_here_onwardHard t_fleet_row t_way_places_4 t_way_needs_4 t_way_last_4)) ⟨hx, hb, hml, hown, hts⟩ (c_Way_lay l dC dI cI cZ a_t_way a_t_here i_t_way_places i_t_way_needs i_t_way_last t_here_junctions t_here_cuts t_here_boats t_here_cutA t_here_cutB t_here_cutHard t_here_boatAt t_here_boatPull t_here_boatWear t_here_onward t_here_onwardHard r2 r3 0 100 t_way_places_4 t_way_needs_4 t_way_last_4 hc4) (cwV 5 hts gX11_round_X10_lay rfl rfl rfl hd_10_lay ⟨Nat.le_of_ble_eq_true rfl, Nat.le_of_ble_eq_true rfl⟩) hK hP hD hS hA [12, 13, 14, 1, 2, 3, 4, 5, 6, 7, 8, 9] rfl (by decide +kernel) 12 10 rfl rfl rfl [0, 10, 11] rfl (k_allc rfl rfl (k_allc rfl rfl (k_allc rfl rfl k_alln))) 15 rfl (by decide +kernel) (wd_tTb14_f.trans wd_tTb14_f.symm) rfl hl.1 rfl (Nat.le_of_ble_eq_true rfl) dX11_round_41 ⟨Nat.zero_le _, Nat.zero_le _⟩ (fun H locs hP hD hS => ?_)
    refine lv_aload_n hx hb dX11_round_44 rfl (lv_at hl 0 rfl) ?_
    refine va_get (D := (dC, dI)) (ci := 11) (v := .ref (a_t_way 0)) (C := RX11) (T := TX11) (N := 16) hx hb hts hin11 hown hK hP 0 rfl rfl 13 (by decide) (hts (.fieldLink RX11 83 "TowedBack" "way" "LTowedBack$Way;") (List.mem_of_getElem? (i := 3) rfl)) (fun _ h9 => h9) rfl dX11_round_45 ?_
    refine lv_aload_n hx hb dX11_round_48 rfl (lv_at hl 0 rfl) ?_
    refine va_get (D := (dC, dI)) (ci := 11) (v := .ref (a_t_fleet 0)) (C := RX11) (T := TX11) (N := 16) hx hb hts hin11 hown hK hP 0 rfl rfl 6 (by decide) (hts (.fieldLink RX11 40 "TowedBack" "fleet" "LTowedBack$Fleet;") (List.mem_of_getElem? (i := 4) rfl)) (fun _ h9 => h9) rfl dX11_round_49 ?_
    refine lv_iload_n hx hb dX11_round_52 rfl (lv_at hl 1 rfl) ?_
    obtain ⟨r5, hc5, h⟩ := kb1_some h
    refine k_RVi (rest := [.ref (a_t_way 0)]) (As := [.int y1]) ⟨hx, hb, hml, hown, hts⟩ (c_Fleet_pull l dC dI cI cZ a_t_fleet t_fleet_row y1 r5 hc5) (cwV 1 hts gX11_round_X4_pull rfl rfl rfl hd_4_pull ⟨Nat.le_of_ble_eq_true rfl, Nat.le_of_ble_eq_true rfl⟩) hK hP hD hS hA [10, 11] rfl (by decide +kernel) 10 4 rfl rfl rfl rfl hl.1 rfl (Nat.le_of_ble_eq_true rfl) dX11_round_53 ⟨Nat.zero_le _, Nat.zero_le _⟩ (fun H locs hP hD hS => ?_)
    refine lv_bipush (v := 100) hx hb dX11_round_56 (by decide) ?_
    obtain ⟨r6, hc6, h⟩ := kb1_some h
    refine k_RVi (rest := []) (As := [.int r5, .int 100]) ⟨hx, hb, hml, hown, hts⟩ (c_Way_gone l dC dI cI cZ a_t_way t_way_places_4 t_way_needs_4 t_way_last_4 r5 100 r6 hc6) (cwV 2 hts gX11_round_X10_gone rfl rfl rfl hd_10_gone ⟨Nat.le_of_ble_eq_true rfl, Nat.le_of_ble_eq_true rfl⟩) hK hP hD hS hA [12, 13, 14] rfl (by decide +kernel) 12 10 rfl rfl rfl rfl hl.1 rfl (Nat.le_of_ble_eq_true rfl) dX11_round_58 ⟨Nat.zero_le _, Nat.zero_le _⟩ (fun H locs hP hD hS => ?_)
    refine lv_bipush (v := 100) hx hb dX11_round_61 (by decide) ?_
    refine lv_icmp_ge (tgt := 68) hx hb dX11_round_63 (by decide) (fun hc => ?_) (fun hc => ?_)
    · have h := k_pos hc h
      refine lv_aload_n hx hb dX11_round_68 rfl (lv_at hl 0 rfl) ?_
      refine va_get (D := (dC, dI)) (ci := 11) (v := .ref (a_t_way 0)) (C := RX11) (T := TX11) (N := 16) hx hb hts hin11 hown hK hP 0 rfl rfl 13 (by decide) (hts (.fieldLink RX11 83 "TowedBack" "way" "LTowedBack$Way;") (List.mem_of_getElem? (i := 3) rfl)) (fun _ h9 => h9) rfl dX11_round_69 ?_
      obtain ⟨r7, hc7, h⟩ := kb1_some h
      refine k_RVi (rest := []) (As := []) ⟨hx, hb, hml, hown, hts⟩ (c_Way_ring l dC dI cI cZ a_t_way t_way_places_4 t_way_needs_4 t_way_last_4 r7 hc7) (cwV 0 hts gX11_round_X10_ring rfl rfl rfl hd_10_ring ⟨Nat.le_of_ble_eq_true rfl, Nat.le_of_ble_eq_true rfl⟩) hK hP hD hS hA [12, 13, 14] rfl (by decide +kernel) 12 10 rfl rfl rfl rfl hl.1 rfl (Nat.le_of_ble_eq_true rfl) dX11_round_72 ⟨Nat.zero_le _, Nat.zero_le _⟩ (fun H locs hP hD hS => ?_)
      obtain ⟨rfl, rfl, rfl, rfl⟩ := k_in4 h
      exact k_ri hx hb hr hlocks hP hS dX11_round_75
    · have h := k_neg hc h
      refine lv_iconst (v := (-1)) hx hb dX11_round_66 (by decide) ?_
      obtain ⟨rfl, rfl, rfl, rfl⟩ := k_in4 h
      exact k_ri hx hb hr hlocks hP hS dX11_round_67
  · have h := k_pos hc h
    refine lv_ldc (v := (-1000000001)) hx hb hown (hts (.constant RX11 145 (-1000000001)) (List.mem_of_getElem? (i := 2) rfl)) dX11_round_11 ?_
    obtain ⟨rfl, rfl, rfl, rfl⟩ := k_in4 h
    exact k_ri hx hb hr hlocks hP hS dX11_round_13
