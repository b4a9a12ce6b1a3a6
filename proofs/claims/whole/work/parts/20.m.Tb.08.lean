set_option maxHeartbeats 4000000 in
set_option maxRecDepth 100000 in
theorem c_Tb_towed (l : Launch) (dC : Nat → ClassId) (dI : Nat → Nat → Nat) (cI cZ : ClassId) (a_t a_t_reader a_t_here a_t_spare a_t_fleet a_t_past a_t_images a_t_draws a_t_seen a_t_book a_t_way a_t_bands a_t_exchange : Nat → Nat) (t_lettersFed : Int32) (t_faultAt : Int32) (t_here_junctions : Int32) (t_here_cuts : Int32) (t_here_boats : Int32) (t_here_cutA : Nat → Int32) (t_here_cutB : Nat → Int32) (t_here_cutHard : Nat → Int32) (t_here_boatAt : Nat → Int32) (t_here_boatPull : Nat → Int32) (t_here_boatWear : Nat → Int32) (t_here_onward : Nat → Int32) (t_here_onwardHard : Nat → Int32) (t_fleet_row : Nat → Int32) (y1 : Int32) (r0 : Int32) (h : m_Tb_towed y1 t_here_boats t_fleet_row = some r0) : (MI l yX11_towed wsX11_towed ({ frames := 2, cells := 0, slots := 0, locals := 43 }) (dC, dI) [(cI, .int), (cZ, .boolean)] (wd_tTb16 cI cZ a_t a_t_reader a_t_here a_t_spare a_t_fleet a_t_past a_t_images a_t_draws a_t_seen a_t_book a_t_way a_t_bands a_t_exchange (a_t_here 0) (a_t_spare 0) t_lettersFed t_faultAt t_here_junctions t_here_cuts t_here_boats t_here_cutA t_here_cutB t_here_cutHard t_here_boatAt t_here_boatPull t_here_boatWear t_here_onward t_here_onwardHard t_fleet_row) (wd_tTb16 cI cZ a_t a_t_reader a_t_here a_t_spare a_t_fleet a_t_past a_t_images a_t_draws a_t_seen a_t_book a_t_way a_t_bands a_t_exchange (a_t_here 0) (a_t_spare 0) t_lettersFed t_faultAt t_here_junctions t_here_cuts t_here_boats t_here_cutA t_here_cutB t_here_cutHard t_here_boatAt t_here_boatPull t_here_boatWear t_here_onward t_here_onwardHard t_fleet_row) [.ref (a_t 0), .int y1] r0) := by
  intro sz
  refine Met.ofW (cc := cX11_towed) (maxL := 4) (ret := (some .int)) (by decide) rfl ?_
  intro p e s m args below meth c s₁ B hml hv
  obtain ⟨rfl, hsz, hP, hK, hD0⟩ := hv
  have hx := B.exec
  have hb := B.bytes
  have hr := B.returns
  have hts := atoms_spec (ws := wsX11_towed) B.pre
  have hown : s.vm.findClass RX11 = some m.cls := findClass_of_methodNamed B.named
  have hlocks := B.notSynchronized
  subst hsz
  have hD := hD0.self (sz := s.heap.size)
  have hA : ∀ q : Nat, s.heap.size ≤ q → va_A (wd_tTb16 cI cZ a_t a_t_reader a_t_here a_t_spare a_t_fleet a_t_past a_t_images a_t_draws a_t_seen a_t_book a_t_way a_t_bands a_t_exchange (a_t_here 0) (a_t_spare 0) t_lettersFed t_faultAt t_here_junctions t_here_cuts t_here_boats t_here_cutA t_here_cutB t_here_cutHard t_here_boatAt t_here_boatPull t_here_boatWear t_here_onward t_here_onwardHard t_fleet_row) s.heap.size q := fun q h => Or.inr h
  have hS : va_S (va_A (wd_tTb16 cI cZ a_t a_t_reader a_t_here a_t_spare a_t_fleet a_t_past a_t_images a_t_draws a_t_seen a_t_book a_t_way a_t_bands a_t_exchange (a_t_here 0) (a_t_spare 0) t_lettersFed t_faultAt t_here_junctions t_here_cuts t_here_boats t_here_cutA t_here_cutB t_here_cutHard t_here_boatAt t_here_boatPull t_here_boatWear t_here_onward t_here_onwardHard t_fleet_row) s.heap.size) s.heap s.heap [] := va_S.rf
  have hin9 : ∀ w ∈ u_ws RX9 TX9 11, w ∈ wsX11_towed := fun w h => List.mem_cons_of_mem _ (List.mem_append_left _ (List.mem_append_right _ h))
  have hin11 : ∀ w ∈ u_ws RX11 TX11 16, w ∈ wsX11_towed := fun w h => List.mem_cons_of_mem _ (List.mem_append_left _ (List.mem_append_left _ (List.mem_append_right _ h)))
  have hl := lv_entry ([.ref (a_t 0), .int y1]) (n := 4) (Nat.le_of_ble_eq_true rfl)
  rw [lg_entry_eq]
  generalize (lg_sl ([.ref (a_t 0), .int y1]) ++ List.replicate (4 - (lg_sl ([.ref (a_t 0), .int y1])).length) Slot.unset).toArray = ls at hl ⊢
  have hl : lv_has ls 4 [(0, .ref (a_t 0)), (1, .int y1)] := hl
  have J46 : ∀ (x1 : Int32) (x2 : Int32)  (H : Heap) (locs : List Loc) (ls : Array Slot), va_P (dC, dI) vwCl (wd_tTb16 cI cZ a_t a_t_reader a_t_here a_t_spare a_t_fleet a_t_past a_t_images a_t_draws a_t_seen a_t_book a_t_way a_t_bands a_t_exchange (a_t_here 0) (a_t_spare 0) t_lettersFed t_faultAt t_here_junctions t_here_cuts t_here_boats t_here_cutA t_here_cutB t_here_cutHard t_here_boatAt t_here_boatPull t_here_boatWear t_here_onward t_here_onwardHard t_fleet_row) H → va_D (va_A (wd_tTb16 cI cZ a_t a_t_reader a_t_here a_t_spare a_t_fleet a_t_past a_t_images a_t_draws a_t_seen a_t_book a_t_way a_t_bands a_t_exchange (a_t_here 0) (a_t_spare 0) t_lettersFed t_faultAt t_here_junctions t_here_cuts t_here_boats t_here_cutA t_here_cutB t_here_cutHard t_here_boatAt t_here_boatPull t_here_boatWear t_here_onward t_here_onwardHard t_fleet_row) s.heap.size) (wd_tTb16 cI cZ a_t a_t_reader a_t_here a_t_spare a_t_fleet a_t_past a_t_images a_t_draws a_t_seen a_t_book a_t_way a_t_bands a_t_exchange (a_t_here 0) (a_t_spare 0) t_lettersFed t_faultAt t_here_junctions t_here_cuts t_here_boats t_here_cutA t_here_cutB t_here_cutHard t_here_boatAt t_here_boatPull t_here_boatWear t_here_onward t_here_onwardHard t_fleet_row) → va_S (va_A (wd_tTb16 cI cZ a_t a_t_reader a_t_here a_t_spare a_t_fleet a_t_past a_t_images a_t_draws a_t_seen a_t_book a_t_way a_t_bands a_t_exchange (a_t_here 0) (a_t_spare 0) t_lettersFed t_faultAt t_here_junctions t_here_cuts t_here_boats t_here_cutA t_here_cutB t_here_cutHard t_here_boatAt t_here_boatPull t_here_boatWear t_here_onward t_here_onwardHard t_fleet_row) s.heap.size) s.heap H locs → lv_has ls 4 [(0, .ref (a_t 0)), (1, .int x1), (2, .int x2)] → m_Tb_towed_B46  x1 x2 t_here_boats t_fleet_row = some r0 → W p l e (headSpec wsX11_towed ({ frames := 2, cells := 0, slots := 0, locals := 43 })).room s m ([.ref (a_t 0), .int y1] : List Value).toArray below meth c H locs 0 0 (MQ below (cQi (dC, dI) (wd_tTb16 cI cZ a_t a_t_reader a_t_here a_t_spare a_t_fleet a_t_past a_t_images a_t_draws a_t_seen a_t_book a_t_way a_t_bands a_t_exchange (a_t_here 0) (a_t_spare 0) t_lettersFed t_faultAt t_here_junctions t_here_cuts t_here_boats t_here_cutA t_here_cutB t_here_cutHard t_here_boatAt t_here_boatPull t_here_boatWear t_here_onward t_here_onwardHard t_fleet_row) (wd_tTb16 cI cZ a_t a_t_reader a_t_here a_t_spare a_t_fleet a_t_past a_t_images a_t_draws a_t_seen a_t_book a_t_way a_t_bands a_t_exchange (a_t_here 0) (a_t_spare 0) t_lettersFed t_faultAt t_here_junctions t_here_cuts t_here_boats t_here_cutA t_here_cutB t_here_cutHard t_here_boatAt t_here_boatPull t_here_boatWear t_here_onward t_here_onwardHard t_fleet_row) s.heap.size r0) ([.ref (a_t 0), .int y1] : List Value).toArray s 0 0 (va_A (wd_tTb16 cI cZ a_t a_t_reader a_t_here a_t_spare a_t_fleet a_t_past a_t_images a_t_draws a_t_seen a_t_book a_t_way a_t_bands a_t_exchange (a_t_here 0) (a_t_spare 0) t_lettersFed t_faultAt t_here_junctions t_here_cuts t_here_boats t_here_cutA t_here_cutB t_here_cutHard t_here_boatAt t_here_boatPull t_here_boatWear t_here_onward t_here_onwardHard t_fleet_row) s.heap.size)) (F0 m 46 ls []) := by
    intro x1 x2 H locs ls hP hD hS hl h
    unfold m_Tb_towed_B46 at h
    refine lv_iload_n hx hb dX11_towed_46 rfl (lv_at hl 2 rfl) ?_
    refine lv_if_ne (tgt := 54) hx hb dX11_towed_47 (by decide) (fun hc => ?_) (fun hc => ?_)
    · have h := k_neg hc h
      refine lv_aload_n hx hb dX11_towed_54 rfl (lv_at hl 0 rfl) ?_
      refine va_get (D := (dC, dI)) (ci := 11) (v := .ref (a_t_fleet 0)) (C := RX11) (T := TX11) (N := 16) hx hb hts hin11 hown hK hP 0 rfl rfl 6 (by decide) (hts (.fieldLink RX11 40 "TowedBack" "fleet" "LTowedBack$Fleet;") (List.mem_of_getElem? (i := 4) rfl)) (fun _ h9 => h9) rfl dX11_towed_55 ?_
      refine lv_iload_n hx hb dX11_towed_58 rfl (lv_at hl 1 rfl) ?_
      obtain ⟨r1, hc1, h⟩ := kb1_some h
      refine k_RVi (rest := []) (As := [.int x1]) ⟨hx, hb, hml, hown, hts⟩ (c_Fleet_pull l dC dI cI cZ a_t_fleet t_fleet_row x1 r1 hc1) (cwV 1 hts gX11_towed_X4_pull rfl rfl rfl hd_4_pull ⟨Nat.le_of_ble_eq_true rfl, Nat.le_of_ble_eq_true rfl⟩) hK hP hD hS hA [10, 11] rfl (by decide +kernel) 10 4 rfl rfl rfl rfl hl.1 rfl (Nat.le_of_ble_eq_true rfl) dX11_towed_59 ⟨Nat.zero_le _, Nat.zero_le _⟩ (fun H locs hP hD hS => ?_)
      refine lv_sipush (v := 1000) hx hb dX11_towed_62 (by decide) ?_
      refine lv_imul hx hb dX11_towed_65 ?_
      refine lv_iload_n hx hb dX11_towed_66 rfl (lv_at hl 2 rfl) ?_
      obtain ⟨hz2, h⟩ := kz_some h
      refine lv_idiv hx hb dX11_towed_67 hz2 ?_
      obtain rfl := k_in1 h
      exact k_ri hx hb hr hlocks hP hS dX11_towed_68
    · have h := k_pos hc h
      refine lv_iconst (v := 0) hx hb dX11_towed_50 (by decide) ?_
      refine lv_goto (tgt := 68) hx hb dX11_towed_51 (by decide) ?_
      obtain rfl := k_in1 h
      exact k_ri hx hb hr hlocks hP hS dX11_towed_68
  have L18 : ∀ (n18 : Nat) (x1 : Int32) (x2 : Int32) (x3 : Int32)  (H : Heap) (locs : List Loc) (ls : Array Slot), va_P (dC, dI) vwCl (wd_tTb16 cI cZ a_t a_t_reader a_t_here a_t_spare a_t_fleet a_t_past a_t_images a_t_draws a_t_seen a_t_book a_t_way a_t_bands a_t_exchange (a_t_here 0) (a_t_spare 0) t_lettersFed t_faultAt t_here_junctions t_here_cuts t_here_boats t_here_cutA t_here_cutB t_here_cutHard t_here_boatAt t_here_boatPull t_here_boatWear t_here_onward t_here_onwardHard t_fleet_row) H → va_D (va_A (wd_tTb16 cI cZ a_t a_t_reader a_t_here a_t_spare a_t_fleet a_t_past a_t_images a_t_draws a_t_seen a_t_book a_t_way a_t_bands a_t_exchange (a_t_here 0) (a_t_spare 0) t_lettersFed t_faultAt t_here_junctions t_here_cuts t_here_boats t_here_cutA t_here_cutB t_here_cutHard t_here_boatAt t_here_boatPull t_here_boatWear t_here_onward t_here_onwardHard t_fleet_row) s.heap.size) (wd_tTb16 cI cZ a_t a_t_reader a_t_here a_t_spare a_t_fleet a_t_past a_t_images a_t_draws a_t_seen a_t_book a_t_way a_t_bands a_t_exchange (a_t_here 0) (a_t_spare 0) t_lettersFed t_faultAt t_here_junctions t_here_cuts t_here_boats t_here_cutA t_here_cutB t_here_cutHard t_here_boatAt t_here_boatPull t_here_boatWear t_here_onward t_here_onwardHard t_fleet_row) → va_S (va_A (wd_tTb16 cI cZ a_t a_t_reader a_t_here a_t_spare a_t_fleet a_t_past a_t_images a_t_draws a_t_seen a_t_book a_t_way a_t_bands a_t_exchange (a_t_here 0) (a_t_spare 0) t_lettersFed t_faultAt t_here_junctions t_here_cuts t_here_boats t_here_cutA t_here_cutB t_here_cutHard t_here_boatAt t_here_boatPull t_here_boatWear t_here_onward t_here_onwardHard t_fleet_row) s.heap.size) s.heap H locs → lv_has ls 4 [(0, .ref (a_t 0)), (1, .int x1), (2, .int x2), (3, .int x3)] → m_Tb_towed_L18  n18 x1 x2 x3 t_here_boats t_fleet_row = some r0 → W p l e (headSpec wsX11_towed ({ frames := 2, cells := 0, slots := 0, locals := 43 })).room s m ([.ref (a_t 0), .int y1] : List Value).toArray below meth c H locs 0 0 (MQ below (cQi (dC, dI) (wd_tTb16 cI cZ a_t a_t_reader a_t_here a_t_spare a_t_fleet a_t_past a_t_images a_t_draws a_t_seen a_t_book a_t_way a_t_bands a_t_exchange (a_t_here 0) (a_t_spare 0) t_lettersFed t_faultAt t_here_junctions t_here_cuts t_here_boats t_here_cutA t_here_cutB t_here_cutHard t_here_boatAt t_here_boatPull t_here_boatWear t_here_onward t_here_onwardHard t_fleet_row) (wd_tTb16 cI cZ a_t a_t_reader a_t_here a_t_spare a_t_fleet a_t_past a_t_images a_t_draws a_t_seen a_t_book a_t_way a_t_bands a_t_exchange (a_t_here 0) (a_t_spare 0) t_lettersFed t_faultAt t_here_junctions t_here_cuts t_here_boats t_here_cutA t_here_cutB t_here_cutHard t_here_boatAt t_here_boatPull t_here_boatWear t_here_onward t_here_onwardHard t_fleet_row) s.heap.size r0) ([.ref (a_t 0), .int y1] : List Value).toArray s 0 0 (va_A (wd_tTb16 cI cZ a_t a_t_reader a_t_here a_t_spare a_t_fleet a_t_past a_t_images a_t_draws a_t_seen a_t_book a_t_way a_t_bands a_t_exchange (a_t_here 0) (a_t_spare 0) t_lettersFed t_faultAt t_here_junctions t_here_cuts t_here_boats t_here_cutA t_here_cutB t_here_cutHard t_here_boatAt t_here_boatPull t_here_boatWear t_here_onward t_here_onwardHard t_fleet_row) s.heap.size)) (F0 m 18 ls []) := by
    intro n18
    induction n18 with
    | zero => intro x1 x2 x3 H locs ls hP hD hS hl h; have h : none = some r0 := h; cases h
    | succ n18 ih18 =>
      intro x1 x2 x3 H locs ls hP hD hS hl h
      have h : m_Tb_towed_B18  (m_Tb_towed_L18  n18) x1 x2 x3 t_here_boats t_fleet_row = some r0 := h
      unfold m_Tb_towed_B18 at h
      refine lv_iload_n hx hb dX11_towed_18 rfl (lv_at hl 3 rfl) ?_
      refine lv_aload_n hx hb dX11_towed_19 rfl (lv_at hl 0 rfl) ?_
      refine va_get (D := (dC, dI)) (ci := 11) (v := .ref (a_t_here 0)) (C := RX11) (T := TX11) (N := 16) hx hb hts hin11 hown hK hP 0 rfl rfl 4 (by decide) (hts (.fieldLink RX11 30 "TowedBack" "here" "LTowedBack$Water;") (List.mem_of_getElem? (i := 1) rfl)) (fun _ h9 => h9) rfl dX11_towed_20 ?_
      refine va_get (D := (dC, dI)) (ci := 9) (v := .int t_here_boats) (C := RX9) (T := TX9) (N := 11) hx hb hts hin9 hown hK hP 1 rfl rfl 2 (by decide) (hts (.fieldLink RX11 117 "TowedBack$Water" "boats" "I") (List.mem_of_getElem? (i := 3) rfl)) (fun _ h9 => h9) rfl dX11_towed_23 ?_
      refine lv_icmp_ge (tgt := 46) hx hb dX11_towed_26 (by decide) (fun hc => ?_) (fun hc => ?_)
      · have h := k_pos hc h
        exact J46 x1 x2 _ _ _ hP hD hS (lv_sub hl [0, 1, 2] rfl) h
      · have h := k_neg hc h
        refine lv_iload_n hx hb dX11_towed_29 rfl (lv_at hl 2 rfl) ?_
        refine lv_aload_n hx hb dX11_towed_30 rfl (lv_at hl 0 rfl) ?_
        refine va_get (D := (dC, dI)) (ci := 11) (v := .ref (a_t_fleet 0)) (C := RX11) (T := TX11) (N := 16) hx hb hts hin11 hown hK hP 0 rfl rfl 6 (by decide) (hts (.fieldLink RX11 40 "TowedBack" "fleet" "LTowedBack$Fleet;") (List.mem_of_getElem? (i := 4) rfl)) (fun _ h9 => h9) rfl dX11_towed_31 ?_
        refine lv_iload_n hx hb dX11_towed_34 rfl (lv_at hl 3 rfl) ?_
        obtain ⟨r3, hc3, h⟩ := kb1_some h
        refine k_RVi (rest := [.int x2]) (As := [.int x3]) ⟨hx, hb, hml, hown, hts⟩ (c_Fleet_pull l dC dI cI cZ a_t_fleet t_fleet_row x3 r3 hc3) (cwV 1 hts gX11_towed_X4_pull rfl rfl rfl hd_4_pull ⟨Nat.le_of_ble_eq_true rfl, Nat.le_of_ble_eq_true rfl⟩) hK hP hD hS hA [10, 11] rfl (by decide +kernel) 10 4 rfl rfl rfl rfl hl.1 rfl (Nat.le_of_ble_eq_true rfl) dX11_towed_35 ⟨Nat.zero_le _, Nat.zero_le _⟩ (fun H locs hP hD hS => ?_)
        refine lv_iadd hx hb dX11_towed_38 ?_
        refine lv_istore_n (lv' := [(2, .int (x2 + r3)), (0, .ref (a_t 0)), (1, .int x1), (3, .int x3)]) hx hb dX11_towed_39 rfl hl (by decide) rfl (fun ls hl => ?_)
        refine lv_iinc (v := (x3 + 1)) (lv' := [(3, .int (x3 + 1)), (2, .int (x2 + r3)), (0, .ref (a_t 0)), (1, .int x1)]) hx hb dX11_towed_40 hl (k := 3) rfl rfl (by decide) rfl (fun ls hl => ?_)
        refine lv_goto (tgt := 18) hx hb dX11_towed_43 (by decide) ?_
        exact ih18 x1 (x2 + r3) (x3 + 1) _ _ _ hP hD hS (lv_sub hl [2, 3, 1, 0] rfl) h
  unfold m_Tb_towed at h
  refine lv_aload_n hx hb dX11_towed_0 rfl (lv_at hl 0 rfl) ?_
  refine va_get (D := (dC, dI)) (ci := 11) (v := .ref (a_t_here 0)) (C := RX11) (T := TX11) (N := 16) hx hb hts hin11 hown hK hP 0 rfl rfl 4 (by decide) (hts (.fieldLink RX11 30 "TowedBack" "here" "LTowedBack$Water;") (List.mem_of_getElem? (i := 1) rfl)) (fun _ h9 => h9) rfl dX11_towed_1 ?_
  refine lv_iload_n hx hb dX11_towed_4 rfl (lv_at hl 1 rfl) ?_
  obtain ⟨r4, hc4, h⟩ := kb1_some h
  refine k_RVi (rest := []) (As := [.int y1]) ⟨hx, hb, hml, hown, hts⟩ (c_Water_hasBoat l dC dI cI cZ a_t_here t_here_junctions t_here_cuts t_here_boats t_here_cutA t_here_cutB t_here_cutHard t_here_boatAt t_here_boatPull t_here_boatWear t_here_onward t_here_onwardHard y1 r4 hc4) (cwV 1 hts gX11_towed_X9_hasBoat rfl rfl rfl hd_9_hasBoat ⟨Nat.le_of_ble_eq_true rfl, Nat.le_of_ble_eq_true rfl⟩) hK hP hD hS hA [1, 2, 3, 4, 5, 6, 7, 8, 9] rfl (by decide +kernel) 1 9 rfl rfl rfl rfl hl.1 rfl (Nat.le_of_ble_eq_true rfl) dX11_towed_5 ⟨Nat.zero_le _, Nat.zero_le _⟩ (fun H locs hP hD hS => ?_)
  refine lv_if_ne (tgt := 14) hx hb dX11_towed_8 (by decide) (fun hc => ?_) (fun hc => ?_)
  · have h := k_neg hc h
    refine lv_iconst (v := 0) hx hb dX11_towed_14 (by decide) ?_
    refine lv_istore_n (lv' := [(2, .int 0), (0, .ref (a_t 0)), (1, .int y1)]) hx hb dX11_towed_15 rfl hl (by decide) rfl (fun ls hl => ?_)
    refine lv_iconst (v := 0) hx hb dX11_towed_16 (by decide) ?_
    refine lv_istore_n (lv' := [(3, .int 0), (2, .int 0), (0, .ref (a_t 0)), (1, .int y1)]) hx hb dX11_towed_17 rfl hl (by decide) rfl (fun ls hl => ?_)
    exact L18 FU y1 0 0 _ _ _ hP hD hS (lv_sub hl [2, 3, 1, 0] rfl) h
  · have h := k_pos hc h
    refine lv_ldc (v := (-1000000001)) hx hb hown (hts (.constant RX11 145 (-1000000001)) (List.mem_of_getElem? (i := 2) rfl)) dX11_towed_11 ?_
    obtain rfl := k_in1 h
    exact k_ri hx hb hr hlocks hP hS dX11_towed_13
set_option maxHeartbeats 4000000 in
set_option maxRecDepth 100000 in
theorem c_Tb_mercy (l : Launch) (dC : Nat → ClassId) (dI : Nat → Nat → Nat) (cI cZ : ClassId) (a_t a_t_reader a_t_here a_t_spare a_t_fleet a_t_past a_t_images a_t_draws a_t_seen a_t_book a_t_way a_t_bands a_t_exchange : Nat → Nat) (t_lettersFed : Int32) (t_faultAt : Int32) (y1 : Int32) (y2 : Int32) (r0 : Int32) (h : m_Tb_mercy y1 y2 = some r0) : (MI l yX11_mercy wsX11_mercy ({ frames := 0, cells := 0, slots := 0, locals := 0 }) (dC, dI) [(cI, .int), (cZ, .boolean)] (wd_tTb4 cI cZ a_t a_t_reader a_t_here a_t_spare a_t_fleet a_t_past a_t_images a_t_draws a_t_seen a_t_book a_t_way a_t_bands a_t_exchange (a_t_here 0) (a_t_spare 0) t_lettersFed t_faultAt) (wd_tTb4 cI cZ a_t a_t_reader a_t_here a_t_spare a_t_fleet a_t_past a_t_images a_t_draws a_t_seen a_t_book a_t_way a_t_bands a_t_exchange (a_t_here 0) (a_t_spare 0) t_lettersFed t_faultAt) [.ref (a_t 0), .int y1, .int y2] r0) := by
  intro sz
  refine Met.ofW (cc := cX11_mercy) (maxL := 6) (ret := (some .int)) (by decide) rfl ?_
  intro p e s m args below meth c s₁ B hml hv
  obtain ⟨rfl, hsz, hP, hK, hD0⟩ := hv
  have hx := B.exec
  have hb := B.bytes
  have hr := B.returns
  have hts := atoms_spec (ws := wsX11_mercy) B.pre
  have hown : s.vm.findClass RX11 = some m.cls := findClass_of_methodNamed B.named
  have hlocks := B.notSynchronized
  subst hsz
  have hD := hD0.self (sz := s.heap.size)
  have hA : ∀ q : Nat, s.heap.size ≤ q → va_A (wd_tTb4 cI cZ a_t a_t_reader a_t_here a_t_spare a_t_fleet a_t_past a_t_images a_t_draws a_t_seen a_t_book a_t_way a_t_bands a_t_exchange (a_t_here 0) (a_t_spare 0) t_lettersFed t_faultAt) s.heap.size q := fun q h => Or.inr h
  have hS : va_S (va_A (wd_tTb4 cI cZ a_t a_t_reader a_t_here a_t_spare a_t_fleet a_t_past a_t_images a_t_draws a_t_seen a_t_book a_t_way a_t_bands a_t_exchange (a_t_here 0) (a_t_spare 0) t_lettersFed t_faultAt) s.heap.size) s.heap s.heap [] := va_S.rf
  have hl := lv_entry ([.ref (a_t 0), .int y1, .int y2]) (n := 6) (Nat.le_of_ble_eq_true rfl)
  rw [lg_entry_eq]
  generalize (lg_sl ([.ref (a_t 0), .int y1, .int y2]) ++ List.replicate (6 - (lg_sl ([.ref (a_t 0), .int y1, .int y2])).length) Slot.unset).toArray = ls at hl ⊢
  have hl : lv_has ls 6 [(0, .ref (a_t 0)), (1, .int y1), (2, .int y2)] := hl
  have J54 : ∀ (x3 : Int64)  (H : Heap) (locs : List Loc) (ls : Array Slot), va_P (dC, dI) vwCl (wd_tTb4 cI cZ a_t a_t_reader a_t_here a_t_spare a_t_fleet a_t_past a_t_images a_t_draws a_t_seen a_t_book a_t_way a_t_bands a_t_exchange (a_t_here 0) (a_t_spare 0) t_lettersFed t_faultAt) H → va_D (va_A (wd_tTb4 cI cZ a_t a_t_reader a_t_here a_t_spare a_t_fleet a_t_past a_t_images a_t_draws a_t_seen a_t_book a_t_way a_t_bands a_t_exchange (a_t_here 0) (a_t_spare 0) t_lettersFed t_faultAt) s.heap.size) (wd_tTb4 cI cZ a_t a_t_reader a_t_here a_t_spare a_t_fleet a_t_past a_t_images a_t_draws a_t_seen a_t_book a_t_way a_t_bands a_t_exchange (a_t_here 0) (a_t_spare 0) t_lettersFed t_faultAt) → va_S (va_A (wd_tTb4 cI cZ a_t a_t_reader a_t_here a_t_spare a_t_fleet a_t_past a_t_images a_t_draws a_t_seen a_t_book a_t_way a_t_bands a_t_exchange (a_t_here 0) (a_t_spare 0) t_lettersFed t_faultAt) s.heap.size) s.heap H locs → lv_has ls 6 [(3, .long x3)] → m_Tb_mercy_B54  x3 = some r0 → W p l e (headSpec wsX11_mercy ({ frames := 0, cells := 0, slots := 0, locals := 0 })).room s m ([.ref (a_t 0), .int y1, .int y2] : List Value).toArray below meth c H locs 0 0 (MQ below (cQi (dC, dI) (wd_tTb4 cI cZ a_t a_t_reader a_t_here a_t_spare a_t_fleet a_t_past a_t_images a_t_draws a_t_seen a_t_book a_t_way a_t_bands a_t_exchange (a_t_here 0) (a_t_spare 0) t_lettersFed t_faultAt) (wd_tTb4 cI cZ a_t a_t_reader a_t_here a_t_spare a_t_fleet a_t_past a_t_images a_t_draws a_t_seen a_t_book a_t_way a_t_bands a_t_exchange (a_t_here 0) (a_t_spare 0) t_lettersFed t_faultAt) s.heap.size r0) ([.ref (a_t 0), .int y1, .int y2] : List Value).toArray s 0 0 (va_A (wd_tTb4 cI cZ a_t a_t_reader a_t_here a_t_spare a_t_fleet a_t_past a_t_images a_t_draws a_t_seen a_t_book a_t_way a_t_bands a_t_exchange (a_t_here 0) (a_t_spare 0) t_lettersFed t_faultAt) s.heap.size)) (F0 m 54 ls []) := by
    intro x3 H locs ls hP hD hS hl h
    unfold m_Tb_mercy_B54 at h
    refine lv_lload_n hx hb dX11_mercy_54 rfl (lv_at hl 0 rfl) ?_
    refine lv_l2i (v := x3.toInt32) hx hb dX11_mercy_55 rfl ?_
    obtain rfl := k_in1 h
    exact k_ri hx hb hr hlocks hP hS dX11_mercy_56
  have L30 : ∀ (n30 : Nat) (x1 : Int32) (x2 : Int32) (x3 : Int64) (x5 : Int32)  (H : Heap) (locs : List Loc) (ls : Array Slot), va_P (dC, dI) vwCl (wd_tTb4 cI cZ a_t a_t_reader a_t_here a_t_spare a_t_fleet a_t_past a_t_images a_t_draws a_t_seen a_t_book a_t_way a_t_bands a_t_exchange (a_t_here 0) (a_t_spare 0) t_lettersFed t_faultAt) H → va_D (va_A (wd_tTb4 cI cZ a_t a_t_reader a_t_here a_t_spare a_t_fleet a_t_past a_t_images a_t_draws a_t_seen a_t_book a_t_way a_t_bands a_t_exchange (a_t_here 0) (a_t_spare 0) t_lettersFed t_faultAt) s.heap.size) (wd_tTb4 cI cZ a_t a_t_reader a_t_here a_t_spare a_t_fleet a_t_past a_t_images a_t_draws a_t_seen a_t_book a_t_way a_t_bands a_t_exchange (a_t_here 0) (a_t_spare 0) t_lettersFed t_faultAt) → va_S (va_A (wd_tTb4 cI cZ a_t a_t_reader a_t_here a_t_spare a_t_fleet a_t_past a_t_images a_t_draws a_t_seen a_t_book a_t_way a_t_bands a_t_exchange (a_t_here 0) (a_t_spare 0) t_lettersFed t_faultAt) s.heap.size) s.heap H locs → lv_has ls 6 [(1, .int x1), (2, .int x2), (3, .long x3), (5, .int x5)] → m_Tb_mercy_L30  n30 x1 x2 x3 x5 = some r0 → W p l e (headSpec wsX11_mercy ({ frames := 0, cells := 0, slots := 0, locals := 0 })).room s m ([.ref (a_t 0), .int y1, .int y2] : List Value).toArray below meth c H locs 0 0 (MQ below (cQi (dC, dI) (wd_tTb4 cI cZ a_t a_t_reader a_t_here a_t_spare a_t_fleet a_t_past a_t_images a_t_draws a_t_seen a_t_book a_t_way a_t_bands a_t_exchange (a_t_here 0) (a_t_spare 0) t_lettersFed t_faultAt) (wd_tTb4 cI cZ a_t a_t_reader a_t_here a_t_spare a_t_fleet a_t_past a_t_images a_t_draws a_t_seen a_t_book a_t_way a_t_bands a_t_exchange (a_t_here 0) (a_t_spare 0) t_lettersFed t_faultAt) s.heap.size r0) ([.ref (a_t 0), .int y1, .int y2] : List Value).toArray s 0 0 (va_A (wd_tTb4 cI cZ a_t a_t_reader a_t_here a_t_spare a_t_fleet a_t_past a_t_images a_t_draws a_t_seen a_t_book a_t_way a_t_bands a_t_exchange (a_t_here 0) (a_t_spare 0) t_lettersFed t_faultAt) s.heap.size)) (F0 m 30 ls []) := by
    intro n30
    induction n30 with
    | zero => intro x1 x2 x3 x5 H locs ls hP hD hS hl h; have h : none = some r0 := h; cases h
    | succ n30 ih30 =>
      intro x1 x2 x3 x5 H locs ls hP hD hS hl h
      have h : m_Tb_mercy_B30  (m_Tb_mercy_L30  n30) x1 x2 x3 x5 = some r0 := h
      unfold m_Tb_mercy_B30 at h
      refine lv_iload hx hb dX11_mercy_30 (lv_at hl 3 rfl) ?_
      refine lv_iload_n hx hb dX11_mercy_32 rfl (lv_at hl 0 rfl) ?_
      refine lv_icmp_ge (tgt := 54) hx hb dX11_mercy_33 (by decide) (fun hc => ?_) (fun hc => ?_)
      · have h := k_pos hc h
        exact J54 x3 _ _ _ hP hD hS (lv_sub hl [2] rfl) h
      · have h := k_neg hc h
        refine lv_lload_n hx hb dX11_mercy_36 rfl (lv_at hl 2 rfl) ?_
        refine lv_bipush (v := 100) hx hb dX11_mercy_37 (by decide) ?_
        refine lv_iload_n hx hb dX11_mercy_39 rfl (lv_at hl 1 rfl) ?_
        refine lv_isub hx hb dX11_mercy_40 ?_
        refine lv_i2l (v := (100 - x2).toInt64) hx hb dX11_mercy_41 rfl ?_
        refine lv_lmul hx hb dX11_mercy_42 ?_
        refine lv_ldc2 (v := 100) hx hb hown (hts (.constantLong RX11 256 (100)) (List.mem_of_getElem? (i := 3) rfl)) dX11_mercy_43 ?_
        obtain ⟨hz1, h⟩ := kzl_some h
        refine lv_ldiv hx hb dX11_mercy_46 hz1 ?_
        refine lv_lstore_n (lv' := [(3, .long ((x3 * ((100 - x2).toInt64)) / 100)), (1, .int x1), (2, .int x2), (5, .int x5)]) hx hb dX11_mercy_47 rfl hl (by decide) rfl (fun ls hl => ?_)
        refine lv_iinc (v := (x5 + 1)) (lv' := [(5, .int (x5 + 1)), (3, .long ((x3 * ((100 - x2).toInt64)) / 100)), (1, .int x1), (2, .int x2)]) hx hb dX11_mercy_48 hl (k := 3) rfl rfl (by decide) rfl (fun ls hl => ?_)
        refine lv_goto (tgt := 30) hx hb dX11_mercy_51 (by decide) ?_
        exact ih30 x1 x2 ((x3 * ((100 - x2).toInt64)) / 100) (x5 + 1) _ _ _ hP hD hS (lv_sub hl [2, 3, 1, 0] rfl) h
  unfold m_Tb_mercy at h
  refine lv_iload_n hx hb dX11_mercy_0 rfl (lv_at hl 1 rfl) ?_
  refine lv_if_lt (tgt := 20) hx hb dX11_mercy_1 (by decide) (fun hc => ?_) (fun hc => ?_)
  · have h := k_pos hc h
    refine lv_ldc (v := (-1000000002)) hx hb hown (hts (.constant RX11 104 (-1000000002)) (List.mem_of_getElem? (i := 1) rfl)) dX11_mercy_20 ?_
    obtain rfl := k_in1 h
    exact k_ri hx hb hr hlocks hP hS dX11_mercy_22
  · have h := k_neg hc h
    refine lv_iload_n hx hb dX11_mercy_4 rfl (lv_at hl 1 rfl) ?_
    refine lv_bipush (v := 60) hx hb dX11_mercy_5 (by decide) ?_
    refine lv_icmp_gt (tgt := 20) hx hb dX11_mercy_7 (by decide) (fun hc => ?_) (fun hc => ?_)
    · have h := k_pos hc h
      refine lv_ldc (v := (-1000000002)) hx hb hown (hts (.constant RX11 104 (-1000000002)) (List.mem_of_getElem? (i := 1) rfl)) dX11_mercy_20 ?_
      obtain rfl := k_in1 h
      exact k_ri hx hb hr hlocks hP hS dX11_mercy_22
    · have h := k_neg hc h
      refine lv_iload_n hx hb dX11_mercy_10 rfl (lv_at hl 2 rfl) ?_
      refine lv_if_lt (tgt := 20) hx hb dX11_mercy_11 (by decide) (fun hc => ?_) (fun hc => ?_)
      · have h := k_pos hc h
        refine lv_ldc (v := (-1000000002)) hx hb hown (hts (.constant RX11 104 (-1000000002)) (List.mem_of_getElem? (i := 1) rfl)) dX11_mercy_20 ?_
        obtain rfl := k_in1 h
        exact k_ri hx hb hr hlocks hP hS dX11_mercy_22
      · have h := k_neg hc h
        refine lv_iload_n hx hb dX11_mercy_14 rfl (lv_at hl 2 rfl) ?_
        refine lv_bipush (v := 100) hx hb dX11_mercy_15 (by decide) ?_
        refine lv_icmp_le (tgt := 23) hx hb dX11_mercy_17 (by decide) (fun hc => ?_) (fun hc => ?_)
        · have h := k_pos hc h
          refine lv_ldc2 (v := 1000000000) hx hb hown (hts (.constantLong RX11 254 (1000000000)) (List.mem_of_getElem? (i := 2) rfl)) dX11_mercy_23 ?_
          refine lv_lstore_n (lv' := [(3, .long 1000000000), (0, .ref (a_t 0)), (1, .int y1), (2, .int y2)]) hx hb dX11_mercy_26 rfl hl (by decide) rfl (fun ls hl => ?_)
          refine lv_iconst (v := 0) hx hb dX11_mercy_27 (by decide) ?_
          refine lv_istore (lv' := [(5, .int 0), (3, .long 1000000000), (0, .ref (a_t 0)), (1, .int y1), (2, .int y2)]) hx hb dX11_mercy_28 hl (by decide) rfl (fun ls hl => ?_)
          exact L30 FU y1 y2 1000000000 0 _ _ _ hP hD hS (lv_sub hl [3, 4, 1, 0] rfl) h
        · have h := k_neg hc h
          refine lv_ldc (v := (-1000000002)) hx hb hown (hts (.constant RX11 104 (-1000000002)) (List.mem_of_getElem? (i := 1) rfl)) dX11_mercy_20 ?_
          obtain rfl := k_in1 h
          exact k_ri hx hb hr hlocks hP hS dX11_mercy_22
set_option maxHeartbeats 4000000 in
set_option maxRecDepth 100000 in
theorem c_Tb_see (l : Launch) (dC : Nat → ClassId) (dI : Nat → Nat → Nat) (cI cZ : ClassId) (a_t a_t_reader a_t_here a_t_spare a_t_fleet a_t_past a_t_images a_t_draws a_t_seen a_t_book a_t_way a_t_bands a_t_exchange : Nat → Nat) (t_lettersFed : Int32) (t_faultAt : Int32) (t_here_junctions : Int32) (t_here_cuts : Int32) (t_here_boats : Int32) (t_here_cutA : Nat → Int32) (t_here_cutB : Nat → Int32) (t_here_cutHard : Nat → Int32) (t_here_boatAt : Nat → Int32) (t_here_boatPull : Nat → Int32) (t_here_boatWear : Nat → Int32) (t_here_onward : Nat → Int32) (t_here_onwardHard : Nat → Int32) (t_seen_most : Int32) (i_t_seen_boats : Nat → Int32) (i_t_seen_steps : Nat → Int32) (i_t_seen_junctions : Nat → Int32) (i_t_seen_count : Int32) (y1 : Int32) (y2 : Int32) (y3 : Int32) (r0 : Int32) (o_t_seen_boats : Nat → Int32) (o_t_seen_steps : Nat → Int32) (o_t_seen_junctions : Nat → Int32) (o_t_seen_count : Int32) (h : m_Tb_see y1 y2 y3 t_here_junctions t_here_boats t_seen_most i_t_seen_boats i_t_seen_steps i_t_seen_junctions i_t_seen_count = some (r0, o_t_seen_boats, o_t_seen_steps, o_t_seen_junctions, o_t_seen_count)) : (MI l yX11_see wsX11_see ({ frames := 1, cells := 0, slots := 0, locals := 23 }) (dC, dI) [(cI, .int), (cZ, .boolean)] (wd_tTb17 cI cZ a_t a_t_reader a_t_here a_t_spare a_t_fleet a_t_past a_t_images a_t_draws a_t_seen a_t_book a_t_way a_t_bands a_t_exchange (a_t_here 0) (a_t_spare 0) t_lettersFed t_faultAt t_here_junctions t_here_cuts t_here_boats t_here_cutA t_here_cutB t_here_cutHard t_here_boatAt t_here_boatPull t_here_boatWear t_here_onward t_here_onwardHard t_seen_most i_t_seen_boats i_t_seen_steps i_t_seen_junctions i_t_seen_count) (wd_tTb17 cI cZ a_t a_t_reader a_t_here a_t_spare a_t_fleet a_t_past a_t_images a_t_draws a_t_seen a_t_book a_t_way a_t_bands a_t_exchange (a_t_here 0) (a_t_spare 0) t_lettersFed t_faultAt t_here_junctions t_here_cuts t_here_boats t_here_cutA t_here_cutB t_here_cutHard t_here_boatAt t_here_boatPull t_here_boatWear t_here_onward t_here_onwardHard t_seen_most o_t_seen_boats o_t_seen_steps o_t_seen_junctions o_t_seen_count) [.ref (a_t 0), .int y1, .int y2, .int y3] r0) := by
  intro sz
  refine Met.ofW (cc := cX11_see) (maxL := 4) (ret := (some .int)) (by decide) rfl ?_
  intro p e s m args below meth c s₁ B hml hv
  obtain ⟨rfl, hsz, hP, hK, hD0⟩ := hv
  have hx := B.exec
  have hb := B.bytes
  have hr := B.returns
  have hts := atoms_spec (ws := wsX11_see) B.pre
  have hown : s.vm.findClass RX11 = some m.cls := findClass_of_methodNamed B.named
  have hlocks := B.notSynchronized
  subst hsz
  have hD := hD0.self (sz := s.heap.size)
  have hA : ∀ q : Nat, s.heap.size ≤ q → va_A (wd_tTb17 cI cZ a_t a_t_reader a_t_here a_t_spare a_t_fleet a_t_past a_t_images a_t_draws a_t_seen a_t_book a_t_way a_t_bands a_t_exchange (a_t_here 0) (a_t_spare 0) t_lettersFed t_faultAt t_here_junctions t_here_cuts t_here_boats t_here_cutA t_here_cutB t_here_cutHard t_here_boatAt t_here_boatPull t_here_boatWear t_here_onward t_here_onwardHard t_seen_most i_t_seen_boats i_t_seen_steps i_t_seen_junctions i_t_seen_count) s.heap.size q := fun q h => Or.inr h
  have hS : va_S (va_A (wd_tTb17 cI cZ a_t a_t_reader a_t_here a_t_spare a_t_fleet a_t_past a_t_images a_t_draws a_t_seen a_t_book a_t_way a_t_bands a_t_exchange (a_t_here 0) (a_t_spare 0) t_lettersFed t_faultAt t_here_junctions t_here_cuts t_here_boats t_here_cutA t_here_cutB t_here_cutHard t_here_boatAt t_here_boatPull t_here_boatWear t_here_onward t_here_onwardHard t_seen_most i_t_seen_boats i_t_seen_steps i_t_seen_junctions i_t_seen_count) s.heap.size) s.heap s.heap [] := va_S.rf
  have hin2 : ∀ w ∈ u_ws RX2 TX2 5, w ∈ wsX11_see := fun w h => List.mem_cons_of_mem _ (List.mem_append_left _ (List.mem_append_right _ h))
  have hin11 : ∀ w ∈ u_ws RX11 TX11 16, w ∈ wsX11_see := fun w h => List.mem_cons_of_mem _ (List.mem_append_left _ (List.mem_append_left _ (List.mem_append_right _ h)))
  have hl := lv_entry ([.ref (a_t 0), .int y1, .int y2, .int y3]) (n := 4) (Nat.le_of_ble_eq_true rfl)
  rw [lg_entry_eq]
  generalize (lg_sl ([.ref (a_t 0), .int y1, .int y2, .int y3]) ++ List.replicate (4 - (lg_sl ([.ref (a_t 0), .int y1, .int y2, .int y3])).length) Slot.unset).toArray = ls at hl ⊢
  have hl : lv_has ls 4 [(0, .ref (a_t 0)), (1, .int y1), (2, .int y2), (3, .int y3)] := hl
  unfold m_Tb_see at h
  refine lv_aload_n hx hb dX11_see_0 rfl (lv_at hl 0 rfl) ?_
  refine va_get (D := (dC, dI)) (ci := 11) (v := .ref (a_t_here 0)) (C := RX11) (T := TX11) (N := 16) hx hb hts hin11 hown hK hP 0 rfl rfl 4 (by decide) (hts (.fieldLink RX11 30 "TowedBack" "here" "LTowedBack$Water;") (List.mem_of_getElem? (i := 1) rfl)) (fun _ h9 => h9) rfl dX11_see_1 ?_
  refine lv_iload_n hx hb dX11_see_4 rfl (lv_at hl 1 rfl) ?_
  obtain ⟨r1, hc1, h⟩ := kb1_some h
  refine k_RVi (rest := []) (As := [.int y1]) ⟨hx, hb, hml, hown, hts⟩ (c_Water_hasBoat l dC dI cI cZ a_t_here t_here_junctions t_here_cuts t_here_boats t_here_cutA t_here_cutB t_here_cutHard t_here_boatAt t_here_boatPull t_here_boatWear t_here_onward t_here_onwardHard y1 r1 hc1) (cwV 1 hts gX11_see_X9_hasBoat rfl rfl rfl hd_9_hasBoat ⟨Nat.le_of_ble_eq_true rfl, Nat.le_of_ble_eq_true rfl⟩) hK hP hD hS hA [1, 2, 3, 4, 5, 6, 7, 8, 9] rfl (by decide +kernel) 1 9 rfl rfl rfl rfl hl.1 rfl (Nat.le_of_ble_eq_true rfl) dX11_see_5 ⟨Nat.zero_le _, Nat.zero_le _⟩ (fun H locs hP hD hS => ?_)
  refine lv_if_eq (tgt := 22) hx hb dX11_see_8 (by decide) (fun hc => ?_) (fun hc => ?_)
  · have h := k_pos hc h
    refine lv_ldc (v := (-1000000001)) hx hb hown (hts (.constant RX11 145 (-1000000001)) (List.mem_of_getElem? (i := 2) rfl)) dX11_see_22 ?_
    obtain ⟨rfl, rfl, rfl, rfl, rfl⟩ := k_in5 h
    exact k_ri hx hb hr hlocks hP hS dX11_see_24
  · have h := k_neg hc h
    refine lv_aload_n hx hb dX11_see_11 rfl (lv_at hl 0 rfl) ?_
    refine va_get (D := (dC, dI)) (ci := 11) (v := .ref (a_t_here 0)) (C := RX11) (T := TX11) (N := 16) hx hb hts hin11 hown hK hP 0 rfl rfl 4 (by decide) (hts (.fieldLink RX11 30 "TowedBack" "here" "LTowedBack$Water;") (List.mem_of_getElem? (i := 1) rfl)) (fun _ h9 => h9) rfl dX11_see_12 ?_
    refine lv_iload_n hx hb dX11_see_15 rfl (lv_at hl 3 rfl) ?_
    obtain ⟨r2, hc2, h⟩ := kb1_some h
    refine k_RVi (rest := []) (As := [.int y3]) ⟨hx, hb, hml, hown, hts⟩ (c_Water_hasJunction l dC dI cI cZ a_t_here t_here_junctions t_here_cuts t_here_boats t_here_cutA t_here_cutB t_here_cutHard t_here_boatAt t_here_boatPull t_here_boatWear t_here_onward t_here_onwardHard y3 r2 hc2) (cwV 1 hts gX11_see_X9_hasJunction rfl rfl rfl hd_9_hasJunction ⟨Nat.le_of_ble_eq_true rfl, Nat.le_of_ble_eq_true rfl⟩) hK hP hD hS hA [1, 2, 3, 4, 5, 6, 7, 8, 9] rfl (by decide +kernel) 1 9 rfl rfl rfl rfl hl.1 rfl (Nat.le_of_ble_eq_true rfl) dX11_see_16 ⟨Nat.zero_le _, Nat.zero_le _⟩ (fun H locs hP hD hS => ?_)
    refine lv_if_ne (tgt := 25) hx hb dX11_see_19 (by decide) (fun hc => ?_) (fun hc => ?_)
    · have h := k_neg hc h
      refine lv_iload_n hx hb dX11_see_25 rfl (lv_at hl 2 rfl) ?_
      refine lv_if_lt (tgt := 35) hx hb dX11_see_26 (by decide) (fun hc => ?_) (fun hc => ?_)
      · have h := k_pos hc h
        refine lv_ldc (v := (-1000000002)) hx hb hown (hts (.constant RX11 104 (-1000000002)) (List.mem_of_getElem? (i := 3) rfl)) dX11_see_35 ?_
        obtain ⟨rfl, rfl, rfl, rfl, rfl⟩ := k_in5 h
        exact k_ri hx hb hr hlocks hP hS dX11_see_37
      · have h := k_neg hc h
        refine lv_iload_n hx hb dX11_see_29 rfl (lv_at hl 2 rfl) ?_
        refine lv_bipush (v := 30) hx hb dX11_see_30 (by decide) ?_
        refine lv_icmp_le (tgt := 38) hx hb dX11_see_32 (by decide) (fun hc => ?_) (fun hc => ?_)
        · have h := k_pos hc h
          refine lv_aload_n hx hb dX11_see_38 rfl (lv_at hl 0 rfl) ?_
          refine va_get (D := (dC, dI)) (ci := 11) (v := .ref (a_t_seen 0)) (C := RX11) (T := TX11) (N := 16) hx hb hts hin11 hown hK hP 0 rfl rfl 11 (by decide) (hts (.fieldLink RX11 73 "TowedBack" "seen" "LTowedBack$Entries;") (List.mem_of_getElem? (i := 4) rfl)) (fun _ h9 => h9) rfl dX11_see_39 ?_
          refine lv_iload_n hx hb dX11_see_42 rfl (lv_at hl 1 rfl) ?_
          refine lv_iload_n hx hb dX11_see_43 rfl (lv_at hl 2 rfl) ?_
          refine lv_iload_n hx hb dX11_see_44 rfl (lv_at hl 3 rfl) ?_
          obtain ⟨r3, t_seen_boats_3, t_seen_steps_3, t_seen_junctions_3, t_seen_count_3, hc3, h⟩ := kb5_some h
          refine k_GVi (rest := []) (As := [.int y1, .int y2, .int y3]) (ws' := (wd_tTb17 cI cZ a_t a_t_reader a_t_here a_t_spare a_t_fleet a_t_past a_t_images a_t_draws a_t_seen a_t_book a_t_way a_t_bands a_t_exchange (a_t_here 0) (a_t_spare 0) t_lettersFed t_faultAt t_here_junctions t_here_cuts t_here_boats t_here_cutA t_here_cutB t_here_cutHard t_here_boatAt t_here_boatPull t_here_boatWear t_here_onward t_here_onwardHard t_seen_most t_seen_boats_3 t_seen_steps_3 t_seen_junctions_3 t_seen_count_3)) ⟨hx, hb, hml, hown, hts⟩ (c_Entries_add l dC dI cI cZ a_t_seen 6 t_seen_most i_t_seen_boats i_t_seen_steps i_t_seen_junctions i_t_seen_count y1 y2 y3 r3 t_seen_boats_3 t_seen_steps_3 t_seen_junctions_3 t_seen_count_3 hc3) (cwV 3 hts gX11_see_X2_add rfl rfl rfl hd_2_add ⟨Nat.le_of_ble_eq_true rfl, Nat.le_of_ble_eq_true rfl⟩) hK hP hD hS hA [10, 11, 12, 13] rfl (by decide +kernel) 10 2 rfl rfl rfl [0, 1, 2, 3, 4, 5, 6, 7, 8, 9] rfl (k_allc rfl rfl (k_allc rfl rfl (k_allc rfl rfl (k_allc rfl rfl (k_allc rfl rfl (k_allc rfl rfl (k_allc rfl rfl (k_allc rfl rfl (k_allc rfl rfl (k_allc rfl rfl k_alln)))))))))) 14 rfl (by decide +kernel) (wd_tTb17_f.trans wd_tTb17_f.symm) rfl hl.1 rfl (Nat.le_of_ble_eq_true rfl) dX11_see_45 ⟨Nat.zero_le _, Nat.zero_le _⟩ (fun H locs hP hD hS => ?_)
          refine lv_if_eq (tgt := 61) hx hb dX11_see_48 (by decide) (fun hc => ?_) (fun hc => ?_)
          · have h := k_pos hc h
            refine lv_ldc (v := (-1000000004)) hx hb hown (hts (.constant RX11 105 (-1000000004)) (List.mem_of_getElem? (i := 6) rfl)) dX11_see_61 ?_
            obtain ⟨rfl, rfl, rfl, rfl, rfl⟩ := k_in5 h
            exact k_ri hx hb hr hlocks hP hS dX11_see_63
          · have h := k_neg hc h
            refine lv_aload_n hx hb dX11_see_51 rfl (lv_at hl 0 rfl) ?_
            refine va_get (D := (dC, dI)) (ci := 11) (v := .ref (a_t_seen 0)) (C := RX11) (T := TX11) (N := 16) hx hb hts hin11 hown hK hP 0 rfl rfl 11 (by decide) (hts (.fieldLink RX11 73 "TowedBack" "seen" "LTowedBack$Entries;") (List.mem_of_getElem? (i := 4) rfl)) (fun _ h9 => h9) rfl dX11_see_52 ?_
            refine va_get (D := (dC, dI)) (ci := 2) (v := .int t_seen_count_3) (C := RX2) (T := TX2) (N := 5) hx hb hts hin2 hown hK hP 10 rfl rfl 4 (by decide) (hts (.fieldLink RX11 137 "TowedBack$Entries" "count" "I") (List.mem_of_getElem? (i := 5) rfl)) (fun _ h9 => h9) rfl dX11_see_55 ?_
            refine lv_goto (tgt := 63) hx hb dX11_see_58 (by decide) ?_
            obtain ⟨rfl, rfl, rfl, rfl, rfl⟩ := k_in5 h
            exact k_ri hx hb hr hlocks hP hS dX11_see_63
        · have h := k_neg hc h
          refine lv_ldc (v := (-1000000002)) hx hb hown (hts (.constant RX11 104 (-1000000002)) (List.mem_of_getElem? (i := 3) rfl)) dX11_see_35 ?_
          obtain ⟨rfl, rfl, rfl, rfl, rfl⟩ := k_in5 h
          exact k_ri hx hb hr hlocks hP hS dX11_see_37
    · have h := k_pos hc h
      refine lv_ldc (v := (-1000000001)) hx hb hown (hts (.constant RX11 145 (-1000000001)) (List.mem_of_getElem? (i := 2) rfl)) dX11_see_22 ?_
      obtain ⟨rfl, rfl, rfl, rfl, rfl⟩ := k_in5 h
      exact k_ri hx hb hr hlocks hP hS dX11_see_24
set_option maxHeartbeats 4000000 in
set_option maxRecDepth 100000 in
theorem c_Tb_sortPulls (l : Launch) (dC : Nat → ClassId) (dI : Nat → Nat → Nat) (cI cZ : ClassId) (a_t a_t_reader a_t_here a_t_spare a_t_fleet a_t_past a_t_images a_t_draws a_t_seen a_t_book a_t_way a_t_bands a_t_exchange : Nat → Nat) (t_lettersFed : Int32) (t_faultAt : Int32) (t_here_junctions : Int32) (t_here_cuts : Int32) (t_here_boats : Int32) (t_here_cutA : Nat → Int32) (t_here_cutB : Nat → Int32) (t_here_cutHard : Nat → Int32) (t_here_boatAt : Nat → Int32) (t_here_boatPull : Nat → Int32) (t_here_boatWear : Nat → Int32) (t_here_onward : Nat → Int32) (t_here_onwardHard : Nat → Int32) (t_fleet_row : Nat → Int32) (t_seen_most : Int32) (t_seen_boats : Nat → Int32) (t_seen_steps : Nat → Int32) (t_seen_junctions : Nat → Int32) (t_seen_count : Int32) (i_t_way_places : Nat → Int32) (i_t_way_needs : Nat → Int32) (i_t_way_last : Int32) (i_t_bands_lows : Nat → Int32) (i_t_bands_sizes : Nat → Int32) (t_bands_parts : Nat → Int32) (y1 : Int32) (o_t_way_places : Nat → Int32) (o_t_way_needs : Nat → Int32) (o_t_way_last : Int32) (o_t_bands_lows : Nat → Int32) (o_t_bands_sizes : Nat → Int32) (h : m_Tb_sortPulls y1 t_here_boats t_here_boatWear t_here_onward t_here_onwardHard t_fleet_row t_seen_most t_seen_boats t_seen_steps t_seen_junctions t_seen_count i_t_way_places i_t_way_needs i_t_way_last i_t_bands_lows i_t_bands_sizes = some (o_t_way_places, o_t_way_needs, o_t_way_last, o_t_bands_lows, o_t_bands_sizes)) : (MV l yX11_sortPulls wsX11_sortPulls ({ frames := 4, cells := 0, slots := 0, locals := 90 }) (dC, dI) [(cI, .int), (cZ, .boolean)] (wd_tTb18 cI cZ a_t a_t_reader a_t_here a_t_spare a_t_fleet a_t_past a_t_images a_t_draws a_t_seen a_t_book a_t_way a_t_bands a_t_exchange (a_t_here 0) (a_t_spare 0) t_lettersFed t_faultAt t_here_junctions t_here_cuts t_here_boats t_here_cutA t_here_cutB t_here_cutHard t_here_boatAt t_here_boatPull t_here_boatWear t_here_onward t_here_onwardHard t_fleet_row t_seen_most t_seen_boats t_seen_steps t_seen_junctions t_seen_count i_t_way_places i_t_way_needs i_t_way_last i_t_bands_lows i_t_bands_sizes t_bands_parts) (wd_tTb18 cI cZ a_t a_t_reader a_t_here a_t_spare a_t_fleet a_t_past a_t_images a_t_draws a_t_seen a_t_book a_t_way a_t_bands a_t_exchange (a_t_here 0) (a_t_spare 0) t_lettersFed t_faultAt t_here_junctions t_here_cuts t_here_boats t_here_cutA t_here_cutB t_here_cutHard t_here_boatAt t_here_boatPull t_here_boatWear t_here_onward t_here_onwardHard t_fleet_row t_seen_most t_seen_boats t_seen_steps t_seen_junctions t_seen_count o_t_way_places o_t_way_needs o_t_way_last o_t_bands_lows o_t_bands_sizes t_bands_parts) [.ref (a_t 0), .int y1]) := by
  intro sz
  refine Met.ofW (cc := cX11_sortPulls) (maxL := 2) (ret := none) (by decide) rfl ?_
  intro p e s m args below meth c s₁ B hml hv
  obtain ⟨rfl, hsz, hP, hK, hD0⟩ := hv
  have hx := B.exec
  have hb := B.bytes
  have hr := B.returns
  have hts := atoms_spec (ws := wsX11_sortPulls) B.pre
  have hown : s.vm.findClass RX11 = some m.cls := findClass_of_methodNamed B.named
  have hlocks := B.notSynchronized
  subst hsz
  have hD := hD0.self (sz := s.heap.size)
  have hA : ∀ q : Nat, s.heap.size ≤ q → va_A (wd_tTb18 cI cZ a_t a_t_reader a_t_here a_t_spare a_t_fleet a_t_past a_t_images a_t_draws a_t_seen a_t_book a_t_way a_t_bands a_t_exchange (a_t_here 0) (a_t_spare 0) t_lettersFed t_faultAt t_here_junctions t_here_cuts t_here_boats t_here_cutA t_here_cutB t_here_cutHard t_here_boatAt t_here_boatPull t_here_boatWear t_here_onward t_here_onwardHard t_fleet_row t_seen_most t_seen_boats t_seen_steps t_seen_junctions t_seen_count i_t_way_places i_t_way_needs i_t_way_last i_t_bands_lows i_t_bands_sizes t_bands_parts) s.heap.size q := fun q h => Or.inr h
  have hS : va_S (va_A (wd_tTb18 cI cZ a_t a_t_reader a_t_here a_t_spare a_t_fleet a_t_past a_t_images a_t_draws a_t_seen a_t_book a_t_way a_t_bands a_t_exchange (a_t_here 0) (a_t_spare 0) t_lettersFed t_faultAt t_here_junctions t_here_cuts t_here_boats t_here_cutA t_here_cutB t_here_cutHard t_here_boatAt t_here_boatPull t_here_boatWear t_here_onward t_here_onwardHard t_fleet_row t_seen_most t_seen_boats t_seen_steps t_seen_junctions t_seen_count i_t_way_places i_t_way_needs i_t_way_last i_t_bands_lows i_t_bands_sizes t_bands_parts) s.heap.size) s.heap s.heap [] := va_S.rf
  have hin11 : ∀ w ∈ u_ws RX11 TX11 16, w ∈ wsX11_sortPulls := fun w h => List.mem_cons_of_mem _ (List.mem_append_left _ (List.mem_append_left _ (List.mem_append_left _ (List.mem_append_left _ (List.mem_append_left _ (List.mem_append_right _ h))))))
  have hl := lv_entry ([.ref (a_t 0), .int y1]) (n := 2) (Nat.le_of_ble_eq_true rfl)
  rw [lg_entry_eq]
  generalize (lg_sl ([.ref (a_t 0), .int y1]) ++ List.replicate (2 - (lg_sl ([.ref (a_t 0), .int y1])).length) Slot.unset).toArray = ls at hl ⊢
  have hl : lv_has ls 2 [(0, .ref (a_t 0)), (1, .int y1)] := hl
  unfold m_Tb_sortPulls at h
  refine lv_aload_n hx hb dX11_sortPulls_0 rfl (lv_at hl 0 rfl) ?_
  refine va_get (D := (dC, dI)) (ci := 11) (v := .ref (a_t_way 0)) (C := RX11) (T := TX11) (N := 16) hx hb hts hin11 hown hK hP 0 rfl rfl 13 (by decide) (hts (.fieldLink RX11 83 "TowedBack" "way" "LTowedBack$Way;") (List.mem_of_getElem? (i := 1) rfl)) (fun _ h9 => h9) rfl dX11_sortPulls_1 ?_
  refine lv_aload_n hx hb dX11_sortPulls_4 rfl (lv_at hl 0 rfl) ?_
  refine va_get (D := (dC, dI)) (ci := 11) (v := .ref (a_t_here 0)) (C := RX11) (T := TX11) (N := 16) hx hb hts hin11 hown hK hP 0 rfl rfl 4 (by decide) (hts (.fieldLink RX11 30 "TowedBack" "here" "LTowedBack$Water;") (List.mem_of_getElem? (i := 2) rfl)) (fun _ h9 => h9) rfl dX11_sortPulls_5 ?_
  refine lv_aload_n hx hb dX11_sortPulls_8 rfl (lv_at hl 0 rfl) ?_
  refine va_get (D := (dC, dI)) (ci := 11) (v := .ref (a_t_fleet 0)) (C := RX11) (T := TX11) (N := 16) hx hb hts hin11 hown hK hP 0 rfl rfl 6 (by decide) (hts (.fieldLink RX11 40 "TowedBack" "fleet" "LTowedBack$Fleet;") (List.mem_of_getElem? (i := 3) rfl)) (fun _ h9 => h9) rfl dX11_sortPulls_9 ?_
  refine lv_iload_n hx hb dX11_sortPulls_12 rfl (lv_at hl 1 rfl) ?_
  obtain ⟨r1, hc1, h⟩ := kb1_some h
  refine k_RVi (rest := [.ref (a_t_here 0), .ref (a_t_way 0)]) (As := [.int y1]) ⟨hx, hb, hml, hown, hts⟩ (c_Fleet_at l dC dI cI cZ a_t_fleet t_fleet_row y1 r1 hc1) (cwV 1 hts gX11_sortPulls_X4_at rfl rfl rfl hd_4_at ⟨Nat.le_of_ble_eq_true rfl, Nat.le_of_ble_eq_true rfl⟩) hK hP hD hS hA [10, 11] rfl (by decide +kernel) 10 4 rfl rfl rfl rfl hl.1 rfl (Nat.le_of_ble_eq_true rfl) dX11_sortPulls_13 ⟨Nat.zero_le _, Nat.zero_le _⟩ (fun H locs hP hD hS => ?_)
  refine lv_iconst (v := (-1)) hx hb dX11_sortPulls_16 (by decide) ?_
  refine lv_aload_n hx hb dX11_sortPulls_17 rfl (lv_at hl 0 rfl) ?_
  refine va_get (D := (dC, dI)) (ci := 11) (v := .ref (a_t_here 0)) (C := RX11) (T := TX11) (N := 16) hx hb hts hin11 hown hK hP 0 rfl rfl 4 (by decide) (hts (.fieldLink RX11 30 "TowedBack" "here" "LTowedBack$Water;") (List.mem_of_getElem? (i := 2) rfl)) (fun _ h9 => h9) rfl dX11_sortPulls_18 ?_
  refine lv_iload_n hx hb dX11_sortPulls_21 rfl (lv_at hl 1 rfl) ?_
  obtain ⟨r2, hc2, h⟩ := kb1_some h
  refine k_RVi (rest := [.int (-1), .int r1, .ref (a_t_here 0), .ref (a_t_way 0)]) (As := [.int y1]) ⟨hx, hb, hml, hown, hts⟩ (c_Water_wearOf l dC dI cI cZ a_t_here t_here_junctions t_here_cuts t_here_boats t_here_cutA t_here_cutB t_here_cutHard t_here_boatAt t_here_boatPull t_here_boatWear t_here_onward t_here_onwardHard y1 r2 hc2) (cwV 1 hts gX11_sortPulls_X9_wearOf rfl rfl rfl hd_9_wearOf ⟨Nat.le_of_ble_eq_true rfl, Nat.le_of_ble_eq_true rfl⟩) hK hP hD hS hA [1, 2, 3, 4, 5, 6, 7, 8, 9] rfl (by decide +kernel) 1 9 rfl rfl rfl rfl hl.1 rfl (Nat.le_of_ble_eq_true rfl) dX11_sortPulls_22 ⟨Nat.zero_le _, Nat.zero_le _⟩ (fun H locs hP hD hS => ?_)
  refine lv_bipush (v := 30) hx hb dX11_sortPulls_25 (by decide) ?_
  obtain ⟨t_way_places_3, t_way_needs_3, t_way_last_3, hc3, h⟩ := kb3_some h
  refine k_GVv (rest := []) (As := [.ref (a_t_here 0), .int r1, .int (-1), .int r2, .int 30]) (ws' := (wd_tTb18 cI cZ a_t a_t_reader a_t_here a_t_spare a_t_fleet a_t_past a_t_images a_t_draws a_t_seen a_t_book a_t_way a_t_bands a_t_exchange (a_t_here 0) (a_t_spare 0) t_lettersFed t_faultAt t_here_junctions t_here_cuts t_here_boats t_here_cutA t_here_cutB t_here_cutHard t_here_boatAt t_here_boatPull t_here_boatWear t_here_onward t_here_onwardHard t_fleet_row t_seen_most t_seen_boats t_seen_steps t_seen_junctions t_seen_count t_way_places_3 t_way_needs_3 t_way_last_3 i_t_bands_lows i_t_bands_sizes t_bands_parts)) ⟨hx, hb, hml, hown, hts⟩ (c_Way_lay l dC dI cI cZ a_t_way a_t_here i_t_way_places i_t_way_needs i_t_way_last t_here_junctions t_here_cuts t_here_boats t_here_cutA t_here_cutB t_here_cutHard t_here_boatAt t_here_boatPull t_here_boatWear t_here_onward t_here_onwardHard r1 (-1) r2 30 t_way_places_3 t_way_needs_3 t_way_last_3 hc3) (cwV 5 hts gX11_sortPulls_X10_lay rfl rfl rfl hd_10_lay ⟨Nat.le_of_ble_eq_true rfl, Nat.le_of_ble_eq_true rfl⟩) hK hP hD hS hA [16, 17, 18, 1, 2, 3, 4, 5, 6, 7, 8, 9] rfl (by decide +kernel) 16 10 rfl rfl rfl [0, 10, 11, 12, 13, 14, 15, 19, 20, 21, 22] rfl (k_allc rfl rfl (k_allc rfl rfl (k_allc rfl rfl (k_allc rfl rfl (k_allc rfl rfl (k_allc rfl rfl (k_allc rfl rfl (k_allc rfl rfl (k_allc rfl rfl (k_allc rfl rfl (k_allc rfl rfl k_alln))))))))))) 23 rfl (by decide +kernel) (wd_tTb18_f.trans wd_tTb18_f.symm) rfl hl.1 rfl (Nat.le_of_ble_eq_true rfl) dX11_sortPulls_27 ⟨Nat.zero_le _, Nat.zero_le _⟩ (fun H locs hP hD hS => ?_)
  refine lv_aload_n hx hb dX11_sortPulls_30 rfl (lv_at hl 0 rfl) ?_
  refine va_get (D := (dC, dI)) (ci := 11) (v := .ref (a_t_bands 0)) (C := RX11) (T := TX11) (N := 16) hx hb hts hin11 hown hK hP 0 rfl rfl 14 (by decide) (hts (.fieldLink RX11 90 "TowedBack" "bands" "LTowedBack$Bands;") (List.mem_of_getElem? (i := 4) rfl)) (fun _ h9 => h9) rfl dX11_sortPulls_31 ?_
  refine lv_aload_n hx hb dX11_sortPulls_34 rfl (lv_at hl 0 rfl) ?_
  refine va_get (D := (dC, dI)) (ci := 11) (v := .ref (a_t_way 0)) (C := RX11) (T := TX11) (N := 16) hx hb hts hin11 hown hK hP 0 rfl rfl 13 (by decide) (hts (.fieldLink RX11 83 "TowedBack" "way" "LTowedBack$Way;") (List.mem_of_getElem? (i := 1) rfl)) (fun _ h9 => h9) rfl dX11_sortPulls_35 ?_
  refine lv_aload_n hx hb dX11_sortPulls_38 rfl (lv_at hl 0 rfl) ?_
  refine va_get (D := (dC, dI)) (ci := 11) (v := .ref (a_t_seen 0)) (C := RX11) (T := TX11) (N := 16) hx hb hts hin11 hown hK hP 0 rfl rfl 11 (by decide) (hts (.fieldLink RX11 73 "TowedBack" "seen" "LTowedBack$Entries;") (List.mem_of_getElem? (i := 5) rfl)) (fun _ h9 => h9) rfl dX11_sortPulls_39 ?_
  refine lv_iload_n hx hb dX11_sortPulls_42 rfl (lv_at hl 1 rfl) ?_
  obtain ⟨t_bands_lows_4, t_bands_sizes_4, hc4, h⟩ := kb2_some h
  refine k_GVv (rest := []) (As := [.ref (a_t_way 0), .ref (a_t_seen 0), .int y1]) (ws' := (wd_tTb18 cI cZ a_t a_t_reader a_t_here a_t_spare a_t_fleet a_t_past a_t_images a_t_draws a_t_seen a_t_book a_t_way a_t_bands a_t_exchange (a_t_here 0) (a_t_spare 0) t_lettersFed t_faultAt t_here_junctions t_here_cuts t_here_boats t_here_cutA t_here_cutB t_here_cutHard t_here_boatAt t_here_boatPull t_here_boatWear t_here_onward t_here_onwardHard t_fleet_row t_seen_most t_seen_boats t_seen_steps t_seen_junctions t_seen_count t_way_places_3 t_way_needs_3 t_way_last_3 t_bands_lows_4 t_bands_sizes_4 t_bands_parts)) ⟨hx, hb, hml, hown, hts⟩ (c_Bands_sort l dC dI cI cZ a_t_bands a_t_way a_t_seen i_t_bands_lows i_t_bands_sizes t_bands_parts t_way_places_3 t_way_needs_3 t_way_last_3 6 t_seen_most t_seen_boats t_seen_steps t_seen_junctions t_seen_count y1 t_bands_lows_4 t_bands_sizes_4 hc4) (cwV 3 hts gX11_sortPulls_X0_sort rfl rfl rfl hd_0_sort ⟨Nat.le_of_ble_eq_true rfl, Nat.le_of_ble_eq_true rfl⟩) hK hP hD hS hA [19, 20, 21, 22, 16, 17, 18, 12, 13, 14, 15] rfl (by decide +kernel) 19 0 rfl rfl rfl [0, 1, 2, 3, 4, 5, 6, 7, 8, 9, 10, 11] rfl (k_allc rfl rfl (k_allc rfl rfl (k_allc rfl rfl (k_allc rfl rfl (k_allc rfl rfl (k_allc rfl rfl (k_allc rfl rfl (k_allc rfl rfl (k_allc rfl rfl (k_allc rfl rfl (k_allc rfl rfl (k_allc rfl rfl k_alln)))))))))))) 23 rfl (by decide +kernel) (wd_tTb18_f.trans wd_tTb18_f.symm) rfl hl.1 rfl (Nat.le_of_ble_eq_true rfl) dX11_sortPulls_43 ⟨Nat.zero_le _, Nat.zero_le _⟩ (fun H locs hP hD hS => ?_)
  obtain ⟨rfl, rfl, rfl, rfl, rfl⟩ := k_in5 h
  exact k_rv hx hb hr hlocks hP hS dX11_sortPulls_46
