set_option maxHeartbeats 4000000 in
set_option maxRecDepth 100000 in
theorem c_Water_goesTo (l : Launch) (dC : Nat → ClassId) (dI : Nat → Nat → Nat) (cI cZ : ClassId) (a_t : Nat → Nat) (t_junctions : Int32) (t_cuts : Int32) (t_boats : Int32) (t_cutA : Nat → Int32) (t_cutB : Nat → Int32) (t_cutHard : Nat → Int32) (t_boatAt : Nat → Int32) (t_boatPull : Nat → Int32) (t_boatWear : Nat → Int32) (t_onward : Nat → Int32) (t_onwardHard : Nat → Int32) (y1 : Int32) (y2 : Int32) (r0 : Int32) (h : m_Water_goesTo y1 y2 t_onward = some r0) : (MI l yX9_goesTo wsX9_goesTo ({ frames := 1, cells := 0, slots := 0, locals := 22 }) (dC, dI) [(cI, .int), (cZ, .boolean)] (wd_tWater cI cZ a_t t_junctions t_cuts t_boats t_cutA t_cutB t_cutHard t_boatAt t_boatPull t_boatWear t_onward t_onwardHard) (wd_tWater cI cZ a_t t_junctions t_cuts t_boats t_cutA t_cutB t_cutHard t_boatAt t_boatPull t_boatWear t_onward t_onwardHard) [.ref (a_t 0), .int y1, .int y2] r0) := by
  intro sz
  refine Met.ofW (cc := cX9_goesTo) (maxL := 4) (ret := (some .int)) (by decide) rfl ?_
  intro p e s m args below meth c s₁ B hml hv
  obtain ⟨rfl, hsz, hP, hK, hD0⟩ := hv
  have hx := B.exec
  have hb := B.bytes
  have hr := B.returns
  have hts := atoms_spec (ws := wsX9_goesTo) B.pre
  have hown : s.vm.findClass RX9 = some m.cls := findClass_of_methodNamed B.named
  have hlocks := B.notSynchronized
  subst hsz
  have hD := hD0.self (sz := s.heap.size)
  have hA : ∀ q : Nat, s.heap.size ≤ q → va_A (wd_tWater cI cZ a_t t_junctions t_cuts t_boats t_cutA t_cutB t_cutHard t_boatAt t_boatPull t_boatWear t_onward t_onwardHard) s.heap.size q := fun q h => Or.inr h
  have hS : va_S (va_A (wd_tWater cI cZ a_t t_junctions t_cuts t_boats t_cutA t_cutB t_cutHard t_boatAt t_boatPull t_boatWear t_onward t_onwardHard) s.heap.size) s.heap s.heap [] := va_S.rf
  have hin9 : ∀ w ∈ u_ws RX9 TX9 11, w ∈ wsX9_goesTo := fun w h => List.mem_cons_of_mem _ (List.mem_append_right _ h)
  have hl := lv_entry ([.ref (a_t 0), .int y1, .int y2]) (n := 4) (Nat.le_of_ble_eq_true rfl)
  rw [lg_entry_eq]
  generalize (lg_sl ([.ref (a_t 0), .int y1, .int y2]) ++ List.replicate (4 - (lg_sl ([.ref (a_t 0), .int y1, .int y2])).length) Slot.unset).toArray = ls at hl ⊢
  have hl : lv_has ls 4 [(0, .ref (a_t 0)), (1, .int y1), (2, .int y2)] := hl
  unfold m_Water_goesTo at h
  refine lv_aload_n hx hb dX9_goesTo_0 rfl (lv_at hl 0 rfl) ?_
  refine lv_iload_n hx hb dX9_goesTo_1 rfl (lv_at hl 1 rfl) ?_
  refine lv_iload_n hx hb dX9_goesTo_2 rfl (lv_at hl 2 rfl) ?_
  obtain ⟨r1, hc1, h⟩ := kb1_some h
  refine k_FVi (rest := []) (As := [.int y1, .int y2]) ⟨hx, hb, hml, hown, hts⟩ (c_Water_slotOf l dC dI cI cZ a_t t_junctions t_cuts t_boats t_cutA t_cutB t_cutHard t_boatAt t_boatPull t_boatWear t_onward t_onwardHard y1 y2 r1 hc1) (cwV 2 hts gX9_goesTo_X9_slotOf rfl rfl rfl hd_9_slotOf ⟨Nat.le_of_ble_eq_true rfl, Nat.le_of_ble_eq_true rfl⟩) hK hP hD hS hA 0 9 rfl rfl rfl rfl rfl hl.1 rfl (Nat.le_of_ble_eq_true rfl) dX9_goesTo_3 ⟨Nat.zero_le _, Nat.zero_le _⟩ (fun H locs hP hD hS => ?_)
  refine lv_istore_n (lv' := [(3, .int r1), (0, .ref (a_t 0)), (1, .int y1), (2, .int y2)]) hx hb dX9_goesTo_6 rfl hl (by decide) rfl (fun ls hl => ?_)
  refine lv_iload_n hx hb dX9_goesTo_7 rfl (lv_at hl 0 rfl) ?_
  refine lv_iconst (v := (-1)) hx hb dX9_goesTo_8 (by decide) ?_
  refine lv_icmp_ne (tgt := 16) hx hb dX9_goesTo_9 (by decide) (fun hc => ?_) (fun hc => ?_)
  · have h := k_neg hc h
    refine lv_aload_n hx hb dX9_goesTo_16 rfl (lv_at hl 1 rfl) ?_
    refine va_get (D := (dC, dI)) (ci := 9) (v := .ref (a_t 7)) (C := RX9) (T := TX9) (N := 11) hx hb hts hin9 hown hK hP 0 rfl rfl 9 (by decide) (hts (.fieldLink RX9 40 "TowedBack$Water" "onward" "[I") (List.mem_of_getElem? (i := 1) rfl)) (fun _ h9 => h9) rfl dX9_goesTo_17 ?_
    refine lv_iload_n hx hb dX9_goesTo_20 rfl (lv_at hl 0 rfl) ?_
    obtain ⟨hi2, h⟩ := kg_some h
    refine va_iald hx hb hK hP 7 0 rfl rfl hi2 dX9_goesTo_21 ?_
    obtain rfl := k_in1 h
    exact k_ri hx hb hr hlocks hP hS dX9_goesTo_22
  · have h := k_pos hc h
    refine lv_iconst (v := (-1)) hx hb dX9_goesTo_12 (by decide) ?_
    refine lv_goto (tgt := 22) hx hb dX9_goesTo_13 (by decide) ?_
    obtain rfl := k_in1 h
    exact k_ri hx hb hr hlocks hP hS dX9_goesTo_22
set_option maxHeartbeats 4000000 in
set_option maxRecDepth 100000 in
theorem c_Water_hardOn (l : Launch) (dC : Nat → ClassId) (dI : Nat → Nat → Nat) (cI cZ : ClassId) (a_t : Nat → Nat) (t_junctions : Int32) (t_cuts : Int32) (t_boats : Int32) (t_cutA : Nat → Int32) (t_cutB : Nat → Int32) (t_cutHard : Nat → Int32) (t_boatAt : Nat → Int32) (t_boatPull : Nat → Int32) (t_boatWear : Nat → Int32) (t_onward : Nat → Int32) (t_onwardHard : Nat → Int32) (y1 : Int32) (y2 : Int32) (r0 : Int32) (h : m_Water_hardOn y1 y2 t_onwardHard = some r0) : (MI l yX9_hardOn wsX9_hardOn ({ frames := 1, cells := 0, slots := 0, locals := 22 }) (dC, dI) [(cI, .int), (cZ, .boolean)] (wd_tWater cI cZ a_t t_junctions t_cuts t_boats t_cutA t_cutB t_cutHard t_boatAt t_boatPull t_boatWear t_onward t_onwardHard) (wd_tWater cI cZ a_t t_junctions t_cuts t_boats t_cutA t_cutB t_cutHard t_boatAt t_boatPull t_boatWear t_onward t_onwardHard) [.ref (a_t 0), .int y1, .int y2] r0) := by
  intro sz
  refine Met.ofW (cc := cX9_hardOn) (maxL := 4) (ret := (some .int)) (by decide) rfl ?_
  intro p e s m args below meth c s₁ B hml hv
  obtain ⟨rfl, hsz, hP, hK, hD0⟩ := hv
  have hx := B.exec
  have hb := B.bytes
  have hr := B.returns
  have hts := atoms_spec (ws := wsX9_hardOn) B.pre
  have hown : s.vm.findClass RX9 = some m.cls := findClass_of_methodNamed B.named
  have hlocks := B.notSynchronized
  subst hsz
  have hD := hD0.self (sz := s.heap.size)
  have hA : ∀ q : Nat, s.heap.size ≤ q → va_A (wd_tWater cI cZ a_t t_junctions t_cuts t_boats t_cutA t_cutB t_cutHard t_boatAt t_boatPull t_boatWear t_onward t_onwardHard) s.heap.size q := fun q h => Or.inr h
  have hS : va_S (va_A (wd_tWater cI cZ a_t t_junctions t_cuts t_boats t_cutA t_cutB t_cutHard t_boatAt t_boatPull t_boatWear t_onward t_onwardHard) s.heap.size) s.heap s.heap [] := va_S.rf
  have hin9 : ∀ w ∈ u_ws RX9 TX9 11, w ∈ wsX9_hardOn := fun w h => List.mem_cons_of_mem _ (List.mem_append_right _ h)
  have hl := lv_entry ([.ref (a_t 0), .int y1, .int y2]) (n := 4) (Nat.le_of_ble_eq_true rfl)
  rw [lg_entry_eq]
  generalize (lg_sl ([.ref (a_t 0), .int y1, .int y2]) ++ List.replicate (4 - (lg_sl ([.ref (a_t 0), .int y1, .int y2])).length) Slot.unset).toArray = ls at hl ⊢
  have hl : lv_has ls 4 [(0, .ref (a_t 0)), (1, .int y1), (2, .int y2)] := hl
  unfold m_Water_hardOn at h
  refine lv_aload_n hx hb dX9_hardOn_0 rfl (lv_at hl 0 rfl) ?_
  refine lv_iload_n hx hb dX9_hardOn_1 rfl (lv_at hl 1 rfl) ?_
  refine lv_iload_n hx hb dX9_hardOn_2 rfl (lv_at hl 2 rfl) ?_
  obtain ⟨r1, hc1, h⟩ := kb1_some h
  refine k_FVi (rest := []) (As := [.int y1, .int y2]) ⟨hx, hb, hml, hown, hts⟩ (c_Water_slotOf l dC dI cI cZ a_t t_junctions t_cuts t_boats t_cutA t_cutB t_cutHard t_boatAt t_boatPull t_boatWear t_onward t_onwardHard y1 y2 r1 hc1) (cwV 2 hts gX9_hardOn_X9_slotOf rfl rfl rfl hd_9_slotOf ⟨Nat.le_of_ble_eq_true rfl, Nat.le_of_ble_eq_true rfl⟩) hK hP hD hS hA 0 9 rfl rfl rfl rfl rfl hl.1 rfl (Nat.le_of_ble_eq_true rfl) dX9_hardOn_3 ⟨Nat.zero_le _, Nat.zero_le _⟩ (fun H locs hP hD hS => ?_)
  refine lv_istore_n (lv' := [(3, .int r1), (0, .ref (a_t 0)), (1, .int y1), (2, .int y2)]) hx hb dX9_hardOn_6 rfl hl (by decide) rfl (fun ls hl => ?_)
  refine lv_iload_n hx hb dX9_hardOn_7 rfl (lv_at hl 0 rfl) ?_
  refine lv_iconst (v := (-1)) hx hb dX9_hardOn_8 (by decide) ?_
  refine lv_icmp_ne (tgt := 18) hx hb dX9_hardOn_9 (by decide) (fun hc => ?_) (fun hc => ?_)
  · have h := k_neg hc h
    refine lv_aload_n hx hb dX9_hardOn_18 rfl (lv_at hl 1 rfl) ?_
    refine va_get (D := (dC, dI)) (ci := 9) (v := .ref (a_t 8)) (C := RX9) (T := TX9) (N := 11) hx hb hts hin9 hown hK hP 0 rfl rfl 10 (by decide) (hts (.fieldLink RX9 43 "TowedBack$Water" "onwardHard" "[I") (List.mem_of_getElem? (i := 1) rfl)) (fun _ h9 => h9) rfl dX9_hardOn_19 ?_
    refine lv_iload_n hx hb dX9_hardOn_22 rfl (lv_at hl 0 rfl) ?_
    obtain ⟨hi2, h⟩ := kg_some h
    refine va_iald hx hb hK hP 8 0 rfl rfl hi2 dX9_hardOn_23 ?_
    obtain rfl := k_in1 h
    exact k_ri hx hb hr hlocks hP hS dX9_hardOn_24
  · have h := k_pos hc h
    refine lv_sipush (v := 1000) hx hb dX9_hardOn_12 (by decide) ?_
    refine lv_goto (tgt := 24) hx hb dX9_hardOn_15 (by decide) ?_
    obtain rfl := k_in1 h
    exact k_ri hx hb hr hlocks hP hS dX9_hardOn_24
