set_option maxHeartbeats 4000000 in
set_option maxRecDepth 100000 in
theorem c_Ref_lighter (l : Launch) (dC : Nat → ClassId) (dI : Nat → Nat → Nat) (cI cZ : ClassId)  (y0 : Int32) (y1 : Int32) (r0 : Int32) (h : m_Ref_lighter y0 y1 = some r0) : (MI l yX12_lighter wsX12_lighter ({ frames := 0, cells := 0, slots := 0, locals := 0 }) (dC, dI) [(cI, .int), (cZ, .boolean)] ([] : va_W) ([] : va_W) [.int y0, .int y1] r0) := by
  intro sz
  refine Met.ofW (cc := cX12_lighter) (maxL := 2) (ret := (some .int)) (by decide) rfl ?_
  intro p e s m args below meth c s₁ B hml hv
  obtain ⟨rfl, hsz, hP, hK, hD0⟩ := hv
  have hx := B.exec
  have hb := B.bytes
  have hr := B.returns
  have hts := atoms_spec (ws := wsX12_lighter) B.pre
  have hown : s.vm.findClass RX12 = some m.cls := findClass_of_methodNamed B.named
  have hlocks := B.notSynchronized
  subst hsz
  have hD := hD0.self (sz := s.heap.size)
  have hA : ∀ q : Nat, s.heap.size ≤ q → va_A ([] : va_W) s.heap.size q := fun q h => Or.inr h
  have hS : va_S (va_A ([] : va_W) s.heap.size) s.heap s.heap [] := va_S.rf
  have hl := lv_entry ([.int y0, .int y1]) (n := 2) (Nat.le_of_ble_eq_true rfl)
  rw [lg_entry_eq]
  generalize (lg_sl ([.int y0, .int y1]) ++ List.replicate (2 - (lg_sl ([.int y0, .int y1])).length) Slot.unset).toArray = ls at hl ⊢
  have hl : lv_has ls 2 [(0, .int y0), (1, .int y1)] := hl
  unfold m_Ref_lighter at h
  refine lv_iload_n hx hb dX12_lighter_0 rfl (lv_at hl 0 rfl) ?_
  refine lv_iload_n hx hb dX12_lighter_1 rfl (lv_at hl 1 rfl) ?_
  refine lv_icmp_le (tgt := 11) hx hb dX12_lighter_2 (by decide) (fun hc => ?_) (fun hc => ?_)
  · have h := k_pos hc h
    refine lv_iconst (v := 0) hx hb dX12_lighter_11 (by decide) ?_
    obtain rfl := k_in1 h
    exact k_ri hx hb hr hlocks hP hS dX12_lighter_12
  · have h := k_neg hc h
    refine lv_iload_n hx hb dX12_lighter_5 rfl (lv_at hl 0 rfl) ?_
    refine lv_iload_n hx hb dX12_lighter_6 rfl (lv_at hl 1 rfl) ?_
    refine lv_isub hx hb dX12_lighter_7 ?_
    refine lv_goto (tgt := 12) hx hb dX12_lighter_8 (by decide) ?_
    obtain rfl := k_in1 h
    exact k_ri hx hb hr hlocks hP hS dX12_lighter_12
set_option maxHeartbeats 4000000 in
set_option maxRecDepth 100000 in
theorem c_Ref_heavier (l : Launch) (dC : Nat → ClassId) (dI : Nat → Nat → Nat) (cI cZ : ClassId)  (y0 : Int32) (y1 : Int32) (r0 : Int32) (h : m_Ref_heavier y0 y1 = some r0) : (MI l yX12_heavier wsX12_heavier ({ frames := 0, cells := 0, slots := 0, locals := 0 }) (dC, dI) [(cI, .int), (cZ, .boolean)] ([] : va_W) ([] : va_W) [.int y0, .int y1] r0) := by
  intro sz
  refine Met.ofW (cc := cX12_heavier) (maxL := 2) (ret := (some .int)) (by decide) rfl ?_
  intro p e s m args below meth c s₁ B hml hv
  obtain ⟨rfl, hsz, hP, hK, hD0⟩ := hv
  have hx := B.exec
  have hb := B.bytes
  have hr := B.returns
  have hts := atoms_spec (ws := wsX12_heavier) B.pre
  have hown : s.vm.findClass RX12 = some m.cls := findClass_of_methodNamed B.named
  have hlocks := B.notSynchronized
  subst hsz
  have hD := hD0.self (sz := s.heap.size)
  have hA : ∀ q : Nat, s.heap.size ≤ q → va_A ([] : va_W) s.heap.size q := fun q h => Or.inr h
  have hS : va_S (va_A ([] : va_W) s.heap.size) s.heap s.heap [] := va_S.rf
  have hl := lv_entry ([.int y0, .int y1]) (n := 2) (Nat.le_of_ble_eq_true rfl)
  rw [lg_entry_eq]
  generalize (lg_sl ([.int y0, .int y1]) ++ List.replicate (2 - (lg_sl ([.int y0, .int y1])).length) Slot.unset).toArray = ls at hl ⊢
  have hl : lv_has ls 2 [(0, .int y0), (1, .int y1)] := hl
  unfold m_Ref_heavier at h
  refine lv_iload_n hx hb dX12_heavier_0 rfl (lv_at hl 0 rfl) ?_
  refine lv_iload_n hx hb dX12_heavier_1 rfl (lv_at hl 1 rfl) ?_
  refine lv_iadd hx hb dX12_heavier_2 ?_
  refine lv_sipush (v := 999) hx hb dX12_heavier_3 (by decide) ?_
  refine lv_icmp_ge (tgt := 15) hx hb dX12_heavier_6 (by decide) (fun hc => ?_) (fun hc => ?_)
  · have h := k_pos hc h
    refine lv_sipush (v := 999) hx hb dX12_heavier_15 (by decide) ?_
    obtain rfl := k_in1 h
    exact k_ri hx hb hr hlocks hP hS dX12_heavier_18
  · have h := k_neg hc h
    refine lv_iload_n hx hb dX12_heavier_9 rfl (lv_at hl 0 rfl) ?_
    refine lv_iload_n hx hb dX12_heavier_10 rfl (lv_at hl 1 rfl) ?_
    refine lv_iadd hx hb dX12_heavier_11 ?_
    refine lv_goto (tgt := 18) hx hb dX12_heavier_12 (by decide) ?_
    obtain rfl := k_in1 h
    exact k_ri hx hb hr hlocks hP hS dX12_heavier_18
set_option maxHeartbeats 4000000 in
set_option maxRecDepth 100000 in
theorem c_Ref_forgive (l : Launch) (dC : Nat → ClassId) (dI : Nat → Nat → Nat) (cI cZ : ClassId) (a_t : Nat → Nat) (t_junctions : Int32) (t_cuts : Int32) (t_cutOne : Nat → Int32) (t_cutOther : Nat → Int32) (t_cutHard : Nat → Int32) (t_hard : Nat → Int32) (t_boats : Int32) (t_wears : Nat → Int32) (t_quays : Nat → Int32) (i_t_now : Nat → Int32) (t_seed : Int32) (t_text : Nat → Int32) (t_texted : Int32) (t_faultPlace : Int32) (t_at0 : Int32) (t_number : Int32) (t_numberAt : Int32) (t_readJunctions : Int32) (t_readCuts : Int32) (t_readOne : Nat → Int32) (t_readOther : Nat → Int32) (t_readHard : Nat → Int32) (t_readBoats : Int32) (t_readAt : Nat → Int32) (t_readPull : Nat → Int32) (t_readWears : Nat → Int32) (t_at : Int32) (t_from : Int32) (t_pull : Int32) (i_t_undos : Int32) (i_t_past : Nat → Int32) (t_given : Nat → Int32) (t_bestGiven : Nat → Int32) (t_seen : Int32) (t_seenOf : Nat → Int32) (t_seenBehind : Nat → Int32) (t_seenAt : Nat → Int32) (t_way : Nat → Int32) (t_brings : Nat → Int32) (t_booked : Int32) (t_bookOf : Nat → Int32) (t_bookAt : Nat → Int32) (t_images : Nat → Int32) (t_isKept : Nat → Int32) (y1 : Int32) (y2 : Int32) (r0 : Int32) (o_t_now : Nat → Int32) (o_t_undos : Int32) (o_t_past : Nat → Int32) (h : m_Ref_forgive y1 y2 t_boats i_t_now i_t_undos i_t_past = some (r0, o_t_now, o_t_undos, o_t_past)) : (MI l yX12_forgive wsX12_forgive ({ frames := 2, cells := 0, slots := 0, locals := 46 }) (dC, dI) [(cI, .int), (cZ, .boolean)] (wd_tRef cI cZ a_t t_junctions t_cuts t_cutOne t_cutOther t_cutHard t_hard t_boats t_wears t_quays i_t_now t_seed t_text t_texted t_faultPlace t_at0 t_number t_numberAt t_readJunctions t_readCuts t_readOne t_readOther t_readHard t_readBoats t_readAt t_readPull t_readWears t_at t_from t_pull i_t_undos i_t_past t_given t_bestGiven t_seen t_seenOf t_seenBehind t_seenAt t_way t_brings t_booked t_bookOf t_bookAt t_images t_isKept) (wd_tRef cI cZ a_t t_junctions t_cuts t_cutOne t_cutOther t_cutHard t_hard t_boats t_wears t_quays o_t_now t_seed t_text t_texted t_faultPlace t_at0 t_number t_numberAt t_readJunctions t_readCuts t_readOne t_readOther t_readHard t_readBoats t_readAt t_readPull t_readWears t_at t_from t_pull o_t_undos o_t_past t_given t_bestGiven t_seen t_seenOf t_seenBehind t_seenAt t_way t_brings t_booked t_bookOf t_bookAt t_images t_isKept) [.ref (a_t 0), .int y1, .int y2] r0) := by
  intro sz
  refine Met.ofW (cc := cX12_forgive) (maxL := 3) (ret := (some .int)) (by decide) rfl ?_
  intro p e s m args below meth c s₁ B hml hv
  obtain ⟨rfl, hsz, hP, hK, hD0⟩ := hv
  have hx := B.exec
  have hb := B.bytes
  have hr := B.returns
  have hts := atoms_spec (ws := wsX12_forgive) B.pre
  have hown : s.vm.findClass RX12 = some m.cls := findClass_of_methodNamed B.named
  have hlocks := B.notSynchronized
  subst hsz
  have hD := hD0.self (sz := s.heap.size)
  have hA : ∀ q : Nat, s.heap.size ≤ q → va_A (wd_tRef cI cZ a_t t_junctions t_cuts t_cutOne t_cutOther t_cutHard t_hard t_boats t_wears t_quays i_t_now t_seed t_text t_texted t_faultPlace t_at0 t_number t_numberAt t_readJunctions t_readCuts t_readOne t_readOther t_readHard t_readBoats t_readAt t_readPull t_readWears t_at t_from t_pull i_t_undos i_t_past t_given t_bestGiven t_seen t_seenOf t_seenBehind t_seenAt t_way t_brings t_booked t_bookOf t_bookAt t_images t_isKept) s.heap.size q := fun q h => Or.inr h
  have hS : va_S (va_A (wd_tRef cI cZ a_t t_junctions t_cuts t_cutOne t_cutOther t_cutHard t_hard t_boats t_wears t_quays i_t_now t_seed t_text t_texted t_faultPlace t_at0 t_number t_numberAt t_readJunctions t_readCuts t_readOne t_readOther t_readHard t_readBoats t_readAt t_readPull t_readWears t_at t_from t_pull i_t_undos i_t_past t_given t_bestGiven t_seen t_seenOf t_seenBehind t_seenAt t_way t_brings t_booked t_bookOf t_bookAt t_images t_isKept) s.heap.size) s.heap s.heap [] := va_S.rf
  have hin12 : ∀ w ∈ u_ws RX12 TX12 44, w ∈ wsX12_forgive := fun w h => List.mem_cons_of_mem _ (List.mem_append_right _ h)
  have hl := lv_entry ([.ref (a_t 0), .int y1, .int y2]) (n := 3) (Nat.le_of_ble_eq_true rfl)
  rw [lg_entry_eq]
  generalize (lg_sl ([.ref (a_t 0), .int y1, .int y2]) ++ List.replicate (3 - (lg_sl ([.ref (a_t 0), .int y1, .int y2])).length) Slot.unset).toArray = ls at hl ⊢
  have hl : lv_has ls 3 [(0, .ref (a_t 0)), (1, .int y1), (2, .int y2)] := hl
  unfold m_Ref_forgive at h
  refine lv_aload_n hx hb dX12_forgive_0 rfl (lv_at hl 0 rfl) ?_
  refine lv_iload_n hx hb dX12_forgive_1 rfl (lv_at hl 1 rfl) ?_
  obtain ⟨r1, hc1, h⟩ := kb1_some h
  refine k_FVi (rest := []) (As := [.int y1]) ⟨hx, hb, hml, hown, hts⟩ (c_Ref_isBoat l dC dI cI cZ a_t t_junctions t_cuts t_cutOne t_cutOther t_cutHard t_hard t_boats t_wears t_quays i_t_now t_seed t_text t_texted t_faultPlace t_at0 t_number t_numberAt t_readJunctions t_readCuts t_readOne t_readOther t_readHard t_readBoats t_readAt t_readPull t_readWears t_at t_from t_pull i_t_undos i_t_past t_given t_bestGiven t_seen t_seenOf t_seenBehind t_seenAt t_way t_brings t_booked t_bookOf t_bookAt t_images t_isKept y1 r1 hc1) (cwV 1 hts gX12_forgive_X12_isBoat rfl rfl rfl hd_12_isBoat ⟨Nat.le_of_ble_eq_true rfl, Nat.le_of_ble_eq_true rfl⟩) hK hP hD hS hA 0 12 rfl rfl rfl (wd_tRef_f.trans wd_tRef_f.symm) rfl hl.1 rfl (Nat.le_of_ble_eq_true rfl) dX12_forgive_2 ⟨Nat.zero_le _, Nat.zero_le _⟩ (fun H locs hP hD hS => ?_)
  refine lv_if_ne (tgt := 11) hx hb dX12_forgive_5 (by decide) (fun hc => ?_) (fun hc => ?_)
  · have h := k_neg hc h
    refine lv_iload_n hx hb dX12_forgive_11 rfl (lv_at hl 2 rfl) ?_
    refine lv_i2l (v := y2.toInt64) hx hb dX12_forgive_12 rfl ?_
    refine lv_lconst (v := 1) hx hb dX12_forgive_13 (by decide) ?_
    refine lv_ldc2 (v := 999) hx hb hown (hts (.constantLong RX12 220 (999)) (List.mem_of_getElem? (i := 2) rfl)) dX12_forgive_14 ?_
    obtain ⟨r2, hc2, h⟩ := kb1_some h
    refine k_RSi (rest := []) (As := [.long (y2.toInt64), .long 1, .long 999]) ⟨hx, hb, hml, hown, hts⟩ (c_Ref_in l dC dI cI cZ (y2.toInt64) 1 999 r2 hc2) (va_cwS 3 hts gX12_forgive_X12_in rfl rfl rfl hd_12_in ⟨Nat.le_of_ble_eq_true rfl, Nat.le_of_ble_eq_true rfl⟩) hK hP hD hS hA [] rfl (by decide +kernel) rfl hl.1 rfl (Nat.le_of_ble_eq_true rfl) dX12_forgive_17 ⟨Nat.zero_le _, Nat.zero_le _⟩ (fun H locs hP hD hS => ?_)
    refine lv_if_ne (tgt := 26) hx hb dX12_forgive_20 (by decide) (fun hc => ?_) (fun hc => ?_)
    · have h := k_neg hc h
      refine lv_aload_n hx hb dX12_forgive_26 rfl (lv_at hl 0 rfl) ?_
      obtain ⟨t_undos_3, t_past_3, hc3, h⟩ := kb2_some h
      refine k_FVv (rest := []) (As := []) ⟨hx, hb, hml, hown, hts⟩ (c_Ref_remember l dC dI cI cZ a_t t_junctions t_cuts t_cutOne t_cutOther t_cutHard t_hard t_boats t_wears t_quays i_t_now t_seed t_text t_texted t_faultPlace t_at0 t_number t_numberAt t_readJunctions t_readCuts t_readOne t_readOther t_readHard t_readBoats t_readAt t_readPull t_readWears t_at t_from t_pull i_t_undos i_t_past t_given t_bestGiven t_seen t_seenOf t_seenBehind t_seenAt t_way t_brings t_booked t_bookOf t_bookAt t_images t_isKept t_undos_3 t_past_3 hc3) (cwV 0 hts gX12_forgive_X12_remember rfl rfl rfl hd_12_remember ⟨Nat.le_of_ble_eq_true rfl, Nat.le_of_ble_eq_true rfl⟩) hK hP hD hS hA 0 12 rfl rfl rfl (wd_tRef_f.trans wd_tRef_f.symm) rfl hl.1 rfl (Nat.le_of_ble_eq_true rfl) dX12_forgive_27 ⟨Nat.zero_le _, Nat.zero_le _⟩ (fun H locs hP hD hS => ?_)
      refine lv_aload_n hx hb dX12_forgive_30 rfl (lv_at hl 0 rfl) ?_
      refine va_get (D := (dC, dI)) (ci := 12) (v := .ref (a_t 7)) (C := RX12) (T := TX12) (N := 44) hx hb hts hin12 hown hK hP 0 rfl rfl 9 (by decide) (hts (.fieldLink RX12 28 "TowedBackModel" "now" "[I") (List.mem_of_getElem? (i := 4) rfl)) (fun _ h9 => h9) rfl dX12_forgive_31 ?_
      refine lv_bipush (v := 10) hx hb dX12_forgive_34 (by decide) ?_
      refine lv_iload_n hx hb dX12_forgive_36 rfl (lv_at hl 1 rfl) ?_
      refine lv_iadd hx hb dX12_forgive_37 ?_
      refine lv_aload_n hx hb dX12_forgive_38 rfl (lv_at hl 0 rfl) ?_
      refine va_get (D := (dC, dI)) (ci := 12) (v := .ref (a_t 7)) (C := RX12) (T := TX12) (N := 44) hx hb hts hin12 hown hK hP 0 rfl rfl 9 (by decide) (hts (.fieldLink RX12 28 "TowedBackModel" "now" "[I") (List.mem_of_getElem? (i := 4) rfl)) (fun _ h9 => h9) rfl dX12_forgive_39 ?_
      refine lv_bipush (v := 10) hx hb dX12_forgive_42 (by decide) ?_
      refine lv_iload_n hx hb dX12_forgive_44 rfl (lv_at hl 1 rfl) ?_
      refine lv_iadd hx hb dX12_forgive_45 ?_
      obtain ⟨hi4, h⟩ := kg_some h
      refine va_iald hx hb hK hP 7 0 rfl rfl hi4 dX12_forgive_46 ?_
      refine lv_iload_n hx hb dX12_forgive_47 rfl (lv_at hl 2 rfl) ?_
      obtain ⟨r5, hc5, h⟩ := kb1_some h
      refine k_RSi (rest := [.int (10 + y1), .ref (a_t 7)]) (As := [.int (i_t_now (10 + y1).toNatClampNeg), .int y2]) ⟨hx, hb, hml, hown, hts⟩ (c_Ref_lighter l dC dI cI cZ (i_t_now (10 + y1).toNatClampNeg) y2 r5 hc5) (va_cwS 2 hts gX12_forgive_X12_lighter rfl rfl rfl hd_12_lighter ⟨Nat.le_of_ble_eq_true rfl, Nat.le_of_ble_eq_true rfl⟩) hK hP hD hS hA [] rfl (by decide +kernel) rfl hl.1 rfl (Nat.le_of_ble_eq_true rfl) dX12_forgive_48 ⟨Nat.zero_le _, Nat.zero_le _⟩ (fun H locs hP hD hS => ?_)
      obtain ⟨hi6, h⟩ := kg_some h
      refine va_iast hx hb hK hP hD hS 7 0 rfl rfl hi6 dX12_forgive_51 (fun H locs hP hD hS => ?_)
      have hP : va_P (dC, dI) vwCl (wd_tRef cI cZ a_t t_junctions t_cuts t_cutOne t_cutOther t_cutHard t_hard t_boats t_wears t_quays (upd i_t_now (10 + y1).toNatClampNeg r5) t_seed t_text t_texted t_faultPlace t_at0 t_number t_numberAt t_readJunctions t_readCuts t_readOne t_readOther t_readHard t_readBoats t_readAt t_readPull t_readWears t_at t_from t_pull t_undos_3 t_past_3 t_given t_bestGiven t_seen t_seenOf t_seenBehind t_seenAt t_way t_brings t_booked t_bookOf t_bookAt t_images t_isKept) H := hP
      have hD : va_D (va_A (wd_tRef cI cZ a_t t_junctions t_cuts t_cutOne t_cutOther t_cutHard t_hard t_boats t_wears t_quays i_t_now t_seed t_text t_texted t_faultPlace t_at0 t_number t_numberAt t_readJunctions t_readCuts t_readOne t_readOther t_readHard t_readBoats t_readAt t_readPull t_readWears t_at t_from t_pull i_t_undos i_t_past t_given t_bestGiven t_seen t_seenOf t_seenBehind t_seenAt t_way t_brings t_booked t_bookOf t_bookAt t_images t_isKept) s.heap.size) (wd_tRef cI cZ a_t t_junctions t_cuts t_cutOne t_cutOther t_cutHard t_hard t_boats t_wears t_quays (upd i_t_now (10 + y1).toNatClampNeg r5) t_seed t_text t_texted t_faultPlace t_at0 t_number t_numberAt t_readJunctions t_readCuts t_readOne t_readOther t_readHard t_readBoats t_readAt t_readPull t_readWears t_at t_from t_pull t_undos_3 t_past_3 t_given t_bestGiven t_seen t_seenOf t_seenBehind t_seenAt t_way t_brings t_booked t_bookOf t_bookAt t_images t_isKept) := hD
      refine lv_aload_n hx hb dX12_forgive_52 rfl (lv_at hl 0 rfl) ?_
      refine va_get (D := (dC, dI)) (ci := 12) (v := .ref (a_t 7)) (C := RX12) (T := TX12) (N := 44) hx hb hts hin12 hown hK hP 0 rfl rfl 9 (by decide) (hts (.fieldLink RX12 28 "TowedBackModel" "now" "[I") (List.mem_of_getElem? (i := 4) rfl)) (fun _ h9 => h9) rfl dX12_forgive_53 ?_
      refine lv_bipush (v := 10) hx hb dX12_forgive_56 (by decide) ?_
      refine lv_iload_n hx hb dX12_forgive_58 rfl (lv_at hl 1 rfl) ?_
      refine lv_iadd hx hb dX12_forgive_59 ?_
      obtain ⟨hi7, h⟩ := kg_some h
      refine va_iald hx hb hK hP 7 0 rfl rfl hi7 dX12_forgive_60 ?_
      obtain ⟨rfl, rfl, rfl, rfl⟩ := k_in4 h
      exact k_ri hx hb hr hlocks hP hS dX12_forgive_61
    · have h := k_pos hc h
      refine lv_ldc (v := (-1000000002)) hx hb hown (hts (.constant RX12 105 (-1000000002)) (List.mem_of_getElem? (i := 3) rfl)) dX12_forgive_23 ?_
      obtain ⟨rfl, rfl, rfl, rfl⟩ := k_in4 h
      exact k_ri hx hb hr hlocks hP hS dX12_forgive_25
  · have h := k_pos hc h
    refine lv_ldc (v := (-1000000001)) hx hb hown (hts (.constant RX12 200 (-1000000001)) (List.mem_of_getElem? (i := 1) rfl)) dX12_forgive_8 ?_
    obtain ⟨rfl, rfl, rfl, rfl⟩ := k_in4 h
    exact k_ri hx hb hr hlocks hP hS dX12_forgive_10
set_option maxHeartbeats 4000000 in
set_option maxRecDepth 100000 in
theorem c_Ref_weigh (l : Launch) (dC : Nat → ClassId) (dI : Nat → Nat → Nat) (cI cZ : ClassId) (a_t : Nat → Nat) (t_junctions : Int32) (t_cuts : Int32) (t_cutOne : Nat → Int32) (t_cutOther : Nat → Int32) (t_cutHard : Nat → Int32) (t_hard : Nat → Int32) (t_boats : Int32) (t_wears : Nat → Int32) (t_quays : Nat → Int32) (i_t_now : Nat → Int32) (t_seed : Int32) (t_text : Nat → Int32) (t_texted : Int32) (t_faultPlace : Int32) (t_at0 : Int32) (t_number : Int32) (t_numberAt : Int32) (t_readJunctions : Int32) (t_readCuts : Int32) (t_readOne : Nat → Int32) (t_readOther : Nat → Int32) (t_readHard : Nat → Int32) (t_readBoats : Int32) (t_readAt : Nat → Int32) (t_readPull : Nat → Int32) (t_readWears : Nat → Int32) (t_at : Int32) (t_from : Int32) (t_pull : Int32) (i_t_undos : Int32) (i_t_past : Nat → Int32) (t_given : Nat → Int32) (t_bestGiven : Nat → Int32) (t_seen : Int32) (t_seenOf : Nat → Int32) (t_seenBehind : Nat → Int32) (t_seenAt : Nat → Int32) (t_way : Nat → Int32) (t_brings : Nat → Int32) (t_booked : Int32) (t_bookOf : Nat → Int32) (t_bookAt : Nat → Int32) (t_images : Nat → Int32) (t_isKept : Nat → Int32) (y1 : Int32) (y2 : Int32) (r0 : Int32) (o_t_now : Nat → Int32) (o_t_undos : Int32) (o_t_past : Nat → Int32) (h : m_Ref_weigh y1 y2 t_boats i_t_now i_t_undos i_t_past = some (r0, o_t_now, o_t_undos, o_t_past)) : (MI l yX12_weigh wsX12_weigh ({ frames := 2, cells := 0, slots := 0, locals := 46 }) (dC, dI) [(cI, .int), (cZ, .boolean)] (wd_tRef cI cZ a_t t_junctions t_cuts t_cutOne t_cutOther t_cutHard t_hard t_boats t_wears t_quays i_t_now t_seed t_text t_texted t_faultPlace t_at0 t_number t_numberAt t_readJunctions t_readCuts t_readOne t_readOther t_readHard t_readBoats t_readAt t_readPull t_readWears t_at t_from t_pull i_t_undos i_t_past t_given t_bestGiven t_seen t_seenOf t_seenBehind t_seenAt t_way t_brings t_booked t_bookOf t_bookAt t_images t_isKept) (wd_tRef cI cZ a_t t_junctions t_cuts t_cutOne t_cutOther t_cutHard t_hard t_boats t_wears t_quays o_t_now t_seed t_text t_texted t_faultPlace t_at0 t_number t_numberAt t_readJunctions t_readCuts t_readOne t_readOther t_readHard t_readBoats t_readAt t_readPull t_readWears t_at t_from t_pull o_t_undos o_t_past t_given t_bestGiven t_seen t_seenOf t_seenBehind t_seenAt t_way t_brings t_booked t_bookOf t_bookAt t_images t_isKept) [.ref (a_t 0), .int y1, .int y2] r0) := by
  intro sz
  refine Met.ofW (cc := cX12_weigh) (maxL := 3) (ret := (some .int)) (by decide) rfl ?_
  intro p e s m args below meth c s₁ B hml hv
  obtain ⟨rfl, hsz, hP, hK, hD0⟩ := hv
  have hx := B.exec
  have hb := B.bytes
  have hr := B.returns
  have hts := atoms_spec (ws := wsX12_weigh) B.pre
  have hown : s.vm.findClass RX12 = some m.cls := findClass_of_methodNamed B.named
  have hlocks := B.notSynchronized
  subst hsz
  have hD := hD0.self (sz := s.heap.size)
  have hA : ∀ q : Nat, s.heap.size ≤ q → va_A (wd_tRef cI cZ a_t t_junctions t_cuts t_cutOne t_cutOther t_cutHard t_hard t_boats t_wears t_quays i_t_now t_seed t_text t_texted t_faultPlace t_at0 t_number t_numberAt t_readJunctions t_readCuts t_readOne t_readOther t_readHard t_readBoats t_readAt t_readPull t_readWears t_at t_from t_pull i_t_undos i_t_past t_given t_bestGiven t_seen t_seenOf t_seenBehind t_seenAt t_way t_brings t_booked t_bookOf t_bookAt t_images t_isKept) s.heap.size q := fun q h => Or.inr h
  have hS : va_S (va_A (wd_tRef cI cZ a_t t_junctions t_cuts t_cutOne t_cutOther t_cutHard t_hard t_boats t_wears t_quays i_t_now t_seed t_text t_texted t_faultPlace t_at0 t_number t_numberAt t_readJunctions t_readCuts t_readOne t_readOther t_readHard t_readBoats t_readAt t_readPull t_readWears t_at t_from t_pull i_t_undos i_t_past t_given t_bestGiven t_seen t_seenOf t_seenBehind t_seenAt t_way t_brings t_booked t_bookOf t_bookAt t_images t_isKept) s.heap.size) s.heap s.heap [] := va_S.rf
  have hin12 : ∀ w ∈ u_ws RX12 TX12 44, w ∈ wsX12_weigh := fun w h => List.mem_cons_of_mem _ (List.mem_append_right _ h)
  have hl := lv_entry ([.ref (a_t 0), .int y1, .int y2]) (n := 3) (Nat.le_of_ble_eq_true rfl)
  rw [lg_entry_eq]
  generalize (lg_sl ([.ref (a_t 0), .int y1, .int y2]) ++ List.replicate (3 - (lg_sl ([.ref (a_t 0), .int y1, .int y2])).length) Slot.unset).toArray = ls at hl ⊢
  have hl : lv_has ls 3 [(0, .ref (a_t 0)), (1, .int y1), (2, .int y2)] := hl
  unfold m_Ref_weigh at h
  refine lv_aload_n hx hb dX12_weigh_0 rfl (lv_at hl 0 rfl) ?_
  refine lv_iload_n hx hb dX12_weigh_1 rfl (lv_at hl 1 rfl) ?_
  obtain ⟨r1, hc1, h⟩ := kb1_some h
  refine k_FVi (rest := []) (As := [.int y1]) ⟨hx, hb, hml, hown, hts⟩ (c_Ref_isBoat l dC dI cI cZ a_t t_junctions t_cuts t_cutOne t_cutOther t_cutHard t_hard t_boats t_wears t_quays i_t_now t_seed t_text t_texted t_faultPlace t_at0 t_number t_numberAt t_readJunctions t_readCuts t_readOne t_readOther t_readHard t_readBoats t_readAt t_readPull t_readWears t_at t_from t_pull i_t_undos i_t_past t_given t_bestGiven t_seen t_seenOf t_seenBehind t_seenAt t_way t_brings t_booked t_bookOf t_bookAt t_images t_isKept y1 r1 hc1) (cwV 1 hts gX12_weigh_X12_isBoat rfl rfl rfl hd_12_isBoat ⟨Nat.le_of_ble_eq_true rfl, Nat.le_of_ble_eq_true rfl⟩) hK hP hD hS hA 0 12 rfl rfl rfl (wd_tRef_f.trans wd_tRef_f.symm) rfl hl.1 rfl (Nat.le_of_ble_eq_true rfl) dX12_weigh_2 ⟨Nat.zero_le _, Nat.zero_le _⟩ (fun H locs hP hD hS => ?_)
  refine lv_if_ne (tgt := 11) hx hb dX12_weigh_5 (by decide) (fun hc => ?_) (fun hc => ?_)
  · have h := k_neg hc h
    refine lv_iload_n hx hb dX12_weigh_11 rfl (lv_at hl 2 rfl) ?_
    refine lv_i2l (v := y2.toInt64) hx hb dX12_weigh_12 rfl ?_
    refine lv_lconst (v := 1) hx hb dX12_weigh_13 (by decide) ?_
    refine lv_ldc2 (v := 999) hx hb hown (hts (.constantLong RX12 220 (999)) (List.mem_of_getElem? (i := 2) rfl)) dX12_weigh_14 ?_
    obtain ⟨r2, hc2, h⟩ := kb1_some h
    refine k_RSi (rest := []) (As := [.long (y2.toInt64), .long 1, .long 999]) ⟨hx, hb, hml, hown, hts⟩ (c_Ref_in l dC dI cI cZ (y2.toInt64) 1 999 r2 hc2) (va_cwS 3 hts gX12_weigh_X12_in rfl rfl rfl hd_12_in ⟨Nat.le_of_ble_eq_true rfl, Nat.le_of_ble_eq_true rfl⟩) hK hP hD hS hA [] rfl (by decide +kernel) rfl hl.1 rfl (Nat.le_of_ble_eq_true rfl) dX12_weigh_17 ⟨Nat.zero_le _, Nat.zero_le _⟩ (fun H locs hP hD hS => ?_)
    refine lv_if_ne (tgt := 26) hx hb dX12_weigh_20 (by decide) (fun hc => ?_) (fun hc => ?_)
    · have h := k_neg hc h
      refine lv_aload_n hx hb dX12_weigh_26 rfl (lv_at hl 0 rfl) ?_
      obtain ⟨t_undos_3, t_past_3, hc3, h⟩ := kb2_some h
      refine k_FVv (rest := []) (As := []) ⟨hx, hb, hml, hown, hts⟩ (c_Ref_remember l dC dI cI cZ a_t t_junctions t_cuts t_cutOne t_cutOther t_cutHard t_hard t_boats t_wears t_quays i_t_now t_seed t_text t_texted t_faultPlace t_at0 t_number t_numberAt t_readJunctions t_readCuts t_readOne t_readOther t_readHard t_readBoats t_readAt t_readPull t_readWears t_at t_from t_pull i_t_undos i_t_past t_given t_bestGiven t_seen t_seenOf t_seenBehind t_seenAt t_way t_brings t_booked t_bookOf t_bookAt t_images t_isKept t_undos_3 t_past_3 hc3) (cwV 0 hts gX12_weigh_X12_remember rfl rfl rfl hd_12_remember ⟨Nat.le_of_ble_eq_true rfl, Nat.le_of_ble_eq_true rfl⟩) hK hP hD hS hA 0 12 rfl rfl rfl (wd_tRef_f.trans wd_tRef_f.symm) rfl hl.1 rfl (Nat.le_of_ble_eq_true rfl) dX12_weigh_27 ⟨Nat.zero_le _, Nat.zero_le _⟩ (fun H locs hP hD hS => ?_)
      refine lv_aload_n hx hb dX12_weigh_30 rfl (lv_at hl 0 rfl) ?_
      refine va_get (D := (dC, dI)) (ci := 12) (v := .ref (a_t 7)) (C := RX12) (T := TX12) (N := 44) hx hb hts hin12 hown hK hP 0 rfl rfl 9 (by decide) (hts (.fieldLink RX12 28 "TowedBackModel" "now" "[I") (List.mem_of_getElem? (i := 4) rfl)) (fun _ h9 => h9) rfl dX12_weigh_31 ?_
      refine lv_bipush (v := 10) hx hb dX12_weigh_34 (by decide) ?_
      refine lv_iload_n hx hb dX12_weigh_36 rfl (lv_at hl 1 rfl) ?_
      refine lv_iadd hx hb dX12_weigh_37 ?_
      refine lv_aload_n hx hb dX12_weigh_38 rfl (lv_at hl 0 rfl) ?_
      refine va_get (D := (dC, dI)) (ci := 12) (v := .ref (a_t 7)) (C := RX12) (T := TX12) (N := 44) hx hb hts hin12 hown hK hP 0 rfl rfl 9 (by decide) (hts (.fieldLink RX12 28 "TowedBackModel" "now" "[I") (List.mem_of_getElem? (i := 4) rfl)) (fun _ h9 => h9) rfl dX12_weigh_39 ?_
      refine lv_bipush (v := 10) hx hb dX12_weigh_42 (by decide) ?_
      refine lv_iload_n hx hb dX12_weigh_44 rfl (lv_at hl 1 rfl) ?_
      refine lv_iadd hx hb dX12_weigh_45 ?_
      obtain ⟨hi4, h⟩ := kg_some h
      refine va_iald hx hb hK hP 7 0 rfl rfl hi4 dX12_weigh_46 ?_
      refine lv_iload_n hx hb dX12_weigh_47 rfl (lv_at hl 2 rfl) ?_
      obtain ⟨r5, hc5, h⟩ := kb1_some h
      refine k_RSi (rest := [.int (10 + y1), .ref (a_t 7)]) (As := [.int (i_t_now (10 + y1).toNatClampNeg), .int y2]) ⟨hx, hb, hml, hown, hts⟩ (c_Ref_heavier l dC dI cI cZ (i_t_now (10 + y1).toNatClampNeg) y2 r5 hc5) (va_cwS 2 hts gX12_weigh_X12_heavier rfl rfl rfl hd_12_heavier ⟨Nat.le_of_ble_eq_true rfl, Nat.le_of_ble_eq_true rfl⟩) hK hP hD hS hA [] rfl (by decide +kernel) rfl hl.1 rfl (Nat.le_of_ble_eq_true rfl) dX12_weigh_48 ⟨Nat.zero_le _, Nat.zero_le _⟩ (fun H locs hP hD hS => ?_)
      obtain ⟨hi6, h⟩ := kg_some h
      refine va_iast hx hb hK hP hD hS 7 0 rfl rfl hi6 dX12_weigh_51 (fun H locs hP hD hS => ?_)
      have hP : va_P (dC, dI) vwCl (wd_tRef cI cZ a_t t_junctions t_cuts t_cutOne t_cutOther t_cutHard t_hard t_boats t_wears t_quays (upd i_t_now (10 + y1).toNatClampNeg r5) t_seed t_text t_texted t_faultPlace t_at0 t_number t_numberAt t_readJunctions t_readCuts t_readOne t_readOther t_readHard t_readBoats t_readAt t_readPull t_readWears t_at t_from t_pull t_undos_3 t_past_3 t_given t_bestGiven t_seen t_seenOf t_seenBehind t_seenAt t_way t_brings t_booked t_bookOf t_bookAt t_images t_isKept) H := hP
      have hD : va_D (va_A (wd_tRef cI cZ a_t t_junctions t_cuts t_cutOne t_cutOther t_cutHard t_hard t_boats t_wears t_quays i_t_now t_seed t_text t_texted t_faultPlace t_at0 t_number t_numberAt t_readJunctions t_readCuts t_readOne t_readOther t_readHard t_readBoats t_readAt t_readPull t_readWears t_at t_from t_pull i_t_undos i_t_past t_given t_bestGiven t_seen t_seenOf t_seenBehind t_seenAt t_way t_brings t_booked t_bookOf t_bookAt t_images t_isKept) s.heap.size) (wd_tRef cI cZ a_t t_junctions t_cuts t_cutOne t_cutOther t_cutHard t_hard t_boats t_wears t_quays (upd i_t_now (10 + y1).toNatClampNeg r5) t_seed t_text t_texted t_faultPlace t_at0 t_number t_numberAt t_readJunctions t_readCuts t_readOne t_readOther t_readHard t_readBoats t_readAt t_readPull t_readWears t_at t_from t_pull t_undos_3 t_past_3 t_given t_bestGiven t_seen t_seenOf t_seenBehind t_seenAt t_way t_brings t_booked t_bookOf t_bookAt t_images t_isKept) := hD
      refine lv_aload_n hx hb dX12_weigh_52 rfl (lv_at hl 0 rfl) ?_
      refine va_get (D := (dC, dI)) (ci := 12) (v := .ref (a_t 7)) (C := RX12) (T := TX12) (N := 44) hx hb hts hin12 hown hK hP 0 rfl rfl 9 (by decide) (hts (.fieldLink RX12 28 "TowedBackModel" "now" "[I") (List.mem_of_getElem? (i := 4) rfl)) (fun _ h9 => h9) rfl dX12_weigh_53 ?_
      refine lv_bipush (v := 10) hx hb dX12_weigh_56 (by decide) ?_
      refine lv_iload_n hx hb dX12_weigh_58 rfl (lv_at hl 1 rfl) ?_
      refine lv_iadd hx hb dX12_weigh_59 ?_
      obtain ⟨hi7, h⟩ := kg_some h
      refine va_iald hx hb hK hP 7 0 rfl rfl hi7 dX12_weigh_60 ?_
      obtain ⟨rfl, rfl, rfl, rfl⟩ := k_in4 h
      exact k_ri hx hb hr hlocks hP hS dX12_weigh_61
    · have h := k_pos hc h
      refine lv_ldc (v := (-1000000002)) hx hb hown (hts (.constant RX12 105 (-1000000002)) (List.mem_of_getElem? (i := 3) rfl)) dX12_weigh_23 ?_
      obtain ⟨rfl, rfl, rfl, rfl⟩ := k_in4 h
      exact k_ri hx hb hr hlocks hP hS dX12_weigh_25
  · have h := k_pos hc h
    refine lv_ldc (v := (-1000000001)) hx hb hown (hts (.constant RX12 200 (-1000000001)) (List.mem_of_getElem? (i := 1) rfl)) dX12_weigh_8 ?_
    obtain ⟨rfl, rfl, rfl, rfl⟩ := k_in4 h
    exact k_ri hx hb hr hlocks hP hS dX12_weigh_10
set_option maxHeartbeats 4000000 in
set_option maxRecDepth 100000 in
theorem c_Ref_change (l : Launch) (dC : Nat → ClassId) (dI : Nat → Nat → Nat) (cI cZ : ClassId) (a_t : Nat → Nat) (t_junctions : Int32) (t_cuts : Int32) (t_cutOne : Nat → Int32) (t_cutOther : Nat → Int32) (t_cutHard : Nat → Int32) (t_hard : Nat → Int32) (t_boats : Int32) (t_wears : Nat → Int32) (t_quays : Nat → Int32) (i_t_now : Nat → Int32) (t_seed : Int32) (t_text : Nat → Int32) (t_texted : Int32) (t_faultPlace : Int32) (t_at0 : Int32) (t_number : Int32) (t_numberAt : Int32) (t_readJunctions : Int32) (t_readCuts : Int32) (t_readOne : Nat → Int32) (t_readOther : Nat → Int32) (t_readHard : Nat → Int32) (t_readBoats : Int32) (t_readAt : Nat → Int32) (t_readPull : Nat → Int32) (t_readWears : Nat → Int32) (t_at : Int32) (t_from : Int32) (t_pull : Int32) (i_t_undos : Int32) (i_t_past : Nat → Int32) (t_given : Nat → Int32) (t_bestGiven : Nat → Int32) (t_seen : Int32) (t_seenOf : Nat → Int32) (t_seenBehind : Nat → Int32) (t_seenAt : Nat → Int32) (t_way : Nat → Int32) (t_brings : Nat → Int32) (t_booked : Int32) (t_bookOf : Nat → Int32) (t_bookAt : Nat → Int32) (t_images : Nat → Int32) (t_isKept : Nat → Int32) (y1 : Int32) (y2 : Int32) (r0 : Int32) (o_t_now : Nat → Int32) (o_t_undos : Int32) (o_t_past : Nat → Int32) (h : m_Ref_change y1 y2 t_boats i_t_now i_t_undos i_t_past = some (r0, o_t_now, o_t_undos, o_t_past)) : (MI l yX12_change wsX12_change ({ frames := 2, cells := 0, slots := 0, locals := 46 }) (dC, dI) [(cI, .int), (cZ, .boolean)] (wd_tRef cI cZ a_t t_junctions t_cuts t_cutOne t_cutOther t_cutHard t_hard t_boats t_wears t_quays i_t_now t_seed t_text t_texted t_faultPlace t_at0 t_number t_numberAt t_readJunctions t_readCuts t_readOne t_readOther t_readHard t_readBoats t_readAt t_readPull t_readWears t_at t_from t_pull i_t_undos i_t_past t_given t_bestGiven t_seen t_seenOf t_seenBehind t_seenAt t_way t_brings t_booked t_bookOf t_bookAt t_images t_isKept) (wd_tRef cI cZ a_t t_junctions t_cuts t_cutOne t_cutOther t_cutHard t_hard t_boats t_wears t_quays o_t_now t_seed t_text t_texted t_faultPlace t_at0 t_number t_numberAt t_readJunctions t_readCuts t_readOne t_readOther t_readHard t_readBoats t_readAt t_readPull t_readWears t_at t_from t_pull o_t_undos o_t_past t_given t_bestGiven t_seen t_seenOf t_seenBehind t_seenAt t_way t_brings t_booked t_bookOf t_bookAt t_images t_isKept) [.ref (a_t 0), .int y1, .int y2] r0) := by
  intro sz
  refine Met.ofW (cc := cX12_change) (maxL := 4) (ret := (some .int)) (by decide) rfl ?_
  intro p e s m args below meth c s₁ B hml hv
  obtain ⟨rfl, hsz, hP, hK, hD0⟩ := hv
  have hx := B.exec
  have hb := B.bytes
  have hr := B.returns
  have hts := atoms_spec (ws := wsX12_change) B.pre
  have hown : s.vm.findClass RX12 = some m.cls := findClass_of_methodNamed B.named
  have hlocks := B.notSynchronized
  subst hsz
  have hD := hD0.self (sz := s.heap.size)
  have hA : ∀ q : Nat, s.heap.size ≤ q → va_A (wd_tRef cI cZ a_t t_junctions t_cuts t_cutOne t_cutOther t_cutHard t_hard t_boats t_wears t_quays i_t_now t_seed t_text t_texted t_faultPlace t_at0 t_number t_numberAt t_readJunctions t_readCuts t_readOne t_readOther t_readHard t_readBoats t_readAt t_readPull t_readWears t_at t_from t_pull i_t_undos i_t_past t_given t_bestGiven t_seen t_seenOf t_seenBehind t_seenAt t_way t_brings t_booked t_bookOf t_bookAt t_images t_isKept) s.heap.size q := fun q h => Or.inr h
  have hS : va_S (va_A (wd_tRef cI cZ a_t t_junctions t_cuts t_cutOne t_cutOther t_cutHard t_hard t_boats t_wears t_quays i_t_now t_seed t_text t_texted t_faultPlace t_at0 t_number t_numberAt t_readJunctions t_readCuts t_readOne t_readOther t_readHard t_readBoats t_readAt t_readPull t_readWears t_at t_from t_pull i_t_undos i_t_past t_given t_bestGiven t_seen t_seenOf t_seenBehind t_seenAt t_way t_brings t_booked t_bookOf t_bookAt t_images t_isKept) s.heap.size) s.heap s.heap [] := va_S.rf
  have hin12 : ∀ w ∈ u_ws RX12 TX12 44, w ∈ wsX12_change := fun w h => List.mem_cons_of_mem _ (List.mem_append_right _ h)
  have hl := lv_entry ([.ref (a_t 0), .int y1, .int y2]) (n := 4) (Nat.le_of_ble_eq_true rfl)
  rw [lg_entry_eq]
  generalize (lg_sl ([.ref (a_t 0), .int y1, .int y2]) ++ List.replicate (4 - (lg_sl ([.ref (a_t 0), .int y1, .int y2])).length) Slot.unset).toArray = ls at hl ⊢
  have hl : lv_has ls 4 [(0, .ref (a_t 0)), (1, .int y1), (2, .int y2)] := hl
  unfold m_Ref_change at h
  refine lv_aload_n hx hb dX12_change_0 rfl (lv_at hl 0 rfl) ?_
  refine lv_iload_n hx hb dX12_change_1 rfl (lv_at hl 1 rfl) ?_
  obtain ⟨r1, hc1, h⟩ := kb1_some h
  refine k_FVi (rest := []) (As := [.int y1]) ⟨hx, hb, hml, hown, hts⟩ (c_Ref_isBoat l dC dI cI cZ a_t t_junctions t_cuts t_cutOne t_cutOther t_cutHard t_hard t_boats t_wears t_quays i_t_now t_seed t_text t_texted t_faultPlace t_at0 t_number t_numberAt t_readJunctions t_readCuts t_readOne t_readOther t_readHard t_readBoats t_readAt t_readPull t_readWears t_at t_from t_pull i_t_undos i_t_past t_given t_bestGiven t_seen t_seenOf t_seenBehind t_seenAt t_way t_brings t_booked t_bookOf t_bookAt t_images t_isKept y1 r1 hc1) (cwV 1 hts gX12_change_X12_isBoat rfl rfl rfl hd_12_isBoat ⟨Nat.le_of_ble_eq_true rfl, Nat.le_of_ble_eq_true rfl⟩) hK hP hD hS hA 0 12 rfl rfl rfl (wd_tRef_f.trans wd_tRef_f.symm) rfl hl.1 rfl (Nat.le_of_ble_eq_true rfl) dX12_change_2 ⟨Nat.zero_le _, Nat.zero_le _⟩ (fun H locs hP hD hS => ?_)
  refine lv_if_eq (tgt := 21) hx hb dX12_change_5 (by decide) (fun hc => ?_) (fun hc => ?_)
  · have h := k_pos hc h
    refine lv_ldc (v := (-1000000001)) hx hb hown (hts (.constant RX12 200 (-1000000001)) (List.mem_of_getElem? (i := 1) rfl)) dX12_change_21 ?_
    obtain ⟨rfl, rfl, rfl, rfl⟩ := k_in4 h
    exact k_ri hx hb hr hlocks hP hS dX12_change_23
  · have h := k_neg hc h
    refine lv_aload_n hx hb dX12_change_8 rfl (lv_at hl 0 rfl) ?_
    refine lv_iload_n hx hb dX12_change_9 rfl (lv_at hl 2 rfl) ?_
    obtain ⟨r2, hc2, h⟩ := kb1_some h
    refine k_FVi (rest := []) (As := [.int y2]) ⟨hx, hb, hml, hown, hts⟩ (c_Ref_isBoat l dC dI cI cZ a_t t_junctions t_cuts t_cutOne t_cutOther t_cutHard t_hard t_boats t_wears t_quays i_t_now t_seed t_text t_texted t_faultPlace t_at0 t_number t_numberAt t_readJunctions t_readCuts t_readOne t_readOther t_readHard t_readBoats t_readAt t_readPull t_readWears t_at t_from t_pull i_t_undos i_t_past t_given t_bestGiven t_seen t_seenOf t_seenBehind t_seenAt t_way t_brings t_booked t_bookOf t_bookAt t_images t_isKept y2 r2 hc2) (cwV 1 hts gX12_change_X12_isBoat rfl rfl rfl hd_12_isBoat ⟨Nat.le_of_ble_eq_true rfl, Nat.le_of_ble_eq_true rfl⟩) hK hP hD hS hA 0 12 rfl rfl rfl (wd_tRef_f.trans wd_tRef_f.symm) rfl hl.1 rfl (Nat.le_of_ble_eq_true rfl) dX12_change_10 ⟨Nat.zero_le _, Nat.zero_le _⟩ (fun H locs hP hD hS => ?_)
    refine lv_if_eq (tgt := 21) hx hb dX12_change_13 (by decide) (fun hc => ?_) (fun hc => ?_)
    · have h := k_pos hc h
      refine lv_ldc (v := (-1000000001)) hx hb hown (hts (.constant RX12 200 (-1000000001)) (List.mem_of_getElem? (i := 1) rfl)) dX12_change_21 ?_
      obtain ⟨rfl, rfl, rfl, rfl⟩ := k_in4 h
      exact k_ri hx hb hr hlocks hP hS dX12_change_23
    · have h := k_neg hc h
      refine lv_iload_n hx hb dX12_change_16 rfl (lv_at hl 1 rfl) ?_
      refine lv_iload_n hx hb dX12_change_17 rfl (lv_at hl 2 rfl) ?_
      refine lv_icmp_ne (tgt := 24) hx hb dX12_change_18 (by decide) (fun hc => ?_) (fun hc => ?_)
      · have h := k_neg hc h
        refine lv_aload_n hx hb dX12_change_24 rfl (lv_at hl 0 rfl) ?_
        obtain ⟨t_undos_3, t_past_3, hc3, h⟩ := kb2_some h
        refine k_FVv (rest := []) (As := []) ⟨hx, hb, hml, hown, hts⟩ (c_Ref_remember l dC dI cI cZ a_t t_junctions t_cuts t_cutOne t_cutOther t_cutHard t_hard t_boats t_wears t_quays i_t_now t_seed t_text t_texted t_faultPlace t_at0 t_number t_numberAt t_readJunctions t_readCuts t_readOne t_readOther t_readHard t_readBoats t_readAt t_readPull t_readWears t_at t_from t_pull i_t_undos i_t_past t_given t_bestGiven t_seen t_seenOf t_seenBehind t_seenAt t_way t_brings t_booked t_bookOf t_bookAt t_images t_isKept t_undos_3 t_past_3 hc3) (cwV 0 hts gX12_change_X12_remember rfl rfl rfl hd_12_remember ⟨Nat.le_of_ble_eq_true rfl, Nat.le_of_ble_eq_true rfl⟩) hK hP hD hS hA 0 12 rfl rfl rfl (wd_tRef_f.trans wd_tRef_f.symm) rfl hl.1 rfl (Nat.le_of_ble_eq_true rfl) dX12_change_25 ⟨Nat.zero_le _, Nat.zero_le _⟩ (fun H locs hP hD hS => ?_)
        refine lv_aload_n hx hb dX12_change_28 rfl (lv_at hl 0 rfl) ?_
        refine va_get (D := (dC, dI)) (ci := 12) (v := .ref (a_t 7)) (C := RX12) (T := TX12) (N := 44) hx hb hts hin12 hown hK hP 0 rfl rfl 9 (by decide) (hts (.fieldLink RX12 28 "TowedBackModel" "now" "[I") (List.mem_of_getElem? (i := 2) rfl)) (fun _ h9 => h9) rfl dX12_change_29 ?_
        refine lv_bipush (v := 10) hx hb dX12_change_32 (by decide) ?_
        refine lv_iload_n hx hb dX12_change_34 rfl (lv_at hl 1 rfl) ?_
        refine lv_iadd hx hb dX12_change_35 ?_
        obtain ⟨hi4, h⟩ := kg_some h
        refine va_iald hx hb hK hP 7 0 rfl rfl hi4 dX12_change_36 ?_
        refine lv_istore_n (lv' := [(3, .int (i_t_now (10 + y1).toNatClampNeg)), (0, .ref (a_t 0)), (1, .int y1), (2, .int y2)]) hx hb dX12_change_37 rfl hl (by decide) rfl (fun ls hl => ?_)
        refine lv_aload_n hx hb dX12_change_38 rfl (lv_at hl 1 rfl) ?_
        refine va_get (D := (dC, dI)) (ci := 12) (v := .ref (a_t 7)) (C := RX12) (T := TX12) (N := 44) hx hb hts hin12 hown hK hP 0 rfl rfl 9 (by decide) (hts (.fieldLink RX12 28 "TowedBackModel" "now" "[I") (List.mem_of_getElem? (i := 2) rfl)) (fun _ h9 => h9) rfl dX12_change_39 ?_
        refine lv_bipush (v := 10) hx hb dX12_change_42 (by decide) ?_
        refine lv_iload_n hx hb dX12_change_44 rfl (lv_at hl 2 rfl) ?_
        refine lv_iadd hx hb dX12_change_45 ?_
        refine lv_aload_n hx hb dX12_change_46 rfl (lv_at hl 1 rfl) ?_
        refine va_get (D := (dC, dI)) (ci := 12) (v := .ref (a_t 7)) (C := RX12) (T := TX12) (N := 44) hx hb hts hin12 hown hK hP 0 rfl rfl 9 (by decide) (hts (.fieldLink RX12 28 "TowedBackModel" "now" "[I") (List.mem_of_getElem? (i := 2) rfl)) (fun _ h9 => h9) rfl dX12_change_47 ?_
        refine lv_bipush (v := 10) hx hb dX12_change_50 (by decide) ?_
        refine lv_iload_n hx hb dX12_change_52 rfl (lv_at hl 3 rfl) ?_
        refine lv_iadd hx hb dX12_change_53 ?_
        obtain ⟨hi5, h⟩ := kg_some h
        refine va_iald hx hb hK hP 7 0 rfl rfl hi5 dX12_change_54 ?_
        obtain ⟨hi6, h⟩ := kg_some h
        refine va_iast hx hb hK hP hD hS 7 0 rfl rfl hi6 dX12_change_55 (fun H locs hP hD hS => ?_)
        have hP : va_P (dC, dI) vwCl (wd_tRef cI cZ a_t t_junctions t_cuts t_cutOne t_cutOther t_cutHard t_hard t_boats t_wears t_quays (upd i_t_now (10 + y1).toNatClampNeg (i_t_now (10 + y2).toNatClampNeg)) t_seed t_text t_texted t_faultPlace t_at0 t_number t_numberAt t_readJunctions t_readCuts t_readOne t_readOther t_readHard t_readBoats t_readAt t_readPull t_readWears t_at t_from t_pull t_undos_3 t_past_3 t_given t_bestGiven t_seen t_seenOf t_seenBehind t_seenAt t_way t_brings t_booked t_bookOf t_bookAt t_images t_isKept) H := hP
        have hD : va_D (va_A (wd_tRef cI cZ a_t t_junctions t_cuts t_cutOne t_cutOther t_cutHard t_hard t_boats t_wears t_quays i_t_now t_seed t_text t_texted t_faultPlace t_at0 t_number t_numberAt t_readJunctions t_readCuts t_readOne t_readOther t_readHard t_readBoats t_readAt t_readPull t_readWears t_at t_from t_pull i_t_undos i_t_past t_given t_bestGiven t_seen t_seenOf t_seenBehind t_seenAt t_way t_brings t_booked t_bookOf t_bookAt t_images t_isKept) s.heap.size) (wd_tRef cI cZ a_t t_junctions t_cuts t_cutOne t_cutOther t_cutHard t_hard t_boats t_wears t_quays (upd i_t_now (10 + y1).toNatClampNeg (i_t_now (10 + y2).toNatClampNeg)) t_seed t_text t_texted t_faultPlace t_at0 t_number t_numberAt t_readJunctions t_readCuts t_readOne t_readOther t_readHard t_readBoats t_readAt t_readPull t_readWears t_at t_from t_pull t_undos_3 t_past_3 t_given t_bestGiven t_seen t_seenOf t_seenBehind t_seenAt t_way t_brings t_booked t_bookOf t_bookAt t_images t_isKept) := hD
        refine lv_aload_n hx hb dX12_change_56 rfl (lv_at hl 1 rfl) ?_
        refine va_get (D := (dC, dI)) (ci := 12) (v := .ref (a_t 7)) (C := RX12) (T := TX12) (N := 44) hx hb hts hin12 hown hK hP 0 rfl rfl 9 (by decide) (hts (.fieldLink RX12 28 "TowedBackModel" "now" "[I") (List.mem_of_getElem? (i := 2) rfl)) (fun _ h9 => h9) rfl dX12_change_57 ?_
        refine lv_bipush (v := 10) hx hb dX12_change_60 (by decide) ?_
        refine lv_iload_n hx hb dX12_change_62 rfl (lv_at hl 3 rfl) ?_
        refine lv_iadd hx hb dX12_change_63 ?_
        refine lv_iload_n hx hb dX12_change_64 rfl (lv_at hl 0 rfl) ?_
        obtain ⟨hi7, h⟩ := kg_some h
        refine va_iast hx hb hK hP hD hS 7 0 rfl rfl hi7 dX12_change_65 (fun H locs hP hD hS => ?_)
        have hP : va_P (dC, dI) vwCl (wd_tRef cI cZ a_t t_junctions t_cuts t_cutOne t_cutOther t_cutHard t_hard t_boats t_wears t_quays (upd (upd i_t_now (10 + y1).toNatClampNeg (i_t_now (10 + y2).toNatClampNeg)) (10 + y2).toNatClampNeg (i_t_now (10 + y1).toNatClampNeg)) t_seed t_text t_texted t_faultPlace t_at0 t_number t_numberAt t_readJunctions t_readCuts t_readOne t_readOther t_readHard t_readBoats t_readAt t_readPull t_readWears t_at t_from t_pull t_undos_3 t_past_3 t_given t_bestGiven t_seen t_seenOf t_seenBehind t_seenAt t_way t_brings t_booked t_bookOf t_bookAt t_images t_isKept) H := hP
        have hD : va_D (va_A (wd_tRef cI cZ a_t t_junctions t_cuts t_cutOne t_cutOther t_cutHard t_hard t_boats t_wears t_quays i_t_now t_seed t_text t_texted t_faultPlace t_at0 t_number t_numberAt t_readJunctions t_readCuts t_readOne t_readOther t_readHard t_readBoats t_readAt t_readPull t_readWears t_at t_from t_pull i_t_undos i_t_past t_given t_bestGiven t_seen t_seenOf t_seenBehind t_seenAt t_way t_brings t_booked t_bookOf t_bookAt t_images t_isKept) s.heap.size) (wd_tRef cI cZ a_t t_junctions t_cuts t_cutOne t_cutOther t_cutHard t_hard t_boats t_wears t_quays (upd (upd i_t_now (10 + y1).toNatClampNeg (i_t_now (10 + y2).toNatClampNeg)) (10 + y2).toNatClampNeg (i_t_now (10 + y1).toNatClampNeg)) t_seed t_text t_texted t_faultPlace t_at0 t_number t_numberAt t_readJunctions t_readCuts t_readOne t_readOther t_readHard t_readBoats t_readAt t_readPull t_readWears t_at t_from t_pull t_undos_3 t_past_3 t_given t_bestGiven t_seen t_seenOf t_seenBehind t_seenAt t_way t_brings t_booked t_bookOf t_bookAt t_images t_isKept) := hD
        refine lv_aload_n hx hb dX12_change_66 rfl (lv_at hl 1 rfl) ?_
        refine va_get (D := (dC, dI)) (ci := 12) (v := .ref (a_t 7)) (C := RX12) (T := TX12) (N := 44) hx hb hts hin12 hown hK hP 0 rfl rfl 9 (by decide) (hts (.fieldLink RX12 28 "TowedBackModel" "now" "[I") (List.mem_of_getElem? (i := 2) rfl)) (fun _ h9 => h9) rfl dX12_change_67 ?_
        refine lv_bipush (v := 10) hx hb dX12_change_70 (by decide) ?_
        refine lv_iload_n hx hb dX12_change_72 rfl (lv_at hl 2 rfl) ?_
        refine lv_iadd hx hb dX12_change_73 ?_
        obtain ⟨hi8, h⟩ := kg_some h
        refine va_iald hx hb hK hP 7 0 rfl rfl hi8 dX12_change_74 ?_
        obtain ⟨rfl, rfl, rfl, rfl⟩ := k_in4 h
        exact k_ri hx hb hr hlocks hP hS dX12_change_75
      · have h := k_pos hc h
        refine lv_ldc (v := (-1000000001)) hx hb hown (hts (.constant RX12 200 (-1000000001)) (List.mem_of_getElem? (i := 1) rfl)) dX12_change_21 ?_
        obtain ⟨rfl, rfl, rfl, rfl⟩ := k_in4 h
        exact k_ri hx hb hr hlocks hP hS dX12_change_23
set_option maxHeartbeats 4000000 in
set_option maxRecDepth 100000 in
theorem c_Ref_turn (l : Launch) (dC : Nat → ClassId) (dI : Nat → Nat → Nat) (cI cZ : ClassId) (a_t : Nat → Nat) (t_junctions : Int32) (t_cuts : Int32) (t_cutOne : Nat → Int32) (t_cutOther : Nat → Int32) (t_cutHard : Nat → Int32) (t_hard : Nat → Int32) (t_boats : Int32) (t_wears : Nat → Int32) (t_quays : Nat → Int32) (i_t_now : Nat → Int32) (t_seed : Int32) (t_text : Nat → Int32) (t_texted : Int32) (t_faultPlace : Int32) (t_at0 : Int32) (t_number : Int32) (t_numberAt : Int32) (t_readJunctions : Int32) (t_readCuts : Int32) (t_readOne : Nat → Int32) (t_readOther : Nat → Int32) (t_readHard : Nat → Int32) (t_readBoats : Int32) (t_readAt : Nat → Int32) (t_readPull : Nat → Int32) (t_readWears : Nat → Int32) (t_at : Int32) (t_from : Int32) (t_pull : Int32) (i_t_undos : Int32) (i_t_past : Nat → Int32) (t_given : Nat → Int32) (t_bestGiven : Nat → Int32) (t_seen : Int32) (t_seenOf : Nat → Int32) (t_seenBehind : Nat → Int32) (t_seenAt : Nat → Int32) (t_way : Nat → Int32) (t_brings : Nat → Int32) (t_booked : Int32) (t_bookOf : Nat → Int32) (t_bookAt : Nat → Int32) (t_images : Nat → Int32) (t_isKept : Nat → Int32) (y1 : Int32) (r0 : Int32) (o_t_now : Nat → Int32) (o_t_undos : Int32) (o_t_past : Nat → Int32) (h : m_Ref_turn y1 t_boats i_t_now i_t_undos i_t_past = some (r0, o_t_now, o_t_undos, o_t_past)) : (MI l yX12_turn wsX12_turn ({ frames := 2, cells := 0, slots := 0, locals := 46 }) (dC, dI) [(cI, .int), (cZ, .boolean)] (wd_tRef cI cZ a_t t_junctions t_cuts t_cutOne t_cutOther t_cutHard t_hard t_boats t_wears t_quays i_t_now t_seed t_text t_texted t_faultPlace t_at0 t_number t_numberAt t_readJunctions t_readCuts t_readOne t_readOther t_readHard t_readBoats t_readAt t_readPull t_readWears t_at t_from t_pull i_t_undos i_t_past t_given t_bestGiven t_seen t_seenOf t_seenBehind t_seenAt t_way t_brings t_booked t_bookOf t_bookAt t_images t_isKept) (wd_tRef cI cZ a_t t_junctions t_cuts t_cutOne t_cutOther t_cutHard t_hard t_boats t_wears t_quays o_t_now t_seed t_text t_texted t_faultPlace t_at0 t_number t_numberAt t_readJunctions t_readCuts t_readOne t_readOther t_readHard t_readBoats t_readAt t_readPull t_readWears t_at t_from t_pull o_t_undos o_t_past t_given t_bestGiven t_seen t_seenOf t_seenBehind t_seenAt t_way t_brings t_booked t_bookOf t_bookAt t_images t_isKept) [.ref (a_t 0), .int y1] r0) := by
  intro sz
  refine Met.ofW (cc := cX12_turn) (maxL := 3) (ret := (some .int)) (by decide) rfl ?_
  intro p e s m args below meth c s₁ B hml hv
  obtain ⟨rfl, hsz, hP, hK, hD0⟩ := hv
  have hx := B.exec
  have hb := B.bytes
  have hr := B.returns
  have hts := atoms_spec (ws := wsX12_turn) B.pre
  have hown : s.vm.findClass RX12 = some m.cls := findClass_of_methodNamed B.named
  have hlocks := B.notSynchronized
  subst hsz
  have hD := hD0.self (sz := s.heap.size)
  have hA : ∀ q : Nat, s.heap.size ≤ q → va_A (wd_tRef cI cZ a_t t_junctions t_cuts t_cutOne t_cutOther t_cutHard t_hard t_boats t_wears t_quays i_t_now t_seed t_text t_texted t_faultPlace t_at0 t_number t_numberAt t_readJunctions t_readCuts t_readOne t_readOther t_readHard t_readBoats t_readAt t_readPull t_readWears t_at t_from t_pull i_t_undos i_t_past t_given t_bestGiven t_seen t_seenOf t_seenBehind t_seenAt t_way t_brings t_booked t_bookOf t_bookAt t_images t_isKept) s.heap.size q := fun q h => Or.inr h
  have hS : va_S (va_A (wd_tRef cI cZ a_t t_junctions t_cuts t_cutOne t_cutOther t_cutHard t_hard t_boats t_wears t_quays i_t_now t_seed t_text t_texted t_faultPlace t_at0 t_number t_numberAt t_readJunctions t_readCuts t_readOne t_readOther t_readHard t_readBoats t_readAt t_readPull t_readWears t_at t_from t_pull i_t_undos i_t_past t_given t_bestGiven t_seen t_seenOf t_seenBehind t_seenAt t_way t_brings t_booked t_bookOf t_bookAt t_images t_isKept) s.heap.size) s.heap s.heap [] := va_S.rf
  have hin12 : ∀ w ∈ u_ws RX12 TX12 44, w ∈ wsX12_turn := fun w h => List.mem_cons_of_mem _ (List.mem_append_right _ h)
  have hl := lv_entry ([.ref (a_t 0), .int y1]) (n := 3) (Nat.le_of_ble_eq_true rfl)
  rw [lg_entry_eq]
  generalize (lg_sl ([.ref (a_t 0), .int y1]) ++ List.replicate (3 - (lg_sl ([.ref (a_t 0), .int y1])).length) Slot.unset).toArray = ls at hl ⊢
  have hl : lv_has ls 3 [(0, .ref (a_t 0)), (1, .int y1)] := hl
  unfold m_Ref_turn at h
  refine lv_aload_n hx hb dX12_turn_0 rfl (lv_at hl 0 rfl) ?_
  refine lv_iload_n hx hb dX12_turn_1 rfl (lv_at hl 1 rfl) ?_
  obtain ⟨r1, hc1, h⟩ := kb1_some h
  refine k_FVi (rest := []) (As := [.int y1]) ⟨hx, hb, hml, hown, hts⟩ (c_Ref_isBoat l dC dI cI cZ a_t t_junctions t_cuts t_cutOne t_cutOther t_cutHard t_hard t_boats t_wears t_quays i_t_now t_seed t_text t_texted t_faultPlace t_at0 t_number t_numberAt t_readJunctions t_readCuts t_readOne t_readOther t_readHard t_readBoats t_readAt t_readPull t_readWears t_at t_from t_pull i_t_undos i_t_past t_given t_bestGiven t_seen t_seenOf t_seenBehind t_seenAt t_way t_brings t_booked t_bookOf t_bookAt t_images t_isKept y1 r1 hc1) (cwV 1 hts gX12_turn_X12_isBoat rfl rfl rfl hd_12_isBoat ⟨Nat.le_of_ble_eq_true rfl, Nat.le_of_ble_eq_true rfl⟩) hK hP hD hS hA 0 12 rfl rfl rfl (wd_tRef_f.trans wd_tRef_f.symm) rfl hl.1 rfl (Nat.le_of_ble_eq_true rfl) dX12_turn_2 ⟨Nat.zero_le _, Nat.zero_le _⟩ (fun H locs hP hD hS => ?_)
  refine lv_if_ne (tgt := 11) hx hb dX12_turn_5 (by decide) (fun hc => ?_) (fun hc => ?_)
  · have h := k_neg hc h
    refine lv_aload_n hx hb dX12_turn_11 rfl (lv_at hl 0 rfl) ?_
    obtain ⟨t_undos_2, t_past_2, hc2, h⟩ := kb2_some h
    refine k_FVv (rest := []) (As := []) ⟨hx, hb, hml, hown, hts⟩ (c_Ref_remember l dC dI cI cZ a_t t_junctions t_cuts t_cutOne t_cutOther t_cutHard t_hard t_boats t_wears t_quays i_t_now t_seed t_text t_texted t_faultPlace t_at0 t_number t_numberAt t_readJunctions t_readCuts t_readOne t_readOther t_readHard t_readBoats t_readAt t_readPull t_readWears t_at t_from t_pull i_t_undos i_t_past t_given t_bestGiven t_seen t_seenOf t_seenBehind t_seenAt t_way t_brings t_booked t_bookOf t_bookAt t_images t_isKept t_undos_2 t_past_2 hc2) (cwV 0 hts gX12_turn_X12_remember rfl rfl rfl hd_12_remember ⟨Nat.le_of_ble_eq_true rfl, Nat.le_of_ble_eq_true rfl⟩) hK hP hD hS hA 0 12 rfl rfl rfl (wd_tRef_f.trans wd_tRef_f.symm) rfl hl.1 rfl (Nat.le_of_ble_eq_true rfl) dX12_turn_12 ⟨Nat.zero_le _, Nat.zero_le _⟩ (fun H locs hP hD hS => ?_)
    refine lv_aload_n hx hb dX12_turn_15 rfl (lv_at hl 0 rfl) ?_
    refine va_get (D := (dC, dI)) (ci := 12) (v := .ref (a_t 7)) (C := RX12) (T := TX12) (N := 44) hx hb hts hin12 hown hK hP 0 rfl rfl 9 (by decide) (hts (.fieldLink RX12 28 "TowedBackModel" "now" "[I") (List.mem_of_getElem? (i := 2) rfl)) (fun _ h9 => h9) rfl dX12_turn_16 ?_
    refine lv_iconst (v := 5) hx hb dX12_turn_19 (by decide) ?_
    refine lv_iload_n hx hb dX12_turn_20 rfl (lv_at hl 1 rfl) ?_
    refine lv_iadd hx hb dX12_turn_21 ?_
    obtain ⟨hi3, h⟩ := kg_some h
    refine va_iald hx hb hK hP 7 0 rfl rfl hi3 dX12_turn_22 ?_
    refine lv_istore_n (lv' := [(2, .int (i_t_now (5 + y1).toNatClampNeg)), (0, .ref (a_t 0)), (1, .int y1)]) hx hb dX12_turn_23 rfl hl (by decide) rfl (fun ls hl => ?_)
    refine lv_aload_n hx hb dX12_turn_24 rfl (lv_at hl 1 rfl) ?_
    refine va_get (D := (dC, dI)) (ci := 12) (v := .ref (a_t 7)) (C := RX12) (T := TX12) (N := 44) hx hb hts hin12 hown hK hP 0 rfl rfl 9 (by decide) (hts (.fieldLink RX12 28 "TowedBackModel" "now" "[I") (List.mem_of_getElem? (i := 2) rfl)) (fun _ h9 => h9) rfl dX12_turn_25 ?_
    refine lv_iconst (v := 5) hx hb dX12_turn_28 (by decide) ?_
    refine lv_iload_n hx hb dX12_turn_29 rfl (lv_at hl 2 rfl) ?_
    refine lv_iadd hx hb dX12_turn_30 ?_
    refine lv_iconst (v := (-1)) hx hb dX12_turn_31 (by decide) ?_
    obtain ⟨hi4, h⟩ := kg_some h
    refine va_iast hx hb hK hP hD hS 7 0 rfl rfl hi4 dX12_turn_32 (fun H locs hP hD hS => ?_)
    have hP : va_P (dC, dI) vwCl (wd_tRef cI cZ a_t t_junctions t_cuts t_cutOne t_cutOther t_cutHard t_hard t_boats t_wears t_quays (upd i_t_now (5 + y1).toNatClampNeg (-1)) t_seed t_text t_texted t_faultPlace t_at0 t_number t_numberAt t_readJunctions t_readCuts t_readOne t_readOther t_readHard t_readBoats t_readAt t_readPull t_readWears t_at t_from t_pull t_undos_2 t_past_2 t_given t_bestGiven t_seen t_seenOf t_seenBehind t_seenAt t_way t_brings t_booked t_bookOf t_bookAt t_images t_isKept) H := hP
    have hD : va_D (va_A (wd_tRef cI cZ a_t t_junctions t_cuts t_cutOne t_cutOther t_cutHard t_hard t_boats t_wears t_quays i_t_now t_seed t_text t_texted t_faultPlace t_at0 t_number t_numberAt t_readJunctions t_readCuts t_readOne t_readOther t_readHard t_readBoats t_readAt t_readPull t_readWears t_at t_from t_pull i_t_undos i_t_past t_given t_bestGiven t_seen t_seenOf t_seenBehind t_seenAt t_way t_brings t_booked t_bookOf t_bookAt t_images t_isKept) s.heap.size) (wd_tRef cI cZ a_t t_junctions t_cuts t_cutOne t_cutOther t_cutHard t_hard t_boats t_wears t_quays (upd i_t_now (5 + y1).toNatClampNeg (-1)) t_seed t_text t_texted t_faultPlace t_at0 t_number t_numberAt t_readJunctions t_readCuts t_readOne t_readOther t_readHard t_readBoats t_readAt t_readPull t_readWears t_at t_from t_pull t_undos_2 t_past_2 t_given t_bestGiven t_seen t_seenOf t_seenBehind t_seenAt t_way t_brings t_booked t_bookOf t_bookAt t_images t_isKept) := hD
    refine lv_iload_n hx hb dX12_turn_33 rfl (lv_at hl 0 rfl) ?_
    obtain ⟨rfl, rfl, rfl, rfl⟩ := k_in4 h
    exact k_ri hx hb hr hlocks hP hS dX12_turn_34
  · have h := k_pos hc h
    refine lv_ldc (v := (-1000000001)) hx hb hown (hts (.constant RX12 200 (-1000000001)) (List.mem_of_getElem? (i := 1) rfl)) dX12_turn_8 ?_
    obtain ⟨rfl, rfl, rfl, rfl⟩ := k_in4 h
    exact k_ri hx hb hr hlocks hP hS dX12_turn_10
