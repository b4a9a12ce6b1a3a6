set_option maxHeartbeats 4000000 in
set_option maxRecDepth 100000 in
theorem c_Ref_cut (l : Launch) (dC : Nat → ClassId) (dI : Nat → Nat → Nat) (cI cZ : ClassId) (a_t : Nat → Nat) (t_junctions : Int32) (t_cuts : Int32) (t_cutOne : Nat → Int32) (t_cutOther : Nat → Int32) (t_cutHard : Nat → Int32) (t_hard : Nat → Int32) (t_boats : Int32) (t_wears : Nat → Int32) (t_quays : Nat → Int32) (t_now : Nat → Int32) (t_seed : Int32) (t_text : Nat → Int32) (t_texted : Int32) (t_faultPlace : Int32) (t_at0 : Int32) (t_number : Int32) (t_numberAt : Int32) (t_readJunctions : Int32) (t_readCuts : Int32) (t_readOne : Nat → Int32) (t_readOther : Nat → Int32) (t_readHard : Nat → Int32) (t_readBoats : Int32) (t_readAt : Nat → Int32) (t_readPull : Nat → Int32) (t_readWears : Nat → Int32) (t_at : Int32) (t_from : Int32) (t_pull : Int32) (t_undos : Int32) (t_past : Nat → Int32) (t_given : Nat → Int32) (t_bestGiven : Nat → Int32) (t_seen : Int32) (t_seenOf : Nat → Int32) (t_seenBehind : Nat → Int32) (t_seenAt : Nat → Int32) (t_way : Nat → Int32) (t_brings : Nat → Int32) (t_booked : Int32) (t_bookOf : Nat → Int32) (t_bookAt : Nat → Int32) (t_images : Nat → Int32) (t_isKept : Nat → Int32) (y1 : Int32) (y2 : Int32) (r0 : Int32) (h : m_Ref_cut y1 y2 t_cuts t_cutOne t_cutOther t_cutHard = some r0) : (MI l yX12_cut wsX12_cut ({ frames := 1, cells := 0, slots := 0, locals := 25 }) (dC, dI) [(cI, .int), (cZ, .boolean)] (wd_tRef cI cZ a_t t_junctions t_cuts t_cutOne t_cutOther t_cutHard t_hard t_boats t_wears t_quays t_now t_seed t_text t_texted t_faultPlace t_at0 t_number t_numberAt t_readJunctions t_readCuts t_readOne t_readOther t_readHard t_readBoats t_readAt t_readPull t_readWears t_at t_from t_pull t_undos t_past t_given t_bestGiven t_seen t_seenOf t_seenBehind t_seenAt t_way t_brings t_booked t_bookOf t_bookAt t_images t_isKept) (wd_tRef cI cZ a_t t_junctions t_cuts t_cutOne t_cutOther t_cutHard t_hard t_boats t_wears t_quays t_now t_seed t_text t_texted t_faultPlace t_at0 t_number t_numberAt t_readJunctions t_readCuts t_readOne t_readOther t_readHard t_readBoats t_readAt t_readPull t_readWears t_at t_from t_pull t_undos t_past t_given t_bestGiven t_seen t_seenOf t_seenBehind t_seenAt t_way t_brings t_booked t_bookOf t_bookAt t_images t_isKept) [.ref (a_t 0), .int y1, .int y2] r0) := by
  intro sz
  refine Met.ofW (cc := cX12_cut) (maxL := 3) (ret := (some .int)) (by decide) rfl ?_
  intro p e s m args below meth c s₁ B hml hv
  obtain ⟨rfl, hsz, hP, hK, hD0⟩ := hv
  have hx := B.exec
  have hb := B.bytes
  have hr := B.returns
  have hts := atoms_spec (ws := wsX12_cut) B.pre
  have hown : s.vm.findClass RX12 = some m.cls := findClass_of_methodNamed B.named
  have hlocks := B.notSynchronized
  subst hsz
  have hD := hD0.self (sz := s.heap.size)
  have hA : ∀ q : Nat, s.heap.size ≤ q → va_A (wd_tRef cI cZ a_t t_junctions t_cuts t_cutOne t_cutOther t_cutHard t_hard t_boats t_wears t_quays t_now t_seed t_text t_texted t_faultPlace t_at0 t_number t_numberAt t_readJunctions t_readCuts t_readOne t_readOther t_readHard t_readBoats t_readAt t_readPull t_readWears t_at t_from t_pull t_undos t_past t_given t_bestGiven t_seen t_seenOf t_seenBehind t_seenAt t_way t_brings t_booked t_bookOf t_bookAt t_images t_isKept) s.heap.size q := fun q h => Or.inr h
  have hS : va_S (va_A (wd_tRef cI cZ a_t t_junctions t_cuts t_cutOne t_cutOther t_cutHard t_hard t_boats t_wears t_quays t_now t_seed t_text t_texted t_faultPlace t_at0 t_number t_numberAt t_readJunctions t_readCuts t_readOne t_readOther t_readHard t_readBoats t_readAt t_readPull t_readWears t_at t_from t_pull t_undos t_past t_given t_bestGiven t_seen t_seenOf t_seenBehind t_seenAt t_way t_brings t_booked t_bookOf t_bookAt t_images t_isKept) s.heap.size) s.heap s.heap [] := va_S.rf
  have hin12 : ∀ w ∈ u_ws RX12 TX12 44, w ∈ wsX12_cut := fun w h => List.mem_cons_of_mem _ (List.mem_append_right _ h)
  have hl := lv_entry ([.ref (a_t 0), .int y1, .int y2]) (n := 3) (Nat.le_of_ble_eq_true rfl)
  rw [lg_entry_eq]
  generalize (lg_sl ([.ref (a_t 0), .int y1, .int y2]) ++ List.replicate (3 - (lg_sl ([.ref (a_t 0), .int y1, .int y2])).length) Slot.unset).toArray = ls at hl ⊢
  have hl : lv_has ls 3 [(0, .ref (a_t 0)), (1, .int y1), (2, .int y2)] := hl
  unfold m_Ref_cut at h
  refine lv_iload_n hx hb dX12_cut_0 rfl (lv_at hl 1 rfl) ?_
  refine lv_i2l (v := y1.toInt64) hx hb dX12_cut_1 rfl ?_
  refine lv_lconst (v := 0) hx hb dX12_cut_2 (by decide) ?_
  refine lv_aload_n hx hb dX12_cut_3 rfl (lv_at hl 0 rfl) ?_
  refine va_get (D := (dC, dI)) (ci := 12) (v := .int t_cuts) (C := RX12) (T := TX12) (N := 44) hx hb hts hin12 hown hK hP 0 rfl rfl 1 (by decide) (hts (.fieldLink RX12 160 "TowedBackModel" "cuts" "I") (List.mem_of_getElem? (i := 1) rfl)) (fun _ h9 => h9) rfl dX12_cut_4 ?_
  refine lv_iconst (v := 1) hx hb dX12_cut_7 (by decide) ?_
  refine lv_isub hx hb dX12_cut_8 ?_
  refine lv_i2l (v := (t_cuts - 1).toInt64) hx hb dX12_cut_9 rfl ?_
  obtain ⟨r1, hc1, h⟩ := kb1_some h
  refine k_RSi (rest := []) (As := [.long (y1.toInt64), .long 0, .long ((t_cuts - 1).toInt64)]) ⟨hx, hb, hml, hown, hts⟩ (c_Ref_in l dC dI cI cZ (y1.toInt64) 0 ((t_cuts - 1).toInt64) r1 hc1) (va_cwS 3 hts gX12_cut_X12_in rfl rfl rfl hd_12_in ⟨Nat.le_of_ble_eq_true rfl, Nat.le_of_ble_eq_true rfl⟩) hK hP hD hS hA [] rfl (by decide +kernel) rfl hl.1 rfl (Nat.le_of_ble_eq_true rfl) dX12_cut_10 ⟨Nat.zero_le _, Nat.zero_le _⟩ (fun H locs hP hD hS => ?_)
  refine lv_if_ne (tgt := 19) hx hb dX12_cut_13 (by decide) (fun hc => ?_) (fun hc => ?_)
  · have h := k_neg hc h
    refine lv_iload_n hx hb dX12_cut_19 rfl (lv_at hl 2 rfl) ?_
    refine lv_if_ne (tgt := 32) hx hb dX12_cut_20 (by decide) (fun hc => ?_) (fun hc => ?_)
    · have h := k_neg hc h
      refine lv_iload_n hx hb dX12_cut_32 rfl (lv_at hl 2 rfl) ?_
      refine lv_iconst (v := 1) hx hb dX12_cut_33 (by decide) ?_
      refine lv_icmp_ne (tgt := 46) hx hb dX12_cut_34 (by decide) (fun hc => ?_) (fun hc => ?_)
      · have h := k_neg hc h
        refine lv_iload_n hx hb dX12_cut_46 rfl (lv_at hl 2 rfl) ?_
        refine lv_iconst (v := 2) hx hb dX12_cut_47 (by decide) ?_
        refine lv_icmp_ne (tgt := 60) hx hb dX12_cut_48 (by decide) (fun hc => ?_) (fun hc => ?_)
        · have h := k_neg hc h
          refine lv_ldc (v := (-1000000002)) hx hb hown (hts (.constant RX12 105 (-1000000002)) (List.mem_of_getElem? (i := 6) rfl)) dX12_cut_60 ?_
          obtain rfl := k_in1 h
          exact k_ri hx hb hr hlocks hP hS dX12_cut_62
        · have h := k_pos hc h
          refine lv_aload_n hx hb dX12_cut_51 rfl (lv_at hl 0 rfl) ?_
          refine va_get (D := (dC, dI)) (ci := 12) (v := .ref (a_t 3)) (C := RX12) (T := TX12) (N := 44) hx hb hts hin12 hown hK hP 0 rfl rfl 4 (by decide) (hts (.fieldLink RX12 16 "TowedBackModel" "cutHard" "[I") (List.mem_of_getElem? (i := 5) rfl)) (fun _ h9 => h9) rfl dX12_cut_52 ?_
          refine lv_iload_n hx hb dX12_cut_55 rfl (lv_at hl 1 rfl) ?_
          obtain ⟨hi2, h⟩ := kg_some h
          refine va_iald hx hb hK hP 3 0 rfl rfl hi2 dX12_cut_56 ?_
          refine lv_goto (tgt := 62) hx hb dX12_cut_57 (by decide) ?_
          obtain rfl := k_in1 h
          exact k_ri hx hb hr hlocks hP hS dX12_cut_62
      · have h := k_pos hc h
        refine lv_aload_n hx hb dX12_cut_37 rfl (lv_at hl 0 rfl) ?_
        refine va_get (D := (dC, dI)) (ci := 12) (v := .ref (a_t 2)) (C := RX12) (T := TX12) (N := 44) hx hb hts hin12 hown hK hP 0 rfl rfl 3 (by decide) (hts (.fieldLink RX12 13 "TowedBackModel" "cutOther" "[I") (List.mem_of_getElem? (i := 4) rfl)) (fun _ h9 => h9) rfl dX12_cut_38 ?_
        refine lv_iload_n hx hb dX12_cut_41 rfl (lv_at hl 1 rfl) ?_
        obtain ⟨hi3, h⟩ := kg_some h
        refine va_iald hx hb hK hP 2 0 rfl rfl hi3 dX12_cut_42 ?_
        refine lv_goto (tgt := 62) hx hb dX12_cut_43 (by decide) ?_
        obtain rfl := k_in1 h
        exact k_ri hx hb hr hlocks hP hS dX12_cut_62
    · have h := k_pos hc h
      refine lv_aload_n hx hb dX12_cut_23 rfl (lv_at hl 0 rfl) ?_
      refine va_get (D := (dC, dI)) (ci := 12) (v := .ref (a_t 1)) (C := RX12) (T := TX12) (N := 44) hx hb hts hin12 hown hK hP 0 rfl rfl 2 (by decide) (hts (.fieldLink RX12 7 "TowedBackModel" "cutOne" "[I") (List.mem_of_getElem? (i := 3) rfl)) (fun _ h9 => h9) rfl dX12_cut_24 ?_
      refine lv_iload_n hx hb dX12_cut_27 rfl (lv_at hl 1 rfl) ?_
      obtain ⟨hi4, h⟩ := kg_some h
      refine va_iald hx hb hK hP 1 0 rfl rfl hi4 dX12_cut_28 ?_
      refine lv_goto (tgt := 62) hx hb dX12_cut_29 (by decide) ?_
      obtain rfl := k_in1 h
      exact k_ri hx hb hr hlocks hP hS dX12_cut_62
  · have h := k_pos hc h
    refine lv_ldc (v := (-1000000001)) hx hb hown (hts (.constant RX12 200 (-1000000001)) (List.mem_of_getElem? (i := 2) rfl)) dX12_cut_16 ?_
    obtain rfl := k_in1 h
    exact k_ri hx hb hr hlocks hP hS dX12_cut_18
set_option maxHeartbeats 4000000 in
set_option maxRecDepth 100000 in
theorem c_Ref_boat (l : Launch) (dC : Nat → ClassId) (dI : Nat → Nat → Nat) (cI cZ : ClassId) (a_t : Nat → Nat) (t_junctions : Int32) (t_cuts : Int32) (t_cutOne : Nat → Int32) (t_cutOther : Nat → Int32) (t_cutHard : Nat → Int32) (t_hard : Nat → Int32) (t_boats : Int32) (t_wears : Nat → Int32) (t_quays : Nat → Int32) (t_now : Nat → Int32) (t_seed : Int32) (t_text : Nat → Int32) (t_texted : Int32) (t_faultPlace : Int32) (t_at0 : Int32) (t_number : Int32) (t_numberAt : Int32) (t_readJunctions : Int32) (t_readCuts : Int32) (t_readOne : Nat → Int32) (t_readOther : Nat → Int32) (t_readHard : Nat → Int32) (t_readBoats : Int32) (t_readAt : Nat → Int32) (t_readPull : Nat → Int32) (t_readWears : Nat → Int32) (t_at : Int32) (t_from : Int32) (t_pull : Int32) (t_undos : Int32) (t_past : Nat → Int32) (t_given : Nat → Int32) (t_bestGiven : Nat → Int32) (t_seen : Int32) (t_seenOf : Nat → Int32) (t_seenBehind : Nat → Int32) (t_seenAt : Nat → Int32) (t_way : Nat → Int32) (t_brings : Nat → Int32) (t_booked : Int32) (t_bookOf : Nat → Int32) (t_bookAt : Nat → Int32) (t_images : Nat → Int32) (t_isKept : Nat → Int32) (y1 : Int32) (y2 : Int32) (r0 : Int32) (h : m_Ref_boat y1 y2 t_boats t_wears t_quays t_now = some r0) : (MI l yX12_boat wsX12_boat ({ frames := 2, cells := 0, slots := 0, locals := 46 }) (dC, dI) [(cI, .int), (cZ, .boolean)] (wd_tRef cI cZ a_t t_junctions t_cuts t_cutOne t_cutOther t_cutHard t_hard t_boats t_wears t_quays t_now t_seed t_text t_texted t_faultPlace t_at0 t_number t_numberAt t_readJunctions t_readCuts t_readOne t_readOther t_readHard t_readBoats t_readAt t_readPull t_readWears t_at t_from t_pull t_undos t_past t_given t_bestGiven t_seen t_seenOf t_seenBehind t_seenAt t_way t_brings t_booked t_bookOf t_bookAt t_images t_isKept) (wd_tRef cI cZ a_t t_junctions t_cuts t_cutOne t_cutOther t_cutHard t_hard t_boats t_wears t_quays t_now t_seed t_text t_texted t_faultPlace t_at0 t_number t_numberAt t_readJunctions t_readCuts t_readOne t_readOther t_readHard t_readBoats t_readAt t_readPull t_readWears t_at t_from t_pull t_undos t_past t_given t_bestGiven t_seen t_seenOf t_seenBehind t_seenAt t_way t_brings t_booked t_bookOf t_bookAt t_images t_isKept) [.ref (a_t 0), .int y1, .int y2] r0) := by
  intro sz
  refine Met.ofW (cc := cX12_boat) (maxL := 3) (ret := (some .int)) (by decide) rfl ?_
  intro p e s m args below meth c s₁ B hml hv
  obtain ⟨rfl, hsz, hP, hK, hD0⟩ := hv
  have hx := B.exec
  have hb := B.bytes
  have hr := B.returns
  have hts := atoms_spec (ws := wsX12_boat) B.pre
  have hown : s.vm.findClass RX12 = some m.cls := findClass_of_methodNamed B.named
  have hlocks := B.notSynchronized
  subst hsz
  have hD := hD0.self (sz := s.heap.size)
  have hA : ∀ q : Nat, s.heap.size ≤ q → va_A (wd_tRef cI cZ a_t t_junctions t_cuts t_cutOne t_cutOther t_cutHard t_hard t_boats t_wears t_quays t_now t_seed t_text t_texted t_faultPlace t_at0 t_number t_numberAt t_readJunctions t_readCuts t_readOne t_readOther t_readHard t_readBoats t_readAt t_readPull t_readWears t_at t_from t_pull t_undos t_past t_given t_bestGiven t_seen t_seenOf t_seenBehind t_seenAt t_way t_brings t_booked t_bookOf t_bookAt t_images t_isKept) s.heap.size q := fun q h => Or.inr h
  have hS : va_S (va_A (wd_tRef cI cZ a_t t_junctions t_cuts t_cutOne t_cutOther t_cutHard t_hard t_boats t_wears t_quays t_now t_seed t_text t_texted t_faultPlace t_at0 t_number t_numberAt t_readJunctions t_readCuts t_readOne t_readOther t_readHard t_readBoats t_readAt t_readPull t_readWears t_at t_from t_pull t_undos t_past t_given t_bestGiven t_seen t_seenOf t_seenBehind t_seenAt t_way t_brings t_booked t_bookOf t_bookAt t_images t_isKept) s.heap.size) s.heap s.heap [] := va_S.rf
  have hin12 : ∀ w ∈ u_ws RX12 TX12 44, w ∈ wsX12_boat := fun w h => List.mem_cons_of_mem _ (List.mem_append_right _ h)
  have hl := lv_entry ([.ref (a_t 0), .int y1, .int y2]) (n := 3) (Nat.le_of_ble_eq_true rfl)
  rw [lg_entry_eq]
  generalize (lg_sl ([.ref (a_t 0), .int y1, .int y2]) ++ List.replicate (3 - (lg_sl ([.ref (a_t 0), .int y1, .int y2])).length) Slot.unset).toArray = ls at hl ⊢
  have hl : lv_has ls 3 [(0, .ref (a_t 0)), (1, .int y1), (2, .int y2)] := hl
  unfold m_Ref_boat at h
  refine lv_aload_n hx hb dX12_boat_0 rfl (lv_at hl 0 rfl) ?_
  refine lv_iload_n hx hb dX12_boat_1 rfl (lv_at hl 1 rfl) ?_
  obtain ⟨r1, hc1, h⟩ := kb1_some h
  refine k_FVi (rest := []) (As := [.int y1]) ⟨hx, hb, hml, hown, hts⟩ (c_Ref_isBoat l dC dI cI cZ a_t t_junctions t_cuts t_cutOne t_cutOther t_cutHard t_hard t_boats t_wears t_quays t_now t_seed t_text t_texted t_faultPlace t_at0 t_number t_numberAt t_readJunctions t_readCuts t_readOne t_readOther t_readHard t_readBoats t_readAt t_readPull t_readWears t_at t_from t_pull t_undos t_past t_given t_bestGiven t_seen t_seenOf t_seenBehind t_seenAt t_way t_brings t_booked t_bookOf t_bookAt t_images t_isKept y1 r1 hc1) (cwV 1 hts gX12_boat_X12_isBoat rfl rfl rfl hd_12_isBoat ⟨Nat.le_of_ble_eq_true rfl, Nat.le_of_ble_eq_true rfl⟩) hK hP hD hS hA 0 12 rfl rfl rfl (wd_tRef_f.trans wd_tRef_f.symm) rfl hl.1 rfl (Nat.le_of_ble_eq_true rfl) dX12_boat_2 ⟨Nat.zero_le _, Nat.zero_le _⟩ (fun H locs hP hD hS => ?_)
  refine lv_if_ne (tgt := 11) hx hb dX12_boat_5 (by decide) (fun hc => ?_) (fun hc => ?_)
  · have h := k_neg hc h
    refine lv_iload_n hx hb dX12_boat_11 rfl (lv_at hl 2 rfl) ?_
    by_cases hc0 : y2 = 0
    · have h := k_pos hc0 h
      refine lv_tableIn (off := 40) (tgt := 52) hx hb dX12_boat_12 (by rw [hc0]; decide) (by rw [hc0]; decide) (by rw [hc0]; decide) (by decide) ?_
      refine lv_aload_n hx hb dX12_boat_52 rfl (lv_at hl 0 rfl) ?_
      refine va_get (D := (dC, dI)) (ci := 12) (v := .ref (a_t 7)) (C := RX12) (T := TX12) (N := 44) hx hb hts hin12 hown hK hP 0 rfl rfl 9 (by decide) (hts (.fieldLink RX12 28 "TowedBackModel" "now" "[I") (List.mem_of_getElem? (i := 2) rfl)) (fun _ h9 => h9) rfl dX12_boat_53 ?_
      refine lv_iload_n hx hb dX12_boat_56 rfl (lv_at hl 1 rfl) ?_
      obtain ⟨hi2, h⟩ := kg_some h
      refine va_iald hx hb hK hP 7 0 rfl rfl hi2 dX12_boat_57 ?_
      obtain rfl := k_in1 h
      exact k_ri hx hb hr hlocks hP hS dX12_boat_58
    have h := k_neg hc0 h
    by_cases hc1 : y2 = 1
    · have h := k_pos hc1 h
      refine lv_tableIn (off := 47) (tgt := 59) hx hb dX12_boat_12 (by rw [hc1]; decide) (by rw [hc1]; decide) (by rw [hc1]; decide) (by decide) ?_
      refine lv_aload_n hx hb dX12_boat_59 rfl (lv_at hl 0 rfl) ?_
      refine va_get (D := (dC, dI)) (ci := 12) (v := .ref (a_t 7)) (C := RX12) (T := TX12) (N := 44) hx hb hts hin12 hown hK hP 0 rfl rfl 9 (by decide) (hts (.fieldLink RX12 28 "TowedBackModel" "now" "[I") (List.mem_of_getElem? (i := 2) rfl)) (fun _ h9 => h9) rfl dX12_boat_60 ?_
      refine lv_iconst (v := 5) hx hb dX12_boat_63 (by decide) ?_
      refine lv_iload_n hx hb dX12_boat_64 rfl (lv_at hl 1 rfl) ?_
      refine lv_iadd hx hb dX12_boat_65 ?_
      obtain ⟨hi3, h⟩ := kg_some h
      refine va_iald hx hb hK hP 7 0 rfl rfl hi3 dX12_boat_66 ?_
      obtain rfl := k_in1 h
      exact k_ri hx hb hr hlocks hP hS dX12_boat_67
    have h := k_neg hc1 h
    by_cases hc2 : y2 = 2
    · have h := k_pos hc2 h
      refine lv_tableIn (off := 56) (tgt := 68) hx hb dX12_boat_12 (by rw [hc2]; decide) (by rw [hc2]; decide) (by rw [hc2]; decide) (by decide) ?_
      refine lv_aload_n hx hb dX12_boat_68 rfl (lv_at hl 0 rfl) ?_
      refine va_get (D := (dC, dI)) (ci := 12) (v := .ref (a_t 7)) (C := RX12) (T := TX12) (N := 44) hx hb hts hin12 hown hK hP 0 rfl rfl 9 (by decide) (hts (.fieldLink RX12 28 "TowedBackModel" "now" "[I") (List.mem_of_getElem? (i := 2) rfl)) (fun _ h9 => h9) rfl dX12_boat_69 ?_
      refine lv_bipush (v := 10) hx hb dX12_boat_72 (by decide) ?_
      refine lv_iload_n hx hb dX12_boat_74 rfl (lv_at hl 1 rfl) ?_
      refine lv_iadd hx hb dX12_boat_75 ?_
      obtain ⟨hi4, h⟩ := kg_some h
      refine va_iald hx hb hK hP 7 0 rfl rfl hi4 dX12_boat_76 ?_
      obtain rfl := k_in1 h
      exact k_ri hx hb hr hlocks hP hS dX12_boat_77
    have h := k_neg hc2 h
    by_cases hc3 : y2 = 3
    · have h := k_pos hc3 h
      refine lv_tableIn (off := 66) (tgt := 78) hx hb dX12_boat_12 (by rw [hc3]; decide) (by rw [hc3]; decide) (by rw [hc3]; decide) (by decide) ?_
      refine lv_aload_n hx hb dX12_boat_78 rfl (lv_at hl 0 rfl) ?_
      refine va_get (D := (dC, dI)) (ci := 12) (v := .ref (a_t 5)) (C := RX12) (T := TX12) (N := 44) hx hb hts hin12 hown hK hP 0 rfl rfl 7 (by decide) (hts (.fieldLink RX12 22 "TowedBackModel" "wears" "[I") (List.mem_of_getElem? (i := 3) rfl)) (fun _ h9 => h9) rfl dX12_boat_79 ?_
      refine lv_iload_n hx hb dX12_boat_82 rfl (lv_at hl 1 rfl) ?_
      obtain ⟨hi5, h⟩ := kg_some h
      refine va_iald hx hb hK hP 5 0 rfl rfl hi5 dX12_boat_83 ?_
      obtain rfl := k_in1 h
      exact k_ri hx hb hr hlocks hP hS dX12_boat_84
    have h := k_neg hc3 h
    by_cases hc4 : y2 = 4
    · have h := k_pos hc4 h
      refine lv_tableIn (off := 73) (tgt := 85) hx hb dX12_boat_12 (by rw [hc4]; decide) (by rw [hc4]; decide) (by rw [hc4]; decide) (by decide) ?_
      refine lv_aload_n hx hb dX12_boat_85 rfl (lv_at hl 0 rfl) ?_
      refine va_get (D := (dC, dI)) (ci := 12) (v := .ref (a_t 7)) (C := RX12) (T := TX12) (N := 44) hx hb hts hin12 hown hK hP 0 rfl rfl 9 (by decide) (hts (.fieldLink RX12 28 "TowedBackModel" "now" "[I") (List.mem_of_getElem? (i := 2) rfl)) (fun _ h9 => h9) rfl dX12_boat_86 ?_
      refine lv_bipush (v := 15) hx hb dX12_boat_89 (by decide) ?_
      refine lv_iload_n hx hb dX12_boat_91 rfl (lv_at hl 1 rfl) ?_
      refine lv_iadd hx hb dX12_boat_92 ?_
      obtain ⟨hi6, h⟩ := kg_some h
      refine va_iald hx hb hK hP 7 0 rfl rfl hi6 dX12_boat_93 ?_
      obtain rfl := k_in1 h
      exact k_ri hx hb hr hlocks hP hS dX12_boat_94
    have h := k_neg hc4 h
    by_cases hc5 : y2 = 5
    · have h := k_pos hc5 h
      refine lv_tableIn (off := 83) (tgt := 95) hx hb dX12_boat_12 (by rw [hc5]; decide) (by rw [hc5]; decide) (by rw [hc5]; decide) (by decide) ?_
      refine lv_aload_n hx hb dX12_boat_95 rfl (lv_at hl 0 rfl) ?_
      refine va_get (D := (dC, dI)) (ci := 12) (v := .ref (a_t 6)) (C := RX12) (T := TX12) (N := 44) hx hb hts hin12 hown hK hP 0 rfl rfl 8 (by decide) (hts (.fieldLink RX12 25 "TowedBackModel" "quays" "[I") (List.mem_of_getElem? (i := 4) rfl)) (fun _ h9 => h9) rfl dX12_boat_96 ?_
      refine lv_iload_n hx hb dX12_boat_99 rfl (lv_at hl 1 rfl) ?_
      obtain ⟨hi7, h⟩ := kg_some h
      refine va_iald hx hb hK hP 6 0 rfl rfl hi7 dX12_boat_100 ?_
      obtain rfl := k_in1 h
      exact k_ri hx hb hr hlocks hP hS dX12_boat_101
    have h := k_neg hc5 h
    refine lv_tableOut (tgt := 102) hx hb dX12_boat_12 (k_sw5 hc0 hc1 hc2 hc3 hc4 hc5) (by decide) ?_
    refine lv_ldc (v := (-1000000002)) hx hb hown (hts (.constant RX12 105 (-1000000002)) (List.mem_of_getElem? (i := 5) rfl)) dX12_boat_102 ?_
    obtain rfl := k_in1 h
    exact k_ri hx hb hr hlocks hP hS dX12_boat_104
  · have h := k_pos hc h
    refine lv_ldc (v := (-1000000001)) hx hb hown (hts (.constant RX12 200 (-1000000001)) (List.mem_of_getElem? (i := 1) rfl)) dX12_boat_8 ?_
    obtain rfl := k_in1 h
    exact k_ri hx hb hr hlocks hP hS dX12_boat_10
set_option maxHeartbeats 4000000 in
set_option maxRecDepth 100000 in
theorem c_Ref_remember (l : Launch) (dC : Nat → ClassId) (dI : Nat → Nat → Nat) (cI cZ : ClassId) (a_t : Nat → Nat) (t_junctions : Int32) (t_cuts : Int32) (t_cutOne : Nat → Int32) (t_cutOther : Nat → Int32) (t_cutHard : Nat → Int32) (t_hard : Nat → Int32) (t_boats : Int32) (t_wears : Nat → Int32) (t_quays : Nat → Int32) (t_now : Nat → Int32) (t_seed : Int32) (t_text : Nat → Int32) (t_texted : Int32) (t_faultPlace : Int32) (t_at0 : Int32) (t_number : Int32) (t_numberAt : Int32) (t_readJunctions : Int32) (t_readCuts : Int32) (t_readOne : Nat → Int32) (t_readOther : Nat → Int32) (t_readHard : Nat → Int32) (t_readBoats : Int32) (t_readAt : Nat → Int32) (t_readPull : Nat → Int32) (t_readWears : Nat → Int32) (t_at : Int32) (t_from : Int32) (t_pull : Int32) (i_t_undos : Int32) (i_t_past : Nat → Int32) (t_given : Nat → Int32) (t_bestGiven : Nat → Int32) (t_seen : Int32) (t_seenOf : Nat → Int32) (t_seenBehind : Nat → Int32) (t_seenAt : Nat → Int32) (t_way : Nat → Int32) (t_brings : Nat → Int32) (t_booked : Int32) (t_bookOf : Nat → Int32) (t_bookAt : Nat → Int32) (t_images : Nat → Int32) (t_isKept : Nat → Int32)  (o_t_undos : Int32) (o_t_past : Nat → Int32) (h : m_Ref_remember t_now i_t_undos i_t_past = some (o_t_undos, o_t_past)) : (MV l yX12_remember wsX12_remember ({ frames := 0, cells := 0, slots := 0, locals := 0 }) (dC, dI) [(cI, .int), (cZ, .boolean)] (wd_tRef cI cZ a_t t_junctions t_cuts t_cutOne t_cutOther t_cutHard t_hard t_boats t_wears t_quays t_now t_seed t_text t_texted t_faultPlace t_at0 t_number t_numberAt t_readJunctions t_readCuts t_readOne t_readOther t_readHard t_readBoats t_readAt t_readPull t_readWears t_at t_from t_pull i_t_undos i_t_past t_given t_bestGiven t_seen t_seenOf t_seenBehind t_seenAt t_way t_brings t_booked t_bookOf t_bookAt t_images t_isKept) (wd_tRef cI cZ a_t t_junctions t_cuts t_cutOne t_cutOther t_cutHard t_hard t_boats t_wears t_quays t_now t_seed t_text t_texted t_faultPlace t_at0 t_number t_numberAt t_readJunctions t_readCuts t_readOne t_readOther t_readHard t_readBoats t_readAt t_readPull t_readWears t_at t_from t_pull o_t_undos o_t_past t_given t_bestGiven t_seen t_seenOf t_seenBehind t_seenAt t_way t_brings t_booked t_bookOf t_bookAt t_images t_isKept) [.ref (a_t 0)]) := by
  intro sz
  refine Met.ofW (cc := cX12_remember) (maxL := 2) (ret := none) (by decide) rfl ?_
  intro p e s m args below meth c s₁ B hml hv
  obtain ⟨rfl, hsz, hP, hK, hD0⟩ := hv
  have hx := B.exec
  have hb := B.bytes
  have hr := B.returns
  have hts := atoms_spec (ws := wsX12_remember) B.pre
  have hown : s.vm.findClass RX12 = some m.cls := findClass_of_methodNamed B.named
  have hlocks := B.notSynchronized
  subst hsz
  have hD := hD0.self (sz := s.heap.size)
  have hA : ∀ q : Nat, s.heap.size ≤ q → va_A (wd_tRef cI cZ a_t t_junctions t_cuts t_cutOne t_cutOther t_cutHard t_hard t_boats t_wears t_quays t_now t_seed t_text t_texted t_faultPlace t_at0 t_number t_numberAt t_readJunctions t_readCuts t_readOne t_readOther t_readHard t_readBoats t_readAt t_readPull t_readWears t_at t_from t_pull i_t_undos i_t_past t_given t_bestGiven t_seen t_seenOf t_seenBehind t_seenAt t_way t_brings t_booked t_bookOf t_bookAt t_images t_isKept) s.heap.size q := fun q h => Or.inr h
  have hS : va_S (va_A (wd_tRef cI cZ a_t t_junctions t_cuts t_cutOne t_cutOther t_cutHard t_hard t_boats t_wears t_quays t_now t_seed t_text t_texted t_faultPlace t_at0 t_number t_numberAt t_readJunctions t_readCuts t_readOne t_readOther t_readHard t_readBoats t_readAt t_readPull t_readWears t_at t_from t_pull i_t_undos i_t_past t_given t_bestGiven t_seen t_seenOf t_seenBehind t_seenAt t_way t_brings t_booked t_bookOf t_bookAt t_images t_isKept) s.heap.size) s.heap s.heap [] := va_S.rf
  have hin12 : ∀ w ∈ u_ws RX12 TX12 44, w ∈ wsX12_remember := fun w h => List.mem_cons_of_mem _ (List.mem_append_right _ h)
  have hl := lv_entry ([.ref (a_t 0)]) (n := 2) (Nat.le_of_ble_eq_true rfl)
  rw [lg_entry_eq]
  generalize (lg_sl ([.ref (a_t 0)]) ++ List.replicate (2 - (lg_sl ([.ref (a_t 0)])).length) Slot.unset).toArray = ls at hl ⊢
  have hl : lv_has ls 2 [(0, .ref (a_t 0))] := hl
  have J84 : ∀  (t_undos : Int32) (t_past : Nat → Int32) (H : Heap) (locs : List Loc) (ls : Array Slot), va_P (dC, dI) vwCl (wd_tRef cI cZ a_t t_junctions t_cuts t_cutOne t_cutOther t_cutHard t_hard t_boats t_wears t_quays t_now t_seed t_text t_texted t_faultPlace t_at0 t_number t_numberAt t_readJunctions t_readCuts t_readOne t_readOther t_readHard t_readBoats t_readAt t_readPull t_readWears t_at t_from t_pull t_undos t_past t_given t_bestGiven t_seen t_seenOf t_seenBehind t_seenAt t_way t_brings t_booked t_bookOf t_bookAt t_images t_isKept) H → va_D (va_A (wd_tRef cI cZ a_t t_junctions t_cuts t_cutOne t_cutOther t_cutHard t_hard t_boats t_wears t_quays t_now t_seed t_text t_texted t_faultPlace t_at0 t_number t_numberAt t_readJunctions t_readCuts t_readOne t_readOther t_readHard t_readBoats t_readAt t_readPull t_readWears t_at t_from t_pull i_t_undos i_t_past t_given t_bestGiven t_seen t_seenOf t_seenBehind t_seenAt t_way t_brings t_booked t_bookOf t_bookAt t_images t_isKept) s.heap.size) (wd_tRef cI cZ a_t t_junctions t_cuts t_cutOne t_cutOther t_cutHard t_hard t_boats t_wears t_quays t_now t_seed t_text t_texted t_faultPlace t_at0 t_number t_numberAt t_readJunctions t_readCuts t_readOne t_readOther t_readHard t_readBoats t_readAt t_readPull t_readWears t_at t_from t_pull t_undos t_past t_given t_bestGiven t_seen t_seenOf t_seenBehind t_seenAt t_way t_brings t_booked t_bookOf t_bookAt t_images t_isKept) → va_S (va_A (wd_tRef cI cZ a_t t_junctions t_cuts t_cutOne t_cutOther t_cutHard t_hard t_boats t_wears t_quays t_now t_seed t_text t_texted t_faultPlace t_at0 t_number t_numberAt t_readJunctions t_readCuts t_readOne t_readOther t_readHard t_readBoats t_readAt t_readPull t_readWears t_at t_from t_pull i_t_undos i_t_past t_given t_bestGiven t_seen t_seenOf t_seenBehind t_seenAt t_way t_brings t_booked t_bookOf t_bookAt t_images t_isKept) s.heap.size) s.heap H locs → lv_has ls 2 [(0, .ref (a_t 0))] → m_Ref_remember_B84  t_now t_undos t_past = some (o_t_undos, o_t_past) → W p l e (headSpec wsX12_remember ({ frames := 0, cells := 0, slots := 0, locals := 0 })).room s m ([.ref (a_t 0)] : List Value).toArray below meth c H locs 0 0 (MQ below (cQv (dC, dI) (wd_tRef cI cZ a_t t_junctions t_cuts t_cutOne t_cutOther t_cutHard t_hard t_boats t_wears t_quays t_now t_seed t_text t_texted t_faultPlace t_at0 t_number t_numberAt t_readJunctions t_readCuts t_readOne t_readOther t_readHard t_readBoats t_readAt t_readPull t_readWears t_at t_from t_pull i_t_undos i_t_past t_given t_bestGiven t_seen t_seenOf t_seenBehind t_seenAt t_way t_brings t_booked t_bookOf t_bookAt t_images t_isKept) (wd_tRef cI cZ a_t t_junctions t_cuts t_cutOne t_cutOther t_cutHard t_hard t_boats t_wears t_quays t_now t_seed t_text t_texted t_faultPlace t_at0 t_number t_numberAt t_readJunctions t_readCuts t_readOne t_readOther t_readHard t_readBoats t_readAt t_readPull t_readWears t_at t_from t_pull o_t_undos o_t_past t_given t_bestGiven t_seen t_seenOf t_seenBehind t_seenAt t_way t_brings t_booked t_bookOf t_bookAt t_images t_isKept) s.heap.size) ([.ref (a_t 0)] : List Value).toArray s 0 0 (va_A (wd_tRef cI cZ a_t t_junctions t_cuts t_cutOne t_cutOther t_cutHard t_hard t_boats t_wears t_quays t_now t_seed t_text t_texted t_faultPlace t_at0 t_number t_numberAt t_readJunctions t_readCuts t_readOne t_readOther t_readHard t_readBoats t_readAt t_readPull t_readWears t_at t_from t_pull i_t_undos i_t_past t_given t_bestGiven t_seen t_seenOf t_seenBehind t_seenAt t_way t_brings t_booked t_bookOf t_bookAt t_images t_isKept) s.heap.size)) (F0 m 84 ls []) := by
    intro t_undos t_past H locs ls hP hD hS hl h
    unfold m_Ref_remember_B84 at h
    refine lv_aload_n hx hb dX12_remember_84 rfl (lv_at hl 0 rfl) ?_
    refine lv_dup hx hb dX12_remember_85 rfl ?_
    refine va_get (D := (dC, dI)) (ci := 12) (v := .int t_undos) (C := RX12) (T := TX12) (N := 44) hx hb hts hin12 hown hK hP 0 rfl rfl 29 (by decide) (hts (.fieldLink RX12 175 "TowedBackModel" "undos" "I") (List.mem_of_getElem? (i := 1) rfl)) (fun _ h9 => h9) rfl dX12_remember_86 ?_
    refine lv_iconst (v := 1) hx hb dX12_remember_89 (by decide) ?_
    refine lv_iadd hx hb dX12_remember_90 ?_
    refine va_put (D := (dC, dI)) (ci := 12) (v := .int (t_undos + 1)) (ty := tyX12 29) (C := RX12) (T := TX12) (N := 44) hx hb hts hin12 tyX12 tyX12_ok nmX12 hown hK hP hD hS 0 rfl rfl 29 (by decide) (hts (.fieldLink RX12 175 "TowedBackModel" "undos" "I") (List.mem_of_getElem? (i := 1) rfl)) (fun _ h9 => h9) rfl (tyX12_ok 29 (by decide)) rfl rfl (Nat.le_of_ble_eq_true rfl) dX12_remember_91 (fun H locs hP hD hS => ?_)
    have hP : va_P (dC, dI) vwCl (wd_tRef cI cZ a_t t_junctions t_cuts t_cutOne t_cutOther t_cutHard t_hard t_boats t_wears t_quays t_now t_seed t_text t_texted t_faultPlace t_at0 t_number t_numberAt t_readJunctions t_readCuts t_readOne t_readOther t_readHard t_readBoats t_readAt t_readPull t_readWears t_at t_from t_pull (t_undos + 1) t_past t_given t_bestGiven t_seen t_seenOf t_seenBehind t_seenAt t_way t_brings t_booked t_bookOf t_bookAt t_images t_isKept) H := hP
    have hD : va_D (va_A (wd_tRef cI cZ a_t t_junctions t_cuts t_cutOne t_cutOther t_cutHard t_hard t_boats t_wears t_quays t_now t_seed t_text t_texted t_faultPlace t_at0 t_number t_numberAt t_readJunctions t_readCuts t_readOne t_readOther t_readHard t_readBoats t_readAt t_readPull t_readWears t_at t_from t_pull i_t_undos i_t_past t_given t_bestGiven t_seen t_seenOf t_seenBehind t_seenAt t_way t_brings t_booked t_bookOf t_bookAt t_images t_isKept) s.heap.size) (wd_tRef cI cZ a_t t_junctions t_cuts t_cutOne t_cutOther t_cutHard t_hard t_boats t_wears t_quays t_now t_seed t_text t_texted t_faultPlace t_at0 t_number t_numberAt t_readJunctions t_readCuts t_readOne t_readOther t_readHard t_readBoats t_readAt t_readPull t_readWears t_at t_from t_pull (t_undos + 1) t_past t_given t_bestGiven t_seen t_seenOf t_seenBehind t_seenAt t_way t_brings t_booked t_bookOf t_bookAt t_images t_isKept) := hD
    obtain ⟨rfl, rfl⟩ := k_in2 h
    exact k_rv hx hb hr hlocks hP hS dX12_remember_94
  have L52 : ∀ (n52 : Nat) (x1 : Int32) (t_undos : Int32) (t_past : Nat → Int32) (H : Heap) (locs : List Loc) (ls : Array Slot), va_P (dC, dI) vwCl (wd_tRef cI cZ a_t t_junctions t_cuts t_cutOne t_cutOther t_cutHard t_hard t_boats t_wears t_quays t_now t_seed t_text t_texted t_faultPlace t_at0 t_number t_numberAt t_readJunctions t_readCuts t_readOne t_readOther t_readHard t_readBoats t_readAt t_readPull t_readWears t_at t_from t_pull t_undos t_past t_given t_bestGiven t_seen t_seenOf t_seenBehind t_seenAt t_way t_brings t_booked t_bookOf t_bookAt t_images t_isKept) H → va_D (va_A (wd_tRef cI cZ a_t t_junctions t_cuts t_cutOne t_cutOther t_cutHard t_hard t_boats t_wears t_quays t_now t_seed t_text t_texted t_faultPlace t_at0 t_number t_numberAt t_readJunctions t_readCuts t_readOne t_readOther t_readHard t_readBoats t_readAt t_readPull t_readWears t_at t_from t_pull i_t_undos i_t_past t_given t_bestGiven t_seen t_seenOf t_seenBehind t_seenAt t_way t_brings t_booked t_bookOf t_bookAt t_images t_isKept) s.heap.size) (wd_tRef cI cZ a_t t_junctions t_cuts t_cutOne t_cutOther t_cutHard t_hard t_boats t_wears t_quays t_now t_seed t_text t_texted t_faultPlace t_at0 t_number t_numberAt t_readJunctions t_readCuts t_readOne t_readOther t_readHard t_readBoats t_readAt t_readPull t_readWears t_at t_from t_pull t_undos t_past t_given t_bestGiven t_seen t_seenOf t_seenBehind t_seenAt t_way t_brings t_booked t_bookOf t_bookAt t_images t_isKept) → va_S (va_A (wd_tRef cI cZ a_t t_junctions t_cuts t_cutOne t_cutOther t_cutHard t_hard t_boats t_wears t_quays t_now t_seed t_text t_texted t_faultPlace t_at0 t_number t_numberAt t_readJunctions t_readCuts t_readOne t_readOther t_readHard t_readBoats t_readAt t_readPull t_readWears t_at t_from t_pull i_t_undos i_t_past t_given t_bestGiven t_seen t_seenOf t_seenBehind t_seenAt t_way t_brings t_booked t_bookOf t_bookAt t_images t_isKept) s.heap.size) s.heap H locs → lv_has ls 2 [(0, .ref (a_t 0)), (1, .int x1)] → m_Ref_remember_L52  n52 x1 t_now t_undos t_past = some (o_t_undos, o_t_past) → W p l e (headSpec wsX12_remember ({ frames := 0, cells := 0, slots := 0, locals := 0 })).room s m ([.ref (a_t 0)] : List Value).toArray below meth c H locs 0 0 (MQ below (cQv (dC, dI) (wd_tRef cI cZ a_t t_junctions t_cuts t_cutOne t_cutOther t_cutHard t_hard t_boats t_wears t_quays t_now t_seed t_text t_texted t_faultPlace t_at0 t_number t_numberAt t_readJunctions t_readCuts t_readOne t_readOther t_readHard t_readBoats t_readAt t_readPull t_readWears t_at t_from t_pull i_t_undos i_t_past t_given t_bestGiven t_seen t_seenOf t_seenBehind t_seenAt t_way t_brings t_booked t_bookOf t_bookAt t_images t_isKept) (wd_tRef cI cZ a_t t_junctions t_cuts t_cutOne t_cutOther t_cutHard t_hard t_boats t_wears t_quays t_now t_seed t_text t_texted t_faultPlace t_at0 t_number t_numberAt t_readJunctions t_readCuts t_readOne t_readOther t_readHard t_readBoats t_readAt t_readPull t_readWears t_at t_from t_pull o_t_undos o_t_past t_given t_bestGiven t_seen t_seenOf t_seenBehind t_seenAt t_way t_brings t_booked t_bookOf t_bookAt t_images t_isKept) s.heap.size) ([.ref (a_t 0)] : List Value).toArray s 0 0 (va_A (wd_tRef cI cZ a_t t_junctions t_cuts t_cutOne t_cutOther t_cutHard t_hard t_boats t_wears t_quays t_now t_seed t_text t_texted t_faultPlace t_at0 t_number t_numberAt t_readJunctions t_readCuts t_readOne t_readOther t_readHard t_readBoats t_readAt t_readPull t_readWears t_at t_from t_pull i_t_undos i_t_past t_given t_bestGiven t_seen t_seenOf t_seenBehind t_seenAt t_way t_brings t_booked t_bookOf t_bookAt t_images t_isKept) s.heap.size)) (F0 m 52 ls []) := by
    intro n52
    induction n52 with
    | zero => intro x1 t_undos t_past H locs ls hP hD hS hl h; have h : none = some (o_t_undos, o_t_past) := h; cases h
    | succ n52 ih52 =>
      intro x1 t_undos t_past H locs ls hP hD hS hl h
      have h : m_Ref_remember_B52  (m_Ref_remember_L52  n52) x1 t_now t_undos t_past = some (o_t_undos, o_t_past) := h
      unfold m_Ref_remember_B52 at h
      refine lv_iload_n hx hb dX12_remember_52 rfl (lv_at hl 1 rfl) ?_
      refine lv_bipush (v := 21) hx hb dX12_remember_53 (by decide) ?_
      refine lv_icmp_ge (tgt := 84) hx hb dX12_remember_55 (by decide) (fun hc => ?_) (fun hc => ?_)
      · have h := k_pos hc h
        exact J84 t_undos t_past _ _ _ hP hD hS (lv_sub hl [0] rfl) h
      · have h := k_neg hc h
        refine lv_aload_n hx hb dX12_remember_58 rfl (lv_at hl 0 rfl) ?_
        refine va_get (D := (dC, dI)) (ci := 12) (v := .ref (a_t 15)) (C := RX12) (T := TX12) (N := 44) hx hb hts hin12 hown hK hP 0 rfl rfl 30 (by decide) (hts (.fieldLink RX12 56 "TowedBackModel" "past" "[I") (List.mem_of_getElem? (i := 2) rfl)) (fun _ h9 => h9) rfl dX12_remember_59 ?_
        refine lv_bipush (v := 21) hx hb dX12_remember_62 (by decide) ?_
        refine lv_aload_n hx hb dX12_remember_64 rfl (lv_at hl 0 rfl) ?_
        refine va_get (D := (dC, dI)) (ci := 12) (v := .int t_undos) (C := RX12) (T := TX12) (N := 44) hx hb hts hin12 hown hK hP 0 rfl rfl 29 (by decide) (hts (.fieldLink RX12 175 "TowedBackModel" "undos" "I") (List.mem_of_getElem? (i := 1) rfl)) (fun _ h9 => h9) rfl dX12_remember_65 ?_
        refine lv_imul hx hb dX12_remember_68 ?_
        refine lv_iload_n hx hb dX12_remember_69 rfl (lv_at hl 1 rfl) ?_
        refine lv_iadd hx hb dX12_remember_70 ?_
        refine lv_aload_n hx hb dX12_remember_71 rfl (lv_at hl 0 rfl) ?_
        refine va_get (D := (dC, dI)) (ci := 12) (v := .ref (a_t 7)) (C := RX12) (T := TX12) (N := 44) hx hb hts hin12 hown hK hP 0 rfl rfl 9 (by decide) (hts (.fieldLink RX12 28 "TowedBackModel" "now" "[I") (List.mem_of_getElem? (i := 3) rfl)) (fun _ h9 => h9) rfl dX12_remember_72 ?_
        refine lv_iload_n hx hb dX12_remember_75 rfl (lv_at hl 1 rfl) ?_
        obtain ⟨hi1, h⟩ := kg_some h
        refine va_iald hx hb hK hP 7 0 rfl rfl hi1 dX12_remember_76 ?_
        obtain ⟨hi2, h⟩ := kg_some h
        refine va_iast hx hb hK hP hD hS 15 0 rfl rfl hi2 dX12_remember_77 (fun H locs hP hD hS => ?_)
        have hP : va_P (dC, dI) vwCl (wd_tRef cI cZ a_t t_junctions t_cuts t_cutOne t_cutOther t_cutHard t_hard t_boats t_wears t_quays t_now t_seed t_text t_texted t_faultPlace t_at0 t_number t_numberAt t_readJunctions t_readCuts t_readOne t_readOther t_readHard t_readBoats t_readAt t_readPull t_readWears t_at t_from t_pull t_undos (upd t_past ((21 * t_undos) + x1).toNatClampNeg (t_now x1.toNatClampNeg)) t_given t_bestGiven t_seen t_seenOf t_seenBehind t_seenAt t_way t_brings t_booked t_bookOf t_bookAt t_images t_isKept) H := hP
        have hD : va_D (va_A (wd_tRef cI cZ a_t t_junctions t_cuts t_cutOne t_cutOther t_cutHard t_hard t_boats t_wears t_quays t_now t_seed t_text t_texted t_faultPlace t_at0 t_number t_numberAt t_readJunctions t_readCuts t_readOne t_readOther t_readHard t_readBoats t_readAt t_readPull t_readWears t_at t_from t_pull i_t_undos i_t_past t_given t_bestGiven t_seen t_seenOf t_seenBehind t_seenAt t_way t_brings t_booked t_bookOf t_bookAt t_images t_isKept) s.heap.size) (wd_tRef cI cZ a_t t_junctions t_cuts t_cutOne t_cutOther t_cutHard t_hard t_boats t_wears t_quays t_now t_seed t_text t_texted t_faultPlace t_at0 t_number t_numberAt t_readJunctions t_readCuts t_readOne t_readOther t_readHard t_readBoats t_readAt t_readPull t_readWears t_at t_from t_pull t_undos (upd t_past ((21 * t_undos) + x1).toNatClampNeg (t_now x1.toNatClampNeg)) t_given t_bestGiven t_seen t_seenOf t_seenBehind t_seenAt t_way t_brings t_booked t_bookOf t_bookAt t_images t_isKept) := hD
        refine lv_iinc (v := (x1 + 1)) (lv' := [(1, .int (x1 + 1)), (0, .ref (a_t 0))]) hx hb dX12_remember_78 hl (k := 1) rfl rfl (by decide) rfl (fun ls hl => ?_)
        refine lv_goto (tgt := 52) hx hb dX12_remember_81 (by decide) ?_
        exact ih52 (x1 + 1) t_undos (upd t_past ((21 * t_undos) + x1).toNatClampNeg (t_now x1.toNatClampNeg)) _ _ _ hP hD hS (lv_sub hl [1, 0] rfl) h
  have J50 : ∀  (t_undos : Int32) (t_past : Nat → Int32) (H : Heap) (locs : List Loc) (ls : Array Slot), va_P (dC, dI) vwCl (wd_tRef cI cZ a_t t_junctions t_cuts t_cutOne t_cutOther t_cutHard t_hard t_boats t_wears t_quays t_now t_seed t_text t_texted t_faultPlace t_at0 t_number t_numberAt t_readJunctions t_readCuts t_readOne t_readOther t_readHard t_readBoats t_readAt t_readPull t_readWears t_at t_from t_pull t_undos t_past t_given t_bestGiven t_seen t_seenOf t_seenBehind t_seenAt t_way t_brings t_booked t_bookOf t_bookAt t_images t_isKept) H → va_D (va_A (wd_tRef cI cZ a_t t_junctions t_cuts t_cutOne t_cutOther t_cutHard t_hard t_boats t_wears t_quays t_now t_seed t_text t_texted t_faultPlace t_at0 t_number t_numberAt t_readJunctions t_readCuts t_readOne t_readOther t_readHard t_readBoats t_readAt t_readPull t_readWears t_at t_from t_pull i_t_undos i_t_past t_given t_bestGiven t_seen t_seenOf t_seenBehind t_seenAt t_way t_brings t_booked t_bookOf t_bookAt t_images t_isKept) s.heap.size) (wd_tRef cI cZ a_t t_junctions t_cuts t_cutOne t_cutOther t_cutHard t_hard t_boats t_wears t_quays t_now t_seed t_text t_texted t_faultPlace t_at0 t_number t_numberAt t_readJunctions t_readCuts t_readOne t_readOther t_readHard t_readBoats t_readAt t_readPull t_readWears t_at t_from t_pull t_undos t_past t_given t_bestGiven t_seen t_seenOf t_seenBehind t_seenAt t_way t_brings t_booked t_bookOf t_bookAt t_images t_isKept) → va_S (va_A (wd_tRef cI cZ a_t t_junctions t_cuts t_cutOne t_cutOther t_cutHard t_hard t_boats t_wears t_quays t_now t_seed t_text t_texted t_faultPlace t_at0 t_number t_numberAt t_readJunctions t_readCuts t_readOne t_readOther t_readHard t_readBoats t_readAt t_readPull t_readWears t_at t_from t_pull i_t_undos i_t_past t_given t_bestGiven t_seen t_seenOf t_seenBehind t_seenAt t_way t_brings t_booked t_bookOf t_bookAt t_images t_isKept) s.heap.size) s.heap H locs → lv_has ls 2 [(0, .ref (a_t 0))] → m_Ref_remember_B50  t_now t_undos t_past = some (o_t_undos, o_t_past) → W p l e (headSpec wsX12_remember ({ frames := 0, cells := 0, slots := 0, locals := 0 })).room s m ([.ref (a_t 0)] : List Value).toArray below meth c H locs 0 0 (MQ below (cQv (dC, dI) (wd_tRef cI cZ a_t t_junctions t_cuts t_cutOne t_cutOther t_cutHard t_hard t_boats t_wears t_quays t_now t_seed t_text t_texted t_faultPlace t_at0 t_number t_numberAt t_readJunctions t_readCuts t_readOne t_readOther t_readHard t_readBoats t_readAt t_readPull t_readWears t_at t_from t_pull i_t_undos i_t_past t_given t_bestGiven t_seen t_seenOf t_seenBehind t_seenAt t_way t_brings t_booked t_bookOf t_bookAt t_images t_isKept) (wd_tRef cI cZ a_t t_junctions t_cuts t_cutOne t_cutOther t_cutHard t_hard t_boats t_wears t_quays t_now t_seed t_text t_texted t_faultPlace t_at0 t_number t_numberAt t_readJunctions t_readCuts t_readOne t_readOther t_readHard t_readBoats t_readAt t_readPull t_readWears t_at t_from t_pull o_t_undos o_t_past t_given t_bestGiven t_seen t_seenOf t_seenBehind t_seenAt t_way t_brings t_booked t_bookOf t_bookAt t_images t_isKept) s.heap.size) ([.ref (a_t 0)] : List Value).toArray s 0 0 (va_A (wd_tRef cI cZ a_t t_junctions t_cuts t_cutOne t_cutOther t_cutHard t_hard t_boats t_wears t_quays t_now t_seed t_text t_texted t_faultPlace t_at0 t_number t_numberAt t_readJunctions t_readCuts t_readOne t_readOther t_readHard t_readBoats t_readAt t_readPull t_readWears t_at t_from t_pull i_t_undos i_t_past t_given t_bestGiven t_seen t_seenOf t_seenBehind t_seenAt t_way t_brings t_booked t_bookOf t_bookAt t_images t_isKept) s.heap.size)) (F0 m 50 ls []) := by
    intro t_undos t_past H locs ls hP hD hS hl h
    unfold m_Ref_remember_B50 at h
    refine lv_iconst (v := 0) hx hb dX12_remember_50 (by decide) ?_
    refine lv_istore_n (lv' := [(1, .int 0), (0, .ref (a_t 0))]) hx hb dX12_remember_51 rfl hl (by decide) rfl (fun ls hl => ?_)
    exact L52 FU 0 t_undos t_past _ _ _ hP hD hS (lv_sub hl [1, 0] rfl) h
  have J40 : ∀  (t_undos : Int32) (t_past : Nat → Int32) (H : Heap) (locs : List Loc) (ls : Array Slot), va_P (dC, dI) vwCl (wd_tRef cI cZ a_t t_junctions t_cuts t_cutOne t_cutOther t_cutHard t_hard t_boats t_wears t_quays t_now t_seed t_text t_texted t_faultPlace t_at0 t_number t_numberAt t_readJunctions t_readCuts t_readOne t_readOther t_readHard t_readBoats t_readAt t_readPull t_readWears t_at t_from t_pull t_undos t_past t_given t_bestGiven t_seen t_seenOf t_seenBehind t_seenAt t_way t_brings t_booked t_bookOf t_bookAt t_images t_isKept) H → va_D (va_A (wd_tRef cI cZ a_t t_junctions t_cuts t_cutOne t_cutOther t_cutHard t_hard t_boats t_wears t_quays t_now t_seed t_text t_texted t_faultPlace t_at0 t_number t_numberAt t_readJunctions t_readCuts t_readOne t_readOther t_readHard t_readBoats t_readAt t_readPull t_readWears t_at t_from t_pull i_t_undos i_t_past t_given t_bestGiven t_seen t_seenOf t_seenBehind t_seenAt t_way t_brings t_booked t_bookOf t_bookAt t_images t_isKept) s.heap.size) (wd_tRef cI cZ a_t t_junctions t_cuts t_cutOne t_cutOther t_cutHard t_hard t_boats t_wears t_quays t_now t_seed t_text t_texted t_faultPlace t_at0 t_number t_numberAt t_readJunctions t_readCuts t_readOne t_readOther t_readHard t_readBoats t_readAt t_readPull t_readWears t_at t_from t_pull t_undos t_past t_given t_bestGiven t_seen t_seenOf t_seenBehind t_seenAt t_way t_brings t_booked t_bookOf t_bookAt t_images t_isKept) → va_S (va_A (wd_tRef cI cZ a_t t_junctions t_cuts t_cutOne t_cutOther t_cutHard t_hard t_boats t_wears t_quays t_now t_seed t_text t_texted t_faultPlace t_at0 t_number t_numberAt t_readJunctions t_readCuts t_readOne t_readOther t_readHard t_readBoats t_readAt t_readPull t_readWears t_at t_from t_pull i_t_undos i_t_past t_given t_bestGiven t_seen t_seenOf t_seenBehind t_seenAt t_way t_brings t_booked t_bookOf t_bookAt t_images t_isKept) s.heap.size) s.heap H locs → lv_has ls 2 [(0, .ref (a_t 0))] → m_Ref_remember_B40  t_now t_undos t_past = some (o_t_undos, o_t_past) → W p l e (headSpec wsX12_remember ({ frames := 0, cells := 0, slots := 0, locals := 0 })).room s m ([.ref (a_t 0)] : List Value).toArray below meth c H locs 0 0 (MQ below (cQv (dC, dI) (wd_tRef cI cZ a_t t_junctions t_cuts t_cutOne t_cutOther t_cutHard t_hard t_boats t_wears t_quays t_now t_seed t_text t_texted t_faultPlace t_at0 t_number t_numberAt t_readJunctions t_readCuts t_readOne t_readOther t_readHard t_readBoats t_readAt t_readPull t_readWears t_at t_from t_pull i_t_undos i_t_past t_given t_bestGiven t_seen t_seenOf t_seenBehind t_seenAt t_way t_brings t_booked t_bookOf t_bookAt t_images t_isKept) (wd_tRef cI cZ a_t t_junctions t_cuts t_cutOne t_cutOther t_cutHard t_hard t_boats t_wears t_quays t_now t_seed t_text t_texted t_faultPlace t_at0 t_number t_numberAt t_readJunctions t_readCuts t_readOne t_readOther t_readHard t_readBoats t_readAt t_readPull t_readWears t_at t_from t_pull o_t_undos o_t_past t_given t_bestGiven t_seen t_seenOf t_seenBehind t_seenAt t_way t_brings t_booked t_bookOf t_bookAt t_images t_isKept) s.heap.size) ([.ref (a_t 0)] : List Value).toArray s 0 0 (va_A (wd_tRef cI cZ a_t t_junctions t_cuts t_cutOne t_cutOther t_cutHard t_hard t_boats t_wears t_quays t_now t_seed t_text t_texted t_faultPlace t_at0 t_number t_numberAt t_readJunctions t_readCuts t_readOne t_readOther t_readHard t_readBoats t_readAt t_readPull t_readWears t_at t_from t_pull i_t_undos i_t_past t_given t_bestGiven t_seen t_seenOf t_seenBehind t_seenAt t_way t_brings t_booked t_bookOf t_bookAt t_images t_isKept) s.heap.size)) (F0 m 40 ls []) := by
    intro t_undos t_past H locs ls hP hD hS hl h
    unfold m_Ref_remember_B40 at h
    refine lv_aload_n hx hb dX12_remember_40 rfl (lv_at hl 0 rfl) ?_
    refine lv_dup hx hb dX12_remember_41 rfl ?_
    refine va_get (D := (dC, dI)) (ci := 12) (v := .int t_undos) (C := RX12) (T := TX12) (N := 44) hx hb hts hin12 hown hK hP 0 rfl rfl 29 (by decide) (hts (.fieldLink RX12 175 "TowedBackModel" "undos" "I") (List.mem_of_getElem? (i := 1) rfl)) (fun _ h9 => h9) rfl dX12_remember_42 ?_
    refine lv_iconst (v := 1) hx hb dX12_remember_45 (by decide) ?_
    refine lv_isub hx hb dX12_remember_46 ?_
    refine va_put (D := (dC, dI)) (ci := 12) (v := .int (t_undos - 1)) (ty := tyX12 29) (C := RX12) (T := TX12) (N := 44) hx hb hts hin12 tyX12 tyX12_ok nmX12 hown hK hP hD hS 0 rfl rfl 29 (by decide) (hts (.fieldLink RX12 175 "TowedBackModel" "undos" "I") (List.mem_of_getElem? (i := 1) rfl)) (fun _ h9 => h9) rfl (tyX12_ok 29 (by decide)) rfl rfl (Nat.le_of_ble_eq_true rfl) dX12_remember_47 (fun H locs hP hD hS => ?_)
    have hP : va_P (dC, dI) vwCl (wd_tRef cI cZ a_t t_junctions t_cuts t_cutOne t_cutOther t_cutHard t_hard t_boats t_wears t_quays t_now t_seed t_text t_texted t_faultPlace t_at0 t_number t_numberAt t_readJunctions t_readCuts t_readOne t_readOther t_readHard t_readBoats t_readAt t_readPull t_readWears t_at t_from t_pull (t_undos - 1) t_past t_given t_bestGiven t_seen t_seenOf t_seenBehind t_seenAt t_way t_brings t_booked t_bookOf t_bookAt t_images t_isKept) H := hP
    have hD : va_D (va_A (wd_tRef cI cZ a_t t_junctions t_cuts t_cutOne t_cutOther t_cutHard t_hard t_boats t_wears t_quays t_now t_seed t_text t_texted t_faultPlace t_at0 t_number t_numberAt t_readJunctions t_readCuts t_readOne t_readOther t_readHard t_readBoats t_readAt t_readPull t_readWears t_at t_from t_pull i_t_undos i_t_past t_given t_bestGiven t_seen t_seenOf t_seenBehind t_seenAt t_way t_brings t_booked t_bookOf t_bookAt t_images t_isKept) s.heap.size) (wd_tRef cI cZ a_t t_junctions t_cuts t_cutOne t_cutOther t_cutHard t_hard t_boats t_wears t_quays t_now t_seed t_text t_texted t_faultPlace t_at0 t_number t_numberAt t_readJunctions t_readCuts t_readOne t_readOther t_readHard t_readBoats t_readAt t_readPull t_readWears t_at t_from t_pull (t_undos - 1) t_past t_given t_bestGiven t_seen t_seenOf t_seenBehind t_seenAt t_way t_brings t_booked t_bookOf t_bookAt t_images t_isKept) := hD
    exact J50 (t_undos - 1) t_past _ _ _ hP hD hS (lv_sub hl [0] rfl) h
  have L12 : ∀ (n12 : Nat) (x1 : Int32) (t_undos : Int32) (t_past : Nat → Int32) (H : Heap) (locs : List Loc) (ls : Array Slot), va_P (dC, dI) vwCl (wd_tRef cI cZ a_t t_junctions t_cuts t_cutOne t_cutOther t_cutHard t_hard t_boats t_wears t_quays t_now t_seed t_text t_texted t_faultPlace t_at0 t_number t_numberAt t_readJunctions t_readCuts t_readOne t_readOther t_readHard t_readBoats t_readAt t_readPull t_readWears t_at t_from t_pull t_undos t_past t_given t_bestGiven t_seen t_seenOf t_seenBehind t_seenAt t_way t_brings t_booked t_bookOf t_bookAt t_images t_isKept) H → va_D (va_A (wd_tRef cI cZ a_t t_junctions t_cuts t_cutOne t_cutOther t_cutHard t_hard t_boats t_wears t_quays t_now t_seed t_text t_texted t_faultPlace t_at0 t_number t_numberAt t_readJunctions t_readCuts t_readOne t_readOther t_readHard t_readBoats t_readAt t_readPull t_readWears t_at t_from t_pull i_t_undos i_t_past t_given t_bestGiven t_seen t_seenOf t_seenBehind t_seenAt t_way t_brings t_booked t_bookOf t_bookAt t_images t_isKept) s.heap.size) (wd_tRef cI cZ a_t t_junctions t_cuts t_cutOne t_cutOther t_cutHard t_hard t_boats t_wears t_quays t_now t_seed t_text t_texted t_faultPlace t_at0 t_number t_numberAt t_readJunctions t_readCuts t_readOne t_readOther t_readHard t_readBoats t_readAt t_readPull t_readWears t_at t_from t_pull t_undos t_past t_given t_bestGiven t_seen t_seenOf t_seenBehind t_seenAt t_way t_brings t_booked t_bookOf t_bookAt t_images t_isKept) → va_S (va_A (wd_tRef cI cZ a_t t_junctions t_cuts t_cutOne t_cutOther t_cutHard t_hard t_boats t_wears t_quays t_now t_seed t_text t_texted t_faultPlace t_at0 t_number t_numberAt t_readJunctions t_readCuts t_readOne t_readOther t_readHard t_readBoats t_readAt t_readPull t_readWears t_at t_from t_pull i_t_undos i_t_past t_given t_bestGiven t_seen t_seenOf t_seenBehind t_seenAt t_way t_brings t_booked t_bookOf t_bookAt t_images t_isKept) s.heap.size) s.heap H locs → lv_has ls 2 [(0, .ref (a_t 0)), (1, .int x1)] → m_Ref_remember_L12  n12 x1 t_now t_undos t_past = some (o_t_undos, o_t_past) → W p l e (headSpec wsX12_remember ({ frames := 0, cells := 0, slots := 0, locals := 0 })).room s m ([.ref (a_t 0)] : List Value).toArray below meth c H locs 0 0 (MQ below (cQv (dC, dI) (wd_tRef cI cZ a_t t_junctions t_cuts t_cutOne t_cutOther t_cutHard t_hard t_boats t_wears t_quays t_now t_seed t_text t_texted t_faultPlace t_at0 t_number t_numberAt t_readJunctions t_readCuts t_readOne t_readOther t_readHard t_readBoats t_readAt t_readPull t_readWears t_at t_from t_pull i_t_undos i_t_past t_given t_bestGiven t_seen t_seenOf t_seenBehind t_seenAt t_way t_brings t_booked t_bookOf t_bookAt t_images t_isKept) (wd_tRef cI cZ a_t t_junctions t_cuts t_cutOne t_cutOther t_cutHard t_hard t_boats t_wears t_quays t_now t_seed t_text t_texted t_faultPlace t_at0 t_number t_numberAt t_readJunctions t_readCuts t_readOne t_readOther t_readHard t_readBoats t_readAt t_readPull t_readWears t_at t_from t_pull o_t_undos o_t_past t_given t_bestGiven t_seen t_seenOf t_seenBehind t_seenAt t_way t_brings t_booked t_bookOf t_bookAt t_images t_isKept) s.heap.size) ([.ref (a_t 0)] : List Value).toArray s 0 0 (va_A (wd_tRef cI cZ a_t t_junctions t_cuts t_cutOne t_cutOther t_cutHard t_hard t_boats t_wears t_quays t_now t_seed t_text t_texted t_faultPlace t_at0 t_number t_numberAt t_readJunctions t_readCuts t_readOne t_readOther t_readHard t_readBoats t_readAt t_readPull t_readWears t_at t_from t_pull i_t_undos i_t_past t_given t_bestGiven t_seen t_seenOf t_seenBehind t_seenAt t_way t_brings t_booked t_bookOf t_bookAt t_images t_isKept) s.heap.size)) (F0 m 12 ls []) := by
    intro n12
    induction n12 with
    | zero => intro x1 t_undos t_past H locs ls hP hD hS hl h; have h : none = some (o_t_undos, o_t_past) := h; cases h
    | succ n12 ih12 =>
      intro x1 t_undos t_past H locs ls hP hD hS hl h
      have h : m_Ref_remember_B12  (m_Ref_remember_L12  n12) x1 t_now t_undos t_past = some (o_t_undos, o_t_past) := h
      unfold m_Ref_remember_B12 at h
      refine lv_iload_n hx hb dX12_remember_12 rfl (lv_at hl 1 rfl) ?_
      refine lv_sipush (v := 420) hx hb dX12_remember_13 (by decide) ?_
      refine lv_icmp_ge (tgt := 40) hx hb dX12_remember_16 (by decide) (fun hc => ?_) (fun hc => ?_)
      · have h := k_pos hc h
        exact J40 t_undos t_past _ _ _ hP hD hS (lv_sub hl [0] rfl) h
      · have h := k_neg hc h
        refine lv_aload_n hx hb dX12_remember_19 rfl (lv_at hl 0 rfl) ?_
        refine va_get (D := (dC, dI)) (ci := 12) (v := .ref (a_t 15)) (C := RX12) (T := TX12) (N := 44) hx hb hts hin12 hown hK hP 0 rfl rfl 30 (by decide) (hts (.fieldLink RX12 56 "TowedBackModel" "past" "[I") (List.mem_of_getElem? (i := 2) rfl)) (fun _ h9 => h9) rfl dX12_remember_20 ?_
        refine lv_iload_n hx hb dX12_remember_23 rfl (lv_at hl 1 rfl) ?_
        refine lv_bipush (v := 21) hx hb dX12_remember_24 (by decide) ?_
        refine lv_isub hx hb dX12_remember_26 ?_
        refine lv_aload_n hx hb dX12_remember_27 rfl (lv_at hl 0 rfl) ?_
        refine va_get (D := (dC, dI)) (ci := 12) (v := .ref (a_t 15)) (C := RX12) (T := TX12) (N := 44) hx hb hts hin12 hown hK hP 0 rfl rfl 30 (by decide) (hts (.fieldLink RX12 56 "TowedBackModel" "past" "[I") (List.mem_of_getElem? (i := 2) rfl)) (fun _ h9 => h9) rfl dX12_remember_28 ?_
        refine lv_iload_n hx hb dX12_remember_31 rfl (lv_at hl 1 rfl) ?_
        obtain ⟨hi3, h⟩ := kg_some h
        refine va_iald hx hb hK hP 15 0 rfl rfl hi3 dX12_remember_32 ?_
        obtain ⟨hi4, h⟩ := kg_some h
        refine va_iast hx hb hK hP hD hS 15 0 rfl rfl hi4 dX12_remember_33 (fun H locs hP hD hS => ?_)
        have hP : va_P (dC, dI) vwCl (wd_tRef cI cZ a_t t_junctions t_cuts t_cutOne t_cutOther t_cutHard t_hard t_boats t_wears t_quays t_now t_seed t_text t_texted t_faultPlace t_at0 t_number t_numberAt t_readJunctions t_readCuts t_readOne t_readOther t_readHard t_readBoats t_readAt t_readPull t_readWears t_at t_from t_pull t_undos (upd t_past (x1 - 21).toNatClampNeg (t_past x1.toNatClampNeg)) t_given t_bestGiven t_seen t_seenOf t_seenBehind t_seenAt t_way t_brings t_booked t_bookOf t_bookAt t_images t_isKept) H := hP
        have hD : va_D (va_A (wd_tRef cI cZ a_t t_junctions t_cuts t_cutOne t_cutOther t_cutHard t_hard t_boats t_wears t_quays t_now t_seed t_text t_texted t_faultPlace t_at0 t_number t_numberAt t_readJunctions t_readCuts t_readOne t_readOther t_readHard t_readBoats t_readAt t_readPull t_readWears t_at t_from t_pull i_t_undos i_t_past t_given t_bestGiven t_seen t_seenOf t_seenBehind t_seenAt t_way t_brings t_booked t_bookOf t_bookAt t_images t_isKept) s.heap.size) (wd_tRef cI cZ a_t t_junctions t_cuts t_cutOne t_cutOther t_cutHard t_hard t_boats t_wears t_quays t_now t_seed t_text t_texted t_faultPlace t_at0 t_number t_numberAt t_readJunctions t_readCuts t_readOne t_readOther t_readHard t_readBoats t_readAt t_readPull t_readWears t_at t_from t_pull t_undos (upd t_past (x1 - 21).toNatClampNeg (t_past x1.toNatClampNeg)) t_given t_bestGiven t_seen t_seenOf t_seenBehind t_seenAt t_way t_brings t_booked t_bookOf t_bookAt t_images t_isKept) := hD
        refine lv_iinc (v := (x1 + 1)) (lv' := [(1, .int (x1 + 1)), (0, .ref (a_t 0))]) hx hb dX12_remember_34 hl (k := 1) rfl rfl (by decide) rfl (fun ls hl => ?_)
        refine lv_goto (tgt := 12) hx hb dX12_remember_37 (by decide) ?_
        exact ih12 (x1 + 1) t_undos (upd t_past (x1 - 21).toNatClampNeg (t_past x1.toNatClampNeg)) _ _ _ hP hD hS (lv_sub hl [1, 0] rfl) h
  unfold m_Ref_remember at h
  refine lv_aload_n hx hb dX12_remember_0 rfl (lv_at hl 0 rfl) ?_
  refine va_get (D := (dC, dI)) (ci := 12) (v := .int i_t_undos) (C := RX12) (T := TX12) (N := 44) hx hb hts hin12 hown hK hP 0 rfl rfl 29 (by decide) (hts (.fieldLink RX12 175 "TowedBackModel" "undos" "I") (List.mem_of_getElem? (i := 1) rfl)) (fun _ h9 => h9) rfl dX12_remember_1 ?_
  refine lv_bipush (v := 20) hx hb dX12_remember_4 (by decide) ?_
  refine lv_icmp_ne (tgt := 50) hx hb dX12_remember_6 (by decide) (fun hc => ?_) (fun hc => ?_)
  · have h := k_neg hc h
    exact J50 i_t_undos i_t_past _ _ _ hP hD hS (lv_sub hl [0] rfl) h
  · have h := k_pos hc h
    refine lv_bipush (v := 21) hx hb dX12_remember_9 (by decide) ?_
    refine lv_istore_n (lv' := [(1, .int 21), (0, .ref (a_t 0))]) hx hb dX12_remember_11 rfl hl (by decide) rfl (fun ls hl => ?_)
    exact L12 FU 21 i_t_undos i_t_past _ _ _ hP hD hS (lv_sub hl [1, 0] rfl) h
