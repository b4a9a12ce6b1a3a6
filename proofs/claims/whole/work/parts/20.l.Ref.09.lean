set_option maxHeartbeats 4000000 in
set_option maxRecDepth 100000 in
theorem c_Ref_go (l : Launch) (dC : Nat → ClassId) (dI : Nat → Nat → Nat) (cI cZ : ClassId) (a_t : Nat → Nat) (t_junctions : Int32) (t_cuts : Int32) (t_cutOne : Nat → Int32) (t_cutOther : Nat → Int32) (t_cutHard : Nat → Int32) (t_hard : Nat → Int32) (t_boats : Int32) (t_wears : Nat → Int32) (t_quays : Nat → Int32) (t_now : Nat → Int32) (t_seed : Int32) (t_text : Nat → Int32) (t_texted : Int32) (t_faultPlace : Int32) (t_at0 : Int32) (t_number : Int32) (t_numberAt : Int32) (t_readJunctions : Int32) (t_readCuts : Int32) (t_readOne : Nat → Int32) (t_readOther : Nat → Int32) (t_readHard : Nat → Int32) (t_readBoats : Int32) (t_readAt : Nat → Int32) (t_readPull : Nat → Int32) (t_readWears : Nat → Int32) (i_t_at : Int32) (i_t_from : Int32) (i_t_pull : Int32) (t_undos : Int32) (t_past : Nat → Int32) (t_given : Nat → Int32) (t_bestGiven : Nat → Int32) (t_seen : Int32) (t_seenOf : Nat → Int32) (t_seenBehind : Nat → Int32) (t_seenAt : Nat → Int32) (t_way : Nat → Int32) (t_brings : Nat → Int32) (t_booked : Int32) (t_bookOf : Nat → Int32) (t_bookAt : Nat → Int32) (t_images : Nat → Int32) (t_isKept : Nat → Int32) (y1 : Int32) (r0 : Int32) (o_t_at : Int32) (o_t_from : Int32) (o_t_pull : Int32) (h : m_Ref_go y1 t_junctions t_hard i_t_at i_t_from i_t_pull = some (r0, o_t_at, o_t_from, o_t_pull)) : (MI l yX12_go wsX12_go ({ frames := 1, cells := 0, slots := 0, locals := 24 }) (dC, dI) [(cI, .int), (cZ, .boolean)] (wd_tRef cI cZ a_t t_junctions t_cuts t_cutOne t_cutOther t_cutHard t_hard t_boats t_wears t_quays t_now t_seed t_text t_texted t_faultPlace t_at0 t_number t_numberAt t_readJunctions t_readCuts t_readOne t_readOther t_readHard t_readBoats t_readAt t_readPull t_readWears i_t_at i_t_from i_t_pull t_undos t_past t_given t_bestGiven t_seen t_seenOf t_seenBehind t_seenAt t_way t_brings t_booked t_bookOf t_bookAt t_images t_isKept) (wd_tRef cI cZ a_t t_junctions t_cuts t_cutOne t_cutOther t_cutHard t_hard t_boats t_wears t_quays t_now t_seed t_text t_texted t_faultPlace t_at0 t_number t_numberAt t_readJunctions t_readCuts t_readOne t_readOther t_readHard t_readBoats t_readAt t_readPull t_readWears o_t_at o_t_from o_t_pull t_undos t_past t_given t_bestGiven t_seen t_seenOf t_seenBehind t_seenAt t_way t_brings t_booked t_bookOf t_bookAt t_images t_isKept) [.ref (a_t 0), .int y1] r0) := by
  intro sz
  refine Met.ofW (cc := cX12_go) (maxL := 3) (ret := (some .boolean)) (by decide) rfl ?_
  intro p e s m args below meth c s₁ B hml hv
  obtain ⟨rfl, hsz, hP, hK, hD0⟩ := hv
  have hx := B.exec
  have hb := B.bytes
  have hr := B.returns
  have hts := atoms_spec (ws := wsX12_go) B.pre
  have hown : s.vm.findClass RX12 = some m.cls := findClass_of_methodNamed B.named
  have hlocks := B.notSynchronized
  subst hsz
  have hD := hD0.self (sz := s.heap.size)
  have hA : ∀ q : Nat, s.heap.size ≤ q → va_A (wd_tRef cI cZ a_t t_junctions t_cuts t_cutOne t_cutOther t_cutHard t_hard t_boats t_wears t_quays t_now t_seed t_text t_texted t_faultPlace t_at0 t_number t_numberAt t_readJunctions t_readCuts t_readOne t_readOther t_readHard t_readBoats t_readAt t_readPull t_readWears i_t_at i_t_from i_t_pull t_undos t_past t_given t_bestGiven t_seen t_seenOf t_seenBehind t_seenAt t_way t_brings t_booked t_bookOf t_bookAt t_images t_isKept) s.heap.size q := fun q h => Or.inr h
  have hS : va_S (va_A (wd_tRef cI cZ a_t t_junctions t_cuts t_cutOne t_cutOther t_cutHard t_hard t_boats t_wears t_quays t_now t_seed t_text t_texted t_faultPlace t_at0 t_number t_numberAt t_readJunctions t_readCuts t_readOne t_readOther t_readHard t_readBoats t_readAt t_readPull t_readWears i_t_at i_t_from i_t_pull t_undos t_past t_given t_bestGiven t_seen t_seenOf t_seenBehind t_seenAt t_way t_brings t_booked t_bookOf t_bookAt t_images t_isKept) s.heap.size) s.heap s.heap [] := va_S.rf
  have hin12 : ∀ w ∈ u_ws RX12 TX12 44, w ∈ wsX12_go := fun w h => List.mem_cons_of_mem _ (List.mem_append_right _ h)
  have hl := lv_entry ([.ref (a_t 0), .int y1]) (n := 3) (Nat.le_of_ble_eq_true rfl)
  rw [lg_entry_eq]
  generalize (lg_sl ([.ref (a_t 0), .int y1]) ++ List.replicate (3 - (lg_sl ([.ref (a_t 0), .int y1])).length) Slot.unset).toArray = ls at hl ⊢
  have hl : lv_has ls 3 [(0, .ref (a_t 0)), (1, .int y1)] := hl
  have J43 : ∀ (k_1 : Int32) (t_at : Int32) (t_from : Int32) (t_pull : Int32) (H : Heap) (locs : List Loc) (ls : Array Slot), va_P (dC, dI) vwCl (wd_tRef cI cZ a_t t_junctions t_cuts t_cutOne t_cutOther t_cutHard t_hard t_boats t_wears t_quays t_now t_seed t_text t_texted t_faultPlace t_at0 t_number t_numberAt t_readJunctions t_readCuts t_readOne t_readOther t_readHard t_readBoats t_readAt t_readPull t_readWears t_at t_from t_pull t_undos t_past t_given t_bestGiven t_seen t_seenOf t_seenBehind t_seenAt t_way t_brings t_booked t_bookOf t_bookAt t_images t_isKept) H → va_D (va_A (wd_tRef cI cZ a_t t_junctions t_cuts t_cutOne t_cutOther t_cutHard t_hard t_boats t_wears t_quays t_now t_seed t_text t_texted t_faultPlace t_at0 t_number t_numberAt t_readJunctions t_readCuts t_readOne t_readOther t_readHard t_readBoats t_readAt t_readPull t_readWears i_t_at i_t_from i_t_pull t_undos t_past t_given t_bestGiven t_seen t_seenOf t_seenBehind t_seenAt t_way t_brings t_booked t_bookOf t_bookAt t_images t_isKept) s.heap.size) (wd_tRef cI cZ a_t t_junctions t_cuts t_cutOne t_cutOther t_cutHard t_hard t_boats t_wears t_quays t_now t_seed t_text t_texted t_faultPlace t_at0 t_number t_numberAt t_readJunctions t_readCuts t_readOne t_readOther t_readHard t_readBoats t_readAt t_readPull t_readWears t_at t_from t_pull t_undos t_past t_given t_bestGiven t_seen t_seenOf t_seenBehind t_seenAt t_way t_brings t_booked t_bookOf t_bookAt t_images t_isKept) → va_S (va_A (wd_tRef cI cZ a_t t_junctions t_cuts t_cutOne t_cutOther t_cutHard t_hard t_boats t_wears t_quays t_now t_seed t_text t_texted t_faultPlace t_at0 t_number t_numberAt t_readJunctions t_readCuts t_readOne t_readOther t_readHard t_readBoats t_readAt t_readPull t_readWears i_t_at i_t_from i_t_pull t_undos t_past t_given t_bestGiven t_seen t_seenOf t_seenBehind t_seenAt t_way t_brings t_booked t_bookOf t_bookAt t_images t_isKept) s.heap.size) s.heap H locs → lv_has ls 3 [] → m_Ref_go_B43  k_1 t_junctions t_hard t_at t_from t_pull = some (r0, o_t_at, o_t_from, o_t_pull) → W p l e (headSpec wsX12_go ({ frames := 1, cells := 0, slots := 0, locals := 24 })).room s m ([.ref (a_t 0), .int y1] : List Value).toArray below meth c H locs 0 0 (MQ below (cQi (dC, dI) (wd_tRef cI cZ a_t t_junctions t_cuts t_cutOne t_cutOther t_cutHard t_hard t_boats t_wears t_quays t_now t_seed t_text t_texted t_faultPlace t_at0 t_number t_numberAt t_readJunctions t_readCuts t_readOne t_readOther t_readHard t_readBoats t_readAt t_readPull t_readWears i_t_at i_t_from i_t_pull t_undos t_past t_given t_bestGiven t_seen t_seenOf t_seenBehind t_seenAt t_way t_brings t_booked t_bookOf t_bookAt t_images t_isKept) (wd_tRef cI cZ a_t t_junctions t_cuts t_cutOne t_cutOther t_cutHard t_hard t_boats t_wears t_quays t_now t_seed t_text t_texted t_faultPlace t_at0 t_number t_numberAt t_readJunctions t_readCuts t_readOne t_readOther t_readHard t_readBoats t_readAt t_readPull t_readWears o_t_at o_t_from o_t_pull t_undos t_past t_given t_bestGiven t_seen t_seenOf t_seenBehind t_seenAt t_way t_brings t_booked t_bookOf t_bookAt t_images t_isKept) s.heap.size r0) ([.ref (a_t 0), .int y1] : List Value).toArray s 0 0 (va_A (wd_tRef cI cZ a_t t_junctions t_cuts t_cutOne t_cutOther t_cutHard t_hard t_boats t_wears t_quays t_now t_seed t_text t_texted t_faultPlace t_at0 t_number t_numberAt t_readJunctions t_readCuts t_readOne t_readOther t_readHard t_readBoats t_readAt t_readPull t_readWears i_t_at i_t_from i_t_pull t_undos t_past t_given t_bestGiven t_seen t_seenOf t_seenBehind t_seenAt t_way t_brings t_booked t_bookOf t_bookAt t_images t_isKept) s.heap.size)) (F0 m 43 ls [.int k_1, .ref (a_t 0)]) := by
    intro k_1 t_at t_from t_pull H locs ls hP hD hS hl h
    unfold m_Ref_go_B43 at h
    refine va_put (D := (dC, dI)) (ci := 12) (v := .int k_1) (ty := tyX12 28) (C := RX12) (T := TX12) (N := 44) hx hb hts hin12 tyX12 tyX12_ok nmX12 hown hK hP hD hS 0 rfl rfl 28 (by decide) (hts (.fieldLink RX12 184 "TowedBackModel" "pull" "I") (List.mem_of_getElem? (i := 3) rfl)) (fun _ h9 => h9) rfl (tyX12_ok 28 (by decide)) rfl rfl (Nat.le_of_ble_eq_true rfl) dX12_go_43 (fun H locs hP hD hS => ?_)
    have hP : va_P (dC, dI) vwCl (wd_tRef cI cZ a_t t_junctions t_cuts t_cutOne t_cutOther t_cutHard t_hard t_boats t_wears t_quays t_now t_seed t_text t_texted t_faultPlace t_at0 t_number t_numberAt t_readJunctions t_readCuts t_readOne t_readOther t_readHard t_readBoats t_readAt t_readPull t_readWears t_at t_from k_1 t_undos t_past t_given t_bestGiven t_seen t_seenOf t_seenBehind t_seenAt t_way t_brings t_booked t_bookOf t_bookAt t_images t_isKept) H := hP
    have hD : va_D (va_A (wd_tRef cI cZ a_t t_junctions t_cuts t_cutOne t_cutOther t_cutHard t_hard t_boats t_wears t_quays t_now t_seed t_text t_texted t_faultPlace t_at0 t_number t_numberAt t_readJunctions t_readCuts t_readOne t_readOther t_readHard t_readBoats t_readAt t_readPull t_readWears i_t_at i_t_from i_t_pull t_undos t_past t_given t_bestGiven t_seen t_seenOf t_seenBehind t_seenAt t_way t_brings t_booked t_bookOf t_bookAt t_images t_isKept) s.heap.size) (wd_tRef cI cZ a_t t_junctions t_cuts t_cutOne t_cutOther t_cutHard t_hard t_boats t_wears t_quays t_now t_seed t_text t_texted t_faultPlace t_at0 t_number t_numberAt t_readJunctions t_readCuts t_readOne t_readOther t_readHard t_readBoats t_readAt t_readPull t_readWears t_at t_from k_1 t_undos t_past t_given t_bestGiven t_seen t_seenOf t_seenBehind t_seenAt t_way t_brings t_booked t_bookOf t_bookAt t_images t_isKept) := hD
    refine lv_iconst (v := 1) hx hb dX12_go_46 (by decide) ?_
    obtain ⟨rfl, rfl, rfl, rfl⟩ := k_in4 h
    exact k_rz hx hb hr hlocks rfl hP hS dX12_go_47
  unfold m_Ref_go at h
  refine lv_aload_n hx hb dX12_go_0 rfl (lv_at hl 0 rfl) ?_
  obtain ⟨r1, hc1, h⟩ := kb1_some h
  refine k_FVi (rest := []) (As := []) ⟨hx, hb, hml, hown, hts⟩ (c_Ref_goesTo l dC dI cI cZ a_t t_junctions t_cuts t_cutOne t_cutOther t_cutHard t_hard t_boats t_wears t_quays t_now t_seed t_text t_texted t_faultPlace t_at0 t_number t_numberAt t_readJunctions t_readCuts t_readOne t_readOther t_readHard t_readBoats t_readAt t_readPull t_readWears i_t_at i_t_from i_t_pull t_undos t_past t_given t_bestGiven t_seen t_seenOf t_seenBehind t_seenAt t_way t_brings t_booked t_bookOf t_bookAt t_images t_isKept r1 hc1) (cwV 0 hts gX12_go_X12_goesTo rfl rfl rfl hd_12_goesTo ⟨Nat.le_of_ble_eq_true rfl, Nat.le_of_ble_eq_true rfl⟩) hK hP hD hS hA 0 12 rfl rfl rfl (wd_tRef_f.trans wd_tRef_f.symm) rfl hl.1 rfl (Nat.le_of_ble_eq_true rfl) dX12_go_1 ⟨Nat.zero_le _, Nat.zero_le _⟩ (fun H locs hP hD hS => ?_)
  refine lv_istore_n (lv' := [(2, .int r1), (0, .ref (a_t 0)), (1, .int y1)]) hx hb dX12_go_4 rfl hl (by decide) rfl (fun ls hl => ?_)
  refine lv_iload_n hx hb dX12_go_5 rfl (lv_at hl 0 rfl) ?_
  refine lv_if_ge (tgt := 11) hx hb dX12_go_6 (by decide) (fun hc => ?_) (fun hc => ?_)
  · have h := k_pos hc h
    refine lv_aload_n hx hb dX12_go_11 rfl (lv_at hl 1 rfl) ?_
    refine lv_aload_n hx hb dX12_go_12 rfl (lv_at hl 1 rfl) ?_
    refine va_get (D := (dC, dI)) (ci := 12) (v := .int i_t_at) (C := RX12) (T := TX12) (N := 44) hx hb hts hin12 hown hK hP 0 rfl rfl 26 (by decide) (hts (.fieldLink RX12 178 "TowedBackModel" "at" "I") (List.mem_of_getElem? (i := 1) rfl)) (fun _ h9 => h9) rfl dX12_go_13 ?_
    refine va_put (D := (dC, dI)) (ci := 12) (v := .int i_t_at) (ty := tyX12 27) (C := RX12) (T := TX12) (N := 44) hx hb hts hin12 tyX12 tyX12_ok nmX12 hown hK hP hD hS 0 rfl rfl 27 (by decide) (hts (.fieldLink RX12 181 "TowedBackModel" "from" "I") (List.mem_of_getElem? (i := 2) rfl)) (fun _ h9 => h9) rfl (tyX12_ok 27 (by decide)) rfl rfl (Nat.le_of_ble_eq_true rfl) dX12_go_16 (fun H locs hP hD hS => ?_)
    have hP : va_P (dC, dI) vwCl (wd_tRef cI cZ a_t t_junctions t_cuts t_cutOne t_cutOther t_cutHard t_hard t_boats t_wears t_quays t_now t_seed t_text t_texted t_faultPlace t_at0 t_number t_numberAt t_readJunctions t_readCuts t_readOne t_readOther t_readHard t_readBoats t_readAt t_readPull t_readWears i_t_at i_t_at i_t_pull t_undos t_past t_given t_bestGiven t_seen t_seenOf t_seenBehind t_seenAt t_way t_brings t_booked t_bookOf t_bookAt t_images t_isKept) H := hP
    have hD : va_D (va_A (wd_tRef cI cZ a_t t_junctions t_cuts t_cutOne t_cutOther t_cutHard t_hard t_boats t_wears t_quays t_now t_seed t_text t_texted t_faultPlace t_at0 t_number t_numberAt t_readJunctions t_readCuts t_readOne t_readOther t_readHard t_readBoats t_readAt t_readPull t_readWears i_t_at i_t_from i_t_pull t_undos t_past t_given t_bestGiven t_seen t_seenOf t_seenBehind t_seenAt t_way t_brings t_booked t_bookOf t_bookAt t_images t_isKept) s.heap.size) (wd_tRef cI cZ a_t t_junctions t_cuts t_cutOne t_cutOther t_cutHard t_hard t_boats t_wears t_quays t_now t_seed t_text t_texted t_faultPlace t_at0 t_number t_numberAt t_readJunctions t_readCuts t_readOne t_readOther t_readHard t_readBoats t_readAt t_readPull t_readWears i_t_at i_t_at i_t_pull t_undos t_past t_given t_bestGiven t_seen t_seenOf t_seenBehind t_seenAt t_way t_brings t_booked t_bookOf t_bookAt t_images t_isKept) := hD
    refine lv_aload_n hx hb dX12_go_19 rfl (lv_at hl 1 rfl) ?_
    refine lv_iload_n hx hb dX12_go_20 rfl (lv_at hl 0 rfl) ?_
    refine va_put (D := (dC, dI)) (ci := 12) (v := .int r1) (ty := tyX12 26) (C := RX12) (T := TX12) (N := 44) hx hb hts hin12 tyX12 tyX12_ok nmX12 hown hK hP hD hS 0 rfl rfl 26 (by decide) (hts (.fieldLink RX12 178 "TowedBackModel" "at" "I") (List.mem_of_getElem? (i := 1) rfl)) (fun _ h9 => h9) rfl (tyX12_ok 26 (by decide)) rfl rfl (Nat.le_of_ble_eq_true rfl) dX12_go_21 (fun H locs hP hD hS => ?_)
    have hP : va_P (dC, dI) vwCl (wd_tRef cI cZ a_t t_junctions t_cuts t_cutOne t_cutOther t_cutHard t_hard t_boats t_wears t_quays t_now t_seed t_text t_texted t_faultPlace t_at0 t_number t_numberAt t_readJunctions t_readCuts t_readOne t_readOther t_readHard t_readBoats t_readAt t_readPull t_readWears r1 i_t_at i_t_pull t_undos t_past t_given t_bestGiven t_seen t_seenOf t_seenBehind t_seenAt t_way t_brings t_booked t_bookOf t_bookAt t_images t_isKept) H := hP
    have hD : va_D (va_A (wd_tRef cI cZ a_t t_junctions t_cuts t_cutOne t_cutOther t_cutHard t_hard t_boats t_wears t_quays t_now t_seed t_text t_texted t_faultPlace t_at0 t_number t_numberAt t_readJunctions t_readCuts t_readOne t_readOther t_readHard t_readBoats t_readAt t_readPull t_readWears i_t_at i_t_from i_t_pull t_undos t_past t_given t_bestGiven t_seen t_seenOf t_seenBehind t_seenAt t_way t_brings t_booked t_bookOf t_bookAt t_images t_isKept) s.heap.size) (wd_tRef cI cZ a_t t_junctions t_cuts t_cutOne t_cutOther t_cutHard t_hard t_boats t_wears t_quays t_now t_seed t_text t_texted t_faultPlace t_at0 t_number t_numberAt t_readJunctions t_readCuts t_readOne t_readOther t_readHard t_readBoats t_readAt t_readPull t_readWears r1 i_t_at i_t_pull t_undos t_past t_given t_bestGiven t_seen t_seenOf t_seenBehind t_seenAt t_way t_brings t_booked t_bookOf t_bookAt t_images t_isKept) := hD
    refine lv_aload_n hx hb dX12_go_24 rfl (lv_at hl 1 rfl) ?_
    refine lv_aload_n hx hb dX12_go_25 rfl (lv_at hl 1 rfl) ?_
    refine va_get (D := (dC, dI)) (ci := 12) (v := .int i_t_pull) (C := RX12) (T := TX12) (N := 44) hx hb hts hin12 hown hK hP 0 rfl rfl 28 (by decide) (hts (.fieldLink RX12 184 "TowedBackModel" "pull" "I") (List.mem_of_getElem? (i := 3) rfl)) (fun _ h9 => h9) rfl dX12_go_26 ?_
    refine lv_iload_n hx hb dX12_go_29 rfl (lv_at hl 2 rfl) ?_
    refine lv_icmp_le (tgt := 42) hx hb dX12_go_30 (by decide) (fun hc => ?_) (fun hc => ?_)
    · have h := k_pos hc h
      refine lv_iconst (v := 0) hx hb dX12_go_42 (by decide) ?_
      exact J43 0 r1 i_t_at i_t_pull _ _ _ hP hD hS (lv_sub hl [] rfl) h
    · have h := k_neg hc h
      refine lv_aload_n hx hb dX12_go_33 rfl (lv_at hl 1 rfl) ?_
      refine va_get (D := (dC, dI)) (ci := 12) (v := .int i_t_pull) (C := RX12) (T := TX12) (N := 44) hx hb hts hin12 hown hK hP 0 rfl rfl 28 (by decide) (hts (.fieldLink RX12 184 "TowedBackModel" "pull" "I") (List.mem_of_getElem? (i := 3) rfl)) (fun _ h9 => h9) rfl dX12_go_34 ?_
      refine lv_iload_n hx hb dX12_go_37 rfl (lv_at hl 2 rfl) ?_
      refine lv_isub hx hb dX12_go_38 ?_
      refine lv_goto (tgt := 43) hx hb dX12_go_39 (by decide) ?_
      exact J43 (i_t_pull - y1) r1 i_t_at i_t_pull _ _ _ hP hD hS (lv_sub hl [] rfl) h
  · have h := k_neg hc h
    refine lv_iconst (v := 0) hx hb dX12_go_9 (by decide) ?_
    obtain ⟨rfl, rfl, rfl, rfl⟩ := k_in4 h
    exact k_rz hx hb hr hlocks rfl hP hS dX12_go_10
set_option maxHeartbeats 4000000 in
set_option maxRecDepth 100000 in
theorem c_Ref_sitting (l : Launch) (dC : Nat → ClassId) (dI : Nat → Nat → Nat) (cI cZ : ClassId) (a_t : Nat → Nat) (t_junctions : Int32) (t_cuts : Int32) (t_cutOne : Nat → Int32) (t_cutOther : Nat → Int32) (t_cutHard : Nat → Int32) (t_hard : Nat → Int32) (t_boats : Int32) (t_wears : Nat → Int32) (t_quays : Nat → Int32) (t_now : Nat → Int32) (t_seed : Int32) (t_text : Nat → Int32) (t_texted : Int32) (t_faultPlace : Int32) (t_at0 : Int32) (t_number : Int32) (t_numberAt : Int32) (t_readJunctions : Int32) (t_readCuts : Int32) (t_readOne : Nat → Int32) (t_readOther : Nat → Int32) (t_readHard : Nat → Int32) (t_readBoats : Int32) (t_readAt : Nat → Int32) (t_readPull : Nat → Int32) (t_readWears : Nat → Int32) (i_t_at : Int32) (i_t_from : Int32) (i_t_pull : Int32) (t_undos : Int32) (t_past : Nat → Int32) (t_given : Nat → Int32) (t_bestGiven : Nat → Int32) (t_seen : Int32) (t_seenOf : Nat → Int32) (t_seenBehind : Nat → Int32) (t_seenAt : Nat → Int32) (t_way : Nat → Int32) (t_brings : Nat → Int32) (t_booked : Int32) (t_bookOf : Nat → Int32) (t_bookAt : Nat → Int32) (t_images : Nat → Int32) (t_isKept : Nat → Int32)  (r0 : Int32) (o_t_at : Int32) (o_t_from : Int32) (o_t_pull : Int32) (h : m_Ref_sitting t_junctions t_hard t_boats t_now i_t_at i_t_from i_t_pull = some (r0, o_t_at, o_t_from, o_t_pull)) : (MI l yX12_sitting wsX12_sitting ({ frames := 1, cells := 0, slots := 0, locals := 24 }) (dC, dI) [(cI, .int), (cZ, .boolean)] (wd_tRef cI cZ a_t t_junctions t_cuts t_cutOne t_cutOther t_cutHard t_hard t_boats t_wears t_quays t_now t_seed t_text t_texted t_faultPlace t_at0 t_number t_numberAt t_readJunctions t_readCuts t_readOne t_readOther t_readHard t_readBoats t_readAt t_readPull t_readWears i_t_at i_t_from i_t_pull t_undos t_past t_given t_bestGiven t_seen t_seenOf t_seenBehind t_seenAt t_way t_brings t_booked t_bookOf t_bookAt t_images t_isKept) (wd_tRef cI cZ a_t t_junctions t_cuts t_cutOne t_cutOther t_cutHard t_hard t_boats t_wears t_quays t_now t_seed t_text t_texted t_faultPlace t_at0 t_number t_numberAt t_readJunctions t_readCuts t_readOne t_readOther t_readHard t_readBoats t_readAt t_readPull t_readWears o_t_at o_t_from o_t_pull t_undos t_past t_given t_bestGiven t_seen t_seenOf t_seenBehind t_seenAt t_way t_brings t_booked t_bookOf t_bookAt t_images t_isKept) [.ref (a_t 0)] r0) := by
  intro sz
  refine Met.ofW (cc := cX12_sitting) (maxL := 3) (ret := (some .int)) (by decide) rfl ?_
  intro p e s m args below meth c s₁ B hml hv
  obtain ⟨rfl, hsz, hP, hK, hD0⟩ := hv
  have hx := B.exec
  have hb := B.bytes
  have hr := B.returns
  have hts := atoms_spec (ws := wsX12_sitting) B.pre
  have hown : s.vm.findClass RX12 = some m.cls := findClass_of_methodNamed B.named
  have hlocks := B.notSynchronized
  subst hsz
  have hD := hD0.self (sz := s.heap.size)
  have hA : ∀ q : Nat, s.heap.size ≤ q → va_A (wd_tRef cI cZ a_t t_junctions t_cuts t_cutOne t_cutOther t_cutHard t_hard t_boats t_wears t_quays t_now t_seed t_text t_texted t_faultPlace t_at0 t_number t_numberAt t_readJunctions t_readCuts t_readOne t_readOther t_readHard t_readBoats t_readAt t_readPull t_readWears i_t_at i_t_from i_t_pull t_undos t_past t_given t_bestGiven t_seen t_seenOf t_seenBehind t_seenAt t_way t_brings t_booked t_bookOf t_bookAt t_images t_isKept) s.heap.size q := fun q h => Or.inr h
  have hS : va_S (va_A (wd_tRef cI cZ a_t t_junctions t_cuts t_cutOne t_cutOther t_cutHard t_hard t_boats t_wears t_quays t_now t_seed t_text t_texted t_faultPlace t_at0 t_number t_numberAt t_readJunctions t_readCuts t_readOne t_readOther t_readHard t_readBoats t_readAt t_readPull t_readWears i_t_at i_t_from i_t_pull t_undos t_past t_given t_bestGiven t_seen t_seenOf t_seenBehind t_seenAt t_way t_brings t_booked t_bookOf t_bookAt t_images t_isKept) s.heap.size) s.heap s.heap [] := va_S.rf
  have hin12 : ∀ w ∈ u_ws RX12 TX12 44, w ∈ wsX12_sitting := fun w h => List.mem_cons_of_mem _ (List.mem_append_right _ h)
  have hl := lv_entry ([.ref (a_t 0)]) (n := 3) (Nat.le_of_ble_eq_true rfl)
  rw [lg_entry_eq]
  generalize (lg_sl ([.ref (a_t 0)]) ++ List.replicate (3 - (lg_sl ([.ref (a_t 0)])).length) Slot.unset).toArray = ls at hl ⊢
  have hl : lv_has ls 3 [(0, .ref (a_t 0))] := hl
  have L4 : ∀ (n4 : Nat) (x1 : Int32) (x2 : Int32) (t_at : Int32) (t_from : Int32) (t_pull : Int32) (H : Heap) (locs : List Loc) (ls : Array Slot), va_P (dC, dI) vwCl (wd_tRef cI cZ a_t t_junctions t_cuts t_cutOne t_cutOther t_cutHard t_hard t_boats t_wears t_quays t_now t_seed t_text t_texted t_faultPlace t_at0 t_number t_numberAt t_readJunctions t_readCuts t_readOne t_readOther t_readHard t_readBoats t_readAt t_readPull t_readWears t_at t_from t_pull t_undos t_past t_given t_bestGiven t_seen t_seenOf t_seenBehind t_seenAt t_way t_brings t_booked t_bookOf t_bookAt t_images t_isKept) H → va_D (va_A (wd_tRef cI cZ a_t t_junctions t_cuts t_cutOne t_cutOther t_cutHard t_hard t_boats t_wears t_quays t_now t_seed t_text t_texted t_faultPlace t_at0 t_number t_numberAt t_readJunctions t_readCuts t_readOne t_readOther t_readHard t_readBoats t_readAt t_readPull t_readWears i_t_at i_t_from i_t_pull t_undos t_past t_given t_bestGiven t_seen t_seenOf t_seenBehind t_seenAt t_way t_brings t_booked t_bookOf t_bookAt t_images t_isKept) s.heap.size) (wd_tRef cI cZ a_t t_junctions t_cuts t_cutOne t_cutOther t_cutHard t_hard t_boats t_wears t_quays t_now t_seed t_text t_texted t_faultPlace t_at0 t_number t_numberAt t_readJunctions t_readCuts t_readOne t_readOther t_readHard t_readBoats t_readAt t_readPull t_readWears t_at t_from t_pull t_undos t_past t_given t_bestGiven t_seen t_seenOf t_seenBehind t_seenAt t_way t_brings t_booked t_bookOf t_bookAt t_images t_isKept) → va_S (va_A (wd_tRef cI cZ a_t t_junctions t_cuts t_cutOne t_cutOther t_cutHard t_hard t_boats t_wears t_quays t_now t_seed t_text t_texted t_faultPlace t_at0 t_number t_numberAt t_readJunctions t_readCuts t_readOne t_readOther t_readHard t_readBoats t_readAt t_readPull t_readWears i_t_at i_t_from i_t_pull t_undos t_past t_given t_bestGiven t_seen t_seenOf t_seenBehind t_seenAt t_way t_brings t_booked t_bookOf t_bookAt t_images t_isKept) s.heap.size) s.heap H locs → lv_has ls 3 [(0, .ref (a_t 0)), (1, .int x1), (2, .int x2)] → m_Ref_sitting_L4  n4 x1 x2 t_junctions t_hard t_boats t_now t_at t_from t_pull = some (r0, o_t_at, o_t_from, o_t_pull) → W p l e (headSpec wsX12_sitting ({ frames := 1, cells := 0, slots := 0, locals := 24 })).room s m ([.ref (a_t 0)] : List Value).toArray below meth c H locs 0 0 (MQ below (cQi (dC, dI) (wd_tRef cI cZ a_t t_junctions t_cuts t_cutOne t_cutOther t_cutHard t_hard t_boats t_wears t_quays t_now t_seed t_text t_texted t_faultPlace t_at0 t_number t_numberAt t_readJunctions t_readCuts t_readOne t_readOther t_readHard t_readBoats t_readAt t_readPull t_readWears i_t_at i_t_from i_t_pull t_undos t_past t_given t_bestGiven t_seen t_seenOf t_seenBehind t_seenAt t_way t_brings t_booked t_bookOf t_bookAt t_images t_isKept) (wd_tRef cI cZ a_t t_junctions t_cuts t_cutOne t_cutOther t_cutHard t_hard t_boats t_wears t_quays t_now t_seed t_text t_texted t_faultPlace t_at0 t_number t_numberAt t_readJunctions t_readCuts t_readOne t_readOther t_readHard t_readBoats t_readAt t_readPull t_readWears o_t_at o_t_from o_t_pull t_undos t_past t_given t_bestGiven t_seen t_seenOf t_seenBehind t_seenAt t_way t_brings t_booked t_bookOf t_bookAt t_images t_isKept) s.heap.size r0) ([.ref (a_t 0)] : List Value).toArray s 0 0 (va_A (wd_tRef cI cZ a_t t_junctions t_cuts t_cutOne t_cutOther t_cutHard t_hard t_boats t_wears t_quays t_now t_seed t_text t_texted t_faultPlace t_at0 t_number t_numberAt t_readJunctions t_readCuts t_readOne t_readOther t_readHard t_readBoats t_readAt t_readPull t_readWears i_t_at i_t_from i_t_pull t_undos t_past t_given t_bestGiven t_seen t_seenOf t_seenBehind t_seenAt t_way t_brings t_booked t_bookOf t_bookAt t_images t_isKept) s.heap.size)) (F0 m 4 ls []) := by
    intro n4
    induction n4 with
    | zero => intro x1 x2 t_at t_from t_pull H locs ls hP hD hS hl h; have h : none = some (r0, o_t_at, o_t_from, o_t_pull) := h; cases h
    | succ n4 ih4 =>
      intro x1 x2 t_at t_from t_pull H locs ls hP hD hS hl h
      have h : m_Ref_sitting_B4  (m_Ref_sitting_L4  n4) x1 x2 t_junctions t_hard t_boats t_now t_at t_from t_pull = some (r0, o_t_at, o_t_from, o_t_pull) := h
      have J32 : ∀ (x2 : Int32) (k_0 : Int32) (k_1 : Int32) (t_at : Int32) (t_from : Int32) (t_pull : Int32) (H : Heap) (locs : List Loc) (ls : Array Slot), va_P (dC, dI) vwCl (wd_tRef cI cZ a_t t_junctions t_cuts t_cutOne t_cutOther t_cutHard t_hard t_boats t_wears t_quays t_now t_seed t_text t_texted t_faultPlace t_at0 t_number t_numberAt t_readJunctions t_readCuts t_readOne t_readOther t_readHard t_readBoats t_readAt t_readPull t_readWears t_at t_from t_pull t_undos t_past t_given t_bestGiven t_seen t_seenOf t_seenBehind t_seenAt t_way t_brings t_booked t_bookOf t_bookAt t_images t_isKept) H → va_D (va_A (wd_tRef cI cZ a_t t_junctions t_cuts t_cutOne t_cutOther t_cutHard t_hard t_boats t_wears t_quays t_now t_seed t_text t_texted t_faultPlace t_at0 t_number t_numberAt t_readJunctions t_readCuts t_readOne t_readOther t_readHard t_readBoats t_readAt t_readPull t_readWears i_t_at i_t_from i_t_pull t_undos t_past t_given t_bestGiven t_seen t_seenOf t_seenBehind t_seenAt t_way t_brings t_booked t_bookOf t_bookAt t_images t_isKept) s.heap.size) (wd_tRef cI cZ a_t t_junctions t_cuts t_cutOne t_cutOther t_cutHard t_hard t_boats t_wears t_quays t_now t_seed t_text t_texted t_faultPlace t_at0 t_number t_numberAt t_readJunctions t_readCuts t_readOne t_readOther t_readHard t_readBoats t_readAt t_readPull t_readWears t_at t_from t_pull t_undos t_past t_given t_bestGiven t_seen t_seenOf t_seenBehind t_seenAt t_way t_brings t_booked t_bookOf t_bookAt t_images t_isKept) → va_S (va_A (wd_tRef cI cZ a_t t_junctions t_cuts t_cutOne t_cutOther t_cutHard t_hard t_boats t_wears t_quays t_now t_seed t_text t_texted t_faultPlace t_at0 t_number t_numberAt t_readJunctions t_readCuts t_readOne t_readOther t_readHard t_readBoats t_readAt t_readPull t_readWears i_t_at i_t_from i_t_pull t_undos t_past t_given t_bestGiven t_seen t_seenOf t_seenBehind t_seenAt t_way t_brings t_booked t_bookOf t_bookAt t_images t_isKept) s.heap.size) s.heap H locs → lv_has ls 3 [(0, .ref (a_t 0)), (2, .int x2)] → m_Ref_sitting_B32 (m_Ref_sitting_L4  n4) x2 k_0 k_1 t_junctions t_hard t_boats t_now t_at t_from t_pull = some (r0, o_t_at, o_t_from, o_t_pull) → W p l e (headSpec wsX12_sitting ({ frames := 1, cells := 0, slots := 0, locals := 24 })).room s m ([.ref (a_t 0)] : List Value).toArray below meth c H locs 0 0 (MQ below (cQi (dC, dI) (wd_tRef cI cZ a_t t_junctions t_cuts t_cutOne t_cutOther t_cutHard t_hard t_boats t_wears t_quays t_now t_seed t_text t_texted t_faultPlace t_at0 t_number t_numberAt t_readJunctions t_readCuts t_readOne t_readOther t_readHard t_readBoats t_readAt t_readPull t_readWears i_t_at i_t_from i_t_pull t_undos t_past t_given t_bestGiven t_seen t_seenOf t_seenBehind t_seenAt t_way t_brings t_booked t_bookOf t_bookAt t_images t_isKept) (wd_tRef cI cZ a_t t_junctions t_cuts t_cutOne t_cutOther t_cutHard t_hard t_boats t_wears t_quays t_now t_seed t_text t_texted t_faultPlace t_at0 t_number t_numberAt t_readJunctions t_readCuts t_readOne t_readOther t_readHard t_readBoats t_readAt t_readPull t_readWears o_t_at o_t_from o_t_pull t_undos t_past t_given t_bestGiven t_seen t_seenOf t_seenBehind t_seenAt t_way t_brings t_booked t_bookOf t_bookAt t_images t_isKept) s.heap.size r0) ([.ref (a_t 0)] : List Value).toArray s 0 0 (va_A (wd_tRef cI cZ a_t t_junctions t_cuts t_cutOne t_cutOther t_cutHard t_hard t_boats t_wears t_quays t_now t_seed t_text t_texted t_faultPlace t_at0 t_number t_numberAt t_readJunctions t_readCuts t_readOne t_readOther t_readHard t_readBoats t_readAt t_readPull t_readWears i_t_at i_t_from i_t_pull t_undos t_past t_given t_bestGiven t_seen t_seenOf t_seenBehind t_seenAt t_way t_brings t_booked t_bookOf t_bookAt t_images t_isKept) s.heap.size)) (F0 m 32 ls [.int k_1, .int k_0]) := by
        intro x2 k_0 k_1 t_at t_from t_pull H locs ls hP hD hS hl h
        unfold m_Ref_sitting_B32 at h
        refine lv_ior hx hb dX12_sitting_32 ?_
        refine lv_istore_n (lv' := [(1, .int (k_0 ||| k_1)), (0, .ref (a_t 0)), (2, .int x2)]) hx hb dX12_sitting_33 rfl hl (by decide) rfl (fun ls hl => ?_)
        refine lv_iinc (v := (x2 + 1)) (lv' := [(2, .int (x2 + 1)), (1, .int (k_0 ||| k_1)), (0, .ref (a_t 0))]) hx hb dX12_sitting_34 hl (k := 2) rfl rfl (by decide) rfl (fun ls hl => ?_)
        refine lv_goto (tgt := 4) hx hb dX12_sitting_37 (by decide) ?_
        exact ih4 (k_0 ||| k_1) (x2 + 1) t_at t_from t_pull _ _ _ hP hD hS (lv_sub hl [2, 1, 0] rfl) h
      unfold m_Ref_sitting_B4 at h
      refine lv_iload_n hx hb dX12_sitting_4 rfl (lv_at hl 2 rfl) ?_
      refine lv_aload_n hx hb dX12_sitting_5 rfl (lv_at hl 0 rfl) ?_
      refine va_get (D := (dC, dI)) (ci := 12) (v := .int t_boats) (C := RX12) (T := TX12) (N := 44) hx hb hts hin12 hown hK hP 0 rfl rfl 6 (by decide) (hts (.fieldLink RX12 100 "TowedBackModel" "boats" "I") (List.mem_of_getElem? (i := 1) rfl)) (fun _ h9 => h9) rfl dX12_sitting_6 ?_
      refine lv_icmp_ge (tgt := 40) hx hb dX12_sitting_9 (by decide) (fun hc => ?_) (fun hc => ?_)
      · have h := k_pos hc h
        refine lv_iload_n hx hb dX12_sitting_40 rfl (lv_at hl 1 rfl) ?_
        obtain ⟨rfl, rfl, rfl, rfl⟩ := k_in4 h
        exact k_ri hx hb hr hlocks hP hS dX12_sitting_41
      · have h := k_neg hc h
        refine lv_aload_n hx hb dX12_sitting_12 rfl (lv_at hl 0 rfl) ?_
        refine lv_iload_n hx hb dX12_sitting_13 rfl (lv_at hl 2 rfl) ?_
        obtain ⟨t_at_1, t_from_1, t_pull_1, hc1, h⟩ := kb3_some h
        refine k_FVv (rest := []) (As := [.int x2]) ⟨hx, hb, hml, hown, hts⟩ (c_Ref_board l dC dI cI cZ a_t t_junctions t_cuts t_cutOne t_cutOther t_cutHard t_hard t_boats t_wears t_quays t_now t_seed t_text t_texted t_faultPlace t_at0 t_number t_numberAt t_readJunctions t_readCuts t_readOne t_readOther t_readHard t_readBoats t_readAt t_readPull t_readWears t_at t_from t_pull t_undos t_past t_given t_bestGiven t_seen t_seenOf t_seenBehind t_seenAt t_way t_brings t_booked t_bookOf t_bookAt t_images t_isKept x2 t_at_1 t_from_1 t_pull_1 hc1) (cwV 1 hts gX12_sitting_X12_board rfl rfl rfl hd_12_board ⟨Nat.le_of_ble_eq_true rfl, Nat.le_of_ble_eq_true rfl⟩) hK hP hD hS hA 0 12 rfl rfl rfl (wd_tRef_f.trans wd_tRef_f.symm) rfl hl.1 rfl (Nat.le_of_ble_eq_true rfl) dX12_sitting_14 ⟨Nat.zero_le _, Nat.zero_le _⟩ (fun H locs hP hD hS => ?_)
        refine lv_iload_n hx hb dX12_sitting_17 rfl (lv_at hl 1 rfl) ?_
        refine lv_aload_n hx hb dX12_sitting_18 rfl (lv_at hl 0 rfl) ?_
        obtain ⟨r2, hc2, h⟩ := kb1_some h
        refine k_FVi (rest := [.int x1]) (As := []) ⟨hx, hb, hml, hown, hts⟩ (c_Ref_goesTo l dC dI cI cZ a_t t_junctions t_cuts t_cutOne t_cutOther t_cutHard t_hard t_boats t_wears t_quays t_now t_seed t_text t_texted t_faultPlace t_at0 t_number t_numberAt t_readJunctions t_readCuts t_readOne t_readOther t_readHard t_readBoats t_readAt t_readPull t_readWears t_at_1 t_from_1 t_pull_1 t_undos t_past t_given t_bestGiven t_seen t_seenOf t_seenBehind t_seenAt t_way t_brings t_booked t_bookOf t_bookAt t_images t_isKept r2 hc2) (cwV 0 hts gX12_sitting_X12_goesTo rfl rfl rfl hd_12_goesTo ⟨Nat.le_of_ble_eq_true rfl, Nat.le_of_ble_eq_true rfl⟩) hK hP hD hS hA 0 12 rfl rfl rfl (wd_tRef_f.trans wd_tRef_f.symm) rfl hl.1 rfl (Nat.le_of_ble_eq_true rfl) dX12_sitting_19 ⟨Nat.zero_le _, Nat.zero_le _⟩ (fun H locs hP hD hS => ?_)
        refine lv_if_ge (tgt := 31) hx hb dX12_sitting_22 (by decide) (fun hc => ?_) (fun hc => ?_)
        · have h := k_pos hc h
          refine lv_iconst (v := 0) hx hb dX12_sitting_31 (by decide) ?_
          exact J32 x2 x1 0 t_at_1 t_from_1 t_pull_1 _ _ _ hP hD hS (lv_sub hl [0, 2] rfl) h
        · have h := k_neg hc h
          refine lv_iconst (v := 1) hx hb dX12_sitting_25 (by decide) ?_
          refine lv_iload_n hx hb dX12_sitting_26 rfl (lv_at hl 2 rfl) ?_
          refine lv_ishl hx hb dX12_sitting_27 ?_
          refine lv_goto (tgt := 32) hx hb dX12_sitting_28 (by decide) ?_
          exact J32 x2 x1 (1 <<< (x2 &&& 31)) t_at_1 t_from_1 t_pull_1 _ _ _ hP hD hS (lv_sub hl [0, 2] rfl) h
  unfold m_Ref_sitting at h
  refine lv_iconst (v := 0) hx hb dX12_sitting_0 (by decide) ?_
  refine lv_istore_n (lv' := [(1, .int 0), (0, .ref (a_t 0))]) hx hb dX12_sitting_1 rfl hl (by decide) rfl (fun ls hl => ?_)
  refine lv_iconst (v := 0) hx hb dX12_sitting_2 (by decide) ?_
  refine lv_istore_n (lv' := [(2, .int 0), (1, .int 0), (0, .ref (a_t 0))]) hx hb dX12_sitting_3 rfl hl (by decide) rfl (fun ls hl => ?_)
  exact L4 FU 0 0 i_t_at i_t_from i_t_pull _ _ _ hP hD hS (lv_sub hl [2, 1, 0] rfl) h
set_option maxHeartbeats 4000000 in
set_option maxRecDepth 100000 in
theorem c_Ref_taken (l : Launch) (dC : Nat → ClassId) (dI : Nat → Nat → Nat) (cI cZ : ClassId) (a_t : Nat → Nat) (t_junctions : Int32) (t_cuts : Int32) (t_cutOne : Nat → Int32) (t_cutOther : Nat → Int32) (t_cutHard : Nat → Int32) (t_hard : Nat → Int32) (t_boats : Int32) (t_wears : Nat → Int32) (t_quays : Nat → Int32) (t_now : Nat → Int32) (t_seed : Int32) (t_text : Nat → Int32) (t_texted : Int32) (t_faultPlace : Int32) (t_at0 : Int32) (t_number : Int32) (t_numberAt : Int32) (t_readJunctions : Int32) (t_readCuts : Int32) (t_readOne : Nat → Int32) (t_readOther : Nat → Int32) (t_readHard : Nat → Int32) (t_readBoats : Int32) (t_readAt : Nat → Int32) (t_readPull : Nat → Int32) (t_readWears : Nat → Int32) (t_at : Int32) (t_from : Int32) (t_pull : Int32) (t_undos : Int32) (t_past : Nat → Int32) (t_given : Nat → Int32) (t_bestGiven : Nat → Int32) (t_seen : Int32) (t_seenOf : Nat → Int32) (t_seenBehind : Nat → Int32) (t_seenAt : Nat → Int32) (t_way : Nat → Int32) (t_brings : Nat → Int32) (t_booked : Int32) (t_bookOf : Nat → Int32) (t_bookAt : Nat → Int32) (t_images : Nat → Int32) (t_isKept : Nat → Int32)  (r0 : Int32) (h : m_Ref_taken t_boats t_now = some r0) : (MI l yX12_taken wsX12_taken ({ frames := 0, cells := 0, slots := 0, locals := 0 }) (dC, dI) [(cI, .int), (cZ, .boolean)] (wd_tRef cI cZ a_t t_junctions t_cuts t_cutOne t_cutOther t_cutHard t_hard t_boats t_wears t_quays t_now t_seed t_text t_texted t_faultPlace t_at0 t_number t_numberAt t_readJunctions t_readCuts t_readOne t_readOther t_readHard t_readBoats t_readAt t_readPull t_readWears t_at t_from t_pull t_undos t_past t_given t_bestGiven t_seen t_seenOf t_seenBehind t_seenAt t_way t_brings t_booked t_bookOf t_bookAt t_images t_isKept) (wd_tRef cI cZ a_t t_junctions t_cuts t_cutOne t_cutOther t_cutHard t_hard t_boats t_wears t_quays t_now t_seed t_text t_texted t_faultPlace t_at0 t_number t_numberAt t_readJunctions t_readCuts t_readOne t_readOther t_readHard t_readBoats t_readAt t_readPull t_readWears t_at t_from t_pull t_undos t_past t_given t_bestGiven t_seen t_seenOf t_seenBehind t_seenAt t_way t_brings t_booked t_bookOf t_bookAt t_images t_isKept) [.ref (a_t 0)] r0) := by
  intro sz
  refine Met.ofW (cc := cX12_taken) (maxL := 3) (ret := (some .int)) (by decide) rfl ?_
  intro p e s m args below meth c s₁ B hml hv
  obtain ⟨rfl, hsz, hP, hK, hD0⟩ := hv
  have hx := B.exec
  have hb := B.bytes
  have hr := B.returns
  have hts := atoms_spec (ws := wsX12_taken) B.pre
  have hown : s.vm.findClass RX12 = some m.cls := findClass_of_methodNamed B.named
  have hlocks := B.notSynchronized
  subst hsz
  have hD := hD0.self (sz := s.heap.size)
  have hA : ∀ q : Nat, s.heap.size ≤ q → va_A (wd_tRef cI cZ a_t t_junctions t_cuts t_cutOne t_cutOther t_cutHard t_hard t_boats t_wears t_quays t_now t_seed t_text t_texted t_faultPlace t_at0 t_number t_numberAt t_readJunctions t_readCuts t_readOne t_readOther t_readHard t_readBoats t_readAt t_readPull t_readWears t_at t_from t_pull t_undos t_past t_given t_bestGiven t_seen t_seenOf t_seenBehind t_seenAt t_way t_brings t_booked t_bookOf t_bookAt t_images t_isKept) s.heap.size q := fun q h => Or.inr h
  have hS : va_S (va_A (wd_tRef cI cZ a_t t_junctions t_cuts t_cutOne t_cutOther t_cutHard t_hard t_boats t_wears t_quays t_now t_seed t_text t_texted t_faultPlace t_at0 t_number t_numberAt t_readJunctions t_readCuts t_readOne t_readOther t_readHard t_readBoats t_readAt t_readPull t_readWears t_at t_from t_pull t_undos t_past t_given t_bestGiven t_seen t_seenOf t_seenBehind t_seenAt t_way t_brings t_booked t_bookOf t_bookAt t_images t_isKept) s.heap.size) s.heap s.heap [] := va_S.rf
  have hin12 : ∀ w ∈ u_ws RX12 TX12 44, w ∈ wsX12_taken := fun w h => List.mem_cons_of_mem _ (List.mem_append_right _ h)
  have hl := lv_entry ([.ref (a_t 0)]) (n := 3) (Nat.le_of_ble_eq_true rfl)
  rw [lg_entry_eq]
  generalize (lg_sl ([.ref (a_t 0)]) ++ List.replicate (3 - (lg_sl ([.ref (a_t 0)])).length) Slot.unset).toArray = ls at hl ⊢
  have hl : lv_has ls 3 [(0, .ref (a_t 0))] := hl
  have L4 : ∀ (n4 : Nat) (x1 : Int32) (x2 : Int32)  (H : Heap) (locs : List Loc) (ls : Array Slot), va_P (dC, dI) vwCl (wd_tRef cI cZ a_t t_junctions t_cuts t_cutOne t_cutOther t_cutHard t_hard t_boats t_wears t_quays t_now t_seed t_text t_texted t_faultPlace t_at0 t_number t_numberAt t_readJunctions t_readCuts t_readOne t_readOther t_readHard t_readBoats t_readAt t_readPull t_readWears t_at t_from t_pull t_undos t_past t_given t_bestGiven t_seen t_seenOf t_seenBehind t_seenAt t_way t_brings t_booked t_bookOf t_bookAt t_images t_isKept) H → va_D (va_A (wd_tRef cI cZ a_t t_junctions t_cuts t_cutOne t_cutOther t_cutHard t_hard t_boats t_wears t_quays t_now t_seed t_text t_texted t_faultPlace t_at0 t_number t_numberAt t_readJunctions t_readCuts t_readOne t_readOther t_readHard t_readBoats t_readAt t_readPull t_readWears t_at t_from t_pull t_undos t_past t_given t_bestGiven t_seen t_seenOf t_seenBehind t_seenAt t_way t_brings t_booked t_bookOf t_bookAt t_images t_isKept) s.heap.size) (wd_tRef cI cZ a_t t_junctions t_cuts t_cutOne t_cutOther t_cutHard t_hard t_boats t_wears t_quays t_now t_seed t_text t_texted t_faultPlace t_at0 t_number t_numberAt t_readJunctions t_readCuts t_readOne t_readOther t_readHard t_readBoats t_readAt t_readPull t_readWears t_at t_from t_pull t_undos t_past t_given t_bestGiven t_seen t_seenOf t_seenBehind t_seenAt t_way t_brings t_booked t_bookOf t_bookAt t_images t_isKept) → va_S (va_A (wd_tRef cI cZ a_t t_junctions t_cuts t_cutOne t_cutOther t_cutHard t_hard t_boats t_wears t_quays t_now t_seed t_text t_texted t_faultPlace t_at0 t_number t_numberAt t_readJunctions t_readCuts t_readOne t_readOther t_readHard t_readBoats t_readAt t_readPull t_readWears t_at t_from t_pull t_undos t_past t_given t_bestGiven t_seen t_seenOf t_seenBehind t_seenAt t_way t_brings t_booked t_bookOf t_bookAt t_images t_isKept) s.heap.size) s.heap H locs → lv_has ls 3 [(0, .ref (a_t 0)), (1, .int x1), (2, .int x2)] → m_Ref_taken_L4  n4 x1 x2 t_boats t_now = some r0 → W p l e (headSpec wsX12_taken ({ frames := 0, cells := 0, slots := 0, locals := 0 })).room s m ([.ref (a_t 0)] : List Value).toArray below meth c H locs 0 0 (MQ below (cQi (dC, dI) (wd_tRef cI cZ a_t t_junctions t_cuts t_cutOne t_cutOther t_cutHard t_hard t_boats t_wears t_quays t_now t_seed t_text t_texted t_faultPlace t_at0 t_number t_numberAt t_readJunctions t_readCuts t_readOne t_readOther t_readHard t_readBoats t_readAt t_readPull t_readWears t_at t_from t_pull t_undos t_past t_given t_bestGiven t_seen t_seenOf t_seenBehind t_seenAt t_way t_brings t_booked t_bookOf t_bookAt t_images t_isKept) (wd_tRef cI cZ a_t t_junctions t_cuts t_cutOne t_cutOther t_cutHard t_hard t_boats t_wears t_quays t_now t_seed t_text t_texted t_faultPlace t_at0 t_number t_numberAt t_readJunctions t_readCuts t_readOne t_readOther t_readHard t_readBoats t_readAt t_readPull t_readWears t_at t_from t_pull t_undos t_past t_given t_bestGiven t_seen t_seenOf t_seenBehind t_seenAt t_way t_brings t_booked t_bookOf t_bookAt t_images t_isKept) s.heap.size r0) ([.ref (a_t 0)] : List Value).toArray s 0 0 (va_A (wd_tRef cI cZ a_t t_junctions t_cuts t_cutOne t_cutOther t_cutHard t_hard t_boats t_wears t_quays t_now t_seed t_text t_texted t_faultPlace t_at0 t_number t_numberAt t_readJunctions t_readCuts t_readOne t_readOther t_readHard t_readBoats t_readAt t_readPull t_readWears t_at t_from t_pull t_undos t_past t_given t_bestGiven t_seen t_seenOf t_seenBehind t_seenAt t_way t_brings t_booked t_bookOf t_bookAt t_images t_isKept) s.heap.size)) (F0 m 4 ls []) := by
    intro n4
    induction n4 with
    | zero => intro x1 x2 H locs ls hP hD hS hl h; have h : none = some r0 := h; cases h
    | succ n4 ih4 =>
      intro x1 x2 H locs ls hP hD hS hl h
      have h : m_Ref_taken_B4  (m_Ref_taken_L4  n4) x1 x2 t_boats t_now = some r0 := h
      unfold m_Ref_taken_B4 at h
      refine lv_iload_n hx hb dX12_taken_4 rfl (lv_at hl 2 rfl) ?_
      refine lv_aload_n hx hb dX12_taken_5 rfl (lv_at hl 0 rfl) ?_
      refine va_get (D := (dC, dI)) (ci := 12) (v := .int t_boats) (C := RX12) (T := TX12) (N := 44) hx hb hts hin12 hown hK hP 0 rfl rfl 6 (by decide) (hts (.fieldLink RX12 100 "TowedBackModel" "boats" "I") (List.mem_of_getElem? (i := 1) rfl)) (fun _ h9 => h9) rfl dX12_taken_6 ?_
      refine lv_icmp_ge (tgt := 29) hx hb dX12_taken_9 (by decide) (fun hc => ?_) (fun hc => ?_)
      · have h := k_pos hc h
        refine lv_iload_n hx hb dX12_taken_29 rfl (lv_at hl 1 rfl) ?_
        obtain rfl := k_in1 h
        exact k_ri hx hb hr hlocks hP hS dX12_taken_30
      · have h := k_neg hc h
        refine lv_iload_n hx hb dX12_taken_12 rfl (lv_at hl 1 rfl) ?_
        refine lv_iconst (v := 1) hx hb dX12_taken_13 (by decide) ?_
        refine lv_aload_n hx hb dX12_taken_14 rfl (lv_at hl 0 rfl) ?_
        refine va_get (D := (dC, dI)) (ci := 12) (v := .ref (a_t 7)) (C := RX12) (T := TX12) (N := 44) hx hb hts hin12 hown hK hP 0 rfl rfl 9 (by decide) (hts (.fieldLink RX12 28 "TowedBackModel" "now" "[I") (List.mem_of_getElem? (i := 2) rfl)) (fun _ h9 => h9) rfl dX12_taken_15 ?_
        refine lv_iload_n hx hb dX12_taken_18 rfl (lv_at hl 2 rfl) ?_
        obtain ⟨hi1, h⟩ := kg_some h
        refine va_iald hx hb hK hP 7 0 rfl rfl hi1 dX12_taken_19 ?_
        refine lv_ishl hx hb dX12_taken_20 ?_
        refine lv_ior hx hb dX12_taken_21 ?_
        refine lv_istore_n (lv' := [(1, .int (x1 ||| (1 <<< ((t_now x2.toNatClampNeg) &&& 31)))), (0, .ref (a_t 0)), (2, .int x2)]) hx hb dX12_taken_22 rfl hl (by decide) rfl (fun ls hl => ?_)
        refine lv_iinc (v := (x2 + 1)) (lv' := [(2, .int (x2 + 1)), (1, .int (x1 ||| (1 <<< ((t_now x2.toNatClampNeg) &&& 31)))), (0, .ref (a_t 0))]) hx hb dX12_taken_23 hl (k := 2) rfl rfl (by decide) rfl (fun ls hl => ?_)
        refine lv_goto (tgt := 4) hx hb dX12_taken_26 (by decide) ?_
        exact ih4 (x1 ||| (1 <<< ((t_now x2.toNatClampNeg) &&& 31))) (x2 + 1) _ _ _ hP hD hS (lv_sub hl [2, 1, 0] rfl) h
  unfold m_Ref_taken at h
  refine lv_iconst (v := 0) hx hb dX12_taken_0 (by decide) ?_
  refine lv_istore_n (lv' := [(1, .int 0), (0, .ref (a_t 0))]) hx hb dX12_taken_1 rfl hl (by decide) rfl (fun ls hl => ?_)
  refine lv_iconst (v := 0) hx hb dX12_taken_2 (by decide) ?_
  refine lv_istore_n (lv' := [(2, .int 0), (1, .int 0), (0, .ref (a_t 0))]) hx hb dX12_taken_3 rfl hl (by decide) rfl (fun ls hl => ?_)
  exact L4 FU 0 0 _ _ _ hP hD hS (lv_sub hl [2, 1, 0] rfl) h
set_option maxHeartbeats 4000000 in
set_option maxRecDepth 100000 in
theorem c_Ref_told (l : Launch) (dC : Nat → ClassId) (dI : Nat → Nat → Nat) (cI cZ : ClassId) (a_t : Nat → Nat) (t_junctions : Int32) (t_cuts : Int32) (t_cutOne : Nat → Int32) (t_cutOther : Nat → Int32) (t_cutHard : Nat → Int32) (t_hard : Nat → Int32) (t_boats : Int32) (t_wears : Nat → Int32) (t_quays : Nat → Int32) (t_now : Nat → Int32) (t_seed : Int32) (t_text : Nat → Int32) (t_texted : Int32) (t_faultPlace : Int32) (t_at0 : Int32) (t_number : Int32) (t_numberAt : Int32) (t_readJunctions : Int32) (t_readCuts : Int32) (t_readOne : Nat → Int32) (t_readOther : Nat → Int32) (t_readHard : Nat → Int32) (t_readBoats : Int32) (t_readAt : Nat → Int32) (t_readPull : Nat → Int32) (t_readWears : Nat → Int32) (i_t_at : Int32) (i_t_from : Int32) (i_t_pull : Int32) (t_undos : Int32) (t_past : Nat → Int32) (t_given : Nat → Int32) (t_bestGiven : Nat → Int32) (t_seen : Int32) (t_seenOf : Nat → Int32) (t_seenBehind : Nat → Int32) (t_seenAt : Nat → Int32) (t_way : Nat → Int32) (t_brings : Nat → Int32) (t_booked : Int32) (t_bookOf : Nat → Int32) (t_bookAt : Nat → Int32) (t_images : Nat → Int32) (t_isKept : Nat → Int32) (y1 : Int32) (r0 : Int32) (o_t_at : Int32) (o_t_from : Int32) (o_t_pull : Int32) (h : m_Ref_told y1 t_junctions t_cuts t_hard t_boats t_now t_texted i_t_at i_t_from i_t_pull t_undos t_seen t_booked = some (r0, o_t_at, o_t_from, o_t_pull)) : (MI l yX12_told wsX12_told ({ frames := 2, cells := 0, slots := 0, locals := 46 }) (dC, dI) [(cI, .int), (cZ, .boolean)] (wd_tRef cI cZ a_t t_junctions t_cuts t_cutOne t_cutOther t_cutHard t_hard t_boats t_wears t_quays t_now t_seed t_text t_texted t_faultPlace t_at0 t_number t_numberAt t_readJunctions t_readCuts t_readOne t_readOther t_readHard t_readBoats t_readAt t_readPull t_readWears i_t_at i_t_from i_t_pull t_undos t_past t_given t_bestGiven t_seen t_seenOf t_seenBehind t_seenAt t_way t_brings t_booked t_bookOf t_bookAt t_images t_isKept) (wd_tRef cI cZ a_t t_junctions t_cuts t_cutOne t_cutOther t_cutHard t_hard t_boats t_wears t_quays t_now t_seed t_text t_texted t_faultPlace t_at0 t_number t_numberAt t_readJunctions t_readCuts t_readOne t_readOther t_readHard t_readBoats t_readAt t_readPull t_readWears o_t_at o_t_from o_t_pull t_undos t_past t_given t_bestGiven t_seen t_seenOf t_seenBehind t_seenAt t_way t_brings t_booked t_bookOf t_bookAt t_images t_isKept) [.ref (a_t 0), .int y1] r0) := by
  intro sz
  refine Met.ofW (cc := cX12_told) (maxL := 2) (ret := (some .int)) (by decide) rfl ?_
  intro p e s m args below meth c s₁ B hml hv
  obtain ⟨rfl, hsz, hP, hK, hD0⟩ := hv
  have hx := B.exec
  have hb := B.bytes
  have hr := B.returns
  have hts := atoms_spec (ws := wsX12_told) B.pre
  have hown : s.vm.findClass RX12 = some m.cls := findClass_of_methodNamed B.named
  have hlocks := B.notSynchronized
  subst hsz
  have hD := hD0.self (sz := s.heap.size)
  have hA : ∀ q : Nat, s.heap.size ≤ q → va_A (wd_tRef cI cZ a_t t_junctions t_cuts t_cutOne t_cutOther t_cutHard t_hard t_boats t_wears t_quays t_now t_seed t_text t_texted t_faultPlace t_at0 t_number t_numberAt t_readJunctions t_readCuts t_readOne t_readOther t_readHard t_readBoats t_readAt t_readPull t_readWears i_t_at i_t_from i_t_pull t_undos t_past t_given t_bestGiven t_seen t_seenOf t_seenBehind t_seenAt t_way t_brings t_booked t_bookOf t_bookAt t_images t_isKept) s.heap.size q := fun q h => Or.inr h
  have hS : va_S (va_A (wd_tRef cI cZ a_t t_junctions t_cuts t_cutOne t_cutOther t_cutHard t_hard t_boats t_wears t_quays t_now t_seed t_text t_texted t_faultPlace t_at0 t_number t_numberAt t_readJunctions t_readCuts t_readOne t_readOther t_readHard t_readBoats t_readAt t_readPull t_readWears i_t_at i_t_from i_t_pull t_undos t_past t_given t_bestGiven t_seen t_seenOf t_seenBehind t_seenAt t_way t_brings t_booked t_bookOf t_bookAt t_images t_isKept) s.heap.size) s.heap s.heap [] := va_S.rf
  have hin12 : ∀ w ∈ u_ws RX12 TX12 44, w ∈ wsX12_told := fun w h => List.mem_cons_of_mem _ (List.mem_append_right _ h)
  have hl := lv_entry ([.ref (a_t 0), .int y1]) (n := 2) (Nat.le_of_ble_eq_true rfl)
  rw [lg_entry_eq]
  generalize (lg_sl ([.ref (a_t 0), .int y1]) ++ List.replicate (2 - (lg_sl ([.ref (a_t 0), .int y1])).length) Slot.unset).toArray = ls at hl ⊢
  have hl : lv_has ls 2 [(0, .ref (a_t 0)), (1, .int y1)] := hl
  unfold m_Ref_told at h
  refine lv_iload_n hx hb dX12_told_0 rfl (lv_at hl 1 rfl) ?_
  by_cases hc0 : y1 = 0
  · have h := k_pos hc0 h
    refine lv_tableIn (off := 55) (tgt := 56) hx hb dX12_told_1 (by rw [hc0]; decide) (by rw [hc0]; decide) (by rw [hc0]; decide) (by decide) ?_
    refine lv_aload_n hx hb dX12_told_56 rfl (lv_at hl 0 rfl) ?_
    refine va_get (D := (dC, dI)) (ci := 12) (v := .int t_junctions) (C := RX12) (T := TX12) (N := 44) hx hb hts hin12 hown hK hP 0 rfl rfl 0 (by decide) (hts (.fieldLink RX12 93 "TowedBackModel" "junctions" "I") (List.mem_of_getElem? (i := 1) rfl)) (fun _ h9 => h9) rfl dX12_told_57 ?_
    obtain ⟨rfl, rfl, rfl, rfl⟩ := k_in4 h
    exact k_ri hx hb hr hlocks hP hS dX12_told_60
  have h := k_neg hc0 h
  by_cases hc1 : y1 = 1
  · have h := k_pos hc1 h
    refine lv_tableIn (off := 60) (tgt := 61) hx hb dX12_told_1 (by rw [hc1]; decide) (by rw [hc1]; decide) (by rw [hc1]; decide) (by decide) ?_
    refine lv_aload_n hx hb dX12_told_61 rfl (lv_at hl 0 rfl) ?_
    refine va_get (D := (dC, dI)) (ci := 12) (v := .int t_cuts) (C := RX12) (T := TX12) (N := 44) hx hb hts hin12 hown hK hP 0 rfl rfl 1 (by decide) (hts (.fieldLink RX12 160 "TowedBackModel" "cuts" "I") (List.mem_of_getElem? (i := 2) rfl)) (fun _ h9 => h9) rfl dX12_told_62 ?_
    obtain ⟨rfl, rfl, rfl, rfl⟩ := k_in4 h
    exact k_ri hx hb hr hlocks hP hS dX12_told_65
  have h := k_neg hc1 h
  by_cases hc2 : y1 = 2
  · have h := k_pos hc2 h
    refine lv_tableIn (off := 65) (tgt := 66) hx hb dX12_told_1 (by rw [hc2]; decide) (by rw [hc2]; decide) (by rw [hc2]; decide) (by decide) ?_
    refine lv_aload_n hx hb dX12_told_66 rfl (lv_at hl 0 rfl) ?_
    refine va_get (D := (dC, dI)) (ci := 12) (v := .int t_boats) (C := RX12) (T := TX12) (N := 44) hx hb hts hin12 hown hK hP 0 rfl rfl 6 (by decide) (hts (.fieldLink RX12 100 "TowedBackModel" "boats" "I") (List.mem_of_getElem? (i := 3) rfl)) (fun _ h9 => h9) rfl dX12_told_67 ?_
    obtain ⟨rfl, rfl, rfl, rfl⟩ := k_in4 h
    exact k_ri hx hb hr hlocks hP hS dX12_told_70
  have h := k_neg hc2 h
  by_cases hc3 : y1 = 3
  · have h := k_pos hc3 h
    refine lv_tableIn (off := 70) (tgt := 71) hx hb dX12_told_1 (by rw [hc3]; decide) (by rw [hc3]; decide) (by rw [hc3]; decide) (by decide) ?_
    refine lv_aload_n hx hb dX12_told_71 rfl (lv_at hl 0 rfl) ?_
    refine va_get (D := (dC, dI)) (ci := 12) (v := .int t_texted) (C := RX12) (T := TX12) (N := 44) hx hb hts hin12 hown hK hP 0 rfl rfl 12 (by decide) (hts (.fieldLink RX12 106 "TowedBackModel" "texted" "I") (List.mem_of_getElem? (i := 4) rfl)) (fun _ h9 => h9) rfl dX12_told_72 ?_
    obtain ⟨rfl, rfl, rfl, rfl⟩ := k_in4 h
    exact k_ri hx hb hr hlocks hP hS dX12_told_75
  have h := k_neg hc3 h
  by_cases hc4 : y1 = 4
  · have h := k_pos hc4 h
    refine lv_tableIn (off := 75) (tgt := 76) hx hb dX12_told_1 (by rw [hc4]; decide) (by rw [hc4]; decide) (by rw [hc4]; decide) (by decide) ?_
    refine lv_aload_n hx hb dX12_told_76 rfl (lv_at hl 0 rfl) ?_
    refine va_get (D := (dC, dI)) (ci := 12) (v := .ref (a_t 7)) (C := RX12) (T := TX12) (N := 44) hx hb hts hin12 hown hK hP 0 rfl rfl 9 (by decide) (hts (.fieldLink RX12 28 "TowedBackModel" "now" "[I") (List.mem_of_getElem? (i := 5) rfl)) (fun _ h9 => h9) rfl dX12_told_77 ?_
    refine lv_bipush (v := 20) hx hb dX12_told_80 (by decide) ?_
    obtain ⟨hi1, h⟩ := kg_some h
    refine va_iald hx hb hK hP 7 0 rfl rfl hi1 dX12_told_82 ?_
    obtain ⟨rfl, rfl, rfl, rfl⟩ := k_in4 h
    exact k_ri hx hb hr hlocks hP hS dX12_told_83
  have h := k_neg hc4 h
  by_cases hc5 : y1 = 5
  · have h := k_pos hc5 h
    refine lv_tableIn (off := 83) (tgt := 84) hx hb dX12_told_1 (by rw [hc5]; decide) (by rw [hc5]; decide) (by rw [hc5]; decide) (by decide) ?_
    refine lv_aload_n hx hb dX12_told_84 rfl (lv_at hl 0 rfl) ?_
    obtain ⟨r2, t_at_2, t_from_2, t_pull_2, hc2, h⟩ := kb4_some h
    refine k_FVi (rest := []) (As := []) ⟨hx, hb, hml, hown, hts⟩ (c_Ref_sitting l dC dI cI cZ a_t t_junctions t_cuts t_cutOne t_cutOther t_cutHard t_hard t_boats t_wears t_quays t_now t_seed t_text t_texted t_faultPlace t_at0 t_number t_numberAt t_readJunctions t_readCuts t_readOne t_readOther t_readHard t_readBoats t_readAt t_readPull t_readWears i_t_at i_t_from i_t_pull t_undos t_past t_given t_bestGiven t_seen t_seenOf t_seenBehind t_seenAt t_way t_brings t_booked t_bookOf t_bookAt t_images t_isKept r2 t_at_2 t_from_2 t_pull_2 hc2) (cwV 0 hts gX12_told_X12_sitting rfl rfl rfl hd_12_sitting ⟨Nat.le_of_ble_eq_true rfl, Nat.le_of_ble_eq_true rfl⟩) hK hP hD hS hA 0 12 rfl rfl rfl (wd_tRef_f.trans wd_tRef_f.symm) rfl hl.1 rfl (Nat.le_of_ble_eq_true rfl) dX12_told_85 ⟨Nat.zero_le _, Nat.zero_le _⟩ (fun H locs hP hD hS => ?_)
    obtain ⟨rfl, rfl, rfl, rfl⟩ := k_in4 h
    exact k_ri hx hb hr hlocks hP hS dX12_told_88
  have h := k_neg hc5 h
  by_cases hc6 : y1 = 6
  · have h := k_pos hc6 h
    refine lv_tableIn (off := 88) (tgt := 89) hx hb dX12_told_1 (by rw [hc6]; decide) (by rw [hc6]; decide) (by rw [hc6]; decide) (by decide) ?_
    refine lv_aload_n hx hb dX12_told_89 rfl (lv_at hl 0 rfl) ?_
    obtain ⟨r3, hc3, h⟩ := kb1_some h
    refine k_FVi (rest := []) (As := []) ⟨hx, hb, hml, hown, hts⟩ (c_Ref_taken l dC dI cI cZ a_t t_junctions t_cuts t_cutOne t_cutOther t_cutHard t_hard t_boats t_wears t_quays t_now t_seed t_text t_texted t_faultPlace t_at0 t_number t_numberAt t_readJunctions t_readCuts t_readOne t_readOther t_readHard t_readBoats t_readAt t_readPull t_readWears i_t_at i_t_from i_t_pull t_undos t_past t_given t_bestGiven t_seen t_seenOf t_seenBehind t_seenAt t_way t_brings t_booked t_bookOf t_bookAt t_images t_isKept r3 hc3) (cwV 0 hts gX12_told_X12_taken rfl rfl rfl hd_12_taken ⟨Nat.le_of_ble_eq_true rfl, Nat.le_of_ble_eq_true rfl⟩) hK hP hD hS hA 0 12 rfl rfl rfl (wd_tRef_f.trans wd_tRef_f.symm) rfl hl.1 rfl (Nat.le_of_ble_eq_true rfl) dX12_told_90 ⟨Nat.zero_le _, Nat.zero_le _⟩ (fun H locs hP hD hS => ?_)
    obtain ⟨rfl, rfl, rfl, rfl⟩ := k_in4 h
    exact k_ri hx hb hr hlocks hP hS dX12_told_93
  have h := k_neg hc6 h
  by_cases hc7 : y1 = 7
  · have h := k_pos hc7 h
    refine lv_tableIn (off := 93) (tgt := 94) hx hb dX12_told_1 (by rw [hc7]; decide) (by rw [hc7]; decide) (by rw [hc7]; decide) (by decide) ?_
    refine lv_aload_n hx hb dX12_told_94 rfl (lv_at hl 0 rfl) ?_
    refine va_get (D := (dC, dI)) (ci := 12) (v := .int t_seen) (C := RX12) (T := TX12) (N := 44) hx hb hts hin12 hown hK hP 0 rfl rfl 33 (by decide) (hts (.fieldLink RX12 169 "TowedBackModel" "seen" "I") (List.mem_of_getElem? (i := 6) rfl)) (fun _ h9 => h9) rfl dX12_told_95 ?_
    obtain ⟨rfl, rfl, rfl, rfl⟩ := k_in4 h
    exact k_ri hx hb hr hlocks hP hS dX12_told_98
  have h := k_neg hc7 h
  by_cases hc8 : y1 = 8
  · have h := k_pos hc8 h
    refine lv_tableIn (off := 98) (tgt := 99) hx hb dX12_told_1 (by rw [hc8]; decide) (by rw [hc8]; decide) (by rw [hc8]; decide) (by decide) ?_
    refine lv_aload_n hx hb dX12_told_99 rfl (lv_at hl 0 rfl) ?_
    refine va_get (D := (dC, dI)) (ci := 12) (v := .int t_booked) (C := RX12) (T := TX12) (N := 44) hx hb hts hin12 hown hK hP 0 rfl rfl 39 (by decide) (hts (.fieldLink RX12 172 "TowedBackModel" "booked" "I") (List.mem_of_getElem? (i := 7) rfl)) (fun _ h9 => h9) rfl dX12_told_100 ?_
    obtain ⟨rfl, rfl, rfl, rfl⟩ := k_in4 h
    exact k_ri hx hb hr hlocks hP hS dX12_told_103
  have h := k_neg hc8 h
  by_cases hc9 : y1 = 9
  · have h := k_pos hc9 h
    refine lv_tableIn (off := 103) (tgt := 104) hx hb dX12_told_1 (by rw [hc9]; decide) (by rw [hc9]; decide) (by rw [hc9]; decide) (by decide) ?_
    refine lv_aload_n hx hb dX12_told_104 rfl (lv_at hl 0 rfl) ?_
    refine va_get (D := (dC, dI)) (ci := 12) (v := .int t_undos) (C := RX12) (T := TX12) (N := 44) hx hb hts hin12 hown hK hP 0 rfl rfl 29 (by decide) (hts (.fieldLink RX12 175 "TowedBackModel" "undos" "I") (List.mem_of_getElem? (i := 8) rfl)) (fun _ h9 => h9) rfl dX12_told_105 ?_
    obtain ⟨rfl, rfl, rfl, rfl⟩ := k_in4 h
    exact k_ri hx hb hr hlocks hP hS dX12_told_108
  have h := k_neg hc9 h
  refine lv_tableOut (tgt := 109) hx hb dX12_told_1 (k_sw9 hc0 hc1 hc2 hc3 hc4 hc5 hc6 hc7 hc8 hc9) (by decide) ?_
  refine lv_ldc (v := (-1000000002)) hx hb hown (hts (.constant RX12 105 (-1000000002)) (List.mem_of_getElem? (i := 9) rfl)) dX12_told_109 ?_
  obtain ⟨rfl, rfl, rfl, rfl⟩ := k_in4 h
  exact k_ri hx hb hr hlocks hP hS dX12_told_111
