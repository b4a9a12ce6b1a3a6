set_option maxHeartbeats 4000000 in
set_option maxRecDepth 100000 in
theorem c_Ref_undo (l : Launch) (dC : Nat → ClassId) (dI : Nat → Nat → Nat) (cI cZ : ClassId) (a_t : Nat → Nat) (t_junctions : Int32) (t_cuts : Int32) (t_cutOne : Nat → Int32) (t_cutOther : Nat → Int32) (t_cutHard : Nat → Int32) (t_hard : Nat → Int32) (t_boats : Int32) (t_wears : Nat → Int32) (t_quays : Nat → Int32) (i_t_now : Nat → Int32) (t_seed : Int32) (t_text : Nat → Int32) (t_texted : Int32) (t_faultPlace : Int32) (t_at0 : Int32) (t_number : Int32) (t_numberAt : Int32) (t_readJunctions : Int32) (t_readCuts : Int32) (t_readOne : Nat → Int32) (t_readOther : Nat → Int32) (t_readHard : Nat → Int32) (t_readBoats : Int32) (t_readAt : Nat → Int32) (t_readPull : Nat → Int32) (t_readWears : Nat → Int32) (t_at : Int32) (t_from : Int32) (t_pull : Int32) (i_t_undos : Int32) (t_past : Nat → Int32) (t_given : Nat → Int32) (t_bestGiven : Nat → Int32) (t_seen : Int32) (t_seenOf : Nat → Int32) (t_seenBehind : Nat → Int32) (t_seenAt : Nat → Int32) (t_way : Nat → Int32) (t_brings : Nat → Int32) (t_booked : Int32) (t_bookOf : Nat → Int32) (t_bookAt : Nat → Int32) (t_images : Nat → Int32) (t_isKept : Nat → Int32)  (r0 : Int32) (o_t_now : Nat → Int32) (o_t_undos : Int32) (h : m_Ref_undo i_t_now i_t_undos t_past = some (r0, o_t_now, o_t_undos)) : (MI l yX12_undo wsX12_undo ({ frames := 0, cells := 0, slots := 0, locals := 0 }) (dC, dI) [(cI, .int), (cZ, .boolean)] (wd_tRef cI cZ a_t t_junctions t_cuts t_cutOne t_cutOther t_cutHard t_hard t_boats t_wears t_quays i_t_now t_seed t_text t_texted t_faultPlace t_at0 t_number t_numberAt t_readJunctions t_readCuts t_readOne t_readOther t_readHard t_readBoats t_readAt t_readPull t_readWears t_at t_from t_pull i_t_undos t_past t_given t_bestGiven t_seen t_seenOf t_seenBehind t_seenAt t_way t_brings t_booked t_bookOf t_bookAt t_images t_isKept) (wd_tRef cI cZ a_t t_junctions t_cuts t_cutOne t_cutOther t_cutHard t_hard t_boats t_wears t_quays o_t_now t_seed t_text t_texted t_faultPlace t_at0 t_number t_numberAt t_readJunctions t_readCuts t_readOne t_readOther t_readHard t_readBoats t_readAt t_readPull t_readWears t_at t_from t_pull o_t_undos t_past t_given t_bestGiven t_seen t_seenOf t_seenBehind t_seenAt t_way t_brings t_booked t_bookOf t_bookAt t_images t_isKept) [.ref (a_t 0)] r0) := by
  intro sz
  refine Met.ofW (cc := cX12_undo) (maxL := 2) (ret := (some .int)) (by decide) rfl ?_
  intro p e s m args below meth c s₁ B hml hv
  obtain ⟨rfl, hsz, hP, hK, hD0⟩ := hv
  have hx := B.exec
  have hb := B.bytes
  have hr := B.returns
  have hts := atoms_spec (ws := wsX12_undo) B.pre
  have hown : s.vm.findClass RX12 = some m.cls := findClass_of_methodNamed B.named
  have hlocks := B.notSynchronized
  subst hsz
  have hD := hD0.self (sz := s.heap.size)
  have hA : ∀ q : Nat, s.heap.size ≤ q → va_A (wd_tRef cI cZ a_t t_junctions t_cuts t_cutOne t_cutOther t_cutHard t_hard t_boats t_wears t_quays i_t_now t_seed t_text t_texted t_faultPlace t_at0 t_number t_numberAt t_readJunctions t_readCuts t_readOne t_readOther t_readHard t_readBoats t_readAt t_readPull t_readWears t_at t_from t_pull i_t_undos t_past t_given t_bestGiven t_seen t_seenOf t_seenBehind t_seenAt t_way t_brings t_booked t_bookOf t_bookAt t_images t_isKept) s.heap.size q := fun q h => Or.inr h
  have hS : va_S (va_A (wd_tRef cI cZ a_t t_junctions t_cuts t_cutOne t_cutOther t_cutHard t_hard t_boats t_wears t_quays i_t_now t_seed t_text t_texted t_faultPlace t_at0 t_number t_numberAt t_readJunctions t_readCuts t_readOne t_readOther t_readHard t_readBoats t_readAt t_readPull t_readWears t_at t_from t_pull i_t_undos t_past t_given t_bestGiven t_seen t_seenOf t_seenBehind t_seenAt t_way t_brings t_booked t_bookOf t_bookAt t_images t_isKept) s.heap.size) s.heap s.heap [] := va_S.rf
  have hin12 : ∀ w ∈ u_ws RX12 TX12 44, w ∈ wsX12_undo := fun w h => List.mem_cons_of_mem _ (List.mem_append_right _ h)
  have hl := lv_entry ([.ref (a_t 0)]) (n := 2) (Nat.le_of_ble_eq_true rfl)
  rw [lg_entry_eq]
  generalize (lg_sl ([.ref (a_t 0)]) ++ List.replicate (2 - (lg_sl ([.ref (a_t 0)])).length) Slot.unset).toArray = ls at hl ⊢
  have hl : lv_has ls 2 [(0, .ref (a_t 0))] := hl
  have J54 : ∀  (t_now : Nat → Int32) (t_undos : Int32) (H : Heap) (locs : List Loc) (ls : Array Slot), va_P (dC, dI) vwCl (wd_tRef cI cZ a_t t_junctions t_cuts t_cutOne t_cutOther t_cutHard t_hard t_boats t_wears t_quays t_now t_seed t_text t_texted t_faultPlace t_at0 t_number t_numberAt t_readJunctions t_readCuts t_readOne t_readOther t_readHard t_readBoats t_readAt t_readPull t_readWears t_at t_from t_pull t_undos t_past t_given t_bestGiven t_seen t_seenOf t_seenBehind t_seenAt t_way t_brings t_booked t_bookOf t_bookAt t_images t_isKept) H → va_D (va_A (wd_tRef cI cZ a_t t_junctions t_cuts t_cutOne t_cutOther t_cutHard t_hard t_boats t_wears t_quays i_t_now t_seed t_text t_texted t_faultPlace t_at0 t_number t_numberAt t_readJunctions t_readCuts t_readOne t_readOther t_readHard t_readBoats t_readAt t_readPull t_readWears t_at t_from t_pull i_t_undos t_past t_given t_bestGiven t_seen t_seenOf t_seenBehind t_seenAt t_way t_brings t_booked t_bookOf t_bookAt t_images t_isKept) s.heap.size) (wd_tRef cI cZ a_t t_junctions t_cuts t_cutOne t_cutOther t_cutHard t_hard t_boats t_wears t_quays t_now t_seed t_text t_texted t_faultPlace t_at0 t_number t_numberAt t_readJunctions t_readCuts t_readOne t_readOther t_readHard t_readBoats t_readAt t_readPull t_readWears t_at t_from t_pull t_undos t_past t_given t_bestGiven t_seen t_seenOf t_seenBehind t_seenAt t_way t_brings t_booked t_bookOf t_bookAt t_images t_isKept) → va_S (va_A (wd_tRef cI cZ a_t t_junctions t_cuts t_cutOne t_cutOther t_cutHard t_hard t_boats t_wears t_quays i_t_now t_seed t_text t_texted t_faultPlace t_at0 t_number t_numberAt t_readJunctions t_readCuts t_readOne t_readOther t_readHard t_readBoats t_readAt t_readPull t_readWears t_at t_from t_pull i_t_undos t_past t_given t_bestGiven t_seen t_seenOf t_seenBehind t_seenAt t_way t_brings t_booked t_bookOf t_bookAt t_images t_isKept) s.heap.size) s.heap H locs → lv_has ls 2 [(0, .ref (a_t 0))] → m_Ref_undo_B54  t_now t_undos t_past = some (r0, o_t_now, o_t_undos) → W p l e (headSpec wsX12_undo ({ frames := 0, cells := 0, slots := 0, locals := 0 })).room s m ([.ref (a_t 0)] : List Value).toArray below meth c H locs 0 0 (MQ below (cQi (dC, dI) (wd_tRef cI cZ a_t t_junctions t_cuts t_cutOne t_cutOther t_cutHard t_hard t_boats t_wears t_quays i_t_now t_seed t_text t_texted t_faultPlace t_at0 t_number t_numberAt t_readJunctions t_readCuts t_readOne t_readOther t_readHard t_readBoats t_readAt t_readPull t_readWears t_at t_from t_pull i_t_undos t_past t_given t_bestGiven t_seen t_seenOf t_seenBehind t_seenAt t_way t_brings t_booked t_bookOf t_bookAt t_images t_isKept) (wd_tRef cI cZ a_t t_junctions t_cuts t_cutOne t_cutOther t_cutHard t_hard t_boats t_wears t_quays o_t_now t_seed t_text t_texted t_faultPlace t_at0 t_number t_numberAt t_readJunctions t_readCuts t_readOne t_readOther t_readHard t_readBoats t_readAt t_readPull t_readWears t_at t_from t_pull o_t_undos t_past t_given t_bestGiven t_seen t_seenOf t_seenBehind t_seenAt t_way t_brings t_booked t_bookOf t_bookAt t_images t_isKept) s.heap.size r0) ([.ref (a_t 0)] : List Value).toArray s 0 0 (va_A (wd_tRef cI cZ a_t t_junctions t_cuts t_cutOne t_cutOther t_cutHard t_hard t_boats t_wears t_quays i_t_now t_seed t_text t_texted t_faultPlace t_at0 t_number t_numberAt t_readJunctions t_readCuts t_readOne t_readOther t_readHard t_readBoats t_readAt t_readPull t_readWears t_at t_from t_pull i_t_undos t_past t_given t_bestGiven t_seen t_seenOf t_seenBehind t_seenAt t_way t_brings t_booked t_bookOf t_bookAt t_images t_isKept) s.heap.size)) (F0 m 54 ls []) := by
    intro t_now t_undos H locs ls hP hD hS hl h
    unfold m_Ref_undo_B54 at h
    refine lv_aload_n hx hb dX12_undo_54 rfl (lv_at hl 0 rfl) ?_
    refine va_get (D := (dC, dI)) (ci := 12) (v := .int t_undos) (C := RX12) (T := TX12) (N := 44) hx hb hts hin12 hown hK hP 0 rfl rfl 29 (by decide) (hts (.fieldLink RX12 175 "TowedBackModel" "undos" "I") (List.mem_of_getElem? (i := 1) rfl)) (fun _ h9 => h9) rfl dX12_undo_55 ?_
    obtain ⟨rfl, rfl, rfl⟩ := k_in3 h
    exact k_ri hx hb hr hlocks hP hS dX12_undo_58
  have L22 : ∀ (n22 : Nat) (x1 : Int32) (t_now : Nat → Int32) (t_undos : Int32) (H : Heap) (locs : List Loc) (ls : Array Slot), va_P (dC, dI) vwCl (wd_tRef cI cZ a_t t_junctions t_cuts t_cutOne t_cutOther t_cutHard t_hard t_boats t_wears t_quays t_now t_seed t_text t_texted t_faultPlace t_at0 t_number t_numberAt t_readJunctions t_readCuts t_readOne t_readOther t_readHard t_readBoats t_readAt t_readPull t_readWears t_at t_from t_pull t_undos t_past t_given t_bestGiven t_seen t_seenOf t_seenBehind t_seenAt t_way t_brings t_booked t_bookOf t_bookAt t_images t_isKept) H → va_D (va_A (wd_tRef cI cZ a_t t_junctions t_cuts t_cutOne t_cutOther t_cutHard t_hard t_boats t_wears t_quays i_t_now t_seed t_text t_texted t_faultPlace t_at0 t_number t_numberAt t_readJunctions t_readCuts t_readOne t_readOther t_readHard t_readBoats t_readAt t_readPull t_readWears t_at t_from t_pull i_t_undos t_past t_given t_bestGiven t_seen t_seenOf t_seenBehind t_seenAt t_way t_brings t_booked t_bookOf t_bookAt t_images t_isKept) s.heap.size) (wd_tRef cI cZ a_t t_junctions t_cuts t_cutOne t_cutOther t_cutHard t_hard t_boats t_wears t_quays t_now t_seed t_text t_texted t_faultPlace t_at0 t_number t_numberAt t_readJunctions t_readCuts t_readOne t_readOther t_readHard t_readBoats t_readAt t_readPull t_readWears t_at t_from t_pull t_undos t_past t_given t_bestGiven t_seen t_seenOf t_seenBehind t_seenAt t_way t_brings t_booked t_bookOf t_bookAt t_images t_isKept) → va_S (va_A (wd_tRef cI cZ a_t t_junctions t_cuts t_cutOne t_cutOther t_cutHard t_hard t_boats t_wears t_quays i_t_now t_seed t_text t_texted t_faultPlace t_at0 t_number t_numberAt t_readJunctions t_readCuts t_readOne t_readOther t_readHard t_readBoats t_readAt t_readPull t_readWears t_at t_from t_pull i_t_undos t_past t_given t_bestGiven t_seen t_seenOf t_seenBehind t_seenAt t_way t_brings t_booked t_bookOf t_bookAt t_images t_isKept) s.heap.size) s.heap H locs → lv_has ls 2 [(0, .ref (a_t 0)), (1, .int x1)] → m_Ref_undo_L22  n22 x1 t_now t_undos t_past = some (r0, o_t_now, o_t_undos) → W p l e (headSpec wsX12_undo ({ frames := 0, cells := 0, slots := 0, locals := 0 })).room s m ([.ref (a_t 0)] : List Value).toArray below meth c H locs 0 0 (MQ below (cQi (dC, dI) (wd_tRef cI cZ a_t t_junctions t_cuts t_cutOne t_cutOther t_cutHard t_hard t_boats t_wears t_quays i_t_now t_seed t_text t_texted t_faultPlace t_at0 t_number t_numberAt t_readJunctions t_readCuts t_readOne t_readOther t_readHard t_readBoats t_readAt t_readPull t_readWears t_at t_from t_pull i_t_undos t_past t_given t_bestGiven t_seen t_seenOf t_seenBehind t_seenAt t_way t_brings t_booked t_bookOf t_bookAt t_images t_isKept) (wd_tRef cI cZ a_t t_junctions t_cuts t_cutOne t_cutOther t_cutHard t_hard t_boats t_wears t_quays o_t_now t_seed t_text t_texted t_faultPlace t_at0 t_number t_numberAt t_readJunctions t_readCuts t_readOne t_readOther t_readHard t_readBoats t_readAt t_readPull t_readWears t_at t_from t_pull o_t_undos t_past t_given t_bestGiven t_seen t_seenOf t_seenBehind t_seenAt t_way t_brings t_booked t_bookOf t_bookAt t_images t_isKept) s.heap.size r0) ([.ref (a_t 0)] : List Value).toArray s 0 0 (va_A (wd_tRef cI cZ a_t t_junctions t_cuts t_cutOne t_cutOther t_cutHard t_hard t_boats t_wears t_quays i_t_now t_seed t_text t_texted t_faultPlace t_at0 t_number t_numberAt t_readJunctions t_readCuts t_readOne t_readOther t_readHard t_readBoats t_readAt t_readPull t_readWears t_at t_from t_pull i_t_undos t_past t_given t_bestGiven t_seen t_seenOf t_seenBehind t_seenAt t_way t_brings t_booked t_bookOf t_bookAt t_images t_isKept) s.heap.size)) (F0 m 22 ls []) := by
    intro n22
    induction n22 with
    | zero => intro x1 t_now t_undos H locs ls hP hD hS hl h; have h : none = some (r0, o_t_now, o_t_undos) := h; cases h
    | succ n22 ih22 =>
      intro x1 t_now t_undos H locs ls hP hD hS hl h
      have h : m_Ref_undo_B22  (m_Ref_undo_L22  n22) x1 t_now t_undos t_past = some (r0, o_t_now, o_t_undos) := h
      unfold m_Ref_undo_B22 at h
      refine lv_iload_n hx hb dX12_undo_22 rfl (lv_at hl 1 rfl) ?_
      refine lv_bipush (v := 21) hx hb dX12_undo_23 (by decide) ?_
      refine lv_icmp_ge (tgt := 54) hx hb dX12_undo_25 (by decide) (fun hc => ?_) (fun hc => ?_)
      · have h := k_pos hc h
        exact J54 t_now t_undos _ _ _ hP hD hS (lv_sub hl [0] rfl) h
      · have h := k_neg hc h
        refine lv_aload_n hx hb dX12_undo_28 rfl (lv_at hl 0 rfl) ?_
        refine va_get (D := (dC, dI)) (ci := 12) (v := .ref (a_t 7)) (C := RX12) (T := TX12) (N := 44) hx hb hts hin12 hown hK hP 0 rfl rfl 9 (by decide) (hts (.fieldLink RX12 28 "TowedBackModel" "now" "[I") (List.mem_of_getElem? (i := 3) rfl)) (fun _ h9 => h9) rfl dX12_undo_29 ?_
        refine lv_iload_n hx hb dX12_undo_32 rfl (lv_at hl 1 rfl) ?_
        refine lv_aload_n hx hb dX12_undo_33 rfl (lv_at hl 0 rfl) ?_
        refine va_get (D := (dC, dI)) (ci := 12) (v := .ref (a_t 15)) (C := RX12) (T := TX12) (N := 44) hx hb hts hin12 hown hK hP 0 rfl rfl 30 (by decide) (hts (.fieldLink RX12 56 "TowedBackModel" "past" "[I") (List.mem_of_getElem? (i := 4) rfl)) (fun _ h9 => h9) rfl dX12_undo_34 ?_
        refine lv_bipush (v := 21) hx hb dX12_undo_37 (by decide) ?_
        refine lv_aload_n hx hb dX12_undo_39 rfl (lv_at hl 0 rfl) ?_
        refine va_get (D := (dC, dI)) (ci := 12) (v := .int t_undos) (C := RX12) (T := TX12) (N := 44) hx hb hts hin12 hown hK hP 0 rfl rfl 29 (by decide) (hts (.fieldLink RX12 175 "TowedBackModel" "undos" "I") (List.mem_of_getElem? (i := 1) rfl)) (fun _ h9 => h9) rfl dX12_undo_40 ?_
        refine lv_imul hx hb dX12_undo_43 ?_
        refine lv_iload_n hx hb dX12_undo_44 rfl (lv_at hl 1 rfl) ?_
        refine lv_iadd hx hb dX12_undo_45 ?_
        obtain ⟨hi1, h⟩ := kg_some h
        refine va_iald hx hb hK hP 15 0 rfl rfl hi1 dX12_undo_46 ?_
        obtain ⟨hi2, h⟩ := kg_some h
        refine va_iast hx hb hK hP hD hS 7 0 rfl rfl hi2 dX12_undo_47 (fun H locs hP hD hS => ?_)
        have hP : va_P (dC, dI) vwCl (wd_tRef cI cZ a_t t_junctions t_cuts t_cutOne t_cutOther t_cutHard t_hard t_boats t_wears t_quays (upd t_now x1.toNatClampNeg (t_past ((21 * t_undos) + x1).toNatClampNeg)) t_seed t_text t_texted t_faultPlace t_at0 t_number t_numberAt t_readJunctions t_readCuts t_readOne t_readOther t_readHard t_readBoats t_readAt t_readPull t_readWears t_at t_from t_pull t_undos t_past t_given t_bestGiven t_seen t_seenOf t_seenBehind t_seenAt t_way t_brings t_booked t_bookOf t_bookAt t_images t_isKept) H := hP
        have hD : va_D (va_A (wd_tRef cI cZ a_t t_junctions t_cuts t_cutOne t_cutOther t_cutHard t_hard t_boats t_wears t_quays i_t_now t_seed t_text t_texted t_faultPlace t_at0 t_number t_numberAt t_readJunctions t_readCuts t_readOne t_readOther t_readHard t_readBoats t_readAt t_readPull t_readWears t_at t_from t_pull i_t_undos t_past t_given t_bestGiven t_seen t_seenOf t_seenBehind t_seenAt t_way t_brings t_booked t_bookOf t_bookAt t_images t_isKept) s.heap.size) (wd_tRef cI cZ a_t t_junctions t_cuts t_cutOne t_cutOther t_cutHard t_hard t_boats t_wears t_quays (upd t_now x1.toNatClampNeg (t_past ((21 * t_undos) + x1).toNatClampNeg)) t_seed t_text t_texted t_faultPlace t_at0 t_number t_numberAt t_readJunctions t_readCuts t_readOne t_readOther t_readHard t_readBoats t_readAt t_readPull t_readWears t_at t_from t_pull t_undos t_past t_given t_bestGiven t_seen t_seenOf t_seenBehind t_seenAt t_way t_brings t_booked t_bookOf t_bookAt t_images t_isKept) := hD
        refine lv_iinc (v := (x1 + 1)) (lv' := [(1, .int (x1 + 1)), (0, .ref (a_t 0))]) hx hb dX12_undo_48 hl (k := 1) rfl rfl (by decide) rfl (fun ls hl => ?_)
        refine lv_goto (tgt := 22) hx hb dX12_undo_51 (by decide) ?_
        exact ih22 (x1 + 1) (upd t_now x1.toNatClampNeg (t_past ((21 * t_undos) + x1).toNatClampNeg)) t_undos _ _ _ hP hD hS (lv_sub hl [1, 0] rfl) h
  unfold m_Ref_undo at h
  refine lv_aload_n hx hb dX12_undo_0 rfl (lv_at hl 0 rfl) ?_
  refine va_get (D := (dC, dI)) (ci := 12) (v := .int i_t_undos) (C := RX12) (T := TX12) (N := 44) hx hb hts hin12 hown hK hP 0 rfl rfl 29 (by decide) (hts (.fieldLink RX12 175 "TowedBackModel" "undos" "I") (List.mem_of_getElem? (i := 1) rfl)) (fun _ h9 => h9) rfl dX12_undo_1 ?_
  refine lv_if_ne (tgt := 10) hx hb dX12_undo_4 (by decide) (fun hc => ?_) (fun hc => ?_)
  · have h := k_neg hc h
    refine lv_aload_n hx hb dX12_undo_10 rfl (lv_at hl 0 rfl) ?_
    refine lv_dup hx hb dX12_undo_11 rfl ?_
    refine va_get (D := (dC, dI)) (ci := 12) (v := .int i_t_undos) (C := RX12) (T := TX12) (N := 44) hx hb hts hin12 hown hK hP 0 rfl rfl 29 (by decide) (hts (.fieldLink RX12 175 "TowedBackModel" "undos" "I") (List.mem_of_getElem? (i := 1) rfl)) (fun _ h9 => h9) rfl dX12_undo_12 ?_
    refine lv_iconst (v := 1) hx hb dX12_undo_15 (by decide) ?_
    refine lv_isub hx hb dX12_undo_16 ?_
    refine va_put (D := (dC, dI)) (ci := 12) (v := .int (i_t_undos - 1)) (ty := tyX12 29) (C := RX12) (T := TX12) (N := 44) hx hb hts hin12 tyX12 tyX12_ok nmX12 hown hK hP hD hS 0 rfl rfl 29 (by decide) (hts (.fieldLink RX12 175 "TowedBackModel" "undos" "I") (List.mem_of_getElem? (i := 1) rfl)) (fun _ h9 => h9) rfl (tyX12_ok 29 (by decide)) rfl rfl (Nat.le_of_ble_eq_true rfl) dX12_undo_17 (fun H locs hP hD hS => ?_)
    have hP : va_P (dC, dI) vwCl (wd_tRef cI cZ a_t t_junctions t_cuts t_cutOne t_cutOther t_cutHard t_hard t_boats t_wears t_quays i_t_now t_seed t_text t_texted t_faultPlace t_at0 t_number t_numberAt t_readJunctions t_readCuts t_readOne t_readOther t_readHard t_readBoats t_readAt t_readPull t_readWears t_at t_from t_pull (i_t_undos - 1) t_past t_given t_bestGiven t_seen t_seenOf t_seenBehind t_seenAt t_way t_brings t_booked t_bookOf t_bookAt t_images t_isKept) H := hP
    have hD : va_D (va_A (wd_tRef cI cZ a_t t_junctions t_cuts t_cutOne t_cutOther t_cutHard t_hard t_boats t_wears t_quays i_t_now t_seed t_text t_texted t_faultPlace t_at0 t_number t_numberAt t_readJunctions t_readCuts t_readOne t_readOther t_readHard t_readBoats t_readAt t_readPull t_readWears t_at t_from t_pull i_t_undos t_past t_given t_bestGiven t_seen t_seenOf t_seenBehind t_seenAt t_way t_brings t_booked t_bookOf t_bookAt t_images t_isKept) s.heap.size) (wd_tRef cI cZ a_t t_junctions t_cuts t_cutOne t_cutOther t_cutHard t_hard t_boats t_wears t_quays i_t_now t_seed t_text t_texted t_faultPlace t_at0 t_number t_numberAt t_readJunctions t_readCuts t_readOne t_readOther t_readHard t_readBoats t_readAt t_readPull t_readWears t_at t_from t_pull (i_t_undos - 1) t_past t_given t_bestGiven t_seen t_seenOf t_seenBehind t_seenAt t_way t_brings t_booked t_bookOf t_bookAt t_images t_isKept) := hD
    refine lv_iconst (v := 0) hx hb dX12_undo_20 (by decide) ?_
    refine lv_istore_n (lv' := [(1, .int 0), (0, .ref (a_t 0))]) hx hb dX12_undo_21 rfl hl (by decide) rfl (fun ls hl => ?_)
    exact L22 FU 0 i_t_now (i_t_undos - 1) _ _ _ hP hD hS (lv_sub hl [1, 0] rfl) h
  · have h := k_pos hc h
    refine lv_ldc (v := (-1000000003)) hx hb hown (hts (.constant RX12 209 (-1000000003)) (List.mem_of_getElem? (i := 2) rfl)) dX12_undo_7 ?_
    obtain ⟨rfl, rfl, rfl⟩ := k_in3 h
    exact k_ri hx hb hr hlocks hP hS dX12_undo_9
set_option maxHeartbeats 4000000 in
set_option maxRecDepth 100000 in
theorem c_Ref_quay (l : Launch) (dC : Nat → ClassId) (dI : Nat → Nat → Nat) (cI cZ : ClassId) (a_t : Nat → Nat) (t_junctions : Int32) (t_cuts : Int32) (t_cutOne : Nat → Int32) (t_cutOther : Nat → Int32) (t_cutHard : Nat → Int32) (t_hard : Nat → Int32) (t_boats : Int32) (t_wears : Nat → Int32) (i_t_quays : Nat → Int32) (t_now : Nat → Int32) (t_seed : Int32) (t_text : Nat → Int32) (t_texted : Int32) (t_faultPlace : Int32) (t_at0 : Int32) (t_number : Int32) (t_numberAt : Int32) (t_readJunctions : Int32) (t_readCuts : Int32) (t_readOne : Nat → Int32) (t_readOther : Nat → Int32) (t_readHard : Nat → Int32) (t_readBoats : Int32) (t_readAt : Nat → Int32) (t_readPull : Nat → Int32) (t_readWears : Nat → Int32) (t_at : Int32) (t_from : Int32) (t_pull : Int32) (t_undos : Int32) (t_past : Nat → Int32) (t_given : Nat → Int32) (t_bestGiven : Nat → Int32) (t_seen : Int32) (t_seenOf : Nat → Int32) (t_seenBehind : Nat → Int32) (t_seenAt : Nat → Int32) (t_way : Nat → Int32) (t_brings : Nat → Int32) (t_booked : Int32) (t_bookOf : Nat → Int32) (t_bookAt : Nat → Int32) (t_images : Nat → Int32) (t_isKept : Nat → Int32) (y1 : Int32) (y2 : Int32) (r0 : Int32) (o_t_quays : Nat → Int32) (h : m_Ref_quay y1 y2 t_junctions t_boats i_t_quays = some (r0, o_t_quays)) : (MI l yX12_quay wsX12_quay ({ frames := 2, cells := 0, slots := 0, locals := 46 }) (dC, dI) [(cI, .int), (cZ, .boolean)] (wd_tRef cI cZ a_t t_junctions t_cuts t_cutOne t_cutOther t_cutHard t_hard t_boats t_wears i_t_quays t_now t_seed t_text t_texted t_faultPlace t_at0 t_number t_numberAt t_readJunctions t_readCuts t_readOne t_readOther t_readHard t_readBoats t_readAt t_readPull t_readWears t_at t_from t_pull t_undos t_past t_given t_bestGiven t_seen t_seenOf t_seenBehind t_seenAt t_way t_brings t_booked t_bookOf t_bookAt t_images t_isKept) (wd_tRef cI cZ a_t t_junctions t_cuts t_cutOne t_cutOther t_cutHard t_hard t_boats t_wears o_t_quays t_now t_seed t_text t_texted t_faultPlace t_at0 t_number t_numberAt t_readJunctions t_readCuts t_readOne t_readOther t_readHard t_readBoats t_readAt t_readPull t_readWears t_at t_from t_pull t_undos t_past t_given t_bestGiven t_seen t_seenOf t_seenBehind t_seenAt t_way t_brings t_booked t_bookOf t_bookAt t_images t_isKept) [.ref (a_t 0), .int y1, .int y2] r0) := by
  intro sz
  refine Met.ofW (cc := cX12_quay) (maxL := 4) (ret := (some .int)) (by decide) rfl ?_
  intro p e s m args below meth c s₁ B hml hv
  obtain ⟨rfl, hsz, hP, hK, hD0⟩ := hv
  have hx := B.exec
  have hb := B.bytes
  have hr := B.returns
  have hts := atoms_spec (ws := wsX12_quay) B.pre
  have hown : s.vm.findClass RX12 = some m.cls := findClass_of_methodNamed B.named
  have hlocks := B.notSynchronized
  subst hsz
  have hD := hD0.self (sz := s.heap.size)
  have hA : ∀ q : Nat, s.heap.size ≤ q → va_A (wd_tRef cI cZ a_t t_junctions t_cuts t_cutOne t_cutOther t_cutHard t_hard t_boats t_wears i_t_quays t_now t_seed t_text t_texted t_faultPlace t_at0 t_number t_numberAt t_readJunctions t_readCuts t_readOne t_readOther t_readHard t_readBoats t_readAt t_readPull t_readWears t_at t_from t_pull t_undos t_past t_given t_bestGiven t_seen t_seenOf t_seenBehind t_seenAt t_way t_brings t_booked t_bookOf t_bookAt t_images t_isKept) s.heap.size q := fun q h => Or.inr h
  have hS : va_S (va_A (wd_tRef cI cZ a_t t_junctions t_cuts t_cutOne t_cutOther t_cutHard t_hard t_boats t_wears i_t_quays t_now t_seed t_text t_texted t_faultPlace t_at0 t_number t_numberAt t_readJunctions t_readCuts t_readOne t_readOther t_readHard t_readBoats t_readAt t_readPull t_readWears t_at t_from t_pull t_undos t_past t_given t_bestGiven t_seen t_seenOf t_seenBehind t_seenAt t_way t_brings t_booked t_bookOf t_bookAt t_images t_isKept) s.heap.size) s.heap s.heap [] := va_S.rf
  have hin12 : ∀ w ∈ u_ws RX12 TX12 44, w ∈ wsX12_quay := fun w h => List.mem_cons_of_mem _ (List.mem_append_right _ h)
  have hl := lv_entry ([.ref (a_t 0), .int y1, .int y2]) (n := 4) (Nat.le_of_ble_eq_true rfl)
  rw [lg_entry_eq]
  generalize (lg_sl ([.ref (a_t 0), .int y1, .int y2]) ++ List.replicate (4 - (lg_sl ([.ref (a_t 0), .int y1, .int y2])).length) Slot.unset).toArray = ls at hl ⊢
  have hl : lv_has ls 4 [(0, .ref (a_t 0)), (1, .int y1), (2, .int y2)] := hl
  have J24 : ∀ (x1 : Int32) (x2 : Int32) (t_quays : Nat → Int32) (H : Heap) (locs : List Loc) (ls : Array Slot), va_P (dC, dI) vwCl (wd_tRef cI cZ a_t t_junctions t_cuts t_cutOne t_cutOther t_cutHard t_hard t_boats t_wears t_quays t_now t_seed t_text t_texted t_faultPlace t_at0 t_number t_numberAt t_readJunctions t_readCuts t_readOne t_readOther t_readHard t_readBoats t_readAt t_readPull t_readWears t_at t_from t_pull t_undos t_past t_given t_bestGiven t_seen t_seenOf t_seenBehind t_seenAt t_way t_brings t_booked t_bookOf t_bookAt t_images t_isKept) H → va_D (va_A (wd_tRef cI cZ a_t t_junctions t_cuts t_cutOne t_cutOther t_cutHard t_hard t_boats t_wears i_t_quays t_now t_seed t_text t_texted t_faultPlace t_at0 t_number t_numberAt t_readJunctions t_readCuts t_readOne t_readOther t_readHard t_readBoats t_readAt t_readPull t_readWears t_at t_from t_pull t_undos t_past t_given t_bestGiven t_seen t_seenOf t_seenBehind t_seenAt t_way t_brings t_booked t_bookOf t_bookAt t_images t_isKept) s.heap.size) (wd_tRef cI cZ a_t t_junctions t_cuts t_cutOne t_cutOther t_cutHard t_hard t_boats t_wears t_quays t_now t_seed t_text t_texted t_faultPlace t_at0 t_number t_numberAt t_readJunctions t_readCuts t_readOne t_readOther t_readHard t_readBoats t_readAt t_readPull t_readWears t_at t_from t_pull t_undos t_past t_given t_bestGiven t_seen t_seenOf t_seenBehind t_seenAt t_way t_brings t_booked t_bookOf t_bookAt t_images t_isKept) → va_S (va_A (wd_tRef cI cZ a_t t_junctions t_cuts t_cutOne t_cutOther t_cutHard t_hard t_boats t_wears i_t_quays t_now t_seed t_text t_texted t_faultPlace t_at0 t_number t_numberAt t_readJunctions t_readCuts t_readOne t_readOther t_readHard t_readBoats t_readAt t_readPull t_readWears t_at t_from t_pull t_undos t_past t_given t_bestGiven t_seen t_seenOf t_seenBehind t_seenAt t_way t_brings t_booked t_bookOf t_bookAt t_images t_isKept) s.heap.size) s.heap H locs → lv_has ls 4 [(0, .ref (a_t 0)), (1, .int x1), (2, .int x2)] → m_Ref_quay_B24  x1 x2 t_junctions t_boats t_quays = some (r0, o_t_quays) → W p l e (headSpec wsX12_quay ({ frames := 2, cells := 0, slots := 0, locals := 46 })).room s m ([.ref (a_t 0), .int y1, .int y2] : List Value).toArray below meth c H locs 0 0 (MQ below (cQi (dC, dI) (wd_tRef cI cZ a_t t_junctions t_cuts t_cutOne t_cutOther t_cutHard t_hard t_boats t_wears i_t_quays t_now t_seed t_text t_texted t_faultPlace t_at0 t_number t_numberAt t_readJunctions t_readCuts t_readOne t_readOther t_readHard t_readBoats t_readAt t_readPull t_readWears t_at t_from t_pull t_undos t_past t_given t_bestGiven t_seen t_seenOf t_seenBehind t_seenAt t_way t_brings t_booked t_bookOf t_bookAt t_images t_isKept) (wd_tRef cI cZ a_t t_junctions t_cuts t_cutOne t_cutOther t_cutHard t_hard t_boats t_wears o_t_quays t_now t_seed t_text t_texted t_faultPlace t_at0 t_number t_numberAt t_readJunctions t_readCuts t_readOne t_readOther t_readHard t_readBoats t_readAt t_readPull t_readWears t_at t_from t_pull t_undos t_past t_given t_bestGiven t_seen t_seenOf t_seenBehind t_seenAt t_way t_brings t_booked t_bookOf t_bookAt t_images t_isKept) s.heap.size r0) ([.ref (a_t 0), .int y1, .int y2] : List Value).toArray s 0 0 (va_A (wd_tRef cI cZ a_t t_junctions t_cuts t_cutOne t_cutOther t_cutHard t_hard t_boats t_wears i_t_quays t_now t_seed t_text t_texted t_faultPlace t_at0 t_number t_numberAt t_readJunctions t_readCuts t_readOne t_readOther t_readHard t_readBoats t_readAt t_readPull t_readWears t_at t_from t_pull t_undos t_past t_given t_bestGiven t_seen t_seenOf t_seenBehind t_seenAt t_way t_brings t_booked t_bookOf t_bookAt t_images t_isKept) s.heap.size)) (F0 m 24 ls []) := by
    intro x1 x2 t_quays H locs ls hP hD hS hl h
    unfold m_Ref_quay_B24 at h
    refine lv_aload_n hx hb dX12_quay_24 rfl (lv_at hl 0 rfl) ?_
    refine va_get (D := (dC, dI)) (ci := 12) (v := .ref (a_t 6)) (C := RX12) (T := TX12) (N := 44) hx hb hts hin12 hown hK hP 0 rfl rfl 8 (by decide) (hts (.fieldLink RX12 25 "TowedBackModel" "quays" "[I") (List.mem_of_getElem? (i := 2) rfl)) (fun _ h9 => h9) rfl dX12_quay_25 ?_
    refine lv_iload_n hx hb dX12_quay_28 rfl (lv_at hl 1 rfl) ?_
    obtain ⟨hi1, h⟩ := kg_some h
    refine va_iald hx hb hK hP 6 0 rfl rfl hi1 dX12_quay_29 ?_
    refine lv_istore_n (lv' := [(3, .int (t_quays x1.toNatClampNeg)), (0, .ref (a_t 0)), (1, .int x1), (2, .int x2)]) hx hb dX12_quay_30 rfl hl (by decide) rfl (fun ls hl => ?_)
    refine lv_aload_n hx hb dX12_quay_31 rfl (lv_at hl 1 rfl) ?_
    refine va_get (D := (dC, dI)) (ci := 12) (v := .ref (a_t 6)) (C := RX12) (T := TX12) (N := 44) hx hb hts hin12 hown hK hP 0 rfl rfl 8 (by decide) (hts (.fieldLink RX12 25 "TowedBackModel" "quays" "[I") (List.mem_of_getElem? (i := 2) rfl)) (fun _ h9 => h9) rfl dX12_quay_32 ?_
    refine lv_iload_n hx hb dX12_quay_35 rfl (lv_at hl 2 rfl) ?_
    refine lv_iload_n hx hb dX12_quay_36 rfl (lv_at hl 3 rfl) ?_
    obtain ⟨hi2, h⟩ := kg_some h
    refine va_iast hx hb hK hP hD hS 6 0 rfl rfl hi2 dX12_quay_37 (fun H locs hP hD hS => ?_)
    have hP : va_P (dC, dI) vwCl (wd_tRef cI cZ a_t t_junctions t_cuts t_cutOne t_cutOther t_cutHard t_hard t_boats t_wears (upd t_quays x1.toNatClampNeg x2) t_now t_seed t_text t_texted t_faultPlace t_at0 t_number t_numberAt t_readJunctions t_readCuts t_readOne t_readOther t_readHard t_readBoats t_readAt t_readPull t_readWears t_at t_from t_pull t_undos t_past t_given t_bestGiven t_seen t_seenOf t_seenBehind t_seenAt t_way t_brings t_booked t_bookOf t_bookAt t_images t_isKept) H := hP
    have hD : va_D (va_A (wd_tRef cI cZ a_t t_junctions t_cuts t_cutOne t_cutOther t_cutHard t_hard t_boats t_wears i_t_quays t_now t_seed t_text t_texted t_faultPlace t_at0 t_number t_numberAt t_readJunctions t_readCuts t_readOne t_readOther t_readHard t_readBoats t_readAt t_readPull t_readWears t_at t_from t_pull t_undos t_past t_given t_bestGiven t_seen t_seenOf t_seenBehind t_seenAt t_way t_brings t_booked t_bookOf t_bookAt t_images t_isKept) s.heap.size) (wd_tRef cI cZ a_t t_junctions t_cuts t_cutOne t_cutOther t_cutHard t_hard t_boats t_wears (upd t_quays x1.toNatClampNeg x2) t_now t_seed t_text t_texted t_faultPlace t_at0 t_number t_numberAt t_readJunctions t_readCuts t_readOne t_readOther t_readHard t_readBoats t_readAt t_readPull t_readWears t_at t_from t_pull t_undos t_past t_given t_bestGiven t_seen t_seenOf t_seenBehind t_seenAt t_way t_brings t_booked t_bookOf t_bookAt t_images t_isKept) := hD
    refine lv_iload_n hx hb dX12_quay_38 rfl (lv_at hl 0 rfl) ?_
    obtain ⟨rfl, rfl⟩ := k_in2 h
    exact k_ri hx hb hr hlocks hP hS dX12_quay_39
  unfold m_Ref_quay at h
  refine lv_aload_n hx hb dX12_quay_0 rfl (lv_at hl 0 rfl) ?_
  refine lv_iload_n hx hb dX12_quay_1 rfl (lv_at hl 1 rfl) ?_
  obtain ⟨r3, hc3, h⟩ := kb1_some h
  refine k_FVi (rest := []) (As := [.int y1]) ⟨hx, hb, hml, hown, hts⟩ (c_Ref_isBoat l dC dI cI cZ a_t t_junctions t_cuts t_cutOne t_cutOther t_cutHard t_hard t_boats t_wears i_t_quays t_now t_seed t_text t_texted t_faultPlace t_at0 t_number t_numberAt t_readJunctions t_readCuts t_readOne t_readOther t_readHard t_readBoats t_readAt t_readPull t_readWears t_at t_from t_pull t_undos t_past t_given t_bestGiven t_seen t_seenOf t_seenBehind t_seenAt t_way t_brings t_booked t_bookOf t_bookAt t_images t_isKept y1 r3 hc3) (cwV 1 hts gX12_quay_X12_isBoat rfl rfl rfl hd_12_isBoat ⟨Nat.le_of_ble_eq_true rfl, Nat.le_of_ble_eq_true rfl⟩) hK hP hD hS hA 0 12 rfl rfl rfl (wd_tRef_f.trans wd_tRef_f.symm) rfl hl.1 rfl (Nat.le_of_ble_eq_true rfl) dX12_quay_2 ⟨Nat.zero_le _, Nat.zero_le _⟩ (fun H locs hP hD hS => ?_)
  refine lv_if_eq (tgt := 21) hx hb dX12_quay_5 (by decide) (fun hc => ?_) (fun hc => ?_)
  · have h := k_pos hc h
    refine lv_ldc (v := (-1000000001)) hx hb hown (hts (.constant RX12 200 (-1000000001)) (List.mem_of_getElem? (i := 1) rfl)) dX12_quay_21 ?_
    obtain ⟨rfl, rfl⟩ := k_in2 h
    exact k_ri hx hb hr hlocks hP hS dX12_quay_23
  · have h := k_neg hc h
    refine lv_iload_n hx hb dX12_quay_8 rfl (lv_at hl 2 rfl) ?_
    refine lv_iconst (v := (-1)) hx hb dX12_quay_9 (by decide) ?_
    refine lv_icmp_eq (tgt := 24) hx hb dX12_quay_10 (by decide) (fun hc => ?_) (fun hc => ?_)
    · have h := k_pos hc h
      exact J24 y1 y2 i_t_quays _ _ _ hP hD hS (lv_sub hl [0, 1, 2] rfl) h
    · have h := k_neg hc h
      refine lv_aload_n hx hb dX12_quay_13 rfl (lv_at hl 0 rfl) ?_
      refine lv_iload_n hx hb dX12_quay_14 rfl (lv_at hl 2 rfl) ?_
      obtain ⟨r4, hc4, h⟩ := kb1_some h
      refine k_FVi (rest := []) (As := [.int y2]) ⟨hx, hb, hml, hown, hts⟩ (c_Ref_isJunction l dC dI cI cZ a_t t_junctions t_cuts t_cutOne t_cutOther t_cutHard t_hard t_boats t_wears i_t_quays t_now t_seed t_text t_texted t_faultPlace t_at0 t_number t_numberAt t_readJunctions t_readCuts t_readOne t_readOther t_readHard t_readBoats t_readAt t_readPull t_readWears t_at t_from t_pull t_undos t_past t_given t_bestGiven t_seen t_seenOf t_seenBehind t_seenAt t_way t_brings t_booked t_bookOf t_bookAt t_images t_isKept y2 r4 hc4) (cwV 1 hts gX12_quay_X12_isJunction rfl rfl rfl hd_12_isJunction ⟨Nat.le_of_ble_eq_true rfl, Nat.le_of_ble_eq_true rfl⟩) hK hP hD hS hA 0 12 rfl rfl rfl (wd_tRef_f.trans wd_tRef_f.symm) rfl hl.1 rfl (Nat.le_of_ble_eq_true rfl) dX12_quay_15 ⟨Nat.zero_le _, Nat.zero_le _⟩ (fun H locs hP hD hS => ?_)
      refine lv_if_ne (tgt := 24) hx hb dX12_quay_18 (by decide) (fun hc => ?_) (fun hc => ?_)
      · have h := k_neg hc h
        exact J24 y1 y2 i_t_quays _ _ _ hP hD hS (lv_sub hl [0, 1, 2] rfl) h
      · have h := k_pos hc h
        refine lv_ldc (v := (-1000000001)) hx hb hown (hts (.constant RX12 200 (-1000000001)) (List.mem_of_getElem? (i := 1) rfl)) dX12_quay_21 ?_
        obtain ⟨rfl, rfl⟩ := k_in2 h
        exact k_ri hx hb hr hlocks hP hS dX12_quay_23
set_option maxHeartbeats 4000000 in
set_option maxRecDepth 100000 in
theorem c_Ref_goOn (l : Launch) (dC : Nat → ClassId) (dI : Nat → Nat → Nat) (cI cZ : ClassId) (a_t : Nat → Nat) (t_junctions : Int32) (t_cuts : Int32) (t_cutOne : Nat → Int32) (t_cutOther : Nat → Int32) (t_cutHard : Nat → Int32) (t_hard : Nat → Int32) (t_boats : Int32) (t_wears : Nat → Int32) (t_quays : Nat → Int32) (t_now : Nat → Int32) (t_seed : Int32) (t_text : Nat → Int32) (t_texted : Int32) (t_faultPlace : Int32) (t_at0 : Int32) (t_number : Int32) (t_numberAt : Int32) (t_readJunctions : Int32) (t_readCuts : Int32) (t_readOne : Nat → Int32) (t_readOther : Nat → Int32) (t_readHard : Nat → Int32) (t_readBoats : Int32) (t_readAt : Nat → Int32) (t_readPull : Nat → Int32) (t_readWears : Nat → Int32) (i_t_at : Int32) (i_t_from : Int32) (i_t_pull : Int32) (t_undos : Int32) (t_past : Nat → Int32) (t_given : Nat → Int32) (t_bestGiven : Nat → Int32) (t_seen : Int32) (t_seenOf : Nat → Int32) (t_seenBehind : Nat → Int32) (t_seenAt : Nat → Int32) (t_way : Nat → Int32) (t_brings : Nat → Int32) (t_booked : Int32) (t_bookOf : Nat → Int32) (t_bookAt : Nat → Int32) (t_images : Nat → Int32) (t_isKept : Nat → Int32) (y1 : Int32) (y2 : Int32) (o_t_at : Int32) (o_t_from : Int32) (o_t_pull : Int32) (h : m_Ref_goOn y1 y2 t_junctions t_hard i_t_at i_t_from i_t_pull = some (o_t_at, o_t_from, o_t_pull)) : (MV l yX12_goOn wsX12_goOn ({ frames := 2, cells := 0, slots := 0, locals := 46 }) (dC, dI) [(cI, .int), (cZ, .boolean)] (wd_tRef cI cZ a_t t_junctions t_cuts t_cutOne t_cutOther t_cutHard t_hard t_boats t_wears t_quays t_now t_seed t_text t_texted t_faultPlace t_at0 t_number t_numberAt t_readJunctions t_readCuts t_readOne t_readOther t_readHard t_readBoats t_readAt t_readPull t_readWears i_t_at i_t_from i_t_pull t_undos t_past t_given t_bestGiven t_seen t_seenOf t_seenBehind t_seenAt t_way t_brings t_booked t_bookOf t_bookAt t_images t_isKept) (wd_tRef cI cZ a_t t_junctions t_cuts t_cutOne t_cutOther t_cutHard t_hard t_boats t_wears t_quays t_now t_seed t_text t_texted t_faultPlace t_at0 t_number t_numberAt t_readJunctions t_readCuts t_readOne t_readOther t_readHard t_readBoats t_readAt t_readPull t_readWears o_t_at o_t_from o_t_pull t_undos t_past t_given t_bestGiven t_seen t_seenOf t_seenBehind t_seenAt t_way t_brings t_booked t_bookOf t_bookAt t_images t_isKept) [.ref (a_t 0), .int y1, .int y2]) := by
  intro sz
  refine Met.ofW (cc := cX12_goOn) (maxL := 5) (ret := none) (by decide) rfl ?_
  intro p e s m args below meth c s₁ B hml hv
  obtain ⟨rfl, hsz, hP, hK, hD0⟩ := hv
  have hx := B.exec
  have hb := B.bytes
  have hr := B.returns
  have hts := atoms_spec (ws := wsX12_goOn) B.pre
  have hown : s.vm.findClass RX12 = some m.cls := findClass_of_methodNamed B.named
  have hlocks := B.notSynchronized
  subst hsz
  have hD := hD0.self (sz := s.heap.size)
  have hA : ∀ q : Nat, s.heap.size ≤ q → va_A (wd_tRef cI cZ a_t t_junctions t_cuts t_cutOne t_cutOther t_cutHard t_hard t_boats t_wears t_quays t_now t_seed t_text t_texted t_faultPlace t_at0 t_number t_numberAt t_readJunctions t_readCuts t_readOne t_readOther t_readHard t_readBoats t_readAt t_readPull t_readWears i_t_at i_t_from i_t_pull t_undos t_past t_given t_bestGiven t_seen t_seenOf t_seenBehind t_seenAt t_way t_brings t_booked t_bookOf t_bookAt t_images t_isKept) s.heap.size q := fun q h => Or.inr h
  have hS : va_S (va_A (wd_tRef cI cZ a_t t_junctions t_cuts t_cutOne t_cutOther t_cutHard t_hard t_boats t_wears t_quays t_now t_seed t_text t_texted t_faultPlace t_at0 t_number t_numberAt t_readJunctions t_readCuts t_readOne t_readOther t_readHard t_readBoats t_readAt t_readPull t_readWears i_t_at i_t_from i_t_pull t_undos t_past t_given t_bestGiven t_seen t_seenOf t_seenBehind t_seenAt t_way t_brings t_booked t_bookOf t_bookAt t_images t_isKept) s.heap.size) s.heap s.heap [] := va_S.rf
  have hl := lv_entry ([.ref (a_t 0), .int y1, .int y2]) (n := 5) (Nat.le_of_ble_eq_true rfl)
  rw [lg_entry_eq]
  generalize (lg_sl ([.ref (a_t 0), .int y1, .int y2]) ++ List.replicate (5 - (lg_sl ([.ref (a_t 0), .int y1, .int y2])).length) Slot.unset).toArray = ls at hl ⊢
  have hl : lv_has ls 5 [(0, .ref (a_t 0)), (1, .int y1), (2, .int y2)] := hl
  have L5 : ∀ (n5 : Nat) (x1 : Int32) (x2 : Int32) (x3 : Int32) (x4 : Int32) (t_at : Int32) (t_from : Int32) (t_pull : Int32) (H : Heap) (locs : List Loc) (ls : Array Slot), va_P (dC, dI) vwCl (wd_tRef cI cZ a_t t_junctions t_cuts t_cutOne t_cutOther t_cutHard t_hard t_boats t_wears t_quays t_now t_seed t_text t_texted t_faultPlace t_at0 t_number t_numberAt t_readJunctions t_readCuts t_readOne t_readOther t_readHard t_readBoats t_readAt t_readPull t_readWears t_at t_from t_pull t_undos t_past t_given t_bestGiven t_seen t_seenOf t_seenBehind t_seenAt t_way t_brings t_booked t_bookOf t_bookAt t_images t_isKept) H → va_D (va_A (wd_tRef cI cZ a_t t_junctions t_cuts t_cutOne t_cutOther t_cutHard t_hard t_boats t_wears t_quays t_now t_seed t_text t_texted t_faultPlace t_at0 t_number t_numberAt t_readJunctions t_readCuts t_readOne t_readOther t_readHard t_readBoats t_readAt t_readPull t_readWears i_t_at i_t_from i_t_pull t_undos t_past t_given t_bestGiven t_seen t_seenOf t_seenBehind t_seenAt t_way t_brings t_booked t_bookOf t_bookAt t_images t_isKept) s.heap.size) (wd_tRef cI cZ a_t t_junctions t_cuts t_cutOne t_cutOther t_cutHard t_hard t_boats t_wears t_quays t_now t_seed t_text t_texted t_faultPlace t_at0 t_number t_numberAt t_readJunctions t_readCuts t_readOne t_readOther t_readHard t_readBoats t_readAt t_readPull t_readWears t_at t_from t_pull t_undos t_past t_given t_bestGiven t_seen t_seenOf t_seenBehind t_seenAt t_way t_brings t_booked t_bookOf t_bookAt t_images t_isKept) → va_S (va_A (wd_tRef cI cZ a_t t_junctions t_cuts t_cutOne t_cutOther t_cutHard t_hard t_boats t_wears t_quays t_now t_seed t_text t_texted t_faultPlace t_at0 t_number t_numberAt t_readJunctions t_readCuts t_readOne t_readOther t_readHard t_readBoats t_readAt t_readPull t_readWears i_t_at i_t_from i_t_pull t_undos t_past t_given t_bestGiven t_seen t_seenOf t_seenBehind t_seenAt t_way t_brings t_booked t_bookOf t_bookAt t_images t_isKept) s.heap.size) s.heap H locs → lv_has ls 5 [(0, .ref (a_t 0)), (1, .int x1), (2, .int x2), (3, .int x3), (4, .int x4)] → m_Ref_goOn_L5  n5 x1 x2 x3 x4 t_junctions t_hard t_at t_from t_pull = some (o_t_at, o_t_from, o_t_pull) → W p l e (headSpec wsX12_goOn ({ frames := 2, cells := 0, slots := 0, locals := 46 })).room s m ([.ref (a_t 0), .int y1, .int y2] : List Value).toArray below meth c H locs 0 0 (MQ below (cQv (dC, dI) (wd_tRef cI cZ a_t t_junctions t_cuts t_cutOne t_cutOther t_cutHard t_hard t_boats t_wears t_quays t_now t_seed t_text t_texted t_faultPlace t_at0 t_number t_numberAt t_readJunctions t_readCuts t_readOne t_readOther t_readHard t_readBoats t_readAt t_readPull t_readWears i_t_at i_t_from i_t_pull t_undos t_past t_given t_bestGiven t_seen t_seenOf t_seenBehind t_seenAt t_way t_brings t_booked t_bookOf t_bookAt t_images t_isKept) (wd_tRef cI cZ a_t t_junctions t_cuts t_cutOne t_cutOther t_cutHard t_hard t_boats t_wears t_quays t_now t_seed t_text t_texted t_faultPlace t_at0 t_number t_numberAt t_readJunctions t_readCuts t_readOne t_readOther t_readHard t_readBoats t_readAt t_readPull t_readWears o_t_at o_t_from o_t_pull t_undos t_past t_given t_bestGiven t_seen t_seenOf t_seenBehind t_seenAt t_way t_brings t_booked t_bookOf t_bookAt t_images t_isKept) s.heap.size) ([.ref (a_t 0), .int y1, .int y2] : List Value).toArray s 0 0 (va_A (wd_tRef cI cZ a_t t_junctions t_cuts t_cutOne t_cutOther t_cutHard t_hard t_boats t_wears t_quays t_now t_seed t_text t_texted t_faultPlace t_at0 t_number t_numberAt t_readJunctions t_readCuts t_readOne t_readOther t_readHard t_readBoats t_readAt t_readPull t_readWears i_t_at i_t_from i_t_pull t_undos t_past t_given t_bestGiven t_seen t_seenOf t_seenBehind t_seenAt t_way t_brings t_booked t_bookOf t_bookAt t_images t_isKept) s.heap.size)) (F0 m 5 ls []) := by
    intro n5
    induction n5 with
    | zero => intro x1 x2 x3 x4 t_at t_from t_pull H locs ls hP hD hS hl h; have h : none = some (o_t_at, o_t_from, o_t_pull) := h; cases h
    | succ n5 ih5 =>
      intro x1 x2 x3 x4 t_at t_from t_pull H locs ls hP hD hS hl h
      have h : m_Ref_goOn_B5  (m_Ref_goOn_L5  n5) x1 x2 x3 x4 t_junctions t_hard t_at t_from t_pull = some (o_t_at, o_t_from, o_t_pull) := h
      unfold m_Ref_goOn_B5 at h
      refine lv_iload hx hb dX12_goOn_5 (lv_at hl 4 rfl) ?_
      refine lv_iload_n hx hb dX12_goOn_7 rfl (lv_at hl 2 rfl) ?_
      refine lv_icmp_ge (tgt := 27) hx hb dX12_goOn_8 (by decide) (fun hc => ?_) (fun hc => ?_)
      · have h := k_pos hc h
        obtain ⟨rfl, rfl, rfl⟩ := k_in3 h
        exact k_rv hx hb hr hlocks hP hS dX12_goOn_27
      · have h := k_neg hc h
        refine lv_iload_n hx hb dX12_goOn_11 rfl (lv_at hl 3 rfl) ?_
        refine lv_if_eq (tgt := 27) hx hb dX12_goOn_12 (by decide) (fun hc => ?_) (fun hc => ?_)
        · have h := k_pos hc h
          obtain ⟨rfl, rfl, rfl⟩ := k_in3 h
          exact k_rv hx hb hr hlocks hP hS dX12_goOn_27
        · have h := k_neg hc h
          refine lv_aload_n hx hb dX12_goOn_15 rfl (lv_at hl 0 rfl) ?_
          refine lv_iload_n hx hb dX12_goOn_16 rfl (lv_at hl 1 rfl) ?_
          obtain ⟨r1, t_at_1, t_from_1, t_pull_1, hc1, h⟩ := kb4_some h
          refine k_FVi (rest := []) (As := [.int x1]) ⟨hx, hb, hml, hown, hts⟩ (c_Ref_go l dC dI cI cZ a_t t_junctions t_cuts t_cutOne t_cutOther t_cutHard t_hard t_boats t_wears t_quays t_now t_seed t_text t_texted t_faultPlace t_at0 t_number t_numberAt t_readJunctions t_readCuts t_readOne t_readOther t_readHard t_readBoats t_readAt t_readPull t_readWears t_at t_from t_pull t_undos t_past t_given t_bestGiven t_seen t_seenOf t_seenBehind t_seenAt t_way t_brings t_booked t_bookOf t_bookAt t_images t_isKept x1 r1 t_at_1 t_from_1 t_pull_1 hc1) (cwV 1 hts gX12_goOn_X12_go rfl rfl rfl hd_12_go ⟨Nat.le_of_ble_eq_true rfl, Nat.le_of_ble_eq_true rfl⟩) hK hP hD hS hA 0 12 rfl rfl rfl (wd_tRef_f.trans wd_tRef_f.symm) rfl hl.1 rfl (Nat.le_of_ble_eq_true rfl) dX12_goOn_17 ⟨Nat.zero_le _, Nat.zero_le _⟩ (fun H locs hP hD hS => ?_)
          refine lv_istore_n (lv' := [(3, .int r1), (0, .ref (a_t 0)), (1, .int x1), (2, .int x2), (4, .int x4)]) hx hb dX12_goOn_20 rfl hl (by decide) rfl (fun ls hl => ?_)
          refine lv_iinc (v := (x4 + 1)) (lv' := [(4, .int (x4 + 1)), (3, .int r1), (0, .ref (a_t 0)), (1, .int x1), (2, .int x2)]) hx hb dX12_goOn_21 hl (k := 4) rfl rfl (by decide) rfl (fun ls hl => ?_)
          refine lv_goto (tgt := 5) hx hb dX12_goOn_24 (by decide) ?_
          exact ih5 x1 x2 r1 (x4 + 1) t_at_1 t_from_1 t_pull_1 _ _ _ hP hD hS (lv_sub hl [2, 3, 4, 1, 0] rfl) h
  unfold m_Ref_goOn at h
  refine lv_iconst (v := 1) hx hb dX12_goOn_0 (by decide) ?_
  refine lv_istore_n (lv' := [(3, .int 1), (0, .ref (a_t 0)), (1, .int y1), (2, .int y2)]) hx hb dX12_goOn_1 rfl hl (by decide) rfl (fun ls hl => ?_)
  refine lv_iconst (v := 0) hx hb dX12_goOn_2 (by decide) ?_
  refine lv_istore (lv' := [(4, .int 0), (3, .int 1), (0, .ref (a_t 0)), (1, .int y1), (2, .int y2)]) hx hb dX12_goOn_3 hl (by decide) rfl (fun ls hl => ?_)
  exact L5 FU y1 y2 1 0 i_t_at i_t_from i_t_pull _ _ _ hP hD hS (lv_sub hl [2, 3, 4, 1, 0] rfl) h
set_option maxHeartbeats 4000000 in
set_option maxRecDepth 100000 in
theorem c_Ref_where (l : Launch) (dC : Nat → ClassId) (dI : Nat → Nat → Nat) (cI cZ : ClassId) (a_t : Nat → Nat) (t_junctions : Int32) (t_cuts : Int32) (t_cutOne : Nat → Int32) (t_cutOther : Nat → Int32) (t_cutHard : Nat → Int32) (t_hard : Nat → Int32) (t_boats : Int32) (t_wears : Nat → Int32) (t_quays : Nat → Int32) (t_now : Nat → Int32) (t_seed : Int32) (t_text : Nat → Int32) (t_texted : Int32) (t_faultPlace : Int32) (t_at0 : Int32) (t_number : Int32) (t_numberAt : Int32) (t_readJunctions : Int32) (t_readCuts : Int32) (t_readOne : Nat → Int32) (t_readOther : Nat → Int32) (t_readHard : Nat → Int32) (t_readBoats : Int32) (t_readAt : Nat → Int32) (t_readPull : Nat → Int32) (t_readWears : Nat → Int32) (i_t_at : Int32) (i_t_from : Int32) (i_t_pull : Int32) (t_undos : Int32) (t_past : Nat → Int32) (t_given : Nat → Int32) (t_bestGiven : Nat → Int32) (t_seen : Int32) (t_seenOf : Nat → Int32) (t_seenBehind : Nat → Int32) (t_seenAt : Nat → Int32) (t_way : Nat → Int32) (t_brings : Nat → Int32) (t_booked : Int32) (t_bookOf : Nat → Int32) (t_bookAt : Nat → Int32) (t_images : Nat → Int32) (t_isKept : Nat → Int32) (y1 : Int32) (y2 : Int32) (y3 : Int32) (r0 : Int32) (o_t_at : Int32) (o_t_from : Int32) (o_t_pull : Int32) (h : m_Ref_where y1 y2 y3 t_junctions t_hard t_boats t_wears t_now i_t_at i_t_from i_t_pull = some (r0, o_t_at, o_t_from, o_t_pull)) : (MI l yX12_where wsX12_where ({ frames := 3, cells := 0, slots := 0, locals := 70 }) (dC, dI) [(cI, .int), (cZ, .boolean)] (wd_tRef cI cZ a_t t_junctions t_cuts t_cutOne t_cutOther t_cutHard t_hard t_boats t_wears t_quays t_now t_seed t_text t_texted t_faultPlace t_at0 t_number t_numberAt t_readJunctions t_readCuts t_readOne t_readOther t_readHard t_readBoats t_readAt t_readPull t_readWears i_t_at i_t_from i_t_pull t_undos t_past t_given t_bestGiven t_seen t_seenOf t_seenBehind t_seenAt t_way t_brings t_booked t_bookOf t_bookAt t_images t_isKept) (wd_tRef cI cZ a_t t_junctions t_cuts t_cutOne t_cutOther t_cutHard t_hard t_boats t_wears t_quays t_now t_seed t_text t_texted t_faultPlace t_at0 t_number t_numberAt t_readJunctions t_readCuts t_readOne t_readOther t_readHard t_readBoats t_readAt t_readPull t_readWears o_t_at o_t_from o_t_pull t_undos t_past t_given t_bestGiven t_seen t_seenOf t_seenBehind t_seenAt t_way t_brings t_booked t_bookOf t_bookAt t_images t_isKept) [.ref (a_t 0), .int y1, .int y2, .int y3] r0) := by
  intro sz
  refine Met.ofW (cc := cX12_where) (maxL := 4) (ret := (some .int)) (by decide) rfl ?_
  intro p e s m args below meth c s₁ B hml hv
  obtain ⟨rfl, hsz, hP, hK, hD0⟩ := hv
  have hx := B.exec
  have hb := B.bytes
  have hr := B.returns
  have hts := atoms_spec (ws := wsX12_where) B.pre
  have hown : s.vm.findClass RX12 = some m.cls := findClass_of_methodNamed B.named
  have hlocks := B.notSynchronized
  subst hsz
  have hD := hD0.self (sz := s.heap.size)
  have hA : ∀ q : Nat, s.heap.size ≤ q → va_A (wd_tRef cI cZ a_t t_junctions t_cuts t_cutOne t_cutOther t_cutHard t_hard t_boats t_wears t_quays t_now t_seed t_text t_texted t_faultPlace t_at0 t_number t_numberAt t_readJunctions t_readCuts t_readOne t_readOther t_readHard t_readBoats t_readAt t_readPull t_readWears i_t_at i_t_from i_t_pull t_undos t_past t_given t_bestGiven t_seen t_seenOf t_seenBehind t_seenAt t_way t_brings t_booked t_bookOf t_bookAt t_images t_isKept) s.heap.size q := fun q h => Or.inr h
  have hS : va_S (va_A (wd_tRef cI cZ a_t t_junctions t_cuts t_cutOne t_cutOther t_cutHard t_hard t_boats t_wears t_quays t_now t_seed t_text t_texted t_faultPlace t_at0 t_number t_numberAt t_readJunctions t_readCuts t_readOne t_readOther t_readHard t_readBoats t_readAt t_readPull t_readWears i_t_at i_t_from i_t_pull t_undos t_past t_given t_bestGiven t_seen t_seenOf t_seenBehind t_seenAt t_way t_brings t_booked t_bookOf t_bookAt t_images t_isKept) s.heap.size) s.heap s.heap [] := va_S.rf
  have hin12 : ∀ w ∈ u_ws RX12 TX12 44, w ∈ wsX12_where := fun w h => List.mem_cons_of_mem _ (List.mem_append_right _ h)
  have hl := lv_entry ([.ref (a_t 0), .int y1, .int y2, .int y3]) (n := 4) (Nat.le_of_ble_eq_true rfl)
  rw [lg_entry_eq]
  generalize (lg_sl ([.ref (a_t 0), .int y1, .int y2, .int y3]) ++ List.replicate (4 - (lg_sl ([.ref (a_t 0), .int y1, .int y2, .int y3])).length) Slot.unset).toArray = ls at hl ⊢
  have hl : lv_has ls 4 [(0, .ref (a_t 0)), (1, .int y1), (2, .int y2), (3, .int y3)] := hl
  unfold m_Ref_where at h
  refine lv_aload_n hx hb dX12_where_0 rfl (lv_at hl 0 rfl) ?_
  refine lv_iload_n hx hb dX12_where_1 rfl (lv_at hl 1 rfl) ?_
  obtain ⟨r1, hc1, h⟩ := kb1_some h
  refine k_FVi (rest := []) (As := [.int y1]) ⟨hx, hb, hml, hown, hts⟩ (c_Ref_isBoat l dC dI cI cZ a_t t_junctions t_cuts t_cutOne t_cutOther t_cutHard t_hard t_boats t_wears t_quays t_now t_seed t_text t_texted t_faultPlace t_at0 t_number t_numberAt t_readJunctions t_readCuts t_readOne t_readOther t_readHard t_readBoats t_readAt t_readPull t_readWears i_t_at i_t_from i_t_pull t_undos t_past t_given t_bestGiven t_seen t_seenOf t_seenBehind t_seenAt t_way t_brings t_booked t_bookOf t_bookAt t_images t_isKept y1 r1 hc1) (cwV 1 hts gX12_where_X12_isBoat rfl rfl rfl hd_12_isBoat ⟨Nat.le_of_ble_eq_true rfl, Nat.le_of_ble_eq_true rfl⟩) hK hP hD hS hA 0 12 rfl rfl rfl (wd_tRef_f.trans wd_tRef_f.symm) rfl hl.1 rfl (Nat.le_of_ble_eq_true rfl) dX12_where_2 ⟨Nat.zero_le _, Nat.zero_le _⟩ (fun H locs hP hD hS => ?_)
  refine lv_if_ne (tgt := 11) hx hb dX12_where_5 (by decide) (fun hc => ?_) (fun hc => ?_)
  · have h := k_neg hc h
    refine lv_iload_n hx hb dX12_where_11 rfl (lv_at hl 2 rfl) ?_
    refine lv_i2l (v := y2.toInt64) hx hb dX12_where_12 rfl ?_
    refine lv_lconst (v := 0) hx hb dX12_where_13 (by decide) ?_
    refine lv_ldc2 (v := 60) hx hb hown (hts (.constantLong RX12 207 (60)) (List.mem_of_getElem? (i := 2) rfl)) dX12_where_14 ?_
    obtain ⟨r2, hc2, h⟩ := kb1_some h
    refine k_RSi (rest := []) (As := [.long (y2.toInt64), .long 0, .long 60]) ⟨hx, hb, hml, hown, hts⟩ (c_Ref_in l dC dI cI cZ (y2.toInt64) 0 60 r2 hc2) (va_cwS 3 hts gX12_where_X12_in rfl rfl rfl hd_12_in ⟨Nat.le_of_ble_eq_true rfl, Nat.le_of_ble_eq_true rfl⟩) hK hP hD hS hA [] rfl (by decide +kernel) rfl hl.1 rfl (Nat.le_of_ble_eq_true rfl) dX12_where_17 ⟨Nat.zero_le _, Nat.zero_le _⟩ (fun H locs hP hD hS => ?_)
    refine lv_if_eq (tgt := 33) hx hb dX12_where_20 (by decide) (fun hc => ?_) (fun hc => ?_)
    · have h := k_pos hc h
      refine lv_ldc (v := (-1000000002)) hx hb hown (hts (.constant RX12 105 (-1000000002)) (List.mem_of_getElem? (i := 3) rfl)) dX12_where_33 ?_
      obtain ⟨rfl, rfl, rfl, rfl⟩ := k_in4 h
      exact k_ri hx hb hr hlocks hP hS dX12_where_35
    · have h := k_neg hc h
      refine lv_iload_n hx hb dX12_where_23 rfl (lv_at hl 3 rfl) ?_
      refine lv_i2l (v := y3.toInt64) hx hb dX12_where_24 rfl ?_
      refine lv_lconst (v := 0) hx hb dX12_where_25 (by decide) ?_
      refine lv_lconst (v := 1) hx hb dX12_where_26 (by decide) ?_
      obtain ⟨r3, hc3, h⟩ := kb1_some h
      refine k_RSi (rest := []) (As := [.long (y3.toInt64), .long 0, .long 1]) ⟨hx, hb, hml, hown, hts⟩ (c_Ref_in l dC dI cI cZ (y3.toInt64) 0 1 r3 hc3) (va_cwS 3 hts gX12_where_X12_in rfl rfl rfl hd_12_in ⟨Nat.le_of_ble_eq_true rfl, Nat.le_of_ble_eq_true rfl⟩) hK hP hD hS hA [] rfl (by decide +kernel) rfl hl.1 rfl (Nat.le_of_ble_eq_true rfl) dX12_where_27 ⟨Nat.zero_le _, Nat.zero_le _⟩ (fun H locs hP hD hS => ?_)
      refine lv_if_ne (tgt := 36) hx hb dX12_where_30 (by decide) (fun hc => ?_) (fun hc => ?_)
      · have h := k_neg hc h
        refine lv_aload_n hx hb dX12_where_36 rfl (lv_at hl 0 rfl) ?_
        refine lv_iload_n hx hb dX12_where_37 rfl (lv_at hl 1 rfl) ?_
        obtain ⟨t_at_4, t_from_4, t_pull_4, hc4, h⟩ := kb3_some h
        refine k_FVv (rest := []) (As := [.int y1]) ⟨hx, hb, hml, hown, hts⟩ (c_Ref_board l dC dI cI cZ a_t t_junctions t_cuts t_cutOne t_cutOther t_cutHard t_hard t_boats t_wears t_quays t_now t_seed t_text t_texted t_faultPlace t_at0 t_number t_numberAt t_readJunctions t_readCuts t_readOne t_readOther t_readHard t_readBoats t_readAt t_readPull t_readWears i_t_at i_t_from i_t_pull t_undos t_past t_given t_bestGiven t_seen t_seenOf t_seenBehind t_seenAt t_way t_brings t_booked t_bookOf t_bookAt t_images t_isKept y1 t_at_4 t_from_4 t_pull_4 hc4) (cwV 1 hts gX12_where_X12_board rfl rfl rfl hd_12_board ⟨Nat.le_of_ble_eq_true rfl, Nat.le_of_ble_eq_true rfl⟩) hK hP hD hS hA 0 12 rfl rfl rfl (wd_tRef_f.trans wd_tRef_f.symm) rfl hl.1 rfl (Nat.le_of_ble_eq_true rfl) dX12_where_38 ⟨Nat.zero_le _, Nat.zero_le _⟩ (fun H locs hP hD hS => ?_)
        refine lv_aload_n hx hb dX12_where_41 rfl (lv_at hl 0 rfl) ?_
        refine lv_aload_n hx hb dX12_where_42 rfl (lv_at hl 0 rfl) ?_
        refine va_get (D := (dC, dI)) (ci := 12) (v := .ref (a_t 5)) (C := RX12) (T := TX12) (N := 44) hx hb hts hin12 hown hK hP 0 rfl rfl 7 (by decide) (hts (.fieldLink RX12 22 "TowedBackModel" "wears" "[I") (List.mem_of_getElem? (i := 4) rfl)) (fun _ h9 => h9) rfl dX12_where_43 ?_
        refine lv_iload_n hx hb dX12_where_46 rfl (lv_at hl 1 rfl) ?_
        obtain ⟨hi5, h⟩ := kg_some h
        refine va_iald hx hb hK hP 5 0 rfl rfl hi5 dX12_where_47 ?_
        refine lv_iload_n hx hb dX12_where_48 rfl (lv_at hl 2 rfl) ?_
        obtain ⟨t_at_6, t_from_6, t_pull_6, hc6, h⟩ := kb3_some h
        refine k_FVv (rest := []) (As := [.int (t_wears y1.toNatClampNeg), .int y2]) ⟨hx, hb, hml, hown, hts⟩ (c_Ref_goOn l dC dI cI cZ a_t t_junctions t_cuts t_cutOne t_cutOther t_cutHard t_hard t_boats t_wears t_quays t_now t_seed t_text t_texted t_faultPlace t_at0 t_number t_numberAt t_readJunctions t_readCuts t_readOne t_readOther t_readHard t_readBoats t_readAt t_readPull t_readWears t_at_4 t_from_4 t_pull_4 t_undos t_past t_given t_bestGiven t_seen t_seenOf t_seenBehind t_seenAt t_way t_brings t_booked t_bookOf t_bookAt t_images t_isKept (t_wears y1.toNatClampNeg) y2 t_at_6 t_from_6 t_pull_6 hc6) (cwV 2 hts gX12_where_X12_goOn rfl rfl rfl hd_12_goOn ⟨Nat.le_of_ble_eq_true rfl, Nat.le_of_ble_eq_true rfl⟩) hK hP hD hS hA 0 12 rfl rfl rfl (wd_tRef_f.trans wd_tRef_f.symm) rfl hl.1 rfl (Nat.le_of_ble_eq_true rfl) dX12_where_49 ⟨Nat.zero_le _, Nat.zero_le _⟩ (fun H locs hP hD hS => ?_)
        refine lv_iload_n hx hb dX12_where_52 rfl (lv_at hl 3 rfl) ?_
        refine lv_if_ne (tgt := 63) hx hb dX12_where_53 (by decide) (fun hc => ?_) (fun hc => ?_)
        · have h := k_neg hc h
          refine lv_aload_n hx hb dX12_where_63 rfl (lv_at hl 0 rfl) ?_
          refine va_get (D := (dC, dI)) (ci := 12) (v := .int t_pull_6) (C := RX12) (T := TX12) (N := 44) hx hb hts hin12 hown hK hP 0 rfl rfl 28 (by decide) (hts (.fieldLink RX12 184 "TowedBackModel" "pull" "I") (List.mem_of_getElem? (i := 6) rfl)) (fun _ h9 => h9) rfl dX12_where_64 ?_
          obtain ⟨rfl, rfl, rfl, rfl⟩ := k_in4 h
          exact k_ri hx hb hr hlocks hP hS dX12_where_67
        · have h := k_pos hc h
          refine lv_aload_n hx hb dX12_where_56 rfl (lv_at hl 0 rfl) ?_
          refine va_get (D := (dC, dI)) (ci := 12) (v := .int t_at_6) (C := RX12) (T := TX12) (N := 44) hx hb hts hin12 hown hK hP 0 rfl rfl 26 (by decide) (hts (.fieldLink RX12 178 "TowedBackModel" "at" "I") (List.mem_of_getElem? (i := 5) rfl)) (fun _ h9 => h9) rfl dX12_where_57 ?_
          refine lv_goto (tgt := 67) hx hb dX12_where_60 (by decide) ?_
          obtain ⟨rfl, rfl, rfl, rfl⟩ := k_in4 h
          exact k_ri hx hb hr hlocks hP hS dX12_where_67
      · have h := k_pos hc h
        refine lv_ldc (v := (-1000000002)) hx hb hown (hts (.constant RX12 105 (-1000000002)) (List.mem_of_getElem? (i := 3) rfl)) dX12_where_33 ?_
        obtain ⟨rfl, rfl, rfl, rfl⟩ := k_in4 h
        exact k_ri hx hb hr hlocks hP hS dX12_where_35
  · have h := k_pos hc h
    refine lv_ldc (v := (-1000000001)) hx hb hown (hts (.constant RX12 200 (-1000000001)) (List.mem_of_getElem? (i := 1) rfl)) dX12_where_8 ?_
    obtain ⟨rfl, rfl, rfl, rfl⟩ := k_in4 h
    exact k_ri hx hb hr hlocks hP hS dX12_where_10
