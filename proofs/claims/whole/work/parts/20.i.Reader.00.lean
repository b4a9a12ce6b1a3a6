set_option maxHeartbeats 4000000 in
set_option maxRecDepth 100000 in
theorem c_Reader_letterHere (l : Launch) (dC : Nat → ClassId) (dI : Nat → Nat → Nat) (cI cZ : ClassId) (a_t : Nat → Nat) (t_text : Nat) (t_length : Int32) (t_place : Int32) (t_numberAt : Int32) (t_faultKind : Int32) (t_faultAt : Int32) (tx : Nat → Int32)  (r0 : Int32) (h : m_Reader_letterHere t_length t_place tx = some r0) : (MI l yX7_letterHere wsX7_letterHere ({ frames := 0, cells := 0, slots := 0, locals := 0 }) (dC, dI) [(cI, .int), (cZ, .boolean)] (wd_tReader_txARR cI cZ a_t t_text t_length t_place t_numberAt t_faultKind t_faultAt tx) (wd_tReader_txARR cI cZ a_t t_text t_length t_place t_numberAt t_faultKind t_faultAt tx) [.ref (a_t 0)] r0) := by
  intro sz
  refine Met.ofW (cc := cX7_letterHere) (maxL := 1) (ret := (some .int)) (by decide) rfl ?_
  intro p e s m args below meth c s₁ B hml hv
  obtain ⟨rfl, hsz, hP, hK, hD0⟩ := hv
  have hx := B.exec
  have hb := B.bytes
  have hr := B.returns
  have hts := atoms_spec (ws := wsX7_letterHere) B.pre
  have hown : s.vm.findClass RX7 = some m.cls := findClass_of_methodNamed B.named
  have hlocks := B.notSynchronized
  subst hsz
  have hD := hD0.self (sz := s.heap.size)
  have hA : ∀ q : Nat, s.heap.size ≤ q → va_A (wd_tReader_txARR cI cZ a_t t_text t_length t_place t_numberAt t_faultKind t_faultAt tx) s.heap.size q := fun q h => Or.inr h
  have hS : va_S (va_A (wd_tReader_txARR cI cZ a_t t_text t_length t_place t_numberAt t_faultKind t_faultAt tx) s.heap.size) s.heap s.heap [] := va_S.rf
  have hin7 : ∀ w ∈ u_ws RX7 TX7 6, w ∈ wsX7_letterHere := fun w h => List.mem_cons_of_mem _ (List.mem_append_right _ h)
  have hl := lv_entry ([.ref (a_t 0)]) (n := 1) (Nat.le_of_ble_eq_true rfl)
  rw [lg_entry_eq]
  generalize (lg_sl ([.ref (a_t 0)]) ++ List.replicate (1 - (lg_sl ([.ref (a_t 0)])).length) Slot.unset).toArray = ls at hl ⊢
  have hl : lv_has ls 1 [(0, .ref (a_t 0))] := hl
  unfold m_Reader_letterHere at h
  refine lv_aload_n hx hb dX7_letterHere_0 rfl (lv_at hl 0 rfl) ?_
  refine va_get (D := (dC, dI)) (ci := 7) (v := .int t_place) (C := RX7) (T := TX7) (N := 6) hx hb hts hin7 hown hK hP 0 rfl rfl 2 (by decide) (hts (.fieldLink RX7 19 "TowedBack$Reader" "place" "I") (List.mem_of_getElem? (i := 1) rfl)) (fun _ h9 => h9) rfl dX7_letterHere_1 ?_
  refine lv_if_lt (tgt := 42) hx hb dX7_letterHere_4 (by decide) (fun hc => ?_) (fun hc => ?_)
  · have h := k_pos hc h
    refine lv_iconst (v := (-1)) hx hb dX7_letterHere_42 (by decide) ?_
    obtain rfl := k_in1 h
    exact k_ri hx hb hr hlocks hP hS dX7_letterHere_43
  · have h := k_neg hc h
    refine lv_aload_n hx hb dX7_letterHere_7 rfl (lv_at hl 0 rfl) ?_
    refine va_get (D := (dC, dI)) (ci := 7) (v := .int t_place) (C := RX7) (T := TX7) (N := 6) hx hb hts hin7 hown hK hP 0 rfl rfl 2 (by decide) (hts (.fieldLink RX7 19 "TowedBack$Reader" "place" "I") (List.mem_of_getElem? (i := 1) rfl)) (fun _ h9 => h9) rfl dX7_letterHere_8 ?_
    refine lv_aload_n hx hb dX7_letterHere_11 rfl (lv_at hl 0 rfl) ?_
    refine va_get (D := (dC, dI)) (ci := 7) (v := .int t_length) (C := RX7) (T := TX7) (N := 6) hx hb hts hin7 hown hK hP 0 rfl rfl 1 (by decide) (hts (.fieldLink RX7 15 "TowedBack$Reader" "length" "I") (List.mem_of_getElem? (i := 2) rfl)) (fun _ h9 => h9) rfl dX7_letterHere_12 ?_
    refine lv_icmp_ge (tgt := 42) hx hb dX7_letterHere_15 (by decide) (fun hc => ?_) (fun hc => ?_)
    · have h := k_pos hc h
      refine lv_iconst (v := (-1)) hx hb dX7_letterHere_42 (by decide) ?_
      obtain rfl := k_in1 h
      exact k_ri hx hb hr hlocks hP hS dX7_letterHere_43
    · have h := k_neg hc h
      refine lv_aload_n hx hb dX7_letterHere_18 rfl (lv_at hl 0 rfl) ?_
      refine va_get (D := (dC, dI)) (ci := 7) (v := .int t_place) (C := RX7) (T := TX7) (N := 6) hx hb hts hin7 hown hK hP 0 rfl rfl 2 (by decide) (hts (.fieldLink RX7 19 "TowedBack$Reader" "place" "I") (List.mem_of_getElem? (i := 1) rfl)) (fun _ h9 => h9) rfl dX7_letterHere_19 ?_
      refine lv_aload_n hx hb dX7_letterHere_22 rfl (lv_at hl 0 rfl) ?_
      refine va_get (D := (dC, dI)) (ci := 7) (v := .ref t_text) (C := RX7) (T := TX7) (N := 6) hx hb hts hin7 hown hK hP 0 rfl rfl 0 (by decide) (hts (.fieldLink RX7 9 "TowedBack$Reader" "text" "[I") (List.mem_of_getElem? (i := 3) rfl)) (fun _ h9 => h9) rfl dX7_letterHere_23 ?_
      refine va_alen (v := 240) hx hb hK hP 1 0 rfl rfl rfl dX7_letterHere_26 ?_
      refine lv_icmp_ge (tgt := 42) hx hb dX7_letterHere_27 (by decide) (fun hc => ?_) (fun hc => ?_)
      · have h := k_pos hc h
        refine lv_iconst (v := (-1)) hx hb dX7_letterHere_42 (by decide) ?_
        obtain rfl := k_in1 h
        exact k_ri hx hb hr hlocks hP hS dX7_letterHere_43
      · have h := k_neg hc h
        refine lv_aload_n hx hb dX7_letterHere_30 rfl (lv_at hl 0 rfl) ?_
        refine va_get (D := (dC, dI)) (ci := 7) (v := .ref t_text) (C := RX7) (T := TX7) (N := 6) hx hb hts hin7 hown hK hP 0 rfl rfl 0 (by decide) (hts (.fieldLink RX7 9 "TowedBack$Reader" "text" "[I") (List.mem_of_getElem? (i := 3) rfl)) (fun _ h9 => h9) rfl dX7_letterHere_31 ?_
        refine lv_aload_n hx hb dX7_letterHere_34 rfl (lv_at hl 0 rfl) ?_
        refine va_get (D := (dC, dI)) (ci := 7) (v := .int t_place) (C := RX7) (T := TX7) (N := 6) hx hb hts hin7 hown hK hP 0 rfl rfl 2 (by decide) (hts (.fieldLink RX7 19 "TowedBack$Reader" "place" "I") (List.mem_of_getElem? (i := 1) rfl)) (fun _ h9 => h9) rfl dX7_letterHere_35 ?_
        obtain ⟨hi1, h⟩ := kg_some h
        refine va_iald hx hb hK hP 1 0 rfl rfl hi1 dX7_letterHere_38 ?_
        refine lv_goto (tgt := 43) hx hb dX7_letterHere_39 (by decide) ?_
        obtain rfl := k_in1 h
        exact k_ri hx hb hr hlocks hP hS dX7_letterHere_43
set_option maxHeartbeats 4000000 in
set_option maxRecDepth 100000 in
theorem c_Reader_skipBlanks (l : Launch) (dC : Nat → ClassId) (dI : Nat → Nat → Nat) (cI cZ : ClassId) (a_t : Nat → Nat) (t_text : Nat) (t_length : Int32) (i_t_place : Int32) (t_numberAt : Int32) (t_faultKind : Int32) (t_faultAt : Int32) (tx : Nat → Int32)  (o_t_place : Int32) (h : m_Reader_skipBlanks t_length i_t_place tx = some o_t_place) : (MV l yX7_skipBlanks wsX7_skipBlanks ({ frames := 1, cells := 0, slots := 0, locals := 20 }) (dC, dI) [(cI, .int), (cZ, .boolean)] (wd_tReader_txARR cI cZ a_t t_text t_length i_t_place t_numberAt t_faultKind t_faultAt tx) (wd_tReader_txARR cI cZ a_t t_text t_length o_t_place t_numberAt t_faultKind t_faultAt tx) [.ref (a_t 0)]) := by
  intro sz
  refine Met.ofW (cc := cX7_skipBlanks) (maxL := 1) (ret := none) (by decide) rfl ?_
  intro p e s m args below meth c s₁ B hml hv
  obtain ⟨rfl, hsz, hP, hK, hD0⟩ := hv
  have hx := B.exec
  have hb := B.bytes
  have hr := B.returns
  have hts := atoms_spec (ws := wsX7_skipBlanks) B.pre
  have hown : s.vm.findClass RX7 = some m.cls := findClass_of_methodNamed B.named
  have hlocks := B.notSynchronized
  subst hsz
  have hD := hD0.self (sz := s.heap.size)
  have hA : ∀ q : Nat, s.heap.size ≤ q → va_A (wd_tReader_txARR cI cZ a_t t_text t_length i_t_place t_numberAt t_faultKind t_faultAt tx) s.heap.size q := fun q h => Or.inr h
  have hS : va_S (va_A (wd_tReader_txARR cI cZ a_t t_text t_length i_t_place t_numberAt t_faultKind t_faultAt tx) s.heap.size) s.heap s.heap [] := va_S.rf
  have hin7 : ∀ w ∈ u_ws RX7 TX7 6, w ∈ wsX7_skipBlanks := fun w h => List.mem_cons_of_mem _ (List.mem_append_right _ h)
  have hl := lv_entry ([.ref (a_t 0)]) (n := 1) (Nat.le_of_ble_eq_true rfl)
  rw [lg_entry_eq]
  generalize (lg_sl ([.ref (a_t 0)]) ++ List.replicate (1 - (lg_sl ([.ref (a_t 0)])).length) Slot.unset).toArray = ls at hl ⊢
  have hl : lv_has ls 1 [(0, .ref (a_t 0))] := hl
  have L0 : ∀ (n0 : Nat)  (t_place : Int32) (H : Heap) (locs : List Loc) (ls : Array Slot), va_P (dC, dI) vwCl (wd_tReader_txARR cI cZ a_t t_text t_length t_place t_numberAt t_faultKind t_faultAt tx) H → va_D (va_A (wd_tReader_txARR cI cZ a_t t_text t_length i_t_place t_numberAt t_faultKind t_faultAt tx) s.heap.size) (wd_tReader_txARR cI cZ a_t t_text t_length t_place t_numberAt t_faultKind t_faultAt tx) → va_S (va_A (wd_tReader_txARR cI cZ a_t t_text t_length i_t_place t_numberAt t_faultKind t_faultAt tx) s.heap.size) s.heap H locs → lv_has ls 1 [(0, .ref (a_t 0))] → m_Reader_skipBlanks_L0  n0 t_length t_place tx = some o_t_place → W p l e (headSpec wsX7_skipBlanks ({ frames := 1, cells := 0, slots := 0, locals := 20 })).room s m ([.ref (a_t 0)] : List Value).toArray below meth c H locs 0 0 (MQ below (cQv (dC, dI) (wd_tReader_txARR cI cZ a_t t_text t_length i_t_place t_numberAt t_faultKind t_faultAt tx) (wd_tReader_txARR cI cZ a_t t_text t_length o_t_place t_numberAt t_faultKind t_faultAt tx) s.heap.size) ([.ref (a_t 0)] : List Value).toArray s 0 0 (va_A (wd_tReader_txARR cI cZ a_t t_text t_length i_t_place t_numberAt t_faultKind t_faultAt tx) s.heap.size)) (F0 m 0 ls []) := by
    intro n0
    induction n0 with
    | zero => intro t_place H locs ls hP hD hS hl h; have h : none = some o_t_place := h; cases h
    | succ n0 ih0 =>
      intro t_place H locs ls hP hD hS hl h
      have h : m_Reader_skipBlanks_B0  (m_Reader_skipBlanks_L0  n0) t_length t_place tx = some o_t_place := h
      unfold m_Reader_skipBlanks_B0 at h
      refine lv_aload_n hx hb dX7_skipBlanks_0 rfl (lv_at hl 0 rfl) ?_
      refine va_get (D := (dC, dI)) (ci := 7) (v := .int t_place) (C := RX7) (T := TX7) (N := 6) hx hb hts hin7 hown hK hP 0 rfl rfl 2 (by decide) (hts (.fieldLink RX7 19 "TowedBack$Reader" "place" "I") (List.mem_of_getElem? (i := 1) rfl)) (fun _ h9 => h9) rfl dX7_skipBlanks_1 ?_
      refine lv_aload_n hx hb dX7_skipBlanks_4 rfl (lv_at hl 0 rfl) ?_
      refine va_get (D := (dC, dI)) (ci := 7) (v := .int t_length) (C := RX7) (T := TX7) (N := 6) hx hb hts hin7 hown hK hP 0 rfl rfl 1 (by decide) (hts (.fieldLink RX7 15 "TowedBack$Reader" "length" "I") (List.mem_of_getElem? (i := 2) rfl)) (fun _ h9 => h9) rfl dX7_skipBlanks_5 ?_
      refine lv_icmp_ge (tgt := 33) hx hb dX7_skipBlanks_8 (by decide) (fun hc => ?_) (fun hc => ?_)
      · have h := k_pos hc h
        obtain rfl := k_in1 h
        exact k_rv hx hb hr hlocks hP hS dX7_skipBlanks_33
      · have h := k_neg hc h
        refine lv_aload_n hx hb dX7_skipBlanks_11 rfl (lv_at hl 0 rfl) ?_
        obtain ⟨r1, hc1, h⟩ := kb1_some h
        refine k_FVi (rest := []) (As := []) ⟨hx, hb, hml, hown, hts⟩ (c_Reader_letterHere l dC dI cI cZ a_t t_text t_length t_place t_numberAt t_faultKind t_faultAt tx r1 hc1) (cwV 0 hts gX7_skipBlanks_X7_letterHere rfl rfl rfl hd_7_letterHere ⟨Nat.le_of_ble_eq_true rfl, Nat.le_of_ble_eq_true rfl⟩) hK hP hD hS hA 0 7 rfl rfl rfl (wd_tReader_txARR_f.trans wd_tReader_txARR_f.symm) rfl hl.1 rfl (Nat.le_of_ble_eq_true rfl) dX7_skipBlanks_12 ⟨Nat.zero_le _, Nat.zero_le _⟩ (fun H locs hP hD hS => ?_)
        refine lv_bipush (v := 32) hx hb dX7_skipBlanks_15 (by decide) ?_
        refine lv_icmp_ne (tgt := 33) hx hb dX7_skipBlanks_17 (by decide) (fun hc => ?_) (fun hc => ?_)
        · have h := k_neg hc h
          obtain rfl := k_in1 h
          exact k_rv hx hb hr hlocks hP hS dX7_skipBlanks_33
        · have h := k_pos hc h
          refine lv_aload_n hx hb dX7_skipBlanks_20 rfl (lv_at hl 0 rfl) ?_
          refine lv_dup hx hb dX7_skipBlanks_21 rfl ?_
          refine va_get (D := (dC, dI)) (ci := 7) (v := .int t_place) (C := RX7) (T := TX7) (N := 6) hx hb hts hin7 hown hK hP 0 rfl rfl 2 (by decide) (hts (.fieldLink RX7 19 "TowedBack$Reader" "place" "I") (List.mem_of_getElem? (i := 1) rfl)) (fun _ h9 => h9) rfl dX7_skipBlanks_22 ?_
          refine lv_iconst (v := 1) hx hb dX7_skipBlanks_25 (by decide) ?_
          refine lv_iadd hx hb dX7_skipBlanks_26 ?_
          refine va_put (D := (dC, dI)) (ci := 7) (v := .int (t_place + 1)) (ty := tyX7 2) (C := RX7) (T := TX7) (N := 6) hx hb hts hin7 tyX7 tyX7_ok nmX7 hown hK hP hD hS 0 rfl rfl 2 (by decide) (hts (.fieldLink RX7 19 "TowedBack$Reader" "place" "I") (List.mem_of_getElem? (i := 1) rfl)) (fun _ h9 => h9) rfl (tyX7_ok 2 (by decide)) rfl rfl (Nat.le_of_ble_eq_true rfl) dX7_skipBlanks_27 (fun H locs hP hD hS => ?_)
          have hP : va_P (dC, dI) vwCl (wd_tReader_txARR cI cZ a_t t_text t_length (t_place + 1) t_numberAt t_faultKind t_faultAt tx) H := hP
          have hD : va_D (va_A (wd_tReader_txARR cI cZ a_t t_text t_length i_t_place t_numberAt t_faultKind t_faultAt tx) s.heap.size) (wd_tReader_txARR cI cZ a_t t_text t_length (t_place + 1) t_numberAt t_faultKind t_faultAt tx) := hD
          refine lv_goto (tgt := 0) hx hb dX7_skipBlanks_30 (by decide) ?_
          exact ih0 (t_place + 1) _ _ _ hP hD hS (lv_sub hl [0] rfl) h
  unfold m_Reader_skipBlanks at h
  exact L0 FU i_t_place _ _ _ hP hD hS (lv_sub hl [0] rfl) h
set_option maxHeartbeats 4000000 in
set_option maxRecDepth 100000 in
theorem c_Reader_goesOn (l : Launch) (dC : Nat → ClassId) (dI : Nat → Nat → Nat) (cI cZ : ClassId) (a_t : Nat → Nat) (t_text : Nat) (t_length : Int32) (i_t_place : Int32) (t_numberAt : Int32) (t_faultKind : Int32) (t_faultAt : Int32) (tx : Nat → Int32)  (r0 : Int32) (o_t_place : Int32) (h : m_Reader_goesOn t_length i_t_place t_faultKind tx = some (r0, o_t_place)) : (MI l yX7_goesOn wsX7_goesOn ({ frames := 2, cells := 0, slots := 0, locals := 40 }) (dC, dI) [(cI, .int), (cZ, .boolean)] (wd_tReader_txARR cI cZ a_t t_text t_length i_t_place t_numberAt t_faultKind t_faultAt tx) (wd_tReader_txARR cI cZ a_t t_text t_length o_t_place t_numberAt t_faultKind t_faultAt tx) [.ref (a_t 0)] r0) := by
  intro sz
  refine Met.ofW (cc := cX7_goesOn) (maxL := 1) (ret := (some .boolean)) (by decide) rfl ?_
  intro p e s m args below meth c s₁ B hml hv
  obtain ⟨rfl, hsz, hP, hK, hD0⟩ := hv
  have hx := B.exec
  have hb := B.bytes
  have hr := B.returns
  have hts := atoms_spec (ws := wsX7_goesOn) B.pre
  have hown : s.vm.findClass RX7 = some m.cls := findClass_of_methodNamed B.named
  have hlocks := B.notSynchronized
  subst hsz
  have hD := hD0.self (sz := s.heap.size)
  have hA : ∀ q : Nat, s.heap.size ≤ q → va_A (wd_tReader_txARR cI cZ a_t t_text t_length i_t_place t_numberAt t_faultKind t_faultAt tx) s.heap.size q := fun q h => Or.inr h
  have hS : va_S (va_A (wd_tReader_txARR cI cZ a_t t_text t_length i_t_place t_numberAt t_faultKind t_faultAt tx) s.heap.size) s.heap s.heap [] := va_S.rf
  have hin7 : ∀ w ∈ u_ws RX7 TX7 6, w ∈ wsX7_goesOn := fun w h => List.mem_cons_of_mem _ (List.mem_append_right _ h)
  have hl := lv_entry ([.ref (a_t 0)]) (n := 1) (Nat.le_of_ble_eq_true rfl)
  rw [lg_entry_eq]
  generalize (lg_sl ([.ref (a_t 0)]) ++ List.replicate (1 - (lg_sl ([.ref (a_t 0)])).length) Slot.unset).toArray = ls at hl ⊢
  have hl : lv_has ls 1 [(0, .ref (a_t 0))] := hl
  unfold m_Reader_goesOn at h
  refine lv_aload_n hx hb dX7_goesOn_0 rfl (lv_at hl 0 rfl) ?_
  obtain ⟨t_place_1, hc1, h⟩ := kb1_some h
  refine k_FVv (rest := []) (As := []) ⟨hx, hb, hml, hown, hts⟩ (c_Reader_skipBlanks l dC dI cI cZ a_t t_text t_length i_t_place t_numberAt t_faultKind t_faultAt tx t_place_1 hc1) (cwV 0 hts gX7_goesOn_X7_skipBlanks rfl rfl rfl hd_7_skipBlanks ⟨Nat.le_of_ble_eq_true rfl, Nat.le_of_ble_eq_true rfl⟩) hK hP hD hS hA 0 7 rfl rfl rfl (wd_tReader_txARR_f.trans wd_tReader_txARR_f.symm) rfl hl.1 rfl (Nat.le_of_ble_eq_true rfl) dX7_goesOn_1 ⟨Nat.zero_le _, Nat.zero_le _⟩ (fun H locs hP hD hS => ?_)
  refine lv_aload_n hx hb dX7_goesOn_4 rfl (lv_at hl 0 rfl) ?_
  refine va_get (D := (dC, dI)) (ci := 7) (v := .int t_faultKind) (C := RX7) (T := TX7) (N := 6) hx hb hts hin7 hown hK hP 0 rfl rfl 4 (by decide) (hts (.fieldLink RX7 25 "TowedBack$Reader" "faultKind" "I") (List.mem_of_getElem? (i := 1) rfl)) (fun _ h9 => h9) rfl dX7_goesOn_5 ?_
  refine lv_if_ne (tgt := 26) hx hb dX7_goesOn_8 (by decide) (fun hc => ?_) (fun hc => ?_)
  · have h := k_neg hc h
    refine lv_iconst (v := 0) hx hb dX7_goesOn_26 (by decide) ?_
    obtain ⟨rfl, rfl⟩ := k_in2 h
    exact k_rz hx hb hr hlocks rfl hP hS dX7_goesOn_27
  · have h := k_pos hc h
    refine lv_aload_n hx hb dX7_goesOn_11 rfl (lv_at hl 0 rfl) ?_
    refine va_get (D := (dC, dI)) (ci := 7) (v := .int t_place_1) (C := RX7) (T := TX7) (N := 6) hx hb hts hin7 hown hK hP 0 rfl rfl 2 (by decide) (hts (.fieldLink RX7 19 "TowedBack$Reader" "place" "I") (List.mem_of_getElem? (i := 2) rfl)) (fun _ h9 => h9) rfl dX7_goesOn_12 ?_
    refine lv_aload_n hx hb dX7_goesOn_15 rfl (lv_at hl 0 rfl) ?_
    refine va_get (D := (dC, dI)) (ci := 7) (v := .int t_length) (C := RX7) (T := TX7) (N := 6) hx hb hts hin7 hown hK hP 0 rfl rfl 1 (by decide) (hts (.fieldLink RX7 15 "TowedBack$Reader" "length" "I") (List.mem_of_getElem? (i := 3) rfl)) (fun _ h9 => h9) rfl dX7_goesOn_16 ?_
    refine lv_icmp_ge (tgt := 26) hx hb dX7_goesOn_19 (by decide) (fun hc => ?_) (fun hc => ?_)
    · have h := k_pos hc h
      refine lv_iconst (v := 0) hx hb dX7_goesOn_26 (by decide) ?_
      obtain ⟨rfl, rfl⟩ := k_in2 h
      exact k_rz hx hb hr hlocks rfl hP hS dX7_goesOn_27
    · have h := k_neg hc h
      refine lv_iconst (v := 1) hx hb dX7_goesOn_22 (by decide) ?_
      refine lv_goto (tgt := 27) hx hb dX7_goesOn_23 (by decide) ?_
      obtain ⟨rfl, rfl⟩ := k_in2 h
      exact k_rz hx hb hr hlocks rfl hP hS dX7_goesOn_27
set_option maxHeartbeats 4000000 in
set_option maxRecDepth 100000 in
theorem c_Reader_note (l : Launch) (dC : Nat → ClassId) (dI : Nat → Nat → Nat) (cI cZ : ClassId) (a_t : Nat → Nat) (t_text : Nat) (t_length : Int32) (t_place : Int32) (t_numberAt : Int32) (i_t_faultKind : Int32) (i_t_faultAt : Int32) (y1 : Int32) (y2 : Int32) (o_t_faultKind : Int32) (o_t_faultAt : Int32) (h : m_Reader_note y1 y2 i_t_faultKind i_t_faultAt = some (o_t_faultKind, o_t_faultAt)) : (MV l yX7_note wsX7_note ({ frames := 0, cells := 0, slots := 0, locals := 0 }) (dC, dI) [(cI, .int), (cZ, .boolean)] (wd_tReader cI cZ a_t t_text t_length t_place t_numberAt i_t_faultKind i_t_faultAt) (wd_tReader cI cZ a_t t_text t_length t_place t_numberAt o_t_faultKind o_t_faultAt) [.ref (a_t 0), .int y1, .int y2]) := by
  intro sz
  refine Met.ofW (cc := cX7_note) (maxL := 3) (ret := none) (by decide) rfl ?_
  intro p e s m args below meth c s₁ B hml hv
  obtain ⟨rfl, hsz, hP, hK, hD0⟩ := hv
  have hx := B.exec
  have hb := B.bytes
  have hr := B.returns
  have hts := atoms_spec (ws := wsX7_note) B.pre
  have hown : s.vm.findClass RX7 = some m.cls := findClass_of_methodNamed B.named
  have hlocks := B.notSynchronized
  subst hsz
  have hD := hD0.self (sz := s.heap.size)
  have hA : ∀ q : Nat, s.heap.size ≤ q → va_A (wd_tReader cI cZ a_t t_text t_length t_place t_numberAt i_t_faultKind i_t_faultAt) s.heap.size q := fun q h => Or.inr h
  have hS : va_S (va_A (wd_tReader cI cZ a_t t_text t_length t_place t_numberAt i_t_faultKind i_t_faultAt) s.heap.size) s.heap s.heap [] := va_S.rf
  have hin7 : ∀ w ∈ u_ws RX7 TX7 6, w ∈ wsX7_note := fun w h => List.mem_cons_of_mem _ (List.mem_append_right _ h)
  have hl := lv_entry ([.ref (a_t 0), .int y1, .int y2]) (n := 3) (Nat.le_of_ble_eq_true rfl)
  rw [lg_entry_eq]
  generalize (lg_sl ([.ref (a_t 0), .int y1, .int y2]) ++ List.replicate (3 - (lg_sl ([.ref (a_t 0), .int y1, .int y2])).length) Slot.unset).toArray = ls at hl ⊢
  have hl : lv_has ls 3 [(0, .ref (a_t 0)), (1, .int y1), (2, .int y2)] := hl
  unfold m_Reader_note at h
  refine lv_aload_n hx hb dX7_note_0 rfl (lv_at hl 0 rfl) ?_
  refine va_get (D := (dC, dI)) (ci := 7) (v := .int i_t_faultKind) (C := RX7) (T := TX7) (N := 6) hx hb hts hin7 hown hK hP 0 rfl rfl 4 (by decide) (hts (.fieldLink RX7 25 "TowedBack$Reader" "faultKind" "I") (List.mem_of_getElem? (i := 1) rfl)) (fun _ h9 => h9) rfl dX7_note_1 ?_
  refine lv_if_eq (tgt := 8) hx hb dX7_note_4 (by decide) (fun hc => ?_) (fun hc => ?_)
  · have h := k_pos hc h
    refine lv_aload_n hx hb dX7_note_8 rfl (lv_at hl 0 rfl) ?_
    refine lv_iload_n hx hb dX7_note_9 rfl (lv_at hl 1 rfl) ?_
    refine va_put (D := (dC, dI)) (ci := 7) (v := .int y1) (ty := tyX7 4) (C := RX7) (T := TX7) (N := 6) hx hb hts hin7 tyX7 tyX7_ok nmX7 hown hK hP hD hS 0 rfl rfl 4 (by decide) (hts (.fieldLink RX7 25 "TowedBack$Reader" "faultKind" "I") (List.mem_of_getElem? (i := 1) rfl)) (fun _ h9 => h9) rfl (tyX7_ok 4 (by decide)) rfl rfl (Nat.le_of_ble_eq_true rfl) dX7_note_10 (fun H locs hP hD hS => ?_)
    have hP : va_P (dC, dI) vwCl (wd_tReader cI cZ a_t t_text t_length t_place t_numberAt y1 i_t_faultAt) H := hP
    have hD : va_D (va_A (wd_tReader cI cZ a_t t_text t_length t_place t_numberAt i_t_faultKind i_t_faultAt) s.heap.size) (wd_tReader cI cZ a_t t_text t_length t_place t_numberAt y1 i_t_faultAt) := hD
    refine lv_aload_n hx hb dX7_note_13 rfl (lv_at hl 0 rfl) ?_
    refine lv_iload_n hx hb dX7_note_14 rfl (lv_at hl 2 rfl) ?_
    refine va_put (D := (dC, dI)) (ci := 7) (v := .int y2) (ty := tyX7 5) (C := RX7) (T := TX7) (N := 6) hx hb hts hin7 tyX7 tyX7_ok nmX7 hown hK hP hD hS 0 rfl rfl 5 (by decide) (hts (.fieldLink RX7 28 "TowedBack$Reader" "faultAt" "I") (List.mem_of_getElem? (i := 2) rfl)) (fun _ h9 => h9) rfl (tyX7_ok 5 (by decide)) rfl rfl (Nat.le_of_ble_eq_true rfl) dX7_note_15 (fun H locs hP hD hS => ?_)
    have hP : va_P (dC, dI) vwCl (wd_tReader cI cZ a_t t_text t_length t_place t_numberAt y1 y2) H := hP
    have hD : va_D (va_A (wd_tReader cI cZ a_t t_text t_length t_place t_numberAt i_t_faultKind i_t_faultAt) s.heap.size) (wd_tReader cI cZ a_t t_text t_length t_place t_numberAt y1 y2) := hD
    obtain ⟨rfl, rfl⟩ := k_in2 h
    exact k_rv hx hb hr hlocks hP hS dX7_note_18
  · have h := k_neg hc h
    obtain ⟨rfl, rfl⟩ := k_in2 h
    exact k_rv hx hb hr hlocks hP hS dX7_note_7
set_option maxHeartbeats 4000000 in
set_option maxRecDepth 100000 in
theorem c_Reader_readSign (l : Launch) (dC : Nat → ClassId) (dI : Nat → Nat → Nat) (cI cZ : ClassId) (a_t : Nat → Nat) (t_text : Nat) (t_length : Int32) (i_t_place : Int32) (t_numberAt : Int32) (i_t_faultKind : Int32) (i_t_faultAt : Int32) (tx : Nat → Int32) (y1 : Int32) (o_t_place : Int32) (o_t_faultKind : Int32) (o_t_faultAt : Int32) (h : m_Reader_readSign y1 t_length i_t_place i_t_faultKind i_t_faultAt tx = some (o_t_place, o_t_faultKind, o_t_faultAt)) : (MV l yX7_readSign wsX7_readSign ({ frames := 2, cells := 0, slots := 0, locals := 40 }) (dC, dI) [(cI, .int), (cZ, .boolean)] (wd_tReader_txARR cI cZ a_t t_text t_length i_t_place t_numberAt i_t_faultKind i_t_faultAt tx) (wd_tReader_txARR cI cZ a_t t_text t_length o_t_place t_numberAt o_t_faultKind o_t_faultAt tx) [.ref (a_t 0), .int y1]) := by
  intro sz
  refine Met.ofW (cc := cX7_readSign) (maxL := 2) (ret := none) (by decide) rfl ?_
  intro p e s m args below meth c s₁ B hml hv
  obtain ⟨rfl, hsz, hP, hK, hD0⟩ := hv
  have hx := B.exec
  have hb := B.bytes
  have hr := B.returns
  have hts := atoms_spec (ws := wsX7_readSign) B.pre
  have hown : s.vm.findClass RX7 = some m.cls := findClass_of_methodNamed B.named
  have hlocks := B.notSynchronized
  subst hsz
  have hD := hD0.self (sz := s.heap.size)
  have hA : ∀ q : Nat, s.heap.size ≤ q → va_A (wd_tReader_txARR cI cZ a_t t_text t_length i_t_place t_numberAt i_t_faultKind i_t_faultAt tx) s.heap.size q := fun q h => Or.inr h
  have hS : va_S (va_A (wd_tReader_txARR cI cZ a_t t_text t_length i_t_place t_numberAt i_t_faultKind i_t_faultAt tx) s.heap.size) s.heap s.heap [] := va_S.rf
  have hin7 : ∀ w ∈ u_ws RX7 TX7 6, w ∈ wsX7_readSign := fun w h => List.mem_cons_of_mem _ (List.mem_append_right _ h)
  have hl := lv_entry ([.ref (a_t 0), .int y1]) (n := 2) (Nat.le_of_ble_eq_true rfl)
  rw [lg_entry_eq]
  generalize (lg_sl ([.ref (a_t 0), .int y1]) ++ List.replicate (2 - (lg_sl ([.ref (a_t 0), .int y1])).length) Slot.unset).toArray = ls at hl ⊢
  have hl : lv_has ls 2 [(0, .ref (a_t 0)), (1, .int y1)] := hl
  have J29 : ∀  (t_place : Int32) (t_faultKind : Int32) (t_faultAt : Int32) (H : Heap) (locs : List Loc) (ls : Array Slot), va_P (dC, dI) vwCl (wd_tReader_txARR cI cZ a_t t_text t_length t_place t_numberAt t_faultKind t_faultAt tx) H → va_D (va_A (wd_tReader_txARR cI cZ a_t t_text t_length i_t_place t_numberAt i_t_faultKind i_t_faultAt tx) s.heap.size) (wd_tReader_txARR cI cZ a_t t_text t_length t_place t_numberAt t_faultKind t_faultAt tx) → va_S (va_A (wd_tReader_txARR cI cZ a_t t_text t_length i_t_place t_numberAt i_t_faultKind i_t_faultAt tx) s.heap.size) s.heap H locs → lv_has ls 2 [(0, .ref (a_t 0))] → m_Reader_readSign_B29  t_length t_place t_faultKind t_faultAt tx = some (o_t_place, o_t_faultKind, o_t_faultAt) → W p l e (headSpec wsX7_readSign ({ frames := 2, cells := 0, slots := 0, locals := 40 })).room s m ([.ref (a_t 0), .int y1] : List Value).toArray below meth c H locs 0 0 (MQ below (cQv (dC, dI) (wd_tReader_txARR cI cZ a_t t_text t_length i_t_place t_numberAt i_t_faultKind i_t_faultAt tx) (wd_tReader_txARR cI cZ a_t t_text t_length o_t_place t_numberAt o_t_faultKind o_t_faultAt tx) s.heap.size) ([.ref (a_t 0), .int y1] : List Value).toArray s 0 0 (va_A (wd_tReader_txARR cI cZ a_t t_text t_length i_t_place t_numberAt i_t_faultKind i_t_faultAt tx) s.heap.size)) (F0 m 29 ls []) := by
    intro t_place t_faultKind t_faultAt H locs ls hP hD hS hl h
    unfold m_Reader_readSign_B29 at h
    refine lv_aload_n hx hb dX7_readSign_29 rfl (lv_at hl 0 rfl) ?_
    refine lv_dup hx hb dX7_readSign_30 rfl ?_
    refine va_get (D := (dC, dI)) (ci := 7) (v := .int t_place) (C := RX7) (T := TX7) (N := 6) hx hb hts hin7 hown hK hP 0 rfl rfl 2 (by decide) (hts (.fieldLink RX7 19 "TowedBack$Reader" "place" "I") (List.mem_of_getElem? (i := 2) rfl)) (fun _ h9 => h9) rfl dX7_readSign_31 ?_
    refine lv_iconst (v := 1) hx hb dX7_readSign_34 (by decide) ?_
    refine lv_iadd hx hb dX7_readSign_35 ?_
    refine va_put (D := (dC, dI)) (ci := 7) (v := .int (t_place + 1)) (ty := tyX7 2) (C := RX7) (T := TX7) (N := 6) hx hb hts hin7 tyX7 tyX7_ok nmX7 hown hK hP hD hS 0 rfl rfl 2 (by decide) (hts (.fieldLink RX7 19 "TowedBack$Reader" "place" "I") (List.mem_of_getElem? (i := 2) rfl)) (fun _ h9 => h9) rfl (tyX7_ok 2 (by decide)) rfl rfl (Nat.le_of_ble_eq_true rfl) dX7_readSign_36 (fun H locs hP hD hS => ?_)
    have hP : va_P (dC, dI) vwCl (wd_tReader_txARR cI cZ a_t t_text t_length (t_place + 1) t_numberAt t_faultKind t_faultAt tx) H := hP
    have hD : va_D (va_A (wd_tReader_txARR cI cZ a_t t_text t_length i_t_place t_numberAt i_t_faultKind i_t_faultAt tx) s.heap.size) (wd_tReader_txARR cI cZ a_t t_text t_length (t_place + 1) t_numberAt t_faultKind t_faultAt tx) := hD
    obtain ⟨rfl, rfl, rfl⟩ := k_in3 h
    exact k_rv hx hb hr hlocks hP hS dX7_readSign_39
  unfold m_Reader_readSign at h
  refine lv_aload_n hx hb dX7_readSign_0 rfl (lv_at hl 0 rfl) ?_
  refine va_get (D := (dC, dI)) (ci := 7) (v := .int i_t_faultKind) (C := RX7) (T := TX7) (N := 6) hx hb hts hin7 hown hK hP 0 rfl rfl 4 (by decide) (hts (.fieldLink RX7 25 "TowedBack$Reader" "faultKind" "I") (List.mem_of_getElem? (i := 1) rfl)) (fun _ h9 => h9) rfl dX7_readSign_1 ?_
  refine lv_if_eq (tgt := 8) hx hb dX7_readSign_4 (by decide) (fun hc => ?_) (fun hc => ?_)
  · have h := k_pos hc h
    refine lv_aload_n hx hb dX7_readSign_8 rfl (lv_at hl 0 rfl) ?_
    obtain ⟨t_place_1, hc1, h⟩ := kb1_some h
    refine k_FVv (rest := []) (As := []) ⟨hx, hb, hml, hown, hts⟩ (c_Reader_skipBlanks l dC dI cI cZ a_t t_text t_length i_t_place t_numberAt i_t_faultKind i_t_faultAt tx t_place_1 hc1) (cwV 0 hts gX7_readSign_X7_skipBlanks rfl rfl rfl hd_7_skipBlanks ⟨Nat.le_of_ble_eq_true rfl, Nat.le_of_ble_eq_true rfl⟩) hK hP hD hS hA 0 7 rfl rfl rfl (wd_tReader_txARR_f.trans wd_tReader_txARR_f.symm) rfl hl.1 rfl (Nat.le_of_ble_eq_true rfl) dX7_readSign_9 ⟨Nat.zero_le _, Nat.zero_le _⟩ (fun H locs hP hD hS => ?_)
    refine lv_aload_n hx hb dX7_readSign_12 rfl (lv_at hl 0 rfl) ?_
    obtain ⟨r2, hc2, h⟩ := kb1_some h
    refine k_FVi (rest := []) (As := []) ⟨hx, hb, hml, hown, hts⟩ (c_Reader_letterHere l dC dI cI cZ a_t t_text t_length t_place_1 t_numberAt i_t_faultKind i_t_faultAt tx r2 hc2) (cwV 0 hts gX7_readSign_X7_letterHere rfl rfl rfl hd_7_letterHere ⟨Nat.le_of_ble_eq_true rfl, Nat.le_of_ble_eq_true rfl⟩) hK hP hD hS hA 0 7 rfl rfl rfl (wd_tReader_txARR_f.trans wd_tReader_txARR_f.symm) rfl hl.1 rfl (Nat.le_of_ble_eq_true rfl) dX7_readSign_13 ⟨Nat.zero_le _, Nat.zero_le _⟩ (fun H locs hP hD hS => ?_)
    refine lv_iload_n hx hb dX7_readSign_16 rfl (lv_at hl 1 rfl) ?_
    refine lv_icmp_eq (tgt := 29) hx hb dX7_readSign_17 (by decide) (fun hc => ?_) (fun hc => ?_)
    · have h := k_pos hc h
      exact J29 t_place_1 i_t_faultKind i_t_faultAt _ _ _ hP hD hS (lv_sub hl [0] rfl) h
    · have h := k_neg hc h
      refine lv_aload_n hx hb dX7_readSign_20 rfl (lv_at hl 0 rfl) ?_
      refine lv_iconst (v := 1) hx hb dX7_readSign_21 (by decide) ?_
      refine lv_aload_n hx hb dX7_readSign_22 rfl (lv_at hl 0 rfl) ?_
      refine va_get (D := (dC, dI)) (ci := 7) (v := .int t_place_1) (C := RX7) (T := TX7) (N := 6) hx hb hts hin7 hown hK hP 0 rfl rfl 2 (by decide) (hts (.fieldLink RX7 19 "TowedBack$Reader" "place" "I") (List.mem_of_getElem? (i := 2) rfl)) (fun _ h9 => h9) rfl dX7_readSign_23 ?_
      obtain ⟨t_faultKind_3, t_faultAt_3, hc3, h⟩ := kb2_some h
      refine k_GVv (rest := []) (As := [.int 1, .int t_place_1]) (ws' := (wd_tReader_txARR cI cZ a_t t_text t_length t_place_1 t_numberAt t_faultKind_3 t_faultAt_3 tx)) ⟨hx, hb, hml, hown, hts⟩ (c_Reader_note l dC dI cI cZ a_t t_text t_length t_place_1 t_numberAt i_t_faultKind i_t_faultAt 1 t_place_1 t_faultKind_3 t_faultAt_3 hc3) (cwV 2 hts gX7_readSign_X7_note rfl rfl rfl hd_7_note ⟨Nat.le_of_ble_eq_true rfl, Nat.le_of_ble_eq_true rfl⟩) hK hP hD hS hA [0] rfl (by decide +kernel) 0 7 rfl rfl rfl [1] rfl (k_allc rfl rfl k_alln) 2 rfl (by decide +kernel) (wd_tReader_txARR_f.trans wd_tReader_txARR_f.symm) rfl hl.1 rfl (Nat.le_of_ble_eq_true rfl) dX7_readSign_26 ⟨Nat.zero_le _, Nat.zero_le _⟩ (fun H locs hP hD hS => ?_)
      exact J29 t_place_1 t_faultKind_3 t_faultAt_3 _ _ _ hP hD hS (lv_sub hl [0] rfl) h
  · have h := k_neg hc h
    obtain ⟨rfl, rfl, rfl⟩ := k_in3 h
    exact k_rv hx hb hr hlocks hP hS dX7_readSign_7
set_option maxHeartbeats 4000000 in
set_option maxRecDepth 100000 in
theorem c_Reader_isFigure (l : Launch) (dC : Nat → ClassId) (dI : Nat → Nat → Nat) (cI cZ : ClassId)  (y0 : Int32) (r0 : Int32) (h : m_Reader_isFigure y0 = some r0) : (MI l yX7_isFigure wsX7_isFigure ({ frames := 0, cells := 0, slots := 0, locals := 0 }) (dC, dI) [(cI, .int), (cZ, .boolean)] ([] : va_W) ([] : va_W) [.int y0] r0) := by
  intro sz
  refine Met.ofW (cc := cX7_isFigure) (maxL := 1) (ret := (some .boolean)) (by decide) rfl ?_
  intro p e s m args below meth c s₁ B hml hv
  obtain ⟨rfl, hsz, hP, hK, hD0⟩ := hv
  have hx := B.exec
  have hb := B.bytes
  have hr := B.returns
  have hts := atoms_spec (ws := wsX7_isFigure) B.pre
  have hown : s.vm.findClass RX7 = some m.cls := findClass_of_methodNamed B.named
  have hlocks := B.notSynchronized
  subst hsz
  have hD := hD0.self (sz := s.heap.size)
  have hA : ∀ q : Nat, s.heap.size ≤ q → va_A ([] : va_W) s.heap.size q := fun q h => Or.inr h
  have hS : va_S (va_A ([] : va_W) s.heap.size) s.heap s.heap [] := va_S.rf
  have hl := lv_entry ([.int y0]) (n := 1) (Nat.le_of_ble_eq_true rfl)
  rw [lg_entry_eq]
  generalize (lg_sl ([.int y0]) ++ List.replicate (1 - (lg_sl ([.int y0])).length) Slot.unset).toArray = ls at hl ⊢
  have hl : lv_has ls 1 [(0, .int y0)] := hl
  unfold m_Reader_isFigure at h
  refine lv_iload_n hx hb dX7_isFigure_0 rfl (lv_at hl 0 rfl) ?_
  refine lv_bipush (v := 48) hx hb dX7_isFigure_1 (by decide) ?_
  refine lv_icmp_lt (tgt := 16) hx hb dX7_isFigure_3 (by decide) (fun hc => ?_) (fun hc => ?_)
  · have h := k_pos hc h
    refine lv_iconst (v := 0) hx hb dX7_isFigure_16 (by decide) ?_
    obtain rfl := k_in1 h
    exact k_rz hx hb hr hlocks rfl hP hS dX7_isFigure_17
  · have h := k_neg hc h
    refine lv_iload_n hx hb dX7_isFigure_6 rfl (lv_at hl 0 rfl) ?_
    refine lv_bipush (v := 57) hx hb dX7_isFigure_7 (by decide) ?_
    refine lv_icmp_gt (tgt := 16) hx hb dX7_isFigure_9 (by decide) (fun hc => ?_) (fun hc => ?_)
    · have h := k_pos hc h
      refine lv_iconst (v := 0) hx hb dX7_isFigure_16 (by decide) ?_
      obtain rfl := k_in1 h
      exact k_rz hx hb hr hlocks rfl hP hS dX7_isFigure_17
    · have h := k_neg hc h
      refine lv_iconst (v := 1) hx hb dX7_isFigure_12 (by decide) ?_
      refine lv_goto (tgt := 17) hx hb dX7_isFigure_13 (by decide) ?_
      obtain rfl := k_in1 h
      exact k_rz hx hb hr hlocks rfl hP hS dX7_isFigure_17
set_option maxHeartbeats 4000000 in
set_option maxRecDepth 100000 in
theorem c_Reader_readNumber (l : Launch) (dC : Nat → ClassId) (dI : Nat → Nat → Nat) (cI cZ : ClassId) (a_t : Nat → Nat) (t_text : Nat) (t_length : Int32) (i_t_place : Int32) (i_t_numberAt : Int32) (i_t_faultKind : Int32) (i_t_faultAt : Int32) (tx : Nat → Int32) (y1 : Int32) (y2 : Int32) (r0 : Int32) (o_t_place : Int32) (o_t_numberAt : Int32) (o_t_faultKind : Int32) (o_t_faultAt : Int32) (h : m_Reader_readNumber y1 y2 t_length i_t_place i_t_numberAt i_t_faultKind i_t_faultAt tx = some (r0, o_t_place, o_t_numberAt, o_t_faultKind, o_t_faultAt)) : (MI l yX7_readNumber wsX7_readNumber ({ frames := 2, cells := 0, slots := 0, locals := 40 }) (dC, dI) [(cI, .int), (cZ, .boolean)] (wd_tReader_txARR cI cZ a_t t_text t_length i_t_place i_t_numberAt i_t_faultKind i_t_faultAt tx) (wd_tReader_txARR cI cZ a_t t_text t_length o_t_place o_t_numberAt o_t_faultKind o_t_faultAt tx) [.ref (a_t 0), .int y1, .int y2] r0) := by
  intro sz
  refine Met.ofW (cc := cX7_readNumber) (maxL := 4) (ret := (some .int)) (by decide) rfl ?_
  intro p e s m args below meth c s₁ B hml hv
  obtain ⟨rfl, hsz, hP, hK, hD0⟩ := hv
  have hx := B.exec
  have hb := B.bytes
  have hr := B.returns
  have hts := atoms_spec (ws := wsX7_readNumber) B.pre
  have hown : s.vm.findClass RX7 = some m.cls := findClass_of_methodNamed B.named
  have hlocks := B.notSynchronized
  subst hsz
  have hD := hD0.self (sz := s.heap.size)
  have hA : ∀ q : Nat, s.heap.size ≤ q → va_A (wd_tReader_txARR cI cZ a_t t_text t_length i_t_place i_t_numberAt i_t_faultKind i_t_faultAt tx) s.heap.size q := fun q h => Or.inr h
  have hS : va_S (va_A (wd_tReader_txARR cI cZ a_t t_text t_length i_t_place i_t_numberAt i_t_faultKind i_t_faultAt tx) s.heap.size) s.heap s.heap [] := va_S.rf
  have hin7 : ∀ w ∈ u_ws RX7 TX7 6, w ∈ wsX7_readNumber := fun w h => List.mem_cons_of_mem _ (List.mem_append_right _ h)
  have hl := lv_entry ([.ref (a_t 0), .int y1, .int y2]) (n := 4) (Nat.le_of_ble_eq_true rfl)
  rw [lg_entry_eq]
  generalize (lg_sl ([.ref (a_t 0), .int y1, .int y2]) ++ List.replicate (4 - (lg_sl ([.ref (a_t 0), .int y1, .int y2])).length) Slot.unset).toArray = ls at hl ⊢
  have hl : lv_has ls 4 [(0, .ref (a_t 0)), (1, .int y1), (2, .int y2)] := hl
  have J129 : ∀ (x3 : Int32) (t_place : Int32) (t_numberAt : Int32) (t_faultKind : Int32) (t_faultAt : Int32) (H : Heap) (locs : List Loc) (ls : Array Slot), va_P (dC, dI) vwCl (wd_tReader_txARR cI cZ a_t t_text t_length t_place t_numberAt t_faultKind t_faultAt tx) H → va_D (va_A (wd_tReader_txARR cI cZ a_t t_text t_length i_t_place i_t_numberAt i_t_faultKind i_t_faultAt tx) s.heap.size) (wd_tReader_txARR cI cZ a_t t_text t_length t_place t_numberAt t_faultKind t_faultAt tx) → va_S (va_A (wd_tReader_txARR cI cZ a_t t_text t_length i_t_place i_t_numberAt i_t_faultKind i_t_faultAt tx) s.heap.size) s.heap H locs → lv_has ls 4 [(0, .ref (a_t 0)), (3, .int x3)] → m_Reader_readNumber_B129  x3 t_length t_place t_numberAt t_faultKind t_faultAt tx = some (r0, o_t_place, o_t_numberAt, o_t_faultKind, o_t_faultAt) → W p l e (headSpec wsX7_readNumber ({ frames := 2, cells := 0, slots := 0, locals := 40 })).room s m ([.ref (a_t 0), .int y1, .int y2] : List Value).toArray below meth c H locs 0 0 (MQ below (cQi (dC, dI) (wd_tReader_txARR cI cZ a_t t_text t_length i_t_place i_t_numberAt i_t_faultKind i_t_faultAt tx) (wd_tReader_txARR cI cZ a_t t_text t_length o_t_place o_t_numberAt o_t_faultKind o_t_faultAt tx) s.heap.size r0) ([.ref (a_t 0), .int y1, .int y2] : List Value).toArray s 0 0 (va_A (wd_tReader_txARR cI cZ a_t t_text t_length i_t_place i_t_numberAt i_t_faultKind i_t_faultAt tx) s.heap.size)) (F0 m 129 ls []) := by
    intro x3 t_place t_numberAt t_faultKind t_faultAt H locs ls hP hD hS hl h
    unfold m_Reader_readNumber_B129 at h
    refine lv_aload_n hx hb dX7_readNumber_129 rfl (lv_at hl 0 rfl) ?_
    refine lv_iconst (v := 2) hx hb dX7_readNumber_130 (by decide) ?_
    refine lv_aload_n hx hb dX7_readNumber_131 rfl (lv_at hl 0 rfl) ?_
    refine va_get (D := (dC, dI)) (ci := 7) (v := .int t_numberAt) (C := RX7) (T := TX7) (N := 6) hx hb hts hin7 hown hK hP 0 rfl rfl 3 (by decide) (hts (.fieldLink RX7 22 "TowedBack$Reader" "numberAt" "I") (List.mem_of_getElem? (i := 3) rfl)) (fun _ h9 => h9) rfl dX7_readNumber_132 ?_
    obtain ⟨t_faultKind_1, t_faultAt_1, hc1, h⟩ := kb2_some h
    refine k_GVv (rest := []) (As := [.int 2, .int t_numberAt]) (ws' := (wd_tReader_txARR cI cZ a_t t_text t_length t_place t_numberAt t_faultKind_1 t_faultAt_1 tx)) ⟨hx, hb, hml, hown, hts⟩ (c_Reader_note l dC dI cI cZ a_t t_text t_length t_place t_numberAt t_faultKind t_faultAt 2 t_numberAt t_faultKind_1 t_faultAt_1 hc1) (cwV 2 hts gX7_readNumber_X7_note rfl rfl rfl hd_7_note ⟨Nat.le_of_ble_eq_true rfl, Nat.le_of_ble_eq_true rfl⟩) hK hP hD hS hA [0] rfl (by decide +kernel) 0 7 rfl rfl rfl [1] rfl (k_allc rfl rfl k_alln) 2 rfl (by decide +kernel) (wd_tReader_txARR_f.trans wd_tReader_txARR_f.symm) rfl hl.1 rfl (Nat.le_of_ble_eq_true rfl) dX7_readNumber_135 ⟨Nat.zero_le _, Nat.zero_le _⟩ (fun H locs hP hD hS => ?_)
    refine lv_iload_n hx hb dX7_readNumber_138 rfl (lv_at hl 1 rfl) ?_
    obtain ⟨rfl, rfl, rfl, rfl, rfl⟩ := k_in5 h
    exact k_ri hx hb hr hlocks hP hS dX7_readNumber_139
  have J83 : ∀ (x1 : Int32) (x2 : Int32) (x3 : Int32) (t_place : Int32) (t_numberAt : Int32) (t_faultKind : Int32) (t_faultAt : Int32) (H : Heap) (locs : List Loc) (ls : Array Slot), va_P (dC, dI) vwCl (wd_tReader_txARR cI cZ a_t t_text t_length t_place t_numberAt t_faultKind t_faultAt tx) H → va_D (va_A (wd_tReader_txARR cI cZ a_t t_text t_length i_t_place i_t_numberAt i_t_faultKind i_t_faultAt tx) s.heap.size) (wd_tReader_txARR cI cZ a_t t_text t_length t_place t_numberAt t_faultKind t_faultAt tx) → va_S (va_A (wd_tReader_txARR cI cZ a_t t_text t_length i_t_place i_t_numberAt i_t_faultKind i_t_faultAt tx) s.heap.size) s.heap H locs → lv_has ls 4 [(0, .ref (a_t 0)), (1, .int x1), (2, .int x2), (3, .int x3)] → m_Reader_readNumber_B83  x1 x2 x3 t_length t_place t_numberAt t_faultKind t_faultAt tx = some (r0, o_t_place, o_t_numberAt, o_t_faultKind, o_t_faultAt) → W p l e (headSpec wsX7_readNumber ({ frames := 2, cells := 0, slots := 0, locals := 40 })).room s m ([.ref (a_t 0), .int y1, .int y2] : List Value).toArray below meth c H locs 0 0 (MQ below (cQi (dC, dI) (wd_tReader_txARR cI cZ a_t t_text t_length i_t_place i_t_numberAt i_t_faultKind i_t_faultAt tx) (wd_tReader_txARR cI cZ a_t t_text t_length o_t_place o_t_numberAt o_t_faultKind o_t_faultAt tx) s.heap.size r0) ([.ref (a_t 0), .int y1, .int y2] : List Value).toArray s 0 0 (va_A (wd_tReader_txARR cI cZ a_t t_text t_length i_t_place i_t_numberAt i_t_faultKind i_t_faultAt tx) s.heap.size)) (F0 m 83 ls []) := by
    intro x1 x2 x3 t_place t_numberAt t_faultKind t_faultAt H locs ls hP hD hS hl h
    unfold m_Reader_readNumber_B83 at h
    refine lv_aload_n hx hb dX7_readNumber_83 rfl (lv_at hl 0 rfl) ?_
    refine va_get (D := (dC, dI)) (ci := 7) (v := .int t_place) (C := RX7) (T := TX7) (N := 6) hx hb hts hin7 hown hK hP 0 rfl rfl 2 (by decide) (hts (.fieldLink RX7 19 "TowedBack$Reader" "place" "I") (List.mem_of_getElem? (i := 2) rfl)) (fun _ h9 => h9) rfl dX7_readNumber_84 ?_
    refine lv_aload_n hx hb dX7_readNumber_87 rfl (lv_at hl 0 rfl) ?_
    refine va_get (D := (dC, dI)) (ci := 7) (v := .int t_numberAt) (C := RX7) (T := TX7) (N := 6) hx hb hts hin7 hown hK hP 0 rfl rfl 3 (by decide) (hts (.fieldLink RX7 22 "TowedBack$Reader" "numberAt" "I") (List.mem_of_getElem? (i := 3) rfl)) (fun _ h9 => h9) rfl dX7_readNumber_88 ?_
    refine lv_icmp_ne (tgt := 106) hx hb dX7_readNumber_91 (by decide) (fun hc => ?_) (fun hc => ?_)
    · have h := k_neg hc h
      refine lv_aload_n hx hb dX7_readNumber_106 rfl (lv_at hl 0 rfl) ?_
      refine va_get (D := (dC, dI)) (ci := 7) (v := .int t_place) (C := RX7) (T := TX7) (N := 6) hx hb hts hin7 hown hK hP 0 rfl rfl 2 (by decide) (hts (.fieldLink RX7 19 "TowedBack$Reader" "place" "I") (List.mem_of_getElem? (i := 2) rfl)) (fun _ h9 => h9) rfl dX7_readNumber_107 ?_
      refine lv_aload_n hx hb dX7_readNumber_110 rfl (lv_at hl 0 rfl) ?_
      refine va_get (D := (dC, dI)) (ci := 7) (v := .int t_numberAt) (C := RX7) (T := TX7) (N := 6) hx hb hts hin7 hown hK hP 0 rfl rfl 3 (by decide) (hts (.fieldLink RX7 22 "TowedBack$Reader" "numberAt" "I") (List.mem_of_getElem? (i := 3) rfl)) (fun _ h9 => h9) rfl dX7_readNumber_111 ?_
      refine lv_isub hx hb dX7_readNumber_114 ?_
      refine lv_iconst (v := 3) hx hb dX7_readNumber_115 (by decide) ?_
      refine lv_icmp_gt (tgt := 129) hx hb dX7_readNumber_116 (by decide) (fun hc => ?_) (fun hc => ?_)
      · have h := k_pos hc h
        exact J129 x3 t_place t_numberAt t_faultKind t_faultAt _ _ _ hP hD hS (lv_sub hl [0, 3] rfl) h
      · have h := k_neg hc h
        refine lv_iload_n hx hb dX7_readNumber_119 rfl (lv_at hl 3 rfl) ?_
        refine lv_iload_n hx hb dX7_readNumber_120 rfl (lv_at hl 1 rfl) ?_
        refine lv_icmp_lt (tgt := 129) hx hb dX7_readNumber_121 (by decide) (fun hc => ?_) (fun hc => ?_)
        · have h := k_pos hc h
          exact J129 x3 t_place t_numberAt t_faultKind t_faultAt _ _ _ hP hD hS (lv_sub hl [0, 3] rfl) h
        · have h := k_neg hc h
          refine lv_iload_n hx hb dX7_readNumber_124 rfl (lv_at hl 3 rfl) ?_
          refine lv_iload_n hx hb dX7_readNumber_125 rfl (lv_at hl 2 rfl) ?_
          refine lv_icmp_le (tgt := 138) hx hb dX7_readNumber_126 (by decide) (fun hc => ?_) (fun hc => ?_)
          · have h := k_pos hc h
            refine lv_iload_n hx hb dX7_readNumber_138 rfl (lv_at hl 3 rfl) ?_
            obtain ⟨rfl, rfl, rfl, rfl, rfl⟩ := k_in5 h
            exact k_ri hx hb hr hlocks hP hS dX7_readNumber_139
          · have h := k_neg hc h
            exact J129 x3 t_place t_numberAt t_faultKind t_faultAt _ _ _ hP hD hS (lv_sub hl [0, 3] rfl) h
    · have h := k_pos hc h
      refine lv_aload_n hx hb dX7_readNumber_94 rfl (lv_at hl 0 rfl) ?_
      refine lv_iconst (v := 1) hx hb dX7_readNumber_95 (by decide) ?_
      refine lv_aload_n hx hb dX7_readNumber_96 rfl (lv_at hl 0 rfl) ?_
      refine va_get (D := (dC, dI)) (ci := 7) (v := .int t_numberAt) (C := RX7) (T := TX7) (N := 6) hx hb hts hin7 hown hK hP 0 rfl rfl 3 (by decide) (hts (.fieldLink RX7 22 "TowedBack$Reader" "numberAt" "I") (List.mem_of_getElem? (i := 3) rfl)) (fun _ h9 => h9) rfl dX7_readNumber_97 ?_
      obtain ⟨t_faultKind_2, t_faultAt_2, hc2, h⟩ := kb2_some h
      refine k_GVv (rest := []) (As := [.int 1, .int t_numberAt]) (ws' := (wd_tReader_txARR cI cZ a_t t_text t_length t_place t_numberAt t_faultKind_2 t_faultAt_2 tx)) ⟨hx, hb, hml, hown, hts⟩ (c_Reader_note l dC dI cI cZ a_t t_text t_length t_place t_numberAt t_faultKind t_faultAt 1 t_numberAt t_faultKind_2 t_faultAt_2 hc2) (cwV 2 hts gX7_readNumber_X7_note rfl rfl rfl hd_7_note ⟨Nat.le_of_ble_eq_true rfl, Nat.le_of_ble_eq_true rfl⟩) hK hP hD hS hA [0] rfl (by decide +kernel) 0 7 rfl rfl rfl [1] rfl (k_allc rfl rfl k_alln) 2 rfl (by decide +kernel) (wd_tReader_txARR_f.trans wd_tReader_txARR_f.symm) rfl hl.1 rfl (Nat.le_of_ble_eq_true rfl) dX7_readNumber_100 ⟨Nat.zero_le _, Nat.zero_le _⟩ (fun H locs hP hD hS => ?_)
      refine lv_goto (tgt := 138) hx hb dX7_readNumber_103 (by decide) ?_
      refine lv_iload_n hx hb dX7_readNumber_138 rfl (lv_at hl 3 rfl) ?_
      obtain ⟨rfl, rfl, rfl, rfl, rfl⟩ := k_in5 h
      exact k_ri hx hb hr hlocks hP hS dX7_readNumber_139
  have L23 : ∀ (n23 : Nat) (x1 : Int32) (x2 : Int32) (x3 : Int32) (t_place : Int32) (t_numberAt : Int32) (t_faultKind : Int32) (t_faultAt : Int32) (H : Heap) (locs : List Loc) (ls : Array Slot), va_P (dC, dI) vwCl (wd_tReader_txARR cI cZ a_t t_text t_length t_place t_numberAt t_faultKind t_faultAt tx) H → va_D (va_A (wd_tReader_txARR cI cZ a_t t_text t_length i_t_place i_t_numberAt i_t_faultKind i_t_faultAt tx) s.heap.size) (wd_tReader_txARR cI cZ a_t t_text t_length t_place t_numberAt t_faultKind t_faultAt tx) → va_S (va_A (wd_tReader_txARR cI cZ a_t t_text t_length i_t_place i_t_numberAt i_t_faultKind i_t_faultAt tx) s.heap.size) s.heap H locs → lv_has ls 4 [(0, .ref (a_t 0)), (1, .int x1), (2, .int x2), (3, .int x3)] → m_Reader_readNumber_L23  n23 x1 x2 x3 t_length t_place t_numberAt t_faultKind t_faultAt tx = some (r0, o_t_place, o_t_numberAt, o_t_faultKind, o_t_faultAt) → W p l e (headSpec wsX7_readNumber ({ frames := 2, cells := 0, slots := 0, locals := 40 })).room s m ([.ref (a_t 0), .int y1, .int y2] : List Value).toArray below meth c H locs 0 0 (MQ below (cQi (dC, dI) (wd_tReader_txARR cI cZ a_t t_text t_length i_t_place i_t_numberAt i_t_faultKind i_t_faultAt tx) (wd_tReader_txARR cI cZ a_t t_text t_length o_t_place o_t_numberAt o_t_faultKind o_t_faultAt tx) s.heap.size r0) ([.ref (a_t 0), .int y1, .int y2] : List Value).toArray s 0 0 (va_A (wd_tReader_txARR cI cZ a_t t_text t_length i_t_place i_t_numberAt i_t_faultKind i_t_faultAt tx) s.heap.size)) (F0 m 23 ls []) := by
    intro n23
    induction n23 with
    | zero => intro x1 x2 x3 t_place t_numberAt t_faultKind t_faultAt H locs ls hP hD hS hl h; have h : none = some (r0, o_t_place, o_t_numberAt, o_t_faultKind, o_t_faultAt) := h; cases h
    | succ n23 ih23 =>
      intro x1 x2 x3 t_place t_numberAt t_faultKind t_faultAt H locs ls hP hD hS hl h
      have h : m_Reader_readNumber_B23  (m_Reader_readNumber_L23  n23) x1 x2 x3 t_length t_place t_numberAt t_faultKind t_faultAt tx = some (r0, o_t_place, o_t_numberAt, o_t_faultKind, o_t_faultAt) := h
      have J70 : ∀ (x1 : Int32) (x2 : Int32) (x3 : Int32) (t_place : Int32) (t_numberAt : Int32) (t_faultKind : Int32) (t_faultAt : Int32) (H : Heap) (locs : List Loc) (ls : Array Slot), va_P (dC, dI) vwCl (wd_tReader_txARR cI cZ a_t t_text t_length t_place t_numberAt t_faultKind t_faultAt tx) H → va_D (va_A (wd_tReader_txARR cI cZ a_t t_text t_length i_t_place i_t_numberAt i_t_faultKind i_t_faultAt tx) s.heap.size) (wd_tReader_txARR cI cZ a_t t_text t_length t_place t_numberAt t_faultKind t_faultAt tx) → va_S (va_A (wd_tReader_txARR cI cZ a_t t_text t_length i_t_place i_t_numberAt i_t_faultKind i_t_faultAt tx) s.heap.size) s.heap H locs → lv_has ls 4 [(0, .ref (a_t 0)), (1, .int x1), (2, .int x2), (3, .int x3)] → m_Reader_readNumber_B70 (m_Reader_readNumber_L23  n23) x1 x2 x3 t_length t_place t_numberAt t_faultKind t_faultAt tx = some (r0, o_t_place, o_t_numberAt, o_t_faultKind, o_t_faultAt) → W p l e (headSpec wsX7_readNumber ({ frames := 2, cells := 0, slots := 0, locals := 40 })).room s m ([.ref (a_t 0), .int y1, .int y2] : List Value).toArray below meth c H locs 0 0 (MQ below (cQi (dC, dI) (wd_tReader_txARR cI cZ a_t t_text t_length i_t_place i_t_numberAt i_t_faultKind i_t_faultAt tx) (wd_tReader_txARR cI cZ a_t t_text t_length o_t_place o_t_numberAt o_t_faultKind o_t_faultAt tx) s.heap.size r0) ([.ref (a_t 0), .int y1, .int y2] : List Value).toArray s 0 0 (va_A (wd_tReader_txARR cI cZ a_t t_text t_length i_t_place i_t_numberAt i_t_faultKind i_t_faultAt tx) s.heap.size)) (F0 m 70 ls []) := by
        intro x1 x2 x3 t_place t_numberAt t_faultKind t_faultAt H locs ls hP hD hS hl h
        unfold m_Reader_readNumber_B70 at h
        refine lv_aload_n hx hb dX7_readNumber_70 rfl (lv_at hl 0 rfl) ?_
        refine lv_dup hx hb dX7_readNumber_71 rfl ?_
        refine va_get (D := (dC, dI)) (ci := 7) (v := .int t_place) (C := RX7) (T := TX7) (N := 6) hx hb hts hin7 hown hK hP 0 rfl rfl 2 (by decide) (hts (.fieldLink RX7 19 "TowedBack$Reader" "place" "I") (List.mem_of_getElem? (i := 2) rfl)) (fun _ h9 => h9) rfl dX7_readNumber_72 ?_
        refine lv_iconst (v := 1) hx hb dX7_readNumber_75 (by decide) ?_
        refine lv_iadd hx hb dX7_readNumber_76 ?_
        refine va_put (D := (dC, dI)) (ci := 7) (v := .int (t_place + 1)) (ty := tyX7 2) (C := RX7) (T := TX7) (N := 6) hx hb hts hin7 tyX7 tyX7_ok nmX7 hown hK hP hD hS 0 rfl rfl 2 (by decide) (hts (.fieldLink RX7 19 "TowedBack$Reader" "place" "I") (List.mem_of_getElem? (i := 2) rfl)) (fun _ h9 => h9) rfl (tyX7_ok 2 (by decide)) rfl rfl (Nat.le_of_ble_eq_true rfl) dX7_readNumber_77 (fun H locs hP hD hS => ?_)
        have hP : va_P (dC, dI) vwCl (wd_tReader_txARR cI cZ a_t t_text t_length (t_place + 1) t_numberAt t_faultKind t_faultAt tx) H := hP
        have hD : va_D (va_A (wd_tReader_txARR cI cZ a_t t_text t_length i_t_place i_t_numberAt i_t_faultKind i_t_faultAt tx) s.heap.size) (wd_tReader_txARR cI cZ a_t t_text t_length (t_place + 1) t_numberAt t_faultKind t_faultAt tx) := hD
        refine lv_goto (tgt := 23) hx hb dX7_readNumber_80 (by decide) ?_
        exact ih23 x1 x2 x3 (t_place + 1) t_numberAt t_faultKind t_faultAt _ _ _ hP hD hS (lv_sub hl [0, 1, 2, 3] rfl) h
      unfold m_Reader_readNumber_B23 at h
      refine lv_aload_n hx hb dX7_readNumber_23 rfl (lv_at hl 0 rfl) ?_
      refine va_get (D := (dC, dI)) (ci := 7) (v := .int t_place) (C := RX7) (T := TX7) (N := 6) hx hb hts hin7 hown hK hP 0 rfl rfl 2 (by decide) (hts (.fieldLink RX7 19 "TowedBack$Reader" "place" "I") (List.mem_of_getElem? (i := 2) rfl)) (fun _ h9 => h9) rfl dX7_readNumber_24 ?_
      refine lv_aload_n hx hb dX7_readNumber_27 rfl (lv_at hl 0 rfl) ?_
      refine va_get (D := (dC, dI)) (ci := 7) (v := .int t_length) (C := RX7) (T := TX7) (N := 6) hx hb hts hin7 hown hK hP 0 rfl rfl 1 (by decide) (hts (.fieldLink RX7 15 "TowedBack$Reader" "length" "I") (List.mem_of_getElem? (i := 4) rfl)) (fun _ h9 => h9) rfl dX7_readNumber_28 ?_
      refine lv_icmp_ge (tgt := 83) hx hb dX7_readNumber_31 (by decide) (fun hc => ?_) (fun hc => ?_)
      · have h := k_pos hc h
        exact J83 x1 x2 x3 t_place t_numberAt t_faultKind t_faultAt _ _ _ hP hD hS (lv_sub hl [0, 1, 2, 3] rfl) h
      · have h := k_neg hc h
        refine lv_aload_n hx hb dX7_readNumber_34 rfl (lv_at hl 0 rfl) ?_
        obtain ⟨r3, hc3, h⟩ := kb1_some h
        refine k_FVi (rest := []) (As := []) ⟨hx, hb, hml, hown, hts⟩ (c_Reader_letterHere l dC dI cI cZ a_t t_text t_length t_place t_numberAt t_faultKind t_faultAt tx r3 hc3) (cwV 0 hts gX7_readNumber_X7_letterHere rfl rfl rfl hd_7_letterHere ⟨Nat.le_of_ble_eq_true rfl, Nat.le_of_ble_eq_true rfl⟩) hK hP hD hS hA 0 7 rfl rfl rfl (wd_tReader_txARR_f.trans wd_tReader_txARR_f.symm) rfl hl.1 rfl (Nat.le_of_ble_eq_true rfl) dX7_readNumber_35 ⟨Nat.zero_le _, Nat.zero_le _⟩ (fun H locs hP hD hS => ?_)
        obtain ⟨r4, hc4, h⟩ := kb1_some h
        refine k_RSi (rest := []) (As := [.int r3]) ⟨hx, hb, hml, hown, hts⟩ (c_Reader_isFigure l dC dI cI cZ r3 r4 hc4) (va_cwS 1 hts gX7_readNumber_X7_isFigure rfl rfl rfl hd_7_isFigure ⟨Nat.le_of_ble_eq_true rfl, Nat.le_of_ble_eq_true rfl⟩) hK hP hD hS hA [] rfl (by decide +kernel) rfl hl.1 rfl (Nat.le_of_ble_eq_true rfl) dX7_readNumber_38 ⟨Nat.zero_le _, Nat.zero_le _⟩ (fun H locs hP hD hS => ?_)
        refine lv_if_eq (tgt := 83) hx hb dX7_readNumber_41 (by decide) (fun hc => ?_) (fun hc => ?_)
        · have h := k_pos hc h
          exact J83 x1 x2 x3 t_place t_numberAt t_faultKind t_faultAt _ _ _ hP hD hS (lv_sub hl [0, 1, 2, 3] rfl) h
        · have h := k_neg hc h
          refine lv_aload_n hx hb dX7_readNumber_44 rfl (lv_at hl 0 rfl) ?_
          refine va_get (D := (dC, dI)) (ci := 7) (v := .int t_place) (C := RX7) (T := TX7) (N := 6) hx hb hts hin7 hown hK hP 0 rfl rfl 2 (by decide) (hts (.fieldLink RX7 19 "TowedBack$Reader" "place" "I") (List.mem_of_getElem? (i := 2) rfl)) (fun _ h9 => h9) rfl dX7_readNumber_45 ?_
          refine lv_aload_n hx hb dX7_readNumber_48 rfl (lv_at hl 0 rfl) ?_
          refine va_get (D := (dC, dI)) (ci := 7) (v := .int t_numberAt) (C := RX7) (T := TX7) (N := 6) hx hb hts hin7 hown hK hP 0 rfl rfl 3 (by decide) (hts (.fieldLink RX7 22 "TowedBack$Reader" "numberAt" "I") (List.mem_of_getElem? (i := 3) rfl)) (fun _ h9 => h9) rfl dX7_readNumber_49 ?_
          refine lv_isub hx hb dX7_readNumber_52 ?_
          refine lv_iconst (v := 3) hx hb dX7_readNumber_53 (by decide) ?_
          refine lv_icmp_ge (tgt := 70) hx hb dX7_readNumber_54 (by decide) (fun hc => ?_) (fun hc => ?_)
          · have h := k_pos hc h
            exact J70 x1 x2 x3 t_place t_numberAt t_faultKind t_faultAt _ _ _ hP hD hS (lv_sub hl [0, 1, 2, 3] rfl) h
          · have h := k_neg hc h
            refine lv_iload_n hx hb dX7_readNumber_57 rfl (lv_at hl 3 rfl) ?_
            refine lv_bipush (v := 10) hx hb dX7_readNumber_58 (by decide) ?_
            refine lv_imul hx hb dX7_readNumber_60 ?_
            refine lv_aload_n hx hb dX7_readNumber_61 rfl (lv_at hl 0 rfl) ?_
            obtain ⟨r5, hc5, h⟩ := kb1_some h
            refine k_FVi (rest := [.int (x3 * 10)]) (As := []) ⟨hx, hb, hml, hown, hts⟩ (c_Reader_letterHere l dC dI cI cZ a_t t_text t_length t_place t_numberAt t_faultKind t_faultAt tx r5 hc5) (cwV 0 hts gX7_readNumber_X7_letterHere rfl rfl rfl hd_7_letterHere ⟨Nat.le_of_ble_eq_true rfl, Nat.le_of_ble_eq_true rfl⟩) hK hP hD hS hA 0 7 rfl rfl rfl (wd_tReader_txARR_f.trans wd_tReader_txARR_f.symm) rfl hl.1 rfl (Nat.le_of_ble_eq_true rfl) dX7_readNumber_62 ⟨Nat.zero_le _, Nat.zero_le _⟩ (fun H locs hP hD hS => ?_)
            refine lv_iadd hx hb dX7_readNumber_65 ?_
            refine lv_bipush (v := 48) hx hb dX7_readNumber_66 (by decide) ?_
            refine lv_isub hx hb dX7_readNumber_68 ?_
            refine lv_istore_n (lv' := [(3, .int (((x3 * 10) + r5) - 48)), (0, .ref (a_t 0)), (1, .int x1), (2, .int x2)]) hx hb dX7_readNumber_69 rfl hl (by decide) rfl (fun ls hl => ?_)
            exact J70 x1 x2 (((x3 * 10) + r5) - 48) t_place t_numberAt t_faultKind t_faultAt _ _ _ hP hD hS (lv_sub hl [1, 2, 3, 0] rfl) h
  unfold m_Reader_readNumber at h
  refine lv_aload_n hx hb dX7_readNumber_0 rfl (lv_at hl 0 rfl) ?_
  refine va_get (D := (dC, dI)) (ci := 7) (v := .int i_t_faultKind) (C := RX7) (T := TX7) (N := 6) hx hb hts hin7 hown hK hP 0 rfl rfl 4 (by decide) (hts (.fieldLink RX7 25 "TowedBack$Reader" "faultKind" "I") (List.mem_of_getElem? (i := 1) rfl)) (fun _ h9 => h9) rfl dX7_readNumber_1 ?_
  refine lv_if_eq (tgt := 9) hx hb dX7_readNumber_4 (by decide) (fun hc => ?_) (fun hc => ?_)
  · have h := k_pos hc h
    refine lv_aload_n hx hb dX7_readNumber_9 rfl (lv_at hl 0 rfl) ?_
    obtain ⟨t_place_6, hc6, h⟩ := kb1_some h
    refine k_FVv (rest := []) (As := []) ⟨hx, hb, hml, hown, hts⟩ (c_Reader_skipBlanks l dC dI cI cZ a_t t_text t_length i_t_place i_t_numberAt i_t_faultKind i_t_faultAt tx t_place_6 hc6) (cwV 0 hts gX7_readNumber_X7_skipBlanks rfl rfl rfl hd_7_skipBlanks ⟨Nat.le_of_ble_eq_true rfl, Nat.le_of_ble_eq_true rfl⟩) hK hP hD hS hA 0 7 rfl rfl rfl (wd_tReader_txARR_f.trans wd_tReader_txARR_f.symm) rfl hl.1 rfl (Nat.le_of_ble_eq_true rfl) dX7_readNumber_10 ⟨Nat.zero_le _, Nat.zero_le _⟩ (fun H locs hP hD hS => ?_)
    refine lv_aload_n hx hb dX7_readNumber_13 rfl (lv_at hl 0 rfl) ?_
    refine lv_aload_n hx hb dX7_readNumber_14 rfl (lv_at hl 0 rfl) ?_
    refine va_get (D := (dC, dI)) (ci := 7) (v := .int t_place_6) (C := RX7) (T := TX7) (N := 6) hx hb hts hin7 hown hK hP 0 rfl rfl 2 (by decide) (hts (.fieldLink RX7 19 "TowedBack$Reader" "place" "I") (List.mem_of_getElem? (i := 2) rfl)) (fun _ h9 => h9) rfl dX7_readNumber_15 ?_
    refine va_put (D := (dC, dI)) (ci := 7) (v := .int t_place_6) (ty := tyX7 3) (C := RX7) (T := TX7) (N := 6) hx hb hts hin7 tyX7 tyX7_ok nmX7 hown hK hP hD hS 0 rfl rfl 3 (by decide) (hts (.fieldLink RX7 22 "TowedBack$Reader" "numberAt" "I") (List.mem_of_getElem? (i := 3) rfl)) (fun _ h9 => h9) rfl (tyX7_ok 3 (by decide)) rfl rfl (Nat.le_of_ble_eq_true rfl) dX7_readNumber_18 (fun H locs hP hD hS => ?_)
    have hP : va_P (dC, dI) vwCl (wd_tReader_txARR cI cZ a_t t_text t_length t_place_6 t_place_6 i_t_faultKind i_t_faultAt tx) H := hP
    have hD : va_D (va_A (wd_tReader_txARR cI cZ a_t t_text t_length i_t_place i_t_numberAt i_t_faultKind i_t_faultAt tx) s.heap.size) (wd_tReader_txARR cI cZ a_t t_text t_length t_place_6 t_place_6 i_t_faultKind i_t_faultAt tx) := hD
    refine lv_iconst (v := 0) hx hb dX7_readNumber_21 (by decide) ?_
    refine lv_istore_n (lv' := [(3, .int 0), (0, .ref (a_t 0)), (1, .int y1), (2, .int y2)]) hx hb dX7_readNumber_22 rfl hl (by decide) rfl (fun ls hl => ?_)
    exact L23 FU y1 y2 0 t_place_6 t_place_6 i_t_faultKind i_t_faultAt _ _ _ hP hD hS (lv_sub hl [1, 2, 3, 0] rfl) h
  · have h := k_neg hc h
    refine lv_iconst (v := 0) hx hb dX7_readNumber_7 (by decide) ?_
    obtain ⟨rfl, rfl, rfl, rfl, rfl⟩ := k_in5 h
    exact k_ri hx hb hr hlocks hP hS dX7_readNumber_8
