set_option maxHeartbeats 4000000 in
set_option maxRecDepth 100000 in
theorem c_Reader_letterHere (l : Launch) (dC : Nat → ClassId) (dI : Nat → Nat → Nat) (cI cZ : ClassId) (a_t : Nat → Nat) (t_text : Nat) (t_length : Int32) (t_place : Int32) (t_numberAt : Int32) (t_faultKind : Int32) (t_faultAt : Int32) (tx : Nat → Int32)  (r0 : Int32) (h : m_Reader_letterHere t_length t_place tx = some r0) : (MI l yX7_letterHere wsX7_letterHere ({ frames := 0, cells := 0, slots := 0, locals := 0 }) (dC, dI) [(cI, .int), (cZ, .boolean)] (wd_tReader_txARR cI cZ a_t t_text t_length t_place t_numberAt t_faultKind t_faultAt tx) (wd_tReader_txARR cI cZ a_t t_text t_length t_place t_numberAt t_faultKind t_faultAt tx) [.ref (a_t 0)] r0) := by
  intro sz
  refine Met.ofW (cc := cX7_letterHere) (maxL := 1) (ret := (some .int)) (by decide) rfl ?_
  intro p e s m args below meth c s₁ B hml hv
  obtain ⟨rfl, hsz, hP, hK, hD0⟩ := hv
  have hx := B.exec
  have hb := B.bytes
  have hr := B.returns
  have hts := atoms_spec (ws := wsX7_letterHere) B.pre
  have hown : s.vm.findClass RX7 = some m.cls := findClass_of_methodNamed B.named
  have hlocks := B.notSynchronized
  subst hsz
  have hD := hD0.self (sz := s.heap.size)
  have hA : ∀ q : Nat, s.heap.size ≤ q → va_A (wd_tReader_txARR cI cZ a_t t_text t_length t_place t_numberAt t_faultKind t_faultAt tx) s.heap.size q := fun q h => Or.inr h
  have hS : va_S (va_A (wd_tReader_txARR cI cZ a_t t_text t_length t_place t_numberAt t_faultKind t_faultAt tx) s.heap.size) s.heap s.heap [] := va_S.rf
  have hin7 : ∀ w ∈ u_ws RX7 TX7 6, w ∈ wsX7_letterHere := fun w h => List.mem_cons_of_mem _ (List.mem_append_right _ h)
  have hl := lv_entry ([.ref (a_t 0)]) (n := 1) (Nat.le_of_ble_eq_true rfl)
  rw [lg_entry_eq]
  generalize (lg_sl ([.ref (a_t 0)]) ++ List.replicate (1 - (lg_sl ([.ref (a_t 0)])).length) Slot.unset).toArray = ls at hl ⊢
  have hl : lv_has ls 1 [(0, .ref (a_t 0))] := hl
  unfold m_Reader_letterHere at h
  refine lv_aload_n hx hb dX7_letterHere_0 rfl (lv_at hl 0 rfl) ?_
  refine va_get (D := (dC, dI)) (ci := 7) (v := .int t_place) (C := RX7) (T := TX7) (N := 6) hx hb hts hin7 hown hK hP 0 rfl rfl 2 (by decide) (hts (.fieldLink RX7 19 "TowedBack$Reader" "place" "I") (List.mem_of_getElem? (i := 1) rfl)) (fun _ h9 => h9) rfl dX7_letterHere_1 ?_
  refine lv_if_lt (tgt := 42) hx hb dX7_letterHere_4 (by decide) (fun hc => ?_) (fun hc => ?_)
  · have h := k_pos hc h
    refine lv_iconst (v := (-1)) hx hb dX7_letterHere_42 (by decide) ?_
    obtain rfl := k_in1 h
    exact k_ri hx hb hr hlocks hP hS dX7_letterHere_43
  · have h := k_neg hc h
    refine lv_aload_n hx hb dX7_letterHere_7 rfl (lv_at hl 0 rfl) ?_
    refine va_get (D := (dC, dI)) (ci := 7) (v := .int t_place) (C := RX7) (T := TX7) (N := 6) hx hb hts hin7 hown hK hP 0 rfl rfl 2 (by decide) (hts (.fieldLink RX7 19 "TowedBack$Reader" "place" "I") (List.mem_of_getElem? (i := 1) rfl)) (fun _ h9 => h9) rfl dX7_letterHere_8 ?_
    refine lv_aload_n hx hb dX7_letterHere_11 rfl (lv_at hl 0 rfl) ?_
    refine va_get (D := (dC, dI)) (ci := 7) (v := .int t_length) (C := RX7) (T := TX7) (N := 6) hx hb hts hin7 hown hK hP 0 rfl rfl 1 (by decide) (hts (.fieldLink RX7 15 "TowedBack$Reader" "length" "I") (List.mem_of_getElem? (i := 2) rfl)) (fun _ h9 => h9) rfl dX7_letterHere_12 ?_
    refine lv_icmp_ge (tgt := 42) hx hb dX7_letterHere_15 (by decide) (fun hc => ?_) (fun hc => ?_)
    · have h := k_pos hc h
      refine lv_iconst (v := (-1)) hx hb dX7_letterHere_42 (by decide) ?_
      obtain rfl := k_in1 h
      exact k_ri hx hb hr hlocks hP hS dX7_letterHere_43
    · have h := k_neg hc h
      refine lv_aload_n hx hb dX7_letterHere_18 rfl (lv_at hl 0 rfl) ?_
      refine va_get (D := (dC, dI)) (ci := 7) (v := .int t_place) (C := RX7) (T := TX7) (N := 6) hx hb hts hin7 hown hK hP 0 rfl rfl 2 (by decide) (hts (.fieldLink RX7 19 "TowedBack$Reader" "place" "I") (List.mem_of_getElem? (i := 1) rfl)) (fun _ h9 => h9) rfl dX7_letterHere_19 ?_
      refine lv_aload_n hx hb dX7_letterHere_22 rfl (lv_at hl 0 rfl) ?_
      refine va_get (D := (dC, dI)) (ci := 7) (v := .ref t_text) (C := RX7) (T := TX7) (N := 6) hx hb hts hin7 hown hK hP 0 rfl rfl 0 (by decide) (hts (.fieldLink RX7 9 "TowedBack$Reader" "text" "[I") (List.mem_of_getElem? (i := 3) rfl)) (fun _ h9 => h9) rfl dX7_letterHere_23 ?_
      refine va_alen (v := 240) hx hb hK hP 1 0 rfl rfl rfl dX7_letterHere_26 ?_
      refine lv_icmp_ge (tgt := 42) hx hb dX7_letterHere_27 (by decide) (fun hc => ?_) (fun hc => ?_)
      · have h := k_pos hc h
        refine lv_iconst (v := (-1)) hx hb dX7_letterHere_42 (by decide) ?_
        obtain rfl := k_in1 h
        exact k_ri hx hb hr hlocks hP hS dX7_letterHere_43
      · have h := k_neg hc h
        refine lv_aload_n hx hb dX7_letterHere_30 rfl (lv_at hl 0 rfl) ?_
        refine va_get (D := (dC, dI)) (ci := 7) (v := .ref t_text) (C := RX7) (T := TX7) (N := 6) hx hb hts hin7 hown hK hP 0 rfl rfl 0 (by decide) (hts (.fieldLink RX7 9 "TowedBack$Reader" "text" "[I") (List.mem_of_getElem? (i := 3) rfl)) (fun _ h9 => h9) rfl dX7_letterHere_31 ?_
        refine lv_aload_n hx hb dX7_letterHere_34 rfl (lv_at hl 0 rfl) ?_
        refine va_get (D := (dC, dI)) (ci := 7) (v := .int t_place) (C := RX7) (T := TX7) (N := 6) hx hb hts hin7 hown hK hP 0 rfl rfl 2 (by decide) (hts (.fieldLink RX7 19 "TowedBack$Reader" "place" "I") (List.mem_of_getElem? (i := 1) rfl)) (fun _ h9 => h9) rfl dX7_letterHere_35 ?_
        obtain ⟨hi1, h⟩ := kg_some h
        refine va_iald hx hb hK hP 1 0 rfl rfl hi1 dX7_letterHere_38 ?_
        refine lv_goto (tgt := 43) hx hb dX7_letterHere_39 (by decide) ?_
        obtain rfl := k_in1 h
        exact k_ri hx hb hr hlocks hP hS dX7_letterHere_43
set_option maxHeartbeats 4000000 in
set_option maxRecDepth 100000 in
theorem c_Reader_skipBlanks (l : Launch) (dC : Nat → ClassId) (dI : Nat → Nat → Nat) (cI cZ : ClassId) (a_t : Nat → Nat) (t_text : Nat) (t_length : Int32) (i_t_place : Int32) (t_numberAt : Int32) (t_faultKind : Int32) (t_faultAt : Int32) (tx : Nat → Int32)  (o_t_place : Int32) (h : m_Reader_skipBlanks t_length i_t_place tx = some o_t_place) : (MV l yX7_skipBlanks wsX7_skipBlanks ({ frames := 1, cells := 0, slots := 0, locals := 20 }) (dC, dI) [(cI, .int), (cZ, .boolean)] (wd_tReader_txARR cI cZ a_t t_text t_length i_t_place t_numberAt t_faultKind t_faultAt tx) (wd_tReader_txARR cI cZ a_t t_text t_length o_t_place t_numberAt t_faultKind t_faultAt tx) [.ref (a_t 0)]) := by
  intro sz
  refine Met.ofW (cc := cX7_skipBlanks) (maxL := 1) (ret := none) (by decide) rfl ?_
  intro p e s m args below meth c s₁ B hml hv
  obtain ⟨rfl, hsz, hP, hK, hD0⟩ := hv
  have hx := B.exec
  have hb := B.bytes
  have hr := B.returns
  have hts := atoms_spec (ws := wsX7_skipBlanks) B.pre
  have hown : s.vm.findClass RX7 = some m.cls := findClass_of_methodNamed B.named
  have hlocks := B.notSynchronized
  subst hsz
  have hD := hD0.self (sz := s.heap.size)
  have hA : ∀ q : Nat, s.heap.size ≤ q → va_A (wd_tReader_txARR cI cZ a_t t_text t_length i_t_place t_numberAt t_faultKind t_faultAt tx) s.heap.size q := fun q h => Or.inr h
  have hS : va_S (va_A (wd_tReader_txARR cI cZ a_t t_text t_length i_t_place t_numberAt t_faultKind t_faultAt tx) s.heap.size) s.heap s.heap [] := va_S.rf
  have hin7 : ∀ w ∈ u_ws RX7 TX7 6, w ∈ wsX7_skipBlanks := fun w h => List.mem_cons_of_mem _ (List.mem_append_right _ h)
  have hl := lv_entry ([.ref (a_t 0)]) (n := 1) (Nat.le_of_ble_eq_true rfl)
  rw [lg_entry_eq]
  generalize (lg_sl ([.ref (a_t 0)]) ++ List.replicate (1 - (lg_sl ([.ref (a_t 0)])).length) Slot.unset).toArray = ls at hl ⊢
  have hl : lv_has ls 1 [(0, .ref (a_t 0))] := hl
  have L0 : ∀ (n0 : Nat)  (t_place : Int32) (H : Heap) (locs : List Loc) (ls : Array Slot), va_P (dC, dI) vwCl (wd_tReader_txARR cI cZ a_t t_text t_length t_place t_numberAt t_faultKind t_faultAt tx) H → va_D (va_A (wd_tReader_txARR cI cZ a_t t_text t_length i_t_place t_numberAt t_faultKind t_faultAt tx) s.heap.size) (wd_tReader_txARR cI cZ a_t t_text t_length t_place t_numberAt t_faultKind t_faultAt tx) → va_S (va_A (wd_tReader_txARR cI cZ a_t t_text t_length i_t_place t_numberAt t_faultKind t_faultAt tx) s.heap.size) s.heap H locs → lv_has ls 1 [(0, .ref (a_t 0))] → m_Reader_skipBlanks_L0  n0 t_length t_place tx = some o_t_place → W p l e (headSpec wsX7_skipBlanks ({ frames := 1, cells := 0, slots := 0, locals := 20 })).room s m ([.ref (a_t 0)] : List Value).toArray below meth c H locs 0 0 (MQ below (cQv (dC, dI) (wd_tReader_txARR cI cZ a_t t_text t_length i_t_place t_numberAt t_faultKind t_faultAt tx) (wd_tReader_txARR cI cZ a_t t_text t_length o_t_place t_numberAt t_faultKind t_faultAt tx) s.heap.size) ([.ref (a_t 0)] : List Value).toArray s 0 0 (va_A (wd_tReader_txARR cI cZ a_t t_text t_length i_t_place t_numberAt t_faultKind t_faultAt tx) s.heap.size)) (F0 m 0 ls []) := by
    intro n0
    induction n0 with
    | zero => intro t_place H locs ls hP hD hS hl h; have h : none = some o_t_place := h; cases h
    | succ n0 ih0 =>
      intro t_place H locs ls hP hD hS hl h
      have h : m_Reader_skipBlanks_B0  (m_Reader_skipBlanks_L0  n0) t_length t_place tx = some o_t_place := h
      unfold m_Reader_skipBlanks_B0 at h
      refine lv_aload_n hx hb dX7_skipBlanks_0 rfl (lv_at hl 0 rfl) ?_
      refine va_get (D := (dC, dI)) (ci := 7) (v := .int t_place) (C := RX7) (T := TX7) (N := 6) hx hb hts hin7 hown hK hP 0 rfl rfl 2 (by decide) (hts (.fieldLink RX7 19 "TowedBack$Reader" "place" "I") (List.mem_of_getElem? (i := 1) rfl)) (fun _ h9 => h9) rfl dX7_skipBlanks_1 ?_
      refine lv_aload_n hx hb dX7_skipBlanks_4 rfl (lv_at hl 0 rfl) ?_
      refine va_get (D := (dC, dI)) (ci := 7) (v := .int t_length) (C := RX7) (T := TX7) (N := 6) hx hb hts hin7 hown hK hP 0 rfl rfl 1 (by decide) (hts (.fieldLink RX7 15 "TowedBack$Reader" "length" "I") (List.mem_of_getElem? (i := 2) rfl)) (fun _ h9 => h9) rfl dX7_skipBlanks_5 ?_
      refine lv_icmp_ge (tgt := 33) hx hb dX7_skipBlanks_8 (by decide) (fun hc => ?_) (fun hc => ?_)
      · have h := k_pos hc h
        obtain rfl := k_in1 h
        exact k_rv hx hb hr hlocks hP hS dX7_skipBlanks_33
      · have h := k_neg hc h
        refine lv_aload_n hx hb dX7_skipBlanks_11 rfl (lv_at hl 0 rfl) ?_
        obtain ⟨r1, hc1, h⟩ := kb1_some h
        refine k_FVi (rest := []) (As := []) ⟨hx, hb, hml, hown, hts⟩ (c_Reader_letterHere l dC dI cI cZ a_t t_text t_length t_place t_numberAt t_faultKind t_faultAt tx r1 hc1) (cwV 0 hts gX7_skipBlanks_X7_letterHere rfl rfl rfl hd_7_letterHere ⟨Nat.le_of_ble_eq_true rfl, Nat.le_of_ble_eq_true rfl⟩) hK hP hD hS hA 0 7 rfl rfl rfl rfl rfl hl.1 rfl (Nat.le_of_ble_eq_true rfl) dX7_skipBlanks_12 ⟨Nat.zero_le _, Nat.zero_le _⟩ (fun H locs hP hD hS => ?_)
        refine lv_bipush (v := 32) hx hb dX7_skipBlanks_15 (by decide) ?_
        refine lv_icmp_ne (tgt := 33) hx hb dX7_skipBlanks_17 (by decide) (fun hc => ?_) (fun hc => ?_)
        · have h := k_neg hc h
          obtain rfl := k_in1 h
          exact k_rv hx hb hr hlocks hP hS dX7_skipBlanks_33
        · have h := k_pos hc h
          refine lv_aload_n hx hb dX7_skipBlanks_20 rfl (lv_at hl 0 rfl) ?_
          refine lv_dup hx hb dX7_skipBlanks_21 rfl ?_
          refine va_get (D := (dC, dI)) (ci := 7) (v := .int t_place) (C := RX7) (T := TX7) (N := 6) hx hb hts hin7 hown hK hP 0 rfl rfl 2 (by decide) (hts (.fieldLink RX7 19 "TowedBack$Reader" "place" "I") (List.mem_of_getElem? (i := 1) rfl)) (fun _ h9 => h9) rfl dX7_skipBlanks_22 ?_
          refine lv_iconst (v := 1) hx hb dX7_skipBlanks_25 (by decide) ?_
          refine lv_iadd hx hb dX7_skipBlanks_26 ?_
          refine va_put (D := (dC, dI)) (ci := 7) (v := .int (t_place + 1)) (ty := tyX7 2) (C := RX7) (T := TX7) (N := 6) hx hb hts hin7 tyX7 tyX7_ok nmX7 hown hK hP hD hS 0 rfl rfl 2 (by decide) (hts (.fieldLink RX7 19 "TowedBack$Reader" "place" "I") (List.mem_of_getElem? (i := 1) rfl)) (fun _ h9 => h9) rfl (tyX7_ok 2 (by decide)) rfl rfl (Nat.le_of_ble_eq_true rfl) dX7_skipBlanks_27 (fun H locs hP hD hS => ?_)
          have hP : va_P (dC, dI) vwCl (wd_tReader_txARR cI cZ a_t t_text t_length (t_place + 1) t_numberAt t_faultKind t_faultAt tx) H := hP
          have hD : va_D (va_A (wd_tReader_txARR cI cZ a_t t_text t_length i_t_place t_numberAt t_faultKind t_faultAt tx) s.heap.size) (wd_tReader_txARR cI cZ a_t t_text t_length (t_place + 1) t_numberAt t_faultKind t_faultAt tx) := hD
          refine lv_goto (tgt := 0) hx hb dX7_skipBlanks_30 (by decide) ?_
          exact ih0 (t_place + 1) _ _ _ hP hD hS (lv_sub hl [0] rfl) h
  unfold m_Reader_skipBlanks at h
  exact L0 FU i_t_place _ _ _ hP hD hS (lv_sub hl [0] rfl) h
set_option maxHeartbeats 4000000 in
set_option maxRecDepth 100000 in
theorem c_Reader_goesOn (l : Launch) (dC : Nat → ClassId) (dI : Nat → Nat → Nat) (cI cZ : ClassId) (a_t : Nat → Nat) (t_text : Nat) (t_length : Int32) (i_t_place : Int32) (t_numberAt : Int32) (t_faultKind : Int32) (t_faultAt : Int32) (tx : Nat → Int32)  (r0 : Int32) (o_t_place : Int32) (h : m_Reader_goesOn t_length i_t_place t_faultKind tx = some (r0, o_t_place)) : (MI l yX7_goesOn wsX7_goesOn ({ frames := 2, cells := 0, slots := 0, locals := 40 }) (dC, dI) [(cI, .int), (cZ, .boolean)] (wd_tReader_txARR cI cZ a_t t_text t_length i_t_place t_numberAt t_faultKind t_faultAt tx) (wd_tReader_txARR cI cZ a_t t_text t_length o_t_place t_numberAt t_faultKind t_faultAt tx) [.ref (a_t 0)] r0) := by
  intro sz
  refine Met.ofW (cc := cX7_goesOn) (maxL := 1) (ret := (some .boolean)) (by decide) rfl ?_
  intro p e s m args below meth c s₁ B hml hv
  obtain ⟨rfl, hsz, hP, hK, hD0⟩ := hv
  have hx := B.exec
  have hb := B.bytes
  have hr := B.returns
  have hts := atoms_spec (ws := wsX7_goesOn) B.pre
  have hown : s.vm.findClass RX7 = some m.cls := findClass_of_methodNamed B.named
  have hlocks := B.notSynchronized
  subst hsz
  have hD := hD0.self (sz := s.heap.size)
  have hA : ∀ q : Nat, s.heap.size ≤ q → va_A (wd_tReader_txARR cI cZ a_t t_text t_length i_t_place t_numberAt t_faultKind t_faultAt tx) s.heap.size q := fun q h => Or.inr h
  have hS : va_S (va_A (wd_tReader_txARR cI cZ a_t t_text t_length i_t_place t_numberAt t_faultKind t_faultAt tx) s.heap.size) s.heap s.heap [] := va_S.rf
  have hin7 : ∀ w ∈ u_ws RX7 TX7 6, w ∈ wsX7_goesOn := fun w h => List.mem_cons_of_mem _ (List.mem_append_right _ h)
  have hl := lv_entry ([.ref (a_t 0)]) (n := 1) (Nat.le_of_ble_eq_true rfl)
  rw [lg_entry_eq]
  generalize (lg_sl ([.ref (a_t 0)]) ++ List.replicate (1 - (lg_sl ([.ref (a_t 0)])).length) Slot.unset).toArray = ls at hl ⊢
  have hl : lv_has ls 1 [(0, .ref (a_t 0))] := hl
  unfold m_Reader_goesOn at h
  refine lv_aload_n hx hb dX7_goesOn_0 rfl (lv_at hl 0 rfl) ?_
  obtain ⟨t_place_1, hc1, h⟩ := kb1_some h
  refine k_FVv (rest := []) (As := []) ⟨hx, hb, hml, hown, hts⟩ (c_Reader_skipBlanks l dC dI cI cZ a_t t_text t_length i_t_place t_numberAt t_faultKind t_faultAt tx t_place_1 hc1) (cwV 0 hts gX7_goesOn_X7_skipBlanks rfl rfl rfl hd_7_skipBlanks ⟨Nat.le_of_ble_eq_true rfl, Nat.le_of_ble_eq_true rfl⟩) hK hP hD hS hA 0 7 rfl rfl rfl rfl rfl hl.1 rfl (Nat.le_of_ble_eq_true rfl) dX7_goesOn_1 ⟨Nat.zero_le _, Nat.zero_le _⟩ (fun H locs hP hD hS => ?_)
  refine lv_aload_n hx hb dX7_goesOn_4 rfl (lv_at hl 0 rfl) ?_
  refine va_get (D := (dC, dI)) (ci := 7) (v := .int t_faultKind) (C := RX7) (T := TX7) (N := 6) hx hb hts hin7 hown hK hP 0 rfl rfl 4 (by decide) (hts (.fieldLink RX7 25 "TowedBack$Reader" "faultKind" "I") (List.mem_of_getElem? (i := 1) rfl)) (fun _ h9 => h9) rfl dX7_goesOn_5 ?_
  refine lv_if_ne (tgt := 26) hx hb dX7_goesOn_8 (by decide) (fun hc => ?_) (fun hc => ?_)
  · have h := k_neg hc h
    refine lv_iconst (v := 0) hx hb dX7_goesOn_26 (by decide) ?_
    obtain ⟨rfl, rfl⟩ := k_in2 h
    exact k_rz hx hb hr hlocks rfl hP hS dX7_goesOn_27
  · have h := k_pos hc h
    refine lv_aload_n hx hb dX7_goesOn_11 rfl (lv_at hl 0 rfl) ?_
    refine va_get (D := (dC, dI)) (ci := 7) (v := .int t_place_1) (C := RX7) (T := TX7) (N := 6) hx hb hts hin7 hown hK hP 0 rfl rfl 2 (by decide) (hts (.fieldLink RX7 19 "TowedBack$Reader" "place" "I") (List.mem_of_getElem? (i := 2) rfl)) (fun _ h9 => h9) rfl dX7_goesOn_12 ?_
    refine lv_aload_n hx hb dX7_goesOn_15 rfl (lv_at hl 0 rfl) ?_
    refine va_get (D := (dC, dI)) (ci := 7) (v := .int t_length) (C := RX7) (T := TX7) (N := 6) hx hb hts hin7 hown hK hP 0 rfl rfl 1 (by decide) (hts (.fieldLink RX7 15 "TowedBack$Reader" "length" "I") (List.mem_of_getElem? (i := 3) rfl)) (fun _ h9 => h9) rfl dX7_goesOn_16 ?_
    refine lv_icmp_ge (tgt := 26) hx hb dX7_goesOn_19 (by decide) (fun hc => ?_) (fun hc => ?_)
    · have h := k_pos hc h
      refine lv_iconst (v := 0) hx hb dX7_goesOn_26 (by decide) ?_
      obtain ⟨rfl, rfl⟩ := k_in2 h
      exact k_rz hx hb hr hlocks rfl hP hS dX7_goesOn_27
    · have h := k_neg hc h
      refine lv_iconst (v := 1) hx hb dX7_goesOn_22 (by decide) ?_
      refine lv_goto (tgt := 27) hx hb dX7_goesOn_23 (by decide) ?_
      obtain ⟨rfl, rfl⟩ := k_in2 h
      exact k_rz hx hb hr hlocks rfl hP hS dX7_goesOn_27
set_option maxHeartbeats 4000000 in
set_option maxRecDepth 100000 in
theorem c_Reader_note (l : Launch) (dC : Nat → ClassId) (dI : Nat → Nat → Nat) (cI cZ : ClassId) (a_t : Nat → Nat) (t_text : Nat) (t_length : Int32) (t_place : Int32) (t_numberAt : Int32) (i_t_faultKind : Int32) (i_t_faultAt : Int32) (y1 : Int32) (y2 : Int32) (o_t_faultKind : Int32) (o_t_faultAt : Int32) (h : m_Reader_note y1 y2 i_t_faultKind i_t_faultAt = some (o_t_faultKind, o_t_faultAt)) : (MV l yX7_note wsX7_note ({ frames := 0, cells := 0, slots := 0, locals := 0 }) (dC, dI) [(cI, .int), (cZ, .boolean)] (wd_tReader cI cZ a_t t_text t_length t_place t_numberAt i_t_faultKind i_t_faultAt) (wd_tReader cI cZ a_t t_text t_length t_place t_numberAt o_t_faultKind o_t_faultAt) [.ref (a_t 0), .int y1, .int y2]) := by
  intro sz
  refine Met.ofW (cc := cX7_note) (maxL := 3) (ret := none) (by decide) rfl ?_
  intro p e s m args below meth c s₁ B hml hv
  obtain ⟨rfl, hsz, hP, hK, hD0⟩ := hv
  have hx := B.exec
  have hb := B.bytes
  have hr := B.returns
  have hts := atoms_spec (ws := wsX7_note) B.pre
  have hown : s.vm.findClass RX7 = some m.cls := findClass_of_methodNamed B.named
  have hlocks := B.notSynchronized
  subst hsz
  have hD := hD0.self (sz := s.heap.size)
  have hA : ∀ q : Nat, s.heap.size ≤ q → va_A (wd_tReader cI cZ a_t t_text t_length t_place t_numberAt i_t_faultKind i_t_faultAt) s.heap.size q := fun q h => Or.inr h
  have hS : va_S (va_A (wd_tReader cI cZ a_t t_text t_length t_place t_numberAt i_t_faultKind i_t_faultAt) s.heap.size) s.heap s.heap [] := va_S.rf
  have hin7 : ∀ w ∈ u_ws RX7 TX7 6, w ∈ wsX7_note := fun w h => List.mem_cons_of_mem _ (List.mem_append_right _ h)
  have hl := lv_entry ([.ref (a_t 0), .int y1, .int y2]) (n := 3) (Nat.le_of_ble_eq_true rfl)
  rw [lg_entry_eq]
  generalize (lg_sl ([.ref (a_t 0), .int y1, .int y2]) ++ List.replicate (3 - (lg_sl ([.ref (a_t 0), .int y1, .int y2])).length) Slot.unset).toArray = ls at hl ⊢
  have hl : lv_has ls 3 [(0, .ref (a_t 0)), (1, .int y1), (2, .int y2)] := hl
  unfold m_Reader_note at h
  refine lv_aload_n hx hb dX7_note_0 rfl (lv_at hl 0 rfl) ?_
  refine va_get (D := (dC, dI)) (ci := 7) (v := .int i_t_faultKind) (C := RX7) (T := TX7) (N := 6) hx hb hts hin7 hown hK hP 0 rfl rfl 4 (by decide) (hts (.fieldLink RX7 25 "TowedBack$Reader" "faultKind" "I") (List.mem_of_getElem? (i := 1) rfl)) (fun _ h9 => h9) rfl dX7_note_1 ?_
  refine lv_if_eq (tgt := 8) hx hb dX7_note_4 (by decide) (fun hc => ?_) (fun hc => ?_)
  · have h := k_pos hc h
    refine lv_aload_n hx hb dX7_note_8 rfl (lv_at hl 0 rfl) ?_
    refine lv_iload_n hx hb dX7_note_9 rfl (lv_at hl 1 rfl) ?_
    refine va_put (D := (dC, dI)) (ci := 7) (v := .int y1) (ty := tyX7 4) (C := RX7) (T := TX7) (N := 6) hx hb hts hin7 tyX7 tyX7_ok nmX7 hown hK hP hD hS 0 rfl rfl 4 (by decide) (hts (.fieldLink RX7 25 "TowedBack$Reader" "faultKind" "I") (List.mem_of_getElem? (i := 1) rfl)) (fun _ h9 => h9) rfl (tyX7_ok 4 (by decide)) rfl rfl (Nat.le_of_ble_eq_true rfl) dX7_note_10 (fun H locs hP hD hS => ?_)
    have hP : va_P (dC, dI) vwCl (wd_tReader cI cZ a_t t_text t_length t_place t_numberAt y1 i_t_faultAt) H := hP
    have hD : va_D (va_A (wd_tReader cI cZ a_t t_text t_length t_place t_numberAt i_t_faultKind i_t_faultAt) s.heap.size) (wd_tReader cI cZ a_t t_text t_length t_place t_numberAt y1 i_t_faultAt) := hD
    refine lv_aload_n hx hb dX7_note_13 rfl (lv_at hl 0 rfl) ?_
    refine lv_iload_n hx hb dX7_note_14 rfl (lv_at hl 2 rfl) ?_
    refine va_put (D := (dC, dI)) (ci := 7) (v := .int y2) (ty := tyX7 5) (C := RX7) (T := TX7) (N := 6) hx hb hts hin7 tyX7 tyX7_ok nmX7 hown hK hP hD hS 0 rfl rfl 5 (by decide) (hts (.fieldLink RX7 28 "TowedBack$Reader" "faultAt" "I") (List.mem_of_getElem? (i := 2) rfl)) (fun _ h9 => h9) rfl (tyX7_ok 5 (by decide)) rfl rfl (Nat.le_of_ble_eq_true rfl) dX7_note_15 (fun H locs hP hD hS => ?_)
    have hP : va_P (dC, dI) vwCl (wd_tReader cI cZ a_t t_text t_length t_place t_numberAt y1 y2) H := hP
    have hD : va_D (va_A (wd_tReader cI cZ a_t t_text t_length t_place t_numberAt i_t_faultKind i_t_faultAt) s.heap.size) (wd_tReader cI cZ a_t t_text t_length t_place t_numberAt y1 y2) := hD
    obtain ⟨rfl, rfl⟩ := k_in2 h
    exact k_rv hx hb hr hlocks hP hS dX7_note_18
  · have h := k_neg hc h
    obtain ⟨rfl, rfl⟩ := k_in2 h
    exact k_rv hx hb hr hlocks hP hS dX7_note_7
set_option maxHeartbeats 4000000 in
set_option maxRecDepth 100000 in
theorem c_Reader_readSign (l : Launch) (dC : Nat → ClassId) (dI : Nat → Nat → Nat) (cI cZ : ClassId) (a_t : Nat → Nat) (t_text : Nat) (t_length : Int32) (i_t_place : Int32) (t_numberAt : Int32) (i_t_faultKind : Int32) (i_t_faultAt : Int32) (tx : Nat → Int32) (y1 : Int32) (o_t_place : Int32) (o_t_faultKind : Int32) (o_t_faultAt : Int32) (h : m_Reader_readSign y1 t_length i_t_place i_t_faultKind i_t_faultAt tx = some (o_t_place, o_t_faultKind, o_t_faultAt)) : (MV l yX7_readSign wsX7_readSign ({ frames := 2, cells := 0, slots := 0, locals := 40 }) (dC, dI) [(cI, .int), (cZ, .boolean)] (wd_tReader_txARR cI cZ a_t t_text t_length i_t_place t_numberAt i_t_faultKind i_t_faultAt tx) (wd_tReader_txARR cI cZ a_t t_text t_length o_t_place t_numberAt o_t_faultKind o_t_faultAt tx) [.ref (a_t 0), .int y1]) := by
  intro sz
  refine Met.ofW (cc := cX7_readSign) (maxL := 2) (ret := none) (by decide) rfl ?_
  intro p e s m args below meth c s₁ B hml hv
  obtain ⟨rfl, hsz, hP, hK, hD0⟩ := hv
  have hx := B.exec
  have hb := B.bytes
  have hr := B.returns
  have hts := atoms_spec (ws := wsX7_readSign) B.pre
  have hown : s.vm.findClass RX7 = some m.cls := findClass_of_methodNamed B.named
  have hlocks := B.notSynchronized
  subst hsz
  have hD := hD0.self (sz := s.heap.size)
  have hA : ∀ q : Nat, s.heap.size ≤ q → va_A (wd_tReader_txARR cI cZ a_t t_text t_length i_t_place t_numberAt i_t_faultKind i_t_faultAt tx) s.heap.size q := fun q h => Or.inr h
  have hS : va_S (va_A (wd_tReader_txARR cI cZ a_t t_text t_length i_t_place t_numberAt i_t_faultKind i_t_faultAt tx) s.heap.size) s.heap s.heap [] := va_S.rf
  have hin7 : ∀ w ∈ u_ws RX7 TX7 6, w ∈ wsX7_readSign := fun w h => List.mem_cons_of_mem _ (List.mem_append_right _ h)
  have hl := lv_entry ([.ref (a_t 0), .int y1]) (n := 2) (Nat.le_of_ble_eq_true rfl)
  rw [lg_entry_eq]
  generalize (lg_sl ([.ref (a_t 0), .int y1]) ++ List.replicate (2 - (lg_sl ([.ref (a_t 0), .int y1])).length) Slot.unset).toArray = ls at hl ⊢
  have hl : lv_has ls 2 [(0, .ref (a_t 0)), (1, .int y1)] := hl
  have J29 : ∀  (t_place : Int32) (t_faultKind : Int32) (t_faultAt : Int32) (H : Heap) (locs : List Loc) (ls : Array Slot), va_P (dC, dI) vwCl (wd_tReader_txARR cI cZ a_t t_text t_length t_place t_numberAt t_faultKind t_faultAt tx) H → va_D (va_A (wd_tReader_txARR cI cZ a_t t_text t_length i_t_place t_numberAt i_t_faultKind i_t_faultAt tx) s.heap.size) (wd_tReader_txARR cI cZ a_t t_text t_length t_place t_numberAt t_faultKind t_faultAt tx) → va_S (va_A (wd_tReader_txARR cI cZ a_t t_text t_length i_t_place t_numberAt i_t_faultKind i_t_faultAt tx) s.heap.size) s.heap H locs → lv_has ls 2 [(0, .ref (a_t 0))] → m_Reader_readSign_B29  t_length t_place t_faultKind t_faultAt tx = some (o_t_place, o_t_faultKind, o_t_faultAt) → W p l e (headSpec wsX7_readSign ({ frames := 2, cells := 0, slots := 0, locals := 40 })).room s m ([.ref (a_t 0), .int y1] : List Value).toArray below meth c H locs 0 0 (MQ below (cQv (dC, dI) (wd_tReader_txARR cI cZ a_t t_text t_length i_t_place t_numberAt i_t_faultKind i_t_faultAt tx) (wd_tReader_txARR cI cZ a_t t_text t_length o_t_place t_numberAt o_t_faultKind o_t_faultAt tx) s.heap.size) ([.ref (a_t 0), .int y1] : List Value).toArray s 0 0 (va_A (wd_tReader_txARR cI cZ a_t t_text t_length i_t_place t_numberAt i_t_faultKind i_t_faultAt tx) s.heap.size)) (F0 m 29 ls []) := by
    intro t_place t_faultKind t_faultAt H locs ls hP hD hS hl h
    unfold m_Reader_readSign_B29 at h
    refine lv_aload_n hx hb dX7_readSign_29 rfl (lv_at hl 0 rfl) ?_
    refine lv_dup hx hb dX7_readSign_30 rfl ?_
    refine va_get (D := (dC, dI)) (ci := 7) (v := .int t_place) (C := RX7) (T := TX7) (N := 6) hx hb hts hin7 hown hK hP 0 rfl rfl 2 (by decide) (hts (.fieldLink RX7 19 "TowedBack$Reader" "place" "I") (List.mem_of_getElem? (i := 2) rfl)) (fun _ h9 => h9) rfl dX7_readSign_31 ?_
    refine lv_iconst (v := 1) hx hb dX7_readSign_34 (by decide) ?_
    refine lv_iadd hx hb dX7_readSign_35 ?_
    refine va_put (D := (dC, dI)) (ci := 7) (v := .int (t_place + 1)) (ty := tyX7 2) (C := RX7) (T := TX7) (N := 6) hx hb hts hin7 tyX7 tyX7_ok nmX7 hown hK hP hD hS 0 rfl rfl 2 (by decide) (hts (.fieldLink RX7 19 "TowedBack$Reader" "place" "I") (List.mem_of_getElem? (i := 2) rfl)) (fun _ h9 => h9) rfl (tyX7_ok 2 (by decide)) rfl rfl (Nat.le_of_ble_eq_true rfl) dX7_readSign_36 (fun H locs hP hD hS => ?_)
    have hP : va_P (dC, dI) vwCl (wd_tReader_txARR cI cZ a_t t_text t_length (t_place + 1) t_numberAt t_faultKind t_faultAt tx) H := hP
    have hD : va_D (va_A (wd_tReader_txARR cI cZ a_t t_text t_length i_t_place t_numberAt i_t_faultKind i_t_faultAt tx) s.heap.size) (wd_tReader_txARR cI cZ a_t t_text t_length (t_place + 1) t_numberAt t_faultKind t_faultAt tx) := hD
    obtain ⟨rfl, rfl, rfl⟩ := k_in3 h
    exact k_rv hx hb hr hlocks hP hS dX7_readSign_39
  unfold m_Reader_readSign at h
  refine lv_aload_n hx hb dX7_readSign_0 rfl (lv_at hl 0 rfl) ?_
  refine va_get (D := (dC, dI)) (ci := 7) (v := .int i_t_faultKind) (C := RX7) (T := TX7) (N := 6) hx hb hts hin7 hown hK hP 0 rfl rfl 4 (by decide) (hts (.fieldLink RX7 25 "TowedBack$Reader" "faultKind" "I") (List.mem_of_getElem? (i := 1) rfl)) (fun _ h9 => h9) rfl dX7_readSign_1 ?_
  refine lv_if_eq (tgt := 8) hx hb dX7_readSign_4 (by decide) (fun hc => ?_) (fun hc => ?_)
  · have h := k_pos hc h
    refine lv_aload_n hx hb dX7_readSign_8 rfl (lv_at hl 0 rfl) ?_
    obtain ⟨t_place_1, hc1, h⟩ := kb1_some h
    refine k_FVv (rest := []) (As := []) ⟨hx, hb, hml, hown, hts⟩ (c_Reader_skipBlanks l dC dI cI cZ a_t t_text t_length i_t_place t_numberAt i_t_faultKind i_t_faultAt tx t_place_1 hc1) (cwV 0 hts gX7_readSign_X7_skipBlanks rfl rfl rfl hd_7_skipBlanks ⟨Nat.le_of_ble_eq_true rfl, Nat.le_of_ble_eq_true rfl⟩) hK hP hD hS hA 0 7 rfl rfl rfl rfl rfl hl.1 rfl (Nat.le_of_ble_eq_true rfl) dX7_readSign_9 ⟨Nat.zero_le _, Nat.zero_le _⟩ (fun H locs hP hD hS => ?_)
    refine lv_aload_n hx hb dX7_readSign_12 rfl (lv_at hl 0 rfl) ?_
    obtain ⟨r2, hc2, h⟩ := kb1_some h
    refine k_FVi (rest := []) (As := []) ⟨hx, hb, hml, hown, hts⟩ (c_Reader_letterHere l dC dI cI cZ a_t t_text t_length t_place_1 t_numberAt i_t_faultKind i_t_faultAt tx r2 hc2) (cwV 0 hts gX7_readSign_X7_letterHere rfl rfl rfl hd_7_letterHere ⟨Nat.le_of_ble_eq_true rfl, Nat.le_of_ble_eq_true rfl⟩) hK hP hD hS hA 0 7 rfl rfl rfl rfl rfl hl.1 rfl (Nat.le_of_ble_eq_true rfl) dX7_readSign_13 ⟨Nat.zero_le _, Nat.zero_le _⟩ (fun H locs hP hD hS => ?_)
    refine lv_iload_n hx hb dX7_readSign_16 rfl (lv_at hl 1 rfl) ?_
    refine lv_icmp_eq (tgt := 29) hx hb dX7_readSign_17 (by decide) (fun hc => ?_) (fun hc => ?_)
    · have h := k_pos hc h
      exact J29 t_place_1 i_t_faultKind i_t_faultAt _ _ _ hP hD hS (lv_sub hl [0] rfl) h
    · have h := k_neg hc h
      refine lv_aload_n hx hb dX7_readSign_20 rfl (lv_at hl 0 rfl) ?_
      refine lv_iconst (v := 1) hx hb dX7_readSign_21 (by decide) ?_
      refine lv_aload_n hx hb dX7_readSign_22 rfl (lv_at hl 0 rfl) ?_
      refine va_get (D := (dC, dI)) (ci := 7) (v := .int t_place_1) (C := RX7) (T := TX7) (N := 6) hx hb hts hin7 hown hK hP 0 rfl rfl 2 (by decide) (hts (.fieldLink RX7 19 "TowedBack$Reader" "place" "I") (List.mem_of_getElem? (i := 2) rfl)) (fun _ h9 => h9) rfl dX7_readSign_23 ?_
      obtain ⟨t_faultKind_3, t_faultAt_3, hc3, h⟩ := kb2_some h
      refine k_GVv (rest := []) (As := [.int 1, .int t_place_1]) (ws' := (wd_tReader_txARR cI cZ a_t t_text t_length t_place_1 t_numberAt t_faultKind_3 t_faultAt_3 tx)) ⟨hx, hb, hml, hown, hts⟩ (c_Reader_note l dC dI cI cZ a_t t_text t_length t_place_1 t_numberAt i_t_faultKind i_t_faultAt 1 t_place_1 t_faultKind_3 t_faultAt_3 hc3) (cwV 2 hts gX7_readSign_X7_note rfl rfl rfl hd_7_note ⟨Nat.le_of_ble_eq_true rfl, Nat.le_of_ble_eq_true rfl⟩) hK hP hD hS hA [0] rfl (by decide +kernel) 0 7 rfl rfl rfl [1] rfl rfl 2 rfl (by decide +kernel) rfl rfl hl.1 rfl (Nat.le_of_ble_eq_true rfl) dX7_readSign_26 ⟨Nat.zero_le _, Nat.zero_le _⟩ (fun H locs hP hD hS => ?_)
      exact J29 t_place_1 t_faultKind_3 t_faultAt_3 _ _ _ hP hD hS (lv_sub hl [0] rfl) h
  · have h := k_neg hc h
    obtain ⟨rfl, rfl, rfl⟩ := k_in3 h
    exact k_rv hx hb hr hlocks hP hS dX7_readSign_7
set_option maxHeartbeats 4000000 in
set_option maxRecDepth 100000 in
theorem c_Reader_isFigure (l : Launch) (dC : Nat → ClassId) (dI : Nat → Nat → Nat) (cI cZ : ClassId)  (y0 : Int32) (r0 : Int32) (h : m_Reader_isFigure y0 = some r0) : (MI l yX7_isFigure wsX7_isFigure ({ frames := 0, cells := 0, slots := 0, locals := 0 }) (dC, dI) [(cI, .int), (cZ, .boolean)] ([] : va_W) ([] : va_W) [.int y0] r0) := by
  intro sz
  refine Met.ofW (cc := cX7_isFigure) (maxL := 1) (ret := (some .boolean)) (by decide) rfl ?_
  intro p e s m args below meth c s₁ B hml hv
  obtain ⟨rfl, hsz, hP, hK, hD0⟩ := hv
  have hx := B.exec
  have hb := B.bytes
  have hr := B.returns
  have hts := atoms_spec (ws := wsX7_isFigure) B.pre
  have hown : s.vm.findClass RX7 = some m.cls := findClass_of_methodNamed B.named
  have hlocks := B.notSynchronized
  subst hsz
  have hD := hD0.self (sz := s.heap.size)
  have hA : ∀ q : Nat, s.heap.size ≤ q → va_A ([] : va_W) s.heap.size q := fun q h => Or.inr h
  have hS : va_S (va_A ([] : va_W) s.heap.size) s.heap s.heap [] := va_S.rf
  have hl := lv_entry ([.int y0]) (n := 1) (Nat.le_of_ble_eq_true rfl)
  rw [lg_entry_eq]
  generalize (lg_sl ([.int y0]) ++ List.replicate (1 - (lg_sl ([.int y0])).length) Slot.unset).toArray = ls at hl ⊢
  have hl : lv_has ls 1 [(0, .int y0)] := hl
  unfold m_Reader_isFigure at h
  refine lv_iload_n hx hb dX7_isFigure_0 rfl (lv_at hl 0 rfl) ?_
  refine lv_bipush (v := 48) hx hb dX7_isFigure_1 (by decide) ?_
  refine lv_icmp_lt (tgt := 16) hx hb dX7_isFigure_3 (by decide) (fun hc => ?_) (fun hc => ?_)
  · have h := k_pos hc h
    refine lv_iconst (v := 0) hx hb dX7_isFigure_16 (by decide) ?_
    obtain rfl := k_in1 h
    exact k_rz hx hb hr hlocks rfl hP hS dX7_isFigure_17
  · have h := k_neg hc h
    refine lv_iload_n hx hb dX7_isFigure_6 rfl (lv_at hl 0 rfl) ?_
    refine lv_bipush (v := 57) hx hb dX7_isFigure_7 (by decide) ?_
    refine lv_icmp_gt (tgt := 16) hx hb dX7_isFigure_9 (by decide) (fun hc => ?_) (fun hc => ?_)
    · have h := k_pos hc h
      refine lv_iconst (v := 0) hx hb dX7_isFigure_16 (by decide) ?_
      obtain rfl := k_in1 h
      exact k_rz hx hb hr hlocks rfl hP hS dX7_isFigure_17
    · have h := k_neg hc h
      refine lv_iconst (v := 1) hx hb dX7_isFigure_12 (by decide) ?_
      refine lv_goto (tgt := 17) hx hb dX7_isFigure_13 (by decide) ?_
      obtain rfl := k_in1 h
      exact k_rz hx hb hr hlocks rfl hP hS dX7_isFigure_17
set_option maxHeartbeats 4000000 in
set_option maxRecDepth 100000 in
theorem c_Reader_readNumber (l : Launch) (dC : Nat → ClassId) (dI : Nat → Nat → Nat) (cI cZ : ClassId) (a_t : Nat → Nat) (t_text : Nat) (t_length : Int32) (i_t_place : Int32) (i_t_numberAt : Int32) (i_t_faultKind : Int32) (i_t_faultAt : Int32) (tx : Nat → Int32) (y1 : Int32) (y2 : Int32) (r0 : Int32) (o_t_place : Int32) (o_t_numberAt : Int32) (o_t_faultKind : Int32) (o_t_faultAt : Int32) (h : m_Reader_readNumber y1 y2 t_length i_t_place i_t_numberAt i_t_faultKind i_t_faultAt tx = some (r0, o_t_place, o_t_numberAt, o_t_faultKind, o_t_faultAt)) : (MI l yX7_readNumber wsX7_readNumber ({ frames := 2, cells := 0, slots := 0, locals := 40 }) (dC, dI) [(cI, .int), (cZ, .boolean)] (wd_tReader_txARR cI cZ a_t t_text t_length i_t_place i_t_numberAt i_t_faultKind i_t_faultAt tx) (wd_tReader_txARR cI cZ a_t t_text t_length o_t_place o_t_numberAt o_t_faultKind o_t_faultAt tx) [.ref (a_t 0), .int y1, .int y2] r0) := by
  intro sz
  refine Met.ofW (cc := cX7_readNumber) (maxL := 4) (ret := (some .int)) (by decide) rfl ?_
  intro p e s m args below meth c s₁ B hml hv
  obtain ⟨rfl, hsz, hP, hK, hD0⟩ := hv
  have hx := B.exec
  have hb := B.bytes
  have hr := B.returns
  have hts := atoms_spec (ws := wsX7_readNumber) B.pre
  have hown : s.vm.findClass RX7 = some m.cls := findClass_of_methodNamed B.named
  have hlocks := B.notSynchronized
  subst hsz
  have hD := hD0.self (sz := s.heap.size)
  have hA : ∀ q : Nat, s.heap.size ≤ q → va_A (wd_tReader_txARR cI cZ a_t t_text t_length i_t_place i_t_numberAt i_t_faultKind i_t_faultAt tx) s.heap.size q := fun q h => Or.inr h
  have hS : va_S (va_A (wd_tReader_txARR cI cZ a_t t_text t_length i_t_place i_t_numberAt i_t_faultKind i_t_faultAt tx) s.heap.size) s.heap s.heap [] := va_S.rf
  have hin7 : ∀ w ∈ u_ws RX7 TX7 6, w ∈ wsX7_readNumber := fun w h => List.mem_cons_of_mem _ (List.mem_append_right _ h)
  have hl := lv_entry ([.ref (a_t 0), .int y1, .int y2]) (n := 4) (Nat.le_of_ble_eq_true rfl)
  rw [lg_entry_eq]
  generalize (lg_sl ([.ref (a_t 0), .int y1, .int y2]) ++ List.replicate (4 - (lg_sl ([.ref (a_t 0), .int y1, .int y2])).length) Slot.unset).toArray = ls at hl ⊢
  have hl : lv_has ls 4 [(0, .ref (a_t 0)), (1, .int y1), (2, .int y2)] := hl
  have J129 : ∀ (x3 : Int32) (t_place : Int32) (t_numberAt : Int32) (t_faultKind : Int32) (t_faultAt : Int32) (H : Heap) (locs : List Loc) (ls : Array Slot), va_P (dC, dI) vwCl (wd_tReader_txARR cI cZ a_t t_text t_length t_place t_numberAt t_faultKind t_faultAt tx) H → va_D (va_A (wd_tReader_txARR cI cZ a_t t_text t_length i_t_place i_t_numberAt i_t_faultKind i_t_faultAt tx) s.heap.size) (wd_tReader_txARR cI cZ a_t t_text t_length t_place t_numberAt t_faultKind t_faultAt tx) → va_S (va_A (wd_tReader_txARR cI cZ a_t t_text t_length i_t_place i_t_numberAt i_t_faultKind i_t_faultAt tx) s.heap.size) s.heap H locs → lv_has ls 4 [(0, .ref (a_t 0)), (3, .int x3)] → m_Reader_readNumber_B129  x3 t_length t_place t_numberAt t_faultKind t_faultAt tx = some (r0, o_t_place, o_t_numberAt, o_t_faultKind, o_t_faultAt) → W p l e (headSpec wsX7_readNumber ({ frames := 2, cells := 0, slots := 0, locals := 40 })).room s m ([.ref (a_t 0), .int y1, .int y2] : List Value).toArray below meth c H locs 0 0 (MQ below (cQi (dC, dI) (wd_tReader_txARR cI cZ a_t t_text t_length i_t_place i_t_numberAt i_t_faultKind i_t_faultAt tx) (wd_tReader_txARR cI cZ a_t t_text t_length o_t_place o_t_numberAt o_t_faultKind o_t_faultAt tx) s.heap.size r0) ([.ref (a_t 0), .int y1, .int y2] : List Value).toArray s 0 0 (va_A (wd_tReader_txARR cI cZ a_t t_text t_length i_t_place i_t_numberAt i_t_faultKind i_t_faultAt tx) s.heap.size)) (F0 m 129 ls []) := by
    intro x3 t_place t_numberAt t_faultKind t_faultAt H locs ls hP hD hS hl h
    unfold m_Reader_readNumber_B129 at h
    refine lv_aload_n hx hb dX7_readNumber_129 rfl (lv_at hl 0 rfl) ?_
    refine lv_iconst (v := 2) hx hb dX7_readNumber_130 (by decide) ?_
    refine lv_aload_n hx hb dX7_readNumber_131 rfl (lv_at hl 0 rfl) ?_
    refine va_get (D := (dC, dI)) (ci := 7) (v := .int t_numberAt) (C := RX7) (T := TX7) (N := 6) hx hb hts hin7 hown hK hP 0 rfl rfl 3 (by decide) (hts (.fieldLink RX7 22 "TowedBack$Reader" "numberAt" "I") (List.mem_of_getElem? (i := 3) rfl)) (fun _ h9 => h9) rfl dX7_readNumber_132 ?_
    obtain ⟨t_faultKind_1, t_faultAt_1, hc1, h⟩ := kb2_some h
    refine k_GVv (rest := []) (As := [.int 2, .int t_numberAt]) (ws' := (wd_tReader_txARR cI cZ a_t t_text t_length t_place t_numberAt t_faultKind_1 t_faultAt_1 tx)) ⟨hx, hb, hml, hown, hts⟩ (c_Reader_note l dC dI cI cZ a_t t_text t_length t_place t_numberAt t_faultKind t_faultAt 2 t_numberAt t_faultKind_1 t_faultAt_1 hc1) (cwV 2 hts gX7_readNumber_X7_note rfl rfl rfl hd_7_note ⟨Nat.le_of_ble_eq_true rfl, Nat.le_of_ble_eq_true rfl⟩) hK hP hD hS hA [0] rfl (by decide +kernel) 0 7 rfl rfl rfl [1] rfl rfl 2 rfl (by decide +kernel) rfl rfl hl.1 rfl (Nat.le_of_ble_eq_true rfl) dX7_readNumber_135 ⟨Nat.zero_le _, Nat.zero_le _⟩ (fun H locs hP hD hS => ?_)
    refine lv_iload_n hx hb dX7_readNumber_138 rfl (lv_at hl 1 rfl) ?_
    obtain ⟨rfl, rfl, rfl, rfl, rfl⟩ := k_in5 h
    exact k_ri hx hb hr hlocks hP hS dX7_readNumber_139
  have J83 : ∀ (x1 : Int32) (x2 : Int32) (x3 : Int32) (t_place : Int32) (t_numberAt : Int32) (t_faultKind : Int32) (t_faultAt : Int32) (H : Heap) (locs : List Loc) (ls : Array Slot), va_P (dC, dI) vwCl (wd_tReader_txARR cI cZ a_t t_text t_length t_place t_numberAt t_faultKind t_faultAt tx) H → va_D (va_A (wd_tReader_txARR cI cZ a_t t_text t_length i_t_place i_t_numberAt i_t_faultKind i_t_faultAt tx) s.heap.size) (wd_tReader_txARR cI cZ a_t t_text t_length t_place t_numberAt t_faultKind t_faultAt tx) → va_S (va_A (wd_tReader_txARR cI cZ a_t t_text t_length i_t_place i_t_numberAt i_t_faultKind i_t_faultAt tx) s.heap.size) s.heap H locs → lv_has ls 4 [(0, .ref (a_t 0)), (1, .int x1), (2, .int x2), (3, .int x3)] → m_Reader_readNumber_B83  x1 x2 x3 t_length t_place t_numberAt t_faultKind t_faultAt tx = some (r0, o_t_place, o_t_numberAt, o_t_faultKind, o_t_faultAt) → W p l e (headSpec wsX7_readNumber ({ frames := 2, cells := 0, slots := 0, locals := 40 })).room s m ([.ref (a_t 0), .int y1, .int y2] : List Value).toArray below meth c H locs 0 0 (MQ below (cQi (dC, dI) (wd_tReader_txARR cI cZ a_t t_text t_length i_t_place i_t_numberAt i_t_faultKind i_t_faultAt tx) (wd_tReader_txARR cI cZ a_t t_text t_length o_t_place o_t_numberAt o_t_faultKind o_t_faultAt tx) s.heap.size r0) ([.ref (a_t 0), .int y1, .int y2] : List Value).toArray s 0 0 (va_A (wd_tReader_txARR cI cZ a_t t_text t_length i_t_place i_t_numberAt i_t_faultKind i_t_faultAt tx) s.heap.size)) (F0 m 83 ls []) := by
    intro x1 x2 x3 t_place t_numberAt t_faultKind t_faultAt H locs ls hP hD hS hl h
    unfold m_Reader_readNumber_B83 at h
    refine lv_aload_n hx hb dX7_readNumber_83 rfl (lv_at hl 0 rfl) ?_
    refine va_get (D := (dC, dI)) (ci := 7) (v := .int t_place) (C := RX7) (T := TX7) (N := 6) hx hb hts hin7 hown hK hP 0 rfl rfl 2 (by decide) (hts (.fieldLink RX7 19 "TowedBack$Reader" "place" "I") (List.mem_of_getElem? (i := 2) rfl)) (fun _ h9 => h9) rfl dX7_readNumber_84 ?_
    refine lv_aload_n hx hb dX7_readNumber_87 rfl (lv_at hl 0 rfl) ?_
    refine va_get (D := (dC, dI)) (ci := 7) (v := .int t_numberAt) (C := RX7) (T := TX7) (N := 6) hx hb hts hin7 hown hK hP 0 rfl rfl 3 (by decide) (hts (.fieldLink RX7 22 "TowedBack$Reader" "numberAt" "I") (List.mem_of_getElem? (i := 3) rfl)) (fun _ h9 => h9) rfl dX7_readNumber_88 ?_
    refine lv_icmp_ne (tgt := 106) hx hb dX7_readNumber_91 (by decide) (fun hc => ?_) (fun hc => ?_)
    · have h := k_neg hc h
      refine lv_aload_n hx hb dX7_readNumber_106 rfl (lv_at hl 0 rfl) ?_
      refine va_get (D := (dC, dI)) (ci := 7) (v := .int t_place) (C := RX7) (T := TX7) (N := 6) hx hb hts hin7 hown hK hP 0 rfl rfl 2 (by decide) (hts (.fieldLink RX7 19 "TowedBack$Reader" "place" "I") (List.mem_of_getElem? (i := 2) rfl)) (fun _ h9 => h9) rfl dX7_readNumber_107 ?_
      refine lv_aload_n hx hb dX7_readNumber_110 rfl (lv_at hl 0 rfl) ?_
      refine va_get (D := (dC, dI)) (ci := 7) (v := .int t_numberAt) (C := RX7) (T := TX7) (N := 6) hx hb hts hin7 hown hK hP 0 rfl rfl 3 (by decide) (hts (.fieldLink RX7 22 "TowedBack$Reader" "numberAt" "I") (List.mem_of_getElem? (i := 3) rfl)) (fun _ h9 => h9) rfl dX7_readNumber_111 ?_
      refine lv_isub hx hb dX7_readNumber_114 ?_
      refine lv_iconst (v := 3) hx hb dX7_readNumber_115 (by decide) ?_
      refine lv_icmp_gt (tgt := 129) hx hb dX7_readNumber_116 (by decide) (fun hc => ?_) (fun hc => ?_)
      · have h := k_pos hc h
        exact J129 x3 t_place t_numberAt t_faultKind t_faultAt _ _ _ hP hD hS (lv_sub hl [0, 3] rfl) h
      · have h := k_neg hc h
        refine lv_iload_n hx hb dX7_readNumber_119 rfl (lv_at hl 3 rfl) ?_
        refine lv_iload_n hx hb dX7_readNumber_120 rfl (lv_at hl 1 rfl) ?_
        refine lv_icmp_lt (tgt := 129) hx hb dX7_readNumber_121 (by decide) (fun hc => ?_) (fun hc => ?_)
        · have h := k_pos hc h
          exact J129 x3 t_place t_numberAt t_faultKind t_faultAt _ _ _ hP hD hS (lv_sub hl [0, 3] rfl) h
        · have h := k_neg hc h
          refine lv_iload_n hx hb dX7_readNumber_124 rfl (lv_at hl 3 rfl) ?_
          refine lv_iload_n hx hb dX7_readNumber_125 rfl (lv_at hl 2 rfl) ?_
          refine lv_icmp_le (tgt := 138) hx hb dX7_readNumber_126 (by decide) (fun hc => ?_) (fun hc => ?_)
          · have h := k_pos hc h
            refine lv_iload_n hx hb dX7_readNumber_138 rfl (lv_at hl 3 rfl) ?_
            obtain ⟨rfl, rfl, rfl, rfl, rfl⟩ := k_in5 h
            exact k_ri hx hb hr hlocks hP hS dX7_readNumber_139
          · have h := k_neg hc h
            exact J129 x3 t_place t_numberAt t_faultKind t_faultAt _ _ _ hP hD hS (lv_sub hl [0, 3] rfl) h
    · have h := k_pos hc h
      refine lv_aload_n hx hb dX7_readNumber_94 rfl (lv_at hl 0 rfl) ?_
      refine lv_iconst (v := 1) hx hb dX7_readNumber_95 (by decide) ?_
      refine lv_aload_n hx hb dX7_readNumber_96 rfl (lv_at hl 0 rfl) ?_
      refine va_get (D := (dC, dI)) (ci := 7) (v := .int t_numberAt) (C := RX7) (T := TX7) (N := 6) hx hb hts hin7 hown hK hP 0 rfl rfl 3 (by decide) (hts (.fieldLink RX7 22 "TowedBack$Reader" "numberAt" "I") (List.mem_of_getElem? (i := 3) rfl)) (fun _ h9 => h9) rfl dX7_readNumber_97 ?_
      obtain ⟨t_faultKind_2, t_faultAt_2, hc2, h⟩ := kb2_some h
      refine k_GVv (rest := []) (As := [.int 1, .int t_numberAt]) (ws' := (wd_tReader_txARR cI cZ a_t t_text t_length t_place t_numberAt t_faultKind_2 t_faultAt_2 tx)) ⟨hx, hb, hml, hown, hts⟩ (c_Reader_note l dC dI cI cZ a_t t_text t_length t_place t_numberAt t_faultKind t_faultAt 1 t_numberAt t_faultKind_2 t_faultAt_2 hc2) (cwV 2 hts gX7_readNumber_X7_note rfl rfl rfl hd_7_note ⟨Nat.le_of_ble_eq_true rfl, Nat.le_of_ble_eq_true rfl⟩) hK hP hD hS hA [0] rfl (by decide +kernel) 0 7 rfl rfl rfl [1] rfl rfl 2 rfl (by decide +kernel) rfl rfl hl.1 rfl (Nat.le_of_ble_eq_true rfl) dX7_readNumber_100 ⟨Nat.zero_le _, Nat.zero_le _⟩ (fun H locs hP hD hS => ?_)
      refine lv_goto (tgt := 138) hx hb dX7_readNumber_103 (by decide) ?_
      refine lv_iload_n hx hb dX7_readNumber_138 rfl (lv_at hl 3 rfl) ?_
      obtain ⟨rfl, rfl, rfl, rfl, rfl⟩ := k_in5 h
      exact k_ri hx hb hr hlocks hP hS dX7_readNumber_139
  have L23 : ∀ (n23 : Nat) (x1 : Int32) (x2 : Int32) (x3 : Int32) (t_place : Int32) (t_numberAt : Int32) (t_faultKind : Int32) (t_faultAt : Int32) (H : Heap) (locs : List Loc) (ls : Array Slot), va_P (dC, dI) vwCl (wd_tReader_txARR cI cZ a_t t_text t_length t_place t_numberAt t_faultKind t_faultAt tx) H → va_D (va_A (wd_tReader_txARR cI cZ a_t t_text t_length i_t_place i_t_numberAt i_t_faultKind i_t_faultAt tx) s.heap.size) (wd_tReader_txARR cI cZ a_t t_text t_length t_place t_numberAt t_faultKind t_faultAt tx) → va_S (va_A (wd_tReader_txARR cI cZ a_t t_text t_length i_t_place i_t_numberAt i_t_faultKind i_t_faultAt tx) s.heap.size) s.heap H locs → lv_has ls 4 [(0, .ref (a_t 0)), (1, .int x1), (2, .int x2), (3, .int x3)] → m_Reader_readNumber_L23  n23 x1 x2 x3 t_length t_place t_numberAt t_faultKind t_faultAt tx = some (r0, o_t_place, o_t_numberAt, o_t_faultKind, o_t_faultAt) → W p l e (headSpec wsX7_readNumber ({ frames := 2, cells := 0, slots := 0, locals := 40 })).room s m ([.ref (a_t 0), .int y1, .int y2] : List Value).toArray below meth c H locs 0 0 (MQ below (cQi (dC, dI) (wd_tReader_txARR cI cZ a_t t_text t_length i_t_place i_t_numberAt i_t_faultKind i_t_faultAt tx) (wd_tReader_txARR cI cZ a_t t_text t_length o_t_place o_t_numberAt o_t_faultKind o_t_faultAt tx) s.heap.size r0) ([.ref (a_t 0), .int y1, .int y2] : List Value).toArray s 0 0 (va_A (wd_tReader_txARR cI cZ a_t t_text t_length i_t_place i_t_numberAt i_t_faultKind i_t_faultAt tx) s.heap.size)) (F0 m 23 ls []) := by
    intro n23
    induction n23 with
    | zero => intro x1 x2 x3 t_place t_numberAt t_faultKind t_faultAt H locs ls hP hD hS hl h; have h : none = some (r0, o_t_place, o_t_numberAt, o_t_faultKind, o_t_faultAt) := h; cases h
    | succ n23 ih23 =>
      intro x1 x2 x3 t_place t_numberAt t_faultKind t_faultAt H locs ls hP hD hS hl h
      have h : m_Reader_readNumber_B23  (m_Reader_readNumber_L23  n23) x1 x2 x3 t_length t_place t_numberAt t_faultKind t_faultAt tx = some (r0, o_t_place, o_t_numberAt, o_t_faultKind, o_t_faultAt) := h
      have J70 : ∀ (x1 : Int32) (x2 : Int32) (x3 : Int32) (t_place : Int32) (t_numberAt : Int32) (t_faultKind : Int32) (t_faultAt : Int32) (H : Heap) (locs : List Loc) (ls : Array Slot), va_P (dC, dI) vwCl (wd_tReader_txARR cI cZ a_t t_text t_length t_place t_numberAt t_faultKind t_faultAt tx) H → va_D (va_A (wd_tReader_txARR cI cZ a_t t_text t_length i_t_place i_t_numberAt i_t_faultKind i_t_faultAt tx) s.heap.size) (wd_tReader_txARR cI cZ a_t t_text t_length t_place t_numberAt t_faultKind t_faultAt tx) → va_S (va_A (wd_tReader_txARR cI cZ a_t t_text t_length i_t_place i_t_numberAt i_t_faultKind i_t_faultAt tx) s.heap.size) s.heap H locs → lv_has ls 4 [(0, .ref (a_t 0)), (1, .int x1), (2, .int x2), (3, .int x3)] → m_Reader_readNumber_B70 (m_Reader_readNumber_L23  n23) x1 x2 x3 t_length t_place t_numberAt t_faultKind t_faultAt tx = some (r0, o_t_place, o_t_numberAt, o_t_faultKind, o_t_faultAt) → W p l e (headSpec wsX7_readNumber ({ frames := 2, cells := 0, slots := 0, locals := 40 })).room s m ([.ref (a_t 0), .int y1, .int y2] : List Value).toArray below meth c H locs 0 0 (MQ below (cQi (dC, dI) (wd_tReader_txARR cI cZ a_t t_text t_length i_t_place i_t_numberAt i_t_faultKind i_t_faultAt tx) (wd_tReader_txARR cI cZ a_t t_text t_length o_t_place o_t_numberAt o_t_faultKind o_t_faultAt tx) s.heap.size r0) ([.ref (a_t 0), .int y1, .int y2] : List Value).toArray s 0 0 (va_A (wd_tReader_txARR cI cZ a_t t_text t_length i_t_place i_t_numberAt i_t_faultKind i_t_faultAt tx) s.heap.size)) (F0 m 70 ls []) := by
        intro x1 x2 x3 t_place t_numberAt t_faultKind t_faultAt H locs ls hP hD hS hl h
        unfold m_Reader_readNumber_B70 at h
        refine lv_aload_n hx hb dX7_readNumber_70 rfl (lv_at hl 0 rfl) ?_
        refine lv_dup hx hb dX7_readNumber_71 rfl ?_
        refine va_get (D := (dC, dI)) (ci := 7) (v := .int t_place) (C := RX7) (T := TX7) (N := 6) hx hb hts hin7 hown hK hP 0 rfl rfl 2 (by decide) (hts (.fieldLink RX7 19 "TowedBack$Reader" "place" "I") (List.mem_of_getElem? (i := 2) rfl)) (fun _ h9 => h9) rfl dX7_readNumber_72 ?_
        refine lv_iconst (v := 1) hx hb dX7_readNumber_75 (by decide) ?_
        refine lv_iadd hx hb dX7_readNumber_76 ?_
        refine va_put (D := (dC, dI)) (ci := 7) (v := .int (t_place + 1)) (ty := tyX7 2) (C := RX7) (T := TX7) (N := 6) hx hb hts hin7 tyX7 tyX7_ok nmX7 hown hK hP hD hS 0 rfl rfl 2 (by decide) (hts (.fieldLink RX7 19 "TowedBack$Reader" "place" "I") (List.mem_of_getElem? (i := 2) rfl)) (fun _ h9 => h9) rfl (tyX7_ok 2 (by decide)) rfl rfl (Nat.le_of_ble_eq_true rfl) dX7_readNumber_77 (fun H locs hP hD hS => ?_)
        have hP : va_P (dC, dI) vwCl (wd_tReader_txARR cI cZ a_t t_text t_length (t_place + 1) t_numberAt t_faultKind t_faultAt tx) H := hP
        have hD : va_D (va_A (wd_tReader_txARR cI cZ a_t t_text t_length i_t_place i_t_numberAt i_t_faultKind i_t_faultAt tx) s.heap.size) (wd_tReader_txARR cI cZ a_t t_text t_length (t_place + 1) t_numberAt t_faultKind t_faultAt tx) := hD
        refine lv_goto (tgt := 23) hx hb dX7_readNumber_80 (by decide) ?_
        exact ih23 x1 x2 x3 (t_place + 1) t_numberAt t_faultKind t_faultAt _ _ _ hP hD hS (lv_sub hl [0, 1, 2, 3] rfl) h
      unfold m_Reader_readNumber_B23 at h
      refine lv_aload_n hx hb dX7_readNumber_23 rfl (lv_at hl 0 rfl) ?_
      refine va_get (D := (dC, dI)) (ci := 7) (v := .int t_place) (C := RX7) (T := TX7) (N := 6) hx hb hts hin7 hown hK hP 0 rfl rfl 2 (by decide) (hts (.fieldLink RX7 19 "TowedBack$Reader" "place" "I") (List.mem_of_getElem? (i := 2) rfl)) (fun _ h9 => h9) rfl dX7_readNumber_24 ?_
      refine lv_aload_n hx hb dX7_readNumber_27 rfl (lv_at hl 0 rfl) ?_
      refine va_get (D := (dC, dI)) (ci := 7) (v := .int t_length) (C := RX7) (T := TX7) (N := 6) hx hb hts hin7 hown hK hP 0 rfl rfl 1 (by decide) (hts (.fieldLink RX7 15 "TowedBack$Reader" "length" "I") (List.mem_of_getElem? (i := 4) rfl)) (fun _ h9 => h9) rfl dX7_readNumber_28 ?_
      refine lv_icmp_ge (tgt := 83) hx hb dX7_readNumber_31 (by decide) (fun hc => ?_) (fun hc => ?_)
      · have h := k_pos hc h
        exact J83 x1 x2 x3 t_place t_numberAt t_faultKind t_faultAt _ _ _ hP hD hS (lv_sub hl [0, 1, 2, 3] rfl) h
      · have h := k_neg hc h
        refine lv_aload_n hx hb dX7_readNumber_34 rfl (lv_at hl 0 rfl) ?_
        obtain ⟨r3, hc3, h⟩ := kb1_some h
        refine k_FVi (rest := []) (As := []) ⟨hx, hb, hml, hown, hts⟩ (c_Reader_letterHere l dC dI cI cZ a_t t_text t_length t_place t_numberAt t_faultKind t_faultAt tx r3 hc3) (cwV 0 hts gX7_readNumber_X7_letterHere rfl rfl rfl hd_7_letterHere ⟨Nat.le_of_ble_eq_true rfl, Nat.le_of_ble_eq_true rfl⟩) hK hP hD hS hA 0 7 rfl rfl rfl rfl rfl hl.1 rfl (Nat.le_of_ble_eq_true rfl) dX7_readNumber_35 ⟨Nat.zero_le _, Nat.zero_le _⟩ (fun H locs hP hD hS => ?_)
        obtain ⟨r4, hc4, h⟩ := kb1_some h
        refine k_RSi (rest := []) (As := [.int r3]) ⟨hx, hb, hml, hown, hts⟩ (c_Reader_isFigure l dC dI cI cZ r3 r4 hc4) (va_cwS 1 hts gX7_readNumber_X7_isFigure rfl rfl rfl hd_7_isFigure ⟨Nat.le_of_ble_eq_true rfl, Nat.le_of_ble_eq_true rfl⟩) hK hP hD hS hA [] rfl (by decide +kernel) rfl hl.1 rfl (Nat.le_of_ble_eq_true rfl) dX7_readNumber_38 ⟨Nat.zero_le _, Nat.zero_le _⟩ (fun H locs hP hD hS => ?_)
        refine lv_if_eq (tgt := 83) hx hb dX7_readNumber_41 (by decide) (fun hc => ?_) (fun hc => ?_)
        · have h := k_pos hc h
          exact J83 x1 x2 x3 t_place t_numberAt t_faultKind t_faultAt _ _ _ hP hD hS (lv_sub hl [0, 1, 2, 3] rfl) h
        · have h := k_neg hc h
          refine lv_aload_n hx hb dX7_readNumber_44 rfl (lv_at hl 0 rfl) ?_
          refine va_get (D := (dC, dI)) (ci := 7) (v := .int t_place) (C := RX7) (T := TX7) (N := 6) hx hb hts hin7 hown hK hP 0 rfl rfl 2 (by decide) (hts (.fieldLink RX7 19 "TowedBack$Reader" "place" "I") (List.mem_of_getElem? (i := 2) rfl)) (fun _ h9 => h9) rfl dX7_readNumber_45 ?_
          refine lv_aload_n hx hb dX7_readNumber_48 rfl (lv_at hl 0 rfl) ?_
          refine va_get (D := (dC, dI)) (ci := 7) (v := .int t_numberAt) (C := RX7) (T := TX7) (N := 6) hx hb hts hin7 hown hK hP 0 rfl rfl 3 (by decide) (hts (.fieldLink RX7 22 "TowedBack$Reader" "numberAt" "I") (List.mem_of_getElem? (i := 3) rfl)) (fun _ h9 => h9) rfl dX7_readNumber_49 ?_
          refine lv_isub hx hb dX7_readNumber_52 ?_
          refine lv_iconst (v := 3) hx hb dX7_readNumber_53 (by decide) ?_
          refine lv_icmp_ge (tgt := 70) hx hb dX7_readNumber_54 (by decide) (fun hc => ?_) (fun hc => ?_)
          · have h := k_pos hc h
            exact J70 x1 x2 x3 t_place t_numberAt t_faultKind t_faultAt _ _ _ hP hD hS (lv_sub hl [0, 1, 2, 3] rfl) h
          · have h := k_neg hc h
            refine lv_iload_n hx hb dX7_readNumber_57 rfl (lv_at hl 3 rfl) ?_
            refine lv_bipush (v := 10) hx hb dX7_readNumber_58 (by decide) ?_
            refine lv_imul hx hb dX7_readNumber_60 ?_
            refine lv_aload_n hx hb dX7_readNumber_61 rfl (lv_at hl 0 rfl) ?_
            obtain ⟨r5, hc5, h⟩ := kb1_some h
            refine k_FVi (rest := [.int (x3 * 10)]) (As := []) ⟨hx, hb, hml, hown, hts⟩ (c_Reader_letterHere l dC dI cI cZ a_t t_text t_length t_place t_numberAt t_faultKind t_faultAt tx r5 hc5) (cwV 0 hts gX7_readNumber_X7_letterHere rfl rfl rfl hd_7_letterHere ⟨Nat.le_of_ble_eq_true rfl, Nat.le_of_ble_eq_true rfl⟩) hK hP hD hS hA 0 7 rfl rfl rfl rfl rfl hl.1 rfl (Nat.le_of_ble_eq_true rfl) dX7_readNumber_62 ⟨Nat.zero_le _, Nat.zero_le _⟩ (fun H locs hP hD hS => ?_)
            refine lv_iadd hx hb dX7_readNumber_65 ?_
            refine lv_bipush (v := 48) hx hb dX7_readNumber_66 (by decide) ?_
            refine lv_isub hx hb dX7_readNumber_68 ?_
            refine lv_istore_n (lv' := [(3, .int (((x3 * 10) + r5) - 48)), (0, .ref (a_t 0)), (1, .int x1), (2, .int x2)]) hx hb dX7_readNumber_69 rfl hl (by decide) rfl (fun ls hl => ?_)
            exact J70 x1 x2 (((x3 * 10) + r5) - 48) t_place t_numberAt t_faultKind t_faultAt _ _ _ hP hD hS (lv_sub hl [1, 2, 3, 0] rfl) h
  unfold m_Reader_readNumber at h
  refine lv_aload_n hx hb dX7_readNumber_0 rfl (lv_at hl 0 rfl) ?_
  refine va_get (D := (dC, dI)) (ci := 7) (v := .int i_t_faultKind) (C := RX7) (T := TX7) (N := 6) hx hb hts hin7 hown hK hP 0 rfl rfl 4 (by decide) (hts (.fieldLink RX7 25 "TowedBack$Reader" "faultKind" "I") (List.mem_of_getElem? (i := 1) rfl)) (fun _ h9 => h9) rfl dX7_readNumber_1 ?_
  refine lv_if_eq (tgt := 9) hx hb dX7_readNumber_4 (by decide) (fun hc => ?_) (fun hc => ?_)
  · have h := k_pos hc h
    refine lv_aload_n hx hb dX7_readNumber_9 rfl (lv_at hl 0 rfl) ?_
    obtain ⟨t_place_6, hc6, h⟩ := kb1_some h
    refine k_FVv (rest := []) (As := []) ⟨hx, hb, hml, hown, hts⟩ (c_Reader_skipBlanks l dC dI cI cZ a_t t_text t_length i_t_place i_t_numberAt i_t_faultKind i_t_faultAt tx t_place_6 hc6) (cwV 0 hts gX7_readNumber_X7_skipBlanks rfl rfl rfl hd_7_skipBlanks ⟨Nat.le_of_ble_eq_true rfl, Nat.le_of_ble_eq_true rfl⟩) hK hP hD hS hA 0 7 rfl rfl rfl rfl rfl hl.1 rfl (Nat.le_of_ble_eq_true rfl) dX7_readNumber_10 ⟨Nat.zero_le _, Nat.zero_le _⟩ (fun H locs hP hD hS => ?_)
    refine lv_aload_n hx hb dX7_readNumber_13 rfl (lv_at hl 0 rfl) ?_
    refine lv_aload_n hx hb dX7_readNumber_14 rfl (lv_at hl 0 rfl) ?_
    refine va_get (D := (dC, dI)) (ci := 7) (v := .int t_place_6) (C := RX7) (T := TX7) (N := 6) hx hb hts hin7 hown hK hP 0 rfl rfl 2 (by decide) (hts (.fieldLink RX7 19 "TowedBack$Reader" "place" "I") (List.mem_of_getElem? (i := 2) rfl)) (fun _ h9 => h9) rfl dX7_readNumber_15 ?_
    refine va_put (D := (dC, dI)) (ci := 7) (v := .int t_place_6) (ty := tyX7 3) (C := RX7) (T := TX7) (N := 6) hx hb hts hin7 tyX7 tyX7_ok nmX7 hown hK hP hD hS 0 rfl rfl 3 (by decide) (hts (.fieldLink RX7 22 "TowedBack$Reader" "numberAt" "I") (List.mem_of_getElem? (i := 3) rfl)) (fun _ h9 => h9) rfl (tyX7_ok 3 (by decide)) rfl rfl (Nat.le_of_ble_eq_true rfl) dX7_readNumber_18 (fun H locs hP hD hS => ?_)
    have hP : va_P (dC, dI) vwCl (wd_tReader_txARR cI cZ a_t t_text t_length t_place_6 t_place_6 i_t_faultKind i_t_faultAt tx) H := hP
    have hD : va_D (va_A (wd_tReader_txARR cI cZ a_t t_text t_length i_t_place i_t_numberAt i_t_faultKind i_t_faultAt tx) s.heap.size) (wd_tReader_txARR cI cZ a_t t_text t_length t_place_6 t_place_6 i_t_faultKind i_t_faultAt tx) := hD
    refine lv_iconst (v := 0) hx hb dX7_readNumber_21 (by decide) ?_
    refine lv_istore_n (lv' := [(3, .int 0), (0, .ref (a_t 0)), (1, .int y1), (2, .int y2)]) hx hb dX7_readNumber_22 rfl hl (by decide) rfl (fun ls hl => ?_)
    exact L23 FU y1 y2 0 t_place_6 t_place_6 i_t_faultKind i_t_faultAt _ _ _ hP hD hS (lv_sub hl [1, 2, 3, 0] rfl) h
  · have h := k_neg hc h
    refine lv_iconst (v := 0) hx hb dX7_readNumber_7 (by decide) ?_
    obtain ⟨rfl, rfl, rfl, rfl, rfl⟩ := k_in5 h
    exact k_ri hx hb hr hlocks hP hS dX7_readNumber_8
set_option maxHeartbeats 4000000 in
set_option maxRecDepth 100000 in
theorem c_Reader_readJunctions (l : Launch) (dC : Nat → ClassId) (dI : Nat → Nat → Nat) (cI cZ : ClassId) (a_t a_on : Nat → Nat) (t_text : Nat) (t_length : Int32) (i_t_place : Int32) (i_t_numberAt : Int32) (i_t_faultKind : Int32) (i_t_faultAt : Int32) (tx : Nat → Int32) (i_on_junctions : Int32) (on_cuts : Int32) (on_boats : Int32) (on_cutA : Nat → Int32) (on_cutB : Nat → Int32) (on_cutHard : Nat → Int32) (on_boatAt : Nat → Int32) (on_boatPull : Nat → Int32) (on_boatWear : Nat → Int32) (on_onward : Nat → Int32) (on_onwardHard : Nat → Int32)  (o_t_place : Int32) (o_t_numberAt : Int32) (o_t_faultKind : Int32) (o_t_faultAt : Int32) (o_on_junctions : Int32) (h : m_Reader_readJunctions t_length i_t_place i_t_numberAt i_t_faultKind i_t_faultAt tx i_on_junctions = some (o_t_place, o_t_numberAt, o_t_faultKind, o_t_faultAt, o_on_junctions)) : (MV l yX7_readJunctions wsX7_readJunctions ({ frames := 3, cells := 0, slots := 0, locals := 63 }) (dC, dI) [(cI, .int), (cZ, .boolean)] (wd_tReader_txARR_onWater cI cZ a_t a_on t_text t_length i_t_place i_t_numberAt i_t_faultKind i_t_faultAt tx i_on_junctions on_cuts on_boats on_cutA on_cutB on_cutHard on_boatAt on_boatPull on_boatWear on_onward on_onwardHard) (wd_tReader_txARR_onWater cI cZ a_t a_on t_text t_length o_t_place o_t_numberAt o_t_faultKind o_t_faultAt tx o_on_junctions on_cuts on_boats on_cutA on_cutB on_cutHard on_boatAt on_boatPull on_boatWear on_onward on_onwardHard) [.ref (a_t 0), .ref (a_on 0)]) := by
  intro sz
  refine Met.ofW (cc := cX7_readJunctions) (maxL := 3) (ret := none) (by decide) rfl ?_
  intro p e s m args below meth c s₁ B hml hv
  obtain ⟨rfl, hsz, hP, hK, hD0⟩ := hv
  have hx := B.exec
  have hb := B.bytes
  have hr := B.returns
  have hts := atoms_spec (ws := wsX7_readJunctions) B.pre
  have hown : s.vm.findClass RX7 = some m.cls := findClass_of_methodNamed B.named
  have hlocks := B.notSynchronized
  subst hsz
  have hD := hD0.self (sz := s.heap.size)
  have hA : ∀ q : Nat, s.heap.size ≤ q → va_A (wd_tReader_txARR_onWater cI cZ a_t a_on t_text t_length i_t_place i_t_numberAt i_t_faultKind i_t_faultAt tx i_on_junctions on_cuts on_boats on_cutA on_cutB on_cutHard on_boatAt on_boatPull on_boatWear on_onward on_onwardHard) s.heap.size q := fun q h => Or.inr h
  have hS : va_S (va_A (wd_tReader_txARR_onWater cI cZ a_t a_on t_text t_length i_t_place i_t_numberAt i_t_faultKind i_t_faultAt tx i_on_junctions on_cuts on_boats on_cutA on_cutB on_cutHard on_boatAt on_boatPull on_boatWear on_onward on_onwardHard) s.heap.size) s.heap s.heap [] := va_S.rf
  have hin9 : ∀ w ∈ u_ws RX9 TX9 11, w ∈ wsX7_readJunctions := fun w h => List.mem_cons_of_mem _ (List.mem_append_left _ (List.mem_append_right _ h))
  have hl := lv_entry ([.ref (a_t 0), .ref (a_on 0)]) (n := 3) (Nat.le_of_ble_eq_true rfl)
  rw [lg_entry_eq]
  generalize (lg_sl ([.ref (a_t 0), .ref (a_on 0)]) ++ List.replicate (3 - (lg_sl ([.ref (a_t 0), .ref (a_on 0)])).length) Slot.unset).toArray = ls at hl ⊢
  have hl : lv_has ls 3 [(0, .ref (a_t 0)), (1, .ref (a_on 0))] := hl
  unfold m_Reader_readJunctions at h
  refine lv_aload_n hx hb dX7_readJunctions_0 rfl (lv_at hl 0 rfl) ?_
  refine lv_bipush (v := 106) hx hb dX7_readJunctions_1 (by decide) ?_
  obtain ⟨t_place_1, t_faultKind_1, t_faultAt_1, hc1, h⟩ := kb3_some h
  refine k_GVv (rest := []) (As := [.int 106]) (ws' := (wd_tReader_txARR_onWater cI cZ a_t a_on t_text t_length t_place_1 i_t_numberAt t_faultKind_1 t_faultAt_1 tx i_on_junctions on_cuts on_boats on_cutA on_cutB on_cutHard on_boatAt on_boatPull on_boatWear on_onward on_onwardHard)) ⟨hx, hb, hml, hown, hts⟩ (c_Reader_readSign l dC dI cI cZ a_t t_text t_length i_t_place i_t_numberAt i_t_faultKind i_t_faultAt tx 106 t_place_1 t_faultKind_1 t_faultAt_1 hc1) (cwV 1 hts gX7_readJunctions_X7_readSign rfl rfl rfl hd_7_readSign ⟨Nat.le_of_ble_eq_true rfl, Nat.le_of_ble_eq_true rfl⟩) hK hP hD hS hA [0, 1] rfl (by decide +kernel) 0 7 rfl rfl rfl [2, 3, 4, 5, 6, 7, 8, 9, 10] rfl rfl 11 rfl (by decide +kernel) rfl rfl hl.1 rfl (Nat.le_of_ble_eq_true rfl) dX7_readJunctions_3 ⟨Nat.zero_le _, Nat.zero_le _⟩ (fun H locs hP hD hS => ?_)
  refine lv_aload_n hx hb dX7_readJunctions_6 rfl (lv_at hl 0 rfl) ?_
  refine lv_iconst (v := 1) hx hb dX7_readJunctions_7 (by decide) ?_
  refine lv_bipush (v := 9) hx hb dX7_readJunctions_8 (by decide) ?_
  obtain ⟨r2, t_place_2, t_numberAt_2, t_faultKind_2, t_faultAt_2, hc2, h⟩ := kb5_some h
  refine k_GVi (rest := []) (As := [.int 1, .int 9]) (ws' := (wd_tReader_txARR_onWater cI cZ a_t a_on t_text t_length t_place_2 t_numberAt_2 t_faultKind_2 t_faultAt_2 tx i_on_junctions on_cuts on_boats on_cutA on_cutB on_cutHard on_boatAt on_boatPull on_boatWear on_onward on_onwardHard)) ⟨hx, hb, hml, hown, hts⟩ (c_Reader_readNumber l dC dI cI cZ a_t t_text t_length t_place_1 i_t_numberAt t_faultKind_1 t_faultAt_1 tx 1 9 r2 t_place_2 t_numberAt_2 t_faultKind_2 t_faultAt_2 hc2) (cwV 2 hts gX7_readJunctions_X7_readNumber rfl rfl rfl hd_7_readNumber ⟨Nat.le_of_ble_eq_true rfl, Nat.le_of_ble_eq_true rfl⟩) hK hP hD hS hA [0, 1] rfl (by decide +kernel) 0 7 rfl rfl rfl [2, 3, 4, 5, 6, 7, 8, 9, 10] rfl rfl 11 rfl (by decide +kernel) rfl rfl hl.1 rfl (Nat.le_of_ble_eq_true rfl) dX7_readJunctions_10 ⟨Nat.zero_le _, Nat.zero_le _⟩ (fun H locs hP hD hS => ?_)
  refine lv_istore_n (lv' := [(2, .int r2), (0, .ref (a_t 0)), (1, .ref (a_on 0))]) hx hb dX7_readJunctions_13 rfl hl (by decide) rfl (fun ls hl => ?_)
  refine lv_aload_n hx hb dX7_readJunctions_14 rfl (lv_at hl 1 rfl) ?_
  refine lv_bipush (v := 59) hx hb dX7_readJunctions_15 (by decide) ?_
  obtain ⟨t_place_3, t_faultKind_3, t_faultAt_3, hc3, h⟩ := kb3_some h
  refine k_GVv (rest := []) (As := [.int 59]) (ws' := (wd_tReader_txARR_onWater cI cZ a_t a_on t_text t_length t_place_3 t_numberAt_2 t_faultKind_3 t_faultAt_3 tx i_on_junctions on_cuts on_boats on_cutA on_cutB on_cutHard on_boatAt on_boatPull on_boatWear on_onward on_onwardHard)) ⟨hx, hb, hml, hown, hts⟩ (c_Reader_readSign l dC dI cI cZ a_t t_text t_length t_place_2 t_numberAt_2 t_faultKind_2 t_faultAt_2 tx 59 t_place_3 t_faultKind_3 t_faultAt_3 hc3) (cwV 1 hts gX7_readJunctions_X7_readSign rfl rfl rfl hd_7_readSign ⟨Nat.le_of_ble_eq_true rfl, Nat.le_of_ble_eq_true rfl⟩) hK hP hD hS hA [0, 1] rfl (by decide +kernel) 0 7 rfl rfl rfl [2, 3, 4, 5, 6, 7, 8, 9, 10] rfl rfl 11 rfl (by decide +kernel) rfl rfl hl.1 rfl (Nat.le_of_ble_eq_true rfl) dX7_readJunctions_17 ⟨Nat.zero_le _, Nat.zero_le _⟩ (fun H locs hP hD hS => ?_)
  refine lv_aload_n hx hb dX7_readJunctions_20 rfl (lv_at hl 2 rfl) ?_
  refine lv_iload_n hx hb dX7_readJunctions_21 rfl (lv_at hl 0 rfl) ?_
  refine va_put (D := (dC, dI)) (ci := 9) (v := .int r2) (ty := tyX9 0) (C := RX9) (T := TX9) (N := 11) hx hb hts hin9 tyX9 tyX9_ok nmX9 hown hK hP hD hS 2 rfl rfl 0 (by decide) (hts (.fieldLink RX7 63 "TowedBack$Water" "junctions" "I") (List.mem_of_getElem? (i := 1) rfl)) (fun _ h9 => h9) rfl (tyX9_ok 0 (by decide)) rfl rfl (Nat.le_of_ble_eq_true rfl) dX7_readJunctions_22 (fun H locs hP hD hS => ?_)
  have hP : va_P (dC, dI) vwCl (wd_tReader_txARR_onWater cI cZ a_t a_on t_text t_length t_place_3 t_numberAt_2 t_faultKind_3 t_faultAt_3 tx r2 on_cuts on_boats on_cutA on_cutB on_cutHard on_boatAt on_boatPull on_boatWear on_onward on_onwardHard) H := hP
  have hD : va_D (va_A (wd_tReader_txARR_onWater cI cZ a_t a_on t_text t_length i_t_place i_t_numberAt i_t_faultKind i_t_faultAt tx i_on_junctions on_cuts on_boats on_cutA on_cutB on_cutHard on_boatAt on_boatPull on_boatWear on_onward on_onwardHard) s.heap.size) (wd_tReader_txARR_onWater cI cZ a_t a_on t_text t_length t_place_3 t_numberAt_2 t_faultKind_3 t_faultAt_3 tx r2 on_cuts on_boats on_cutA on_cutB on_cutHard on_boatAt on_boatPull on_boatWear on_onward on_onwardHard) := hD
  obtain ⟨rfl, rfl, rfl, rfl, rfl⟩ := k_in5 h
  exact k_rv hx hb hr hlocks hP hS dX7_readJunctions_25
set_option maxHeartbeats 4000000 in
set_option maxRecDepth 100000 in
theorem c_Reader_readCut (l : Launch) (dC : Nat → ClassId) (dI : Nat → Nat → Nat) (cI cZ : ClassId) (a_t a_on : Nat → Nat) (t_text : Nat) (t_length : Int32) (i_t_place : Int32) (i_t_numberAt : Int32) (i_t_faultKind : Int32) (i_t_faultAt : Int32) (tx : Nat → Int32) (on_junctions : Int32) (i_on_cuts : Int32) (on_boats : Int32) (i_on_cutA : Nat → Int32) (i_on_cutB : Nat → Int32) (i_on_cutHard : Nat → Int32) (on_boatAt : Nat → Int32) (on_boatPull : Nat → Int32) (on_boatWear : Nat → Int32) (on_onward : Nat → Int32) (on_onwardHard : Nat → Int32)  (o_t_place : Int32) (o_t_numberAt : Int32) (o_t_faultKind : Int32) (o_t_faultAt : Int32) (o_on_cuts : Int32) (o_on_cutA : Nat → Int32) (o_on_cutB : Nat → Int32) (o_on_cutHard : Nat → Int32) (h : m_Reader_readCut t_length i_t_place i_t_numberAt i_t_faultKind i_t_faultAt tx on_junctions i_on_cuts i_on_cutA i_on_cutB i_on_cutHard = some (o_t_place, o_t_numberAt, o_t_faultKind, o_t_faultAt, o_on_cuts, o_on_cutA, o_on_cutB, o_on_cutHard)) : (MV l yX7_readCut wsX7_readCut ({ frames := 3, cells := 0, slots := 0, locals := 66 }) (dC, dI) [(cI, .int), (cZ, .boolean)] (wd_tReader_txARR_onWater cI cZ a_t a_on t_text t_length i_t_place i_t_numberAt i_t_faultKind i_t_faultAt tx on_junctions i_on_cuts on_boats i_on_cutA i_on_cutB i_on_cutHard on_boatAt on_boatPull on_boatWear on_onward on_onwardHard) (wd_tReader_txARR_onWater cI cZ a_t a_on t_text t_length o_t_place o_t_numberAt o_t_faultKind o_t_faultAt tx on_junctions o_on_cuts on_boats o_on_cutA o_on_cutB o_on_cutHard on_boatAt on_boatPull on_boatWear on_onward on_onwardHard) [.ref (a_t 0), .ref (a_on 0)]) := by
  intro sz
  refine Met.ofW (cc := cX7_readCut) (maxL := 5) (ret := none) (by decide) rfl ?_
  intro p e s m args below meth c s₁ B hml hv
  obtain ⟨rfl, hsz, hP, hK, hD0⟩ := hv
  have hx := B.exec
  have hb := B.bytes
  have hr := B.returns
  have hts := atoms_spec (ws := wsX7_readCut) B.pre
  have hown : s.vm.findClass RX7 = some m.cls := findClass_of_methodNamed B.named
  have hlocks := B.notSynchronized
  subst hsz
  have hD := hD0.self (sz := s.heap.size)
  have hA : ∀ q : Nat, s.heap.size ≤ q → va_A (wd_tReader_txARR_onWater cI cZ a_t a_on t_text t_length i_t_place i_t_numberAt i_t_faultKind i_t_faultAt tx on_junctions i_on_cuts on_boats i_on_cutA i_on_cutB i_on_cutHard on_boatAt on_boatPull on_boatWear on_onward on_onwardHard) s.heap.size q := fun q h => Or.inr h
  have hS : va_S (va_A (wd_tReader_txARR_onWater cI cZ a_t a_on t_text t_length i_t_place i_t_numberAt i_t_faultKind i_t_faultAt tx on_junctions i_on_cuts on_boats i_on_cutA i_on_cutB i_on_cutHard on_boatAt on_boatPull on_boatWear on_onward on_onwardHard) s.heap.size) s.heap s.heap [] := va_S.rf
  have hin7 : ∀ w ∈ u_ws RX7 TX7 6, w ∈ wsX7_readCut := fun w h => List.mem_cons_of_mem _ (List.mem_append_right _ h)
  have hin9 : ∀ w ∈ u_ws RX9 TX9 11, w ∈ wsX7_readCut := fun w h => List.mem_cons_of_mem _ (List.mem_append_left _ (List.mem_append_right _ h))
  have hl := lv_entry ([.ref (a_t 0), .ref (a_on 0)]) (n := 5) (Nat.le_of_ble_eq_true rfl)
  rw [lg_entry_eq]
  generalize (lg_sl ([.ref (a_t 0), .ref (a_on 0)]) ++ List.replicate (5 - (lg_sl ([.ref (a_t 0), .ref (a_on 0)])).length) Slot.unset).toArray = ls at hl ⊢
  have hl : lv_has ls 5 [(0, .ref (a_t 0)), (1, .ref (a_on 0))] := hl
  have J47 : ∀ (x2 : Int32) (x3 : Int32) (t_place : Int32) (t_numberAt : Int32) (t_faultKind : Int32) (t_faultAt : Int32) (on_cuts : Int32) (on_cutA : Nat → Int32) (on_cutB : Nat → Int32) (on_cutHard : Nat → Int32) (H : Heap) (locs : List Loc) (ls : Array Slot), va_P (dC, dI) vwCl (wd_tReader_txARR_onWater cI cZ a_t a_on t_text t_length t_place t_numberAt t_faultKind t_faultAt tx on_junctions on_cuts on_boats on_cutA on_cutB on_cutHard on_boatAt on_boatPull on_boatWear on_onward on_onwardHard) H → va_D (va_A (wd_tReader_txARR_onWater cI cZ a_t a_on t_text t_length i_t_place i_t_numberAt i_t_faultKind i_t_faultAt tx on_junctions i_on_cuts on_boats i_on_cutA i_on_cutB i_on_cutHard on_boatAt on_boatPull on_boatWear on_onward on_onwardHard) s.heap.size) (wd_tReader_txARR_onWater cI cZ a_t a_on t_text t_length t_place t_numberAt t_faultKind t_faultAt tx on_junctions on_cuts on_boats on_cutA on_cutB on_cutHard on_boatAt on_boatPull on_boatWear on_onward on_onwardHard) → va_S (va_A (wd_tReader_txARR_onWater cI cZ a_t a_on t_text t_length i_t_place i_t_numberAt i_t_faultKind i_t_faultAt tx on_junctions i_on_cuts on_boats i_on_cutA i_on_cutB i_on_cutHard on_boatAt on_boatPull on_boatWear on_onward on_onwardHard) s.heap.size) s.heap H locs → lv_has ls 5 [(0, .ref (a_t 0)), (1, .ref (a_on 0)), (2, .int x2), (3, .int x3)] → m_Reader_readCut_B47  x2 x3 t_length t_place t_numberAt t_faultKind t_faultAt tx on_junctions on_cuts on_cutA on_cutB on_cutHard = some (o_t_place, o_t_numberAt, o_t_faultKind, o_t_faultAt, o_on_cuts, o_on_cutA, o_on_cutB, o_on_cutHard) → W p l e (headSpec wsX7_readCut ({ frames := 3, cells := 0, slots := 0, locals := 66 })).room s m ([.ref (a_t 0), .ref (a_on 0)] : List Value).toArray below meth c H locs 0 0 (MQ below (cQv (dC, dI) (wd_tReader_txARR_onWater cI cZ a_t a_on t_text t_length i_t_place i_t_numberAt i_t_faultKind i_t_faultAt tx on_junctions i_on_cuts on_boats i_on_cutA i_on_cutB i_on_cutHard on_boatAt on_boatPull on_boatWear on_onward on_onwardHard) (wd_tReader_txARR_onWater cI cZ a_t a_on t_text t_length o_t_place o_t_numberAt o_t_faultKind o_t_faultAt tx on_junctions o_on_cuts on_boats o_on_cutA o_on_cutB o_on_cutHard on_boatAt on_boatPull on_boatWear on_onward on_onwardHard) s.heap.size) ([.ref (a_t 0), .ref (a_on 0)] : List Value).toArray s 0 0 (va_A (wd_tReader_txARR_onWater cI cZ a_t a_on t_text t_length i_t_place i_t_numberAt i_t_faultKind i_t_faultAt tx on_junctions i_on_cuts on_boats i_on_cutA i_on_cutB i_on_cutHard on_boatAt on_boatPull on_boatWear on_onward on_onwardHard) s.heap.size)) (F0 m 47 ls []) := by
    intro x2 x3 t_place t_numberAt t_faultKind t_faultAt on_cuts on_cutA on_cutB on_cutHard H locs ls hP hD hS hl h
    unfold m_Reader_readCut_B47 at h
    refine lv_aload_n hx hb dX7_readCut_47 rfl (lv_at hl 0 rfl) ?_
    refine lv_iconst (v := 0) hx hb dX7_readCut_48 (by decide) ?_
    refine lv_bipush (v := 99) hx hb dX7_readCut_49 (by decide) ?_
    obtain ⟨r1, t_place_1, t_numberAt_1, t_faultKind_1, t_faultAt_1, hc1, h⟩ := kb5_some h
    refine k_GVi (rest := []) (As := [.int 0, .int 99]) (ws' := (wd_tReader_txARR_onWater cI cZ a_t a_on t_text t_length t_place_1 t_numberAt_1 t_faultKind_1 t_faultAt_1 tx on_junctions on_cuts on_boats on_cutA on_cutB on_cutHard on_boatAt on_boatPull on_boatWear on_onward on_onwardHard)) ⟨hx, hb, hml, hown, hts⟩ (c_Reader_readNumber l dC dI cI cZ a_t t_text t_length t_place t_numberAt t_faultKind t_faultAt tx 0 99 r1 t_place_1 t_numberAt_1 t_faultKind_1 t_faultAt_1 hc1) (cwV 2 hts gX7_readCut_X7_readNumber rfl rfl rfl hd_7_readNumber ⟨Nat.le_of_ble_eq_true rfl, Nat.le_of_ble_eq_true rfl⟩) hK hP hD hS hA [0, 1] rfl (by decide +kernel) 0 7 rfl rfl rfl [2, 3, 4, 5, 6, 7, 8, 9, 10] rfl rfl 11 rfl (by decide +kernel) rfl rfl hl.1 rfl (Nat.le_of_ble_eq_true rfl) dX7_readCut_51 ⟨Nat.zero_le _, Nat.zero_le _⟩ (fun H locs hP hD hS => ?_)
    refine lv_istore (lv' := [(4, .int r1), (0, .ref (a_t 0)), (1, .ref (a_on 0)), (2, .int x2), (3, .int x3)]) hx hb dX7_readCut_54 hl (by decide) rfl (fun ls hl => ?_)
    refine lv_aload_n hx hb dX7_readCut_56 rfl (lv_at hl 1 rfl) ?_
    refine lv_bipush (v := 59) hx hb dX7_readCut_57 (by decide) ?_
    obtain ⟨t_place_2, t_faultKind_2, t_faultAt_2, hc2, h⟩ := kb3_some h
    refine k_GVv (rest := []) (As := [.int 59]) (ws' := (wd_tReader_txARR_onWater cI cZ a_t a_on t_text t_length t_place_2 t_numberAt_1 t_faultKind_2 t_faultAt_2 tx on_junctions on_cuts on_boats on_cutA on_cutB on_cutHard on_boatAt on_boatPull on_boatWear on_onward on_onwardHard)) ⟨hx, hb, hml, hown, hts⟩ (c_Reader_readSign l dC dI cI cZ a_t t_text t_length t_place_1 t_numberAt_1 t_faultKind_1 t_faultAt_1 tx 59 t_place_2 t_faultKind_2 t_faultAt_2 hc2) (cwV 1 hts gX7_readCut_X7_readSign rfl rfl rfl hd_7_readSign ⟨Nat.le_of_ble_eq_true rfl, Nat.le_of_ble_eq_true rfl⟩) hK hP hD hS hA [0, 1] rfl (by decide +kernel) 0 7 rfl rfl rfl [2, 3, 4, 5, 6, 7, 8, 9, 10] rfl rfl 11 rfl (by decide +kernel) rfl rfl hl.1 rfl (Nat.le_of_ble_eq_true rfl) dX7_readCut_59 ⟨Nat.zero_le _, Nat.zero_le _⟩ (fun H locs hP hD hS => ?_)
    refine lv_aload_n hx hb dX7_readCut_62 rfl (lv_at hl 1 rfl) ?_
    refine va_get (D := (dC, dI)) (ci := 7) (v := .int t_faultKind_2) (C := RX7) (T := TX7) (N := 6) hx hb hts hin7 hown hK hP 0 rfl rfl 4 (by decide) (hts (.fieldLink RX7 25 "TowedBack$Reader" "faultKind" "I") (List.mem_of_getElem? (i := 3) rfl)) (fun _ h9 => h9) rfl dX7_readCut_63 ?_
    refine lv_if_ne (tgt := 77) hx hb dX7_readCut_66 (by decide) (fun hc => ?_) (fun hc => ?_)
    · have h := k_neg hc h
      obtain ⟨rfl, rfl, rfl, rfl, rfl, rfl, rfl, rfl⟩ := k_in8 h
      exact k_rv hx hb hr hlocks hP hS dX7_readCut_77
    · have h := k_pos hc h
      refine lv_aload_n hx hb dX7_readCut_69 rfl (lv_at hl 2 rfl) ?_
      refine lv_iload_n hx hb dX7_readCut_70 rfl (lv_at hl 3 rfl) ?_
      refine lv_iload_n hx hb dX7_readCut_71 rfl (lv_at hl 4 rfl) ?_
      refine lv_iload hx hb dX7_readCut_72 (lv_at hl 0 rfl) ?_
      obtain ⟨on_cuts_3, on_cutA_3, on_cutB_3, on_cutHard_3, hc3, h⟩ := kb4_some h
      refine k_GVv (rest := []) (As := [.int x2, .int x3, .int r1]) (ws' := (wd_tReader_txARR_onWater cI cZ a_t a_on t_text t_length t_place_2 t_numberAt_1 t_faultKind_2 t_faultAt_2 tx on_junctions on_cuts_3 on_boats on_cutA_3 on_cutB_3 on_cutHard_3 on_boatAt on_boatPull on_boatWear on_onward on_onwardHard)) ⟨hx, hb, hml, hown, hts⟩ (c_Water_addCut l dC dI cI cZ a_on on_junctions on_cuts on_boats on_cutA on_cutB on_cutHard on_boatAt on_boatPull on_boatWear on_onward on_onwardHard x2 x3 r1 on_cuts_3 on_cutA_3 on_cutB_3 on_cutHard_3 hc3) (cwV 3 hts gX7_readCut_X9_addCut rfl rfl rfl hd_9_addCut ⟨Nat.le_of_ble_eq_true rfl, Nat.le_of_ble_eq_true rfl⟩) hK hP hD hS hA [2, 3, 4, 5, 6, 7, 8, 9, 10] rfl (by decide +kernel) 2 9 rfl rfl rfl [0, 1] rfl rfl 11 rfl (by decide +kernel) rfl rfl hl.1 rfl (Nat.le_of_ble_eq_true rfl) dX7_readCut_74 ⟨Nat.zero_le _, Nat.zero_le _⟩ (fun H locs hP hD hS => ?_)
      obtain ⟨rfl, rfl, rfl, rfl, rfl, rfl, rfl, rfl⟩ := k_in8 h
      exact k_rv hx hb hr hlocks hP hS dX7_readCut_77
  have J38 : ∀ (x2 : Int32) (x3 : Int32) (t_place : Int32) (t_numberAt : Int32) (t_faultKind : Int32) (t_faultAt : Int32) (on_cuts : Int32) (on_cutA : Nat → Int32) (on_cutB : Nat → Int32) (on_cutHard : Nat → Int32) (H : Heap) (locs : List Loc) (ls : Array Slot), va_P (dC, dI) vwCl (wd_tReader_txARR_onWater cI cZ a_t a_on t_text t_length t_place t_numberAt t_faultKind t_faultAt tx on_junctions on_cuts on_boats on_cutA on_cutB on_cutHard on_boatAt on_boatPull on_boatWear on_onward on_onwardHard) H → va_D (va_A (wd_tReader_txARR_onWater cI cZ a_t a_on t_text t_length i_t_place i_t_numberAt i_t_faultKind i_t_faultAt tx on_junctions i_on_cuts on_boats i_on_cutA i_on_cutB i_on_cutHard on_boatAt on_boatPull on_boatWear on_onward on_onwardHard) s.heap.size) (wd_tReader_txARR_onWater cI cZ a_t a_on t_text t_length t_place t_numberAt t_faultKind t_faultAt tx on_junctions on_cuts on_boats on_cutA on_cutB on_cutHard on_boatAt on_boatPull on_boatWear on_onward on_onwardHard) → va_S (va_A (wd_tReader_txARR_onWater cI cZ a_t a_on t_text t_length i_t_place i_t_numberAt i_t_faultKind i_t_faultAt tx on_junctions i_on_cuts on_boats i_on_cutA i_on_cutB i_on_cutHard on_boatAt on_boatPull on_boatWear on_onward on_onwardHard) s.heap.size) s.heap H locs → lv_has ls 5 [(0, .ref (a_t 0)), (1, .ref (a_on 0)), (2, .int x2), (3, .int x3)] → m_Reader_readCut_B38  x2 x3 t_length t_place t_numberAt t_faultKind t_faultAt tx on_junctions on_cuts on_cutA on_cutB on_cutHard = some (o_t_place, o_t_numberAt, o_t_faultKind, o_t_faultAt, o_on_cuts, o_on_cutA, o_on_cutB, o_on_cutHard) → W p l e (headSpec wsX7_readCut ({ frames := 3, cells := 0, slots := 0, locals := 66 })).room s m ([.ref (a_t 0), .ref (a_on 0)] : List Value).toArray below meth c H locs 0 0 (MQ below (cQv (dC, dI) (wd_tReader_txARR_onWater cI cZ a_t a_on t_text t_length i_t_place i_t_numberAt i_t_faultKind i_t_faultAt tx on_junctions i_on_cuts on_boats i_on_cutA i_on_cutB i_on_cutHard on_boatAt on_boatPull on_boatWear on_onward on_onwardHard) (wd_tReader_txARR_onWater cI cZ a_t a_on t_text t_length o_t_place o_t_numberAt o_t_faultKind o_t_faultAt tx on_junctions o_on_cuts on_boats o_on_cutA o_on_cutB o_on_cutHard on_boatAt on_boatPull on_boatWear on_onward on_onwardHard) s.heap.size) ([.ref (a_t 0), .ref (a_on 0)] : List Value).toArray s 0 0 (va_A (wd_tReader_txARR_onWater cI cZ a_t a_on t_text t_length i_t_place i_t_numberAt i_t_faultKind i_t_faultAt tx on_junctions i_on_cuts on_boats i_on_cutA i_on_cutB i_on_cutHard on_boatAt on_boatPull on_boatWear on_onward on_onwardHard) s.heap.size)) (F0 m 38 ls []) := by
    intro x2 x3 t_place t_numberAt t_faultKind t_faultAt on_cuts on_cutA on_cutB on_cutHard H locs ls hP hD hS hl h
    unfold m_Reader_readCut_B38 at h
    refine lv_aload_n hx hb dX7_readCut_38 rfl (lv_at hl 0 rfl) ?_
    refine lv_iconst (v := 4) hx hb dX7_readCut_39 (by decide) ?_
    refine lv_aload_n hx hb dX7_readCut_40 rfl (lv_at hl 0 rfl) ?_
    refine va_get (D := (dC, dI)) (ci := 7) (v := .int t_numberAt) (C := RX7) (T := TX7) (N := 6) hx hb hts hin7 hown hK hP 0 rfl rfl 3 (by decide) (hts (.fieldLink RX7 22 "TowedBack$Reader" "numberAt" "I") (List.mem_of_getElem? (i := 2) rfl)) (fun _ h9 => h9) rfl dX7_readCut_41 ?_
    obtain ⟨t_faultKind_4, t_faultAt_4, hc4, h⟩ := kb2_some h
    refine k_GVv (rest := []) (As := [.int 4, .int t_numberAt]) (ws' := (wd_tReader_txARR_onWater cI cZ a_t a_on t_text t_length t_place t_numberAt t_faultKind_4 t_faultAt_4 tx on_junctions on_cuts on_boats on_cutA on_cutB on_cutHard on_boatAt on_boatPull on_boatWear on_onward on_onwardHard)) ⟨hx, hb, hml, hown, hts⟩ (c_Reader_note l dC dI cI cZ a_t t_text t_length t_place t_numberAt t_faultKind t_faultAt 4 t_numberAt t_faultKind_4 t_faultAt_4 hc4) (cwV 2 hts gX7_readCut_X7_note rfl rfl rfl hd_7_note ⟨Nat.le_of_ble_eq_true rfl, Nat.le_of_ble_eq_true rfl⟩) hK hP hD hS hA [0] rfl (by decide +kernel) 0 7 rfl rfl rfl [1, 2, 3, 4, 5, 6, 7, 8, 9, 10] rfl rfl 11 rfl (by decide +kernel) rfl rfl hl.1 rfl (Nat.le_of_ble_eq_true rfl) dX7_readCut_44 ⟨Nat.zero_le _, Nat.zero_le _⟩ (fun H locs hP hD hS => ?_)
    exact J47 x2 x3 t_place t_numberAt t_faultKind_4 t_faultAt_4 on_cuts on_cutA on_cutB on_cutHard _ _ _ hP hD hS (lv_sub hl [0, 1, 2, 3] rfl) h
  unfold m_Reader_readCut at h
  refine lv_aload_n hx hb dX7_readCut_0 rfl (lv_at hl 0 rfl) ?_
  refine lv_iconst (v := 0) hx hb dX7_readCut_1 (by decide) ?_
  refine lv_aload_n hx hb dX7_readCut_2 rfl (lv_at hl 1 rfl) ?_
  refine va_get (D := (dC, dI)) (ci := 9) (v := .int on_junctions) (C := RX9) (T := TX9) (N := 11) hx hb hts hin9 hown hK hP 2 rfl rfl 0 (by decide) (hts (.fieldLink RX7 63 "TowedBack$Water" "junctions" "I") (List.mem_of_getElem? (i := 1) rfl)) (fun _ h9 => h9) rfl dX7_readCut_3 ?_
  refine lv_iconst (v := 1) hx hb dX7_readCut_6 (by decide) ?_
  refine lv_isub hx hb dX7_readCut_7 ?_
  obtain ⟨r5, t_place_5, t_numberAt_5, t_faultKind_5, t_faultAt_5, hc5, h⟩ := kb5_some h
  refine k_GVi (rest := []) (As := [.int 0, .int (on_junctions - 1)]) (ws' := (wd_tReader_txARR_onWater cI cZ a_t a_on t_text t_length t_place_5 t_numberAt_5 t_faultKind_5 t_faultAt_5 tx on_junctions i_on_cuts on_boats i_on_cutA i_on_cutB i_on_cutHard on_boatAt on_boatPull on_boatWear on_onward on_onwardHard)) ⟨hx, hb, hml, hown, hts⟩ (c_Reader_readNumber l dC dI cI cZ a_t t_text t_length i_t_place i_t_numberAt i_t_faultKind i_t_faultAt tx 0 (on_junctions - 1) r5 t_place_5 t_numberAt_5 t_faultKind_5 t_faultAt_5 hc5) (cwV 2 hts gX7_readCut_X7_readNumber rfl rfl rfl hd_7_readNumber ⟨Nat.le_of_ble_eq_true rfl, Nat.le_of_ble_eq_true rfl⟩) hK hP hD hS hA [0, 1] rfl (by decide +kernel) 0 7 rfl rfl rfl [2, 3, 4, 5, 6, 7, 8, 9, 10] rfl rfl 11 rfl (by decide +kernel) rfl rfl hl.1 rfl (Nat.le_of_ble_eq_true rfl) dX7_readCut_8 ⟨Nat.zero_le _, Nat.zero_le _⟩ (fun H locs hP hD hS => ?_)
  refine lv_istore_n (lv' := [(2, .int r5), (0, .ref (a_t 0)), (1, .ref (a_on 0))]) hx hb dX7_readCut_11 rfl hl (by decide) rfl (fun ls hl => ?_)
  refine lv_aload_n hx hb dX7_readCut_12 rfl (lv_at hl 1 rfl) ?_
  refine lv_iconst (v := 0) hx hb dX7_readCut_13 (by decide) ?_
  refine lv_aload_n hx hb dX7_readCut_14 rfl (lv_at hl 2 rfl) ?_
  refine va_get (D := (dC, dI)) (ci := 9) (v := .int on_junctions) (C := RX9) (T := TX9) (N := 11) hx hb hts hin9 hown hK hP 2 rfl rfl 0 (by decide) (hts (.fieldLink RX7 63 "TowedBack$Water" "junctions" "I") (List.mem_of_getElem? (i := 1) rfl)) (fun _ h9 => h9) rfl dX7_readCut_15 ?_
  refine lv_iconst (v := 1) hx hb dX7_readCut_18 (by decide) ?_
  refine lv_isub hx hb dX7_readCut_19 ?_
  obtain ⟨r6, t_place_6, t_numberAt_6, t_faultKind_6, t_faultAt_6, hc6, h⟩ := kb5_some h
  refine k_GVi (rest := []) (As := [.int 0, .int (on_junctions - 1)]) (ws' := (wd_tReader_txARR_onWater cI cZ a_t a_on t_text t_length t_place_6 t_numberAt_6 t_faultKind_6 t_faultAt_6 tx on_junctions i_on_cuts on_boats i_on_cutA i_on_cutB i_on_cutHard on_boatAt on_boatPull on_boatWear on_onward on_onwardHard)) ⟨hx, hb, hml, hown, hts⟩ (c_Reader_readNumber l dC dI cI cZ a_t t_text t_length t_place_5 t_numberAt_5 t_faultKind_5 t_faultAt_5 tx 0 (on_junctions - 1) r6 t_place_6 t_numberAt_6 t_faultKind_6 t_faultAt_6 hc6) (cwV 2 hts gX7_readCut_X7_readNumber rfl rfl rfl hd_7_readNumber ⟨Nat.le_of_ble_eq_true rfl, Nat.le_of_ble_eq_true rfl⟩) hK hP hD hS hA [0, 1] rfl (by decide +kernel) 0 7 rfl rfl rfl [2, 3, 4, 5, 6, 7, 8, 9, 10] rfl rfl 11 rfl (by decide +kernel) rfl rfl hl.1 rfl (Nat.le_of_ble_eq_true rfl) dX7_readCut_20 ⟨Nat.zero_le _, Nat.zero_le _⟩ (fun H locs hP hD hS => ?_)
  refine lv_istore_n (lv' := [(3, .int r6), (2, .int r5), (0, .ref (a_t 0)), (1, .ref (a_on 0))]) hx hb dX7_readCut_23 rfl hl (by decide) rfl (fun ls hl => ?_)
  refine lv_iload_n hx hb dX7_readCut_24 rfl (lv_at hl 1 rfl) ?_
  refine lv_iload_n hx hb dX7_readCut_25 rfl (lv_at hl 0 rfl) ?_
  refine lv_icmp_eq (tgt := 38) hx hb dX7_readCut_26 (by decide) (fun hc => ?_) (fun hc => ?_)
  · have h := k_pos hc h
    exact J38 r5 r6 t_place_6 t_numberAt_6 t_faultKind_6 t_faultAt_6 i_on_cuts i_on_cutA i_on_cutB i_on_cutHard _ _ _ hP hD hS (lv_sub hl [2, 3, 1, 0] rfl) h
  · have h := k_neg hc h
    refine lv_aload_n hx hb dX7_readCut_29 rfl (lv_at hl 3 rfl) ?_
    refine lv_iload_n hx hb dX7_readCut_30 rfl (lv_at hl 1 rfl) ?_
    refine lv_iload_n hx hb dX7_readCut_31 rfl (lv_at hl 0 rfl) ?_
    obtain ⟨r7, hc7, h⟩ := kb1_some h
    refine k_RVi (rest := []) (As := [.int r5, .int r6]) ⟨hx, hb, hml, hown, hts⟩ (c_Water_joined l dC dI cI cZ a_on on_junctions i_on_cuts on_boats i_on_cutA i_on_cutB i_on_cutHard on_boatAt on_boatPull on_boatWear on_onward on_onwardHard r5 r6 r7 hc7) (cwV 2 hts gX7_readCut_X9_joined rfl rfl rfl hd_9_joined ⟨Nat.le_of_ble_eq_true rfl, Nat.le_of_ble_eq_true rfl⟩) hK hP hD hS hA [2, 3, 4, 5, 6, 7, 8, 9, 10] rfl (by decide +kernel) 2 9 rfl rfl rfl rfl hl.1 rfl (Nat.le_of_ble_eq_true rfl) dX7_readCut_32 ⟨Nat.zero_le _, Nat.zero_le _⟩ (fun H locs hP hD hS => ?_)
    refine lv_if_eq (tgt := 47) hx hb dX7_readCut_35 (by decide) (fun hc => ?_) (fun hc => ?_)
    · have h := k_pos hc h
      exact J47 r5 r6 t_place_6 t_numberAt_6 t_faultKind_6 t_faultAt_6 i_on_cuts i_on_cutA i_on_cutB i_on_cutHard _ _ _ hP hD hS (lv_sub hl [2, 3, 1, 0] rfl) h
    · have h := k_neg hc h
      exact J38 r5 r6 t_place_6 t_numberAt_6 t_faultKind_6 t_faultAt_6 i_on_cuts i_on_cutA i_on_cutB i_on_cutHard _ _ _ hP hD hS (lv_sub hl [2, 3, 1, 0] rfl) h
set_option maxHeartbeats 4000000 in
set_option maxRecDepth 100000 in
theorem c_Reader_readBoat (l : Launch) (dC : Nat → ClassId) (dI : Nat → Nat → Nat) (cI cZ : ClassId) (a_t a_on : Nat → Nat) (t_text : Nat) (t_length : Int32) (i_t_place : Int32) (i_t_numberAt : Int32) (i_t_faultKind : Int32) (i_t_faultAt : Int32) (tx : Nat → Int32) (on_junctions : Int32) (on_cuts : Int32) (i_on_boats : Int32) (on_cutA : Nat → Int32) (on_cutB : Nat → Int32) (on_cutHard : Nat → Int32) (i_on_boatAt : Nat → Int32) (i_on_boatPull : Nat → Int32) (i_on_boatWear : Nat → Int32) (on_onward : Nat → Int32) (on_onwardHard : Nat → Int32)  (o_t_place : Int32) (o_t_numberAt : Int32) (o_t_faultKind : Int32) (o_t_faultAt : Int32) (o_on_boats : Int32) (o_on_boatAt : Nat → Int32) (o_on_boatPull : Nat → Int32) (o_on_boatWear : Nat → Int32) (h : m_Reader_readBoat t_length i_t_place i_t_numberAt i_t_faultKind i_t_faultAt tx on_junctions i_on_boats i_on_boatAt i_on_boatPull i_on_boatWear = some (o_t_place, o_t_numberAt, o_t_faultKind, o_t_faultAt, o_on_boats, o_on_boatAt, o_on_boatPull, o_on_boatWear)) : (MV l yX7_readBoat wsX7_readBoat ({ frames := 3, cells := 0, slots := 0, locals := 63 }) (dC, dI) [(cI, .int), (cZ, .boolean)] (wd_tReader_txARR_onWater cI cZ a_t a_on t_text t_length i_t_place i_t_numberAt i_t_faultKind i_t_faultAt tx on_junctions on_cuts i_on_boats on_cutA on_cutB on_cutHard i_on_boatAt i_on_boatPull i_on_boatWear on_onward on_onwardHard) (wd_tReader_txARR_onWater cI cZ a_t a_on t_text t_length o_t_place o_t_numberAt o_t_faultKind o_t_faultAt tx on_junctions on_cuts o_on_boats on_cutA on_cutB on_cutHard o_on_boatAt o_on_boatPull o_on_boatWear on_onward on_onwardHard) [.ref (a_t 0), .ref (a_on 0)]) := by
  intro sz
  refine Met.ofW (cc := cX7_readBoat) (maxL := 5) (ret := none) (by decide) rfl ?_
  intro p e s m args below meth c s₁ B hml hv
  obtain ⟨rfl, hsz, hP, hK, hD0⟩ := hv
  have hx := B.exec
  have hb := B.bytes
  have hr := B.returns
  have hts := atoms_spec (ws := wsX7_readBoat) B.pre
  have hown : s.vm.findClass RX7 = some m.cls := findClass_of_methodNamed B.named
  have hlocks := B.notSynchronized
  subst hsz
  have hD := hD0.self (sz := s.heap.size)
  have hA : ∀ q : Nat, s.heap.size ≤ q → va_A (wd_tReader_txARR_onWater cI cZ a_t a_on t_text t_length i_t_place i_t_numberAt i_t_faultKind i_t_faultAt tx on_junctions on_cuts i_on_boats on_cutA on_cutB on_cutHard i_on_boatAt i_on_boatPull i_on_boatWear on_onward on_onwardHard) s.heap.size q := fun q h => Or.inr h
  have hS : va_S (va_A (wd_tReader_txARR_onWater cI cZ a_t a_on t_text t_length i_t_place i_t_numberAt i_t_faultKind i_t_faultAt tx on_junctions on_cuts i_on_boats on_cutA on_cutB on_cutHard i_on_boatAt i_on_boatPull i_on_boatWear on_onward on_onwardHard) s.heap.size) s.heap s.heap [] := va_S.rf
  have hin7 : ∀ w ∈ u_ws RX7 TX7 6, w ∈ wsX7_readBoat := fun w h => List.mem_cons_of_mem _ (List.mem_append_right _ h)
  have hin9 : ∀ w ∈ u_ws RX9 TX9 11, w ∈ wsX7_readBoat := fun w h => List.mem_cons_of_mem _ (List.mem_append_left _ (List.mem_append_right _ h))
  have hl := lv_entry ([.ref (a_t 0), .ref (a_on 0)]) (n := 5) (Nat.le_of_ble_eq_true rfl)
  rw [lg_entry_eq]
  generalize (lg_sl ([.ref (a_t 0), .ref (a_on 0)]) ++ List.replicate (5 - (lg_sl ([.ref (a_t 0), .ref (a_on 0)])).length) Slot.unset).toArray = ls at hl ⊢
  have hl : lv_has ls 5 [(0, .ref (a_t 0)), (1, .ref (a_on 0))] := hl
  unfold m_Reader_readBoat at h
  refine lv_aload_n hx hb dX7_readBoat_0 rfl (lv_at hl 0 rfl) ?_
  refine lv_iconst (v := 0) hx hb dX7_readBoat_1 (by decide) ?_
  refine lv_aload_n hx hb dX7_readBoat_2 rfl (lv_at hl 1 rfl) ?_
  refine va_get (D := (dC, dI)) (ci := 9) (v := .int on_junctions) (C := RX9) (T := TX9) (N := 11) hx hb hts hin9 hown hK hP 2 rfl rfl 0 (by decide) (hts (.fieldLink RX7 63 "TowedBack$Water" "junctions" "I") (List.mem_of_getElem? (i := 1) rfl)) (fun _ h9 => h9) rfl dX7_readBoat_3 ?_
  refine lv_iconst (v := 1) hx hb dX7_readBoat_6 (by decide) ?_
  refine lv_isub hx hb dX7_readBoat_7 ?_
  obtain ⟨r1, t_place_1, t_numberAt_1, t_faultKind_1, t_faultAt_1, hc1, h⟩ := kb5_some h
  refine k_GVi (rest := []) (As := [.int 0, .int (on_junctions - 1)]) (ws' := (wd_tReader_txARR_onWater cI cZ a_t a_on t_text t_length t_place_1 t_numberAt_1 t_faultKind_1 t_faultAt_1 tx on_junctions on_cuts i_on_boats on_cutA on_cutB on_cutHard i_on_boatAt i_on_boatPull i_on_boatWear on_onward on_onwardHard)) ⟨hx, hb, hml, hown, hts⟩ (c_Reader_readNumber l dC dI cI cZ a_t t_text t_length i_t_place i_t_numberAt i_t_faultKind i_t_faultAt tx 0 (on_junctions - 1) r1 t_place_1 t_numberAt_1 t_faultKind_1 t_faultAt_1 hc1) (cwV 2 hts gX7_readBoat_X7_readNumber rfl rfl rfl hd_7_readNumber ⟨Nat.le_of_ble_eq_true rfl, Nat.le_of_ble_eq_true rfl⟩) hK hP hD hS hA [0, 1] rfl (by decide +kernel) 0 7 rfl rfl rfl [2, 3, 4, 5, 6, 7, 8, 9, 10] rfl rfl 11 rfl (by decide +kernel) rfl rfl hl.1 rfl (Nat.le_of_ble_eq_true rfl) dX7_readBoat_8 ⟨Nat.zero_le _, Nat.zero_le _⟩ (fun H locs hP hD hS => ?_)
  refine lv_istore_n (lv' := [(2, .int r1), (0, .ref (a_t 0)), (1, .ref (a_on 0))]) hx hb dX7_readBoat_11 rfl hl (by decide) rfl (fun ls hl => ?_)
  refine lv_aload_n hx hb dX7_readBoat_12 rfl (lv_at hl 1 rfl) ?_
  refine lv_iconst (v := 0) hx hb dX7_readBoat_13 (by decide) ?_
  refine lv_sipush (v := 999) hx hb dX7_readBoat_14 (by decide) ?_
  obtain ⟨r2, t_place_2, t_numberAt_2, t_faultKind_2, t_faultAt_2, hc2, h⟩ := kb5_some h
  refine k_GVi (rest := []) (As := [.int 0, .int 999]) (ws' := (wd_tReader_txARR_onWater cI cZ a_t a_on t_text t_length t_place_2 t_numberAt_2 t_faultKind_2 t_faultAt_2 tx on_junctions on_cuts i_on_boats on_cutA on_cutB on_cutHard i_on_boatAt i_on_boatPull i_on_boatWear on_onward on_onwardHard)) ⟨hx, hb, hml, hown, hts⟩ (c_Reader_readNumber l dC dI cI cZ a_t t_text t_length t_place_1 t_numberAt_1 t_faultKind_1 t_faultAt_1 tx 0 999 r2 t_place_2 t_numberAt_2 t_faultKind_2 t_faultAt_2 hc2) (cwV 2 hts gX7_readBoat_X7_readNumber rfl rfl rfl hd_7_readNumber ⟨Nat.le_of_ble_eq_true rfl, Nat.le_of_ble_eq_true rfl⟩) hK hP hD hS hA [0, 1] rfl (by decide +kernel) 0 7 rfl rfl rfl [2, 3, 4, 5, 6, 7, 8, 9, 10] rfl rfl 11 rfl (by decide +kernel) rfl rfl hl.1 rfl (Nat.le_of_ble_eq_true rfl) dX7_readBoat_17 ⟨Nat.zero_le _, Nat.zero_le _⟩ (fun H locs hP hD hS => ?_)
  refine lv_istore_n (lv' := [(3, .int r2), (2, .int r1), (0, .ref (a_t 0)), (1, .ref (a_on 0))]) hx hb dX7_readBoat_20 rfl hl (by decide) rfl (fun ls hl => ?_)
  refine lv_aload_n hx hb dX7_readBoat_21 rfl (lv_at hl 2 rfl) ?_
  refine lv_iconst (v := 0) hx hb dX7_readBoat_22 (by decide) ?_
  refine lv_bipush (v := 99) hx hb dX7_readBoat_23 (by decide) ?_
  obtain ⟨r3, t_place_3, t_numberAt_3, t_faultKind_3, t_faultAt_3, hc3, h⟩ := kb5_some h
  refine k_GVi (rest := []) (As := [.int 0, .int 99]) (ws' := (wd_tReader_txARR_onWater cI cZ a_t a_on t_text t_length t_place_3 t_numberAt_3 t_faultKind_3 t_faultAt_3 tx on_junctions on_cuts i_on_boats on_cutA on_cutB on_cutHard i_on_boatAt i_on_boatPull i_on_boatWear on_onward on_onwardHard)) ⟨hx, hb, hml, hown, hts⟩ (c_Reader_readNumber l dC dI cI cZ a_t t_text t_length t_place_2 t_numberAt_2 t_faultKind_2 t_faultAt_2 tx 0 99 r3 t_place_3 t_numberAt_3 t_faultKind_3 t_faultAt_3 hc3) (cwV 2 hts gX7_readBoat_X7_readNumber rfl rfl rfl hd_7_readNumber ⟨Nat.le_of_ble_eq_true rfl, Nat.le_of_ble_eq_true rfl⟩) hK hP hD hS hA [0, 1] rfl (by decide +kernel) 0 7 rfl rfl rfl [2, 3, 4, 5, 6, 7, 8, 9, 10] rfl rfl 11 rfl (by decide +kernel) rfl rfl hl.1 rfl (Nat.le_of_ble_eq_true rfl) dX7_readBoat_25 ⟨Nat.zero_le _, Nat.zero_le _⟩ (fun H locs hP hD hS => ?_)
  refine lv_istore (lv' := [(4, .int r3), (3, .int r2), (2, .int r1), (0, .ref (a_t 0)), (1, .ref (a_on 0))]) hx hb dX7_readBoat_28 hl (by decide) rfl (fun ls hl => ?_)
  refine lv_aload_n hx hb dX7_readBoat_30 rfl (lv_at hl 3 rfl) ?_
  refine lv_bipush (v := 59) hx hb dX7_readBoat_31 (by decide) ?_
  obtain ⟨t_place_4, t_faultKind_4, t_faultAt_4, hc4, h⟩ := kb3_some h
  refine k_GVv (rest := []) (As := [.int 59]) (ws' := (wd_tReader_txARR_onWater cI cZ a_t a_on t_text t_length t_place_4 t_numberAt_3 t_faultKind_4 t_faultAt_4 tx on_junctions on_cuts i_on_boats on_cutA on_cutB on_cutHard i_on_boatAt i_on_boatPull i_on_boatWear on_onward on_onwardHard)) ⟨hx, hb, hml, hown, hts⟩ (c_Reader_readSign l dC dI cI cZ a_t t_text t_length t_place_3 t_numberAt_3 t_faultKind_3 t_faultAt_3 tx 59 t_place_4 t_faultKind_4 t_faultAt_4 hc4) (cwV 1 hts gX7_readBoat_X7_readSign rfl rfl rfl hd_7_readSign ⟨Nat.le_of_ble_eq_true rfl, Nat.le_of_ble_eq_true rfl⟩) hK hP hD hS hA [0, 1] rfl (by decide +kernel) 0 7 rfl rfl rfl [2, 3, 4, 5, 6, 7, 8, 9, 10] rfl rfl 11 rfl (by decide +kernel) rfl rfl hl.1 rfl (Nat.le_of_ble_eq_true rfl) dX7_readBoat_33 ⟨Nat.zero_le _, Nat.zero_le _⟩ (fun H locs hP hD hS => ?_)
  refine lv_aload_n hx hb dX7_readBoat_36 rfl (lv_at hl 3 rfl) ?_
  refine va_get (D := (dC, dI)) (ci := 7) (v := .int t_faultKind_4) (C := RX7) (T := TX7) (N := 6) hx hb hts hin7 hown hK hP 0 rfl rfl 4 (by decide) (hts (.fieldLink RX7 25 "TowedBack$Reader" "faultKind" "I") (List.mem_of_getElem? (i := 2) rfl)) (fun _ h9 => h9) rfl dX7_readBoat_37 ?_
  refine lv_if_ne (tgt := 51) hx hb dX7_readBoat_40 (by decide) (fun hc => ?_) (fun hc => ?_)
  · have h := k_neg hc h
    obtain ⟨rfl, rfl, rfl, rfl, rfl, rfl, rfl, rfl⟩ := k_in8 h
    exact k_rv hx hb hr hlocks hP hS dX7_readBoat_51
  · have h := k_pos hc h
    refine lv_aload_n hx hb dX7_readBoat_43 rfl (lv_at hl 4 rfl) ?_
    refine lv_iload_n hx hb dX7_readBoat_44 rfl (lv_at hl 2 rfl) ?_
    refine lv_iload_n hx hb dX7_readBoat_45 rfl (lv_at hl 1 rfl) ?_
    refine lv_iload hx hb dX7_readBoat_46 (lv_at hl 0 rfl) ?_
    obtain ⟨on_boats_5, on_boatAt_5, on_boatPull_5, on_boatWear_5, hc5, h⟩ := kb4_some h
    refine k_GVv (rest := []) (As := [.int r1, .int r2, .int r3]) (ws' := (wd_tReader_txARR_onWater cI cZ a_t a_on t_text t_length t_place_4 t_numberAt_3 t_faultKind_4 t_faultAt_4 tx on_junctions on_cuts on_boats_5 on_cutA on_cutB on_cutHard on_boatAt_5 on_boatPull_5 on_boatWear_5 on_onward on_onwardHard)) ⟨hx, hb, hml, hown, hts⟩ (c_Water_addBoat l dC dI cI cZ a_on on_junctions on_cuts i_on_boats on_cutA on_cutB on_cutHard i_on_boatAt i_on_boatPull i_on_boatWear on_onward on_onwardHard r1 r2 r3 on_boats_5 on_boatAt_5 on_boatPull_5 on_boatWear_5 hc5) (cwV 3 hts gX7_readBoat_X9_addBoat rfl rfl rfl hd_9_addBoat ⟨Nat.le_of_ble_eq_true rfl, Nat.le_of_ble_eq_true rfl⟩) hK hP hD hS hA [2, 3, 4, 5, 6, 7, 8, 9, 10] rfl (by decide +kernel) 2 9 rfl rfl rfl [0, 1] rfl rfl 11 rfl (by decide +kernel) rfl rfl hl.1 rfl (Nat.le_of_ble_eq_true rfl) dX7_readBoat_48 ⟨Nat.zero_le _, Nat.zero_le _⟩ (fun H locs hP hD hS => ?_)
    obtain ⟨rfl, rfl, rfl, rfl, rfl, rfl, rfl, rfl⟩ := k_in8 h
    exact k_rv hx hb hr hlocks hP hS dX7_readBoat_51
