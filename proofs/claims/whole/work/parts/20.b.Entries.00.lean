set_option maxHeartbeats 4000000 in
set_option maxRecDepth 100000 in
theorem c_Entries_add (l : Launch) (dC : Nat → ClassId) (dI : Nat → Nat → Nat) (cI cZ : ClassId) (a_t : Nat → Nat) (t_nz : Nat) (t_most : Int32) (i_t_boats : Nat → Int32) (i_t_steps : Nat → Int32) (i_t_junctions : Nat → Int32) (i_t_count : Int32) (y1 : Int32) (y2 : Int32) (y3 : Int32) (r0 : Int32) (o_t_boats : Nat → Int32) (o_t_steps : Nat → Int32) (o_t_junctions : Nat → Int32) (o_t_count : Int32) (h : m_Entries_add y1 y2 y3 t_nz t_most i_t_boats i_t_steps i_t_junctions i_t_count = some (r0, o_t_boats, o_t_steps, o_t_junctions, o_t_count)) : (MI l yX2_add wsX2_add ({ frames := 0, cells := 0, slots := 0, locals := 0 }) (dC, dI) [(cI, .int), (cZ, .boolean)] (wd_tEntries cI cZ a_t t_nz t_most i_t_boats i_t_steps i_t_junctions i_t_count) (wd_tEntries cI cZ a_t t_nz t_most o_t_boats o_t_steps o_t_junctions o_t_count) [.ref (a_t 0), .int y1, .int y2, .int y3] r0) := by
  intro sz
  refine Met.ofW (cc := cX2_add) (maxL := 4) (ret := (some .boolean)) (by decide) rfl ?_
  intro p e s m args below meth c s₁ B hml hv
  obtain ⟨rfl, hsz, hP, hK, hD0⟩ := hv
  have hx := B.exec
  have hb := B.bytes
  have hr := B.returns
  have hts := atoms_spec (ws := wsX2_add) B.pre
  have hown : s.vm.findClass RX2 = some m.cls := findClass_of_methodNamed B.named
  have hlocks := B.notSynchronized
  subst hsz
  have hD := hD0.self (sz := s.heap.size)
  have hA : ∀ q : Nat, s.heap.size ≤ q → va_A (wd_tEntries cI cZ a_t t_nz t_most i_t_boats i_t_steps i_t_junctions i_t_count) s.heap.size q := fun q h => Or.inr h
  have hS : va_S (va_A (wd_tEntries cI cZ a_t t_nz t_most i_t_boats i_t_steps i_t_junctions i_t_count) s.heap.size) s.heap s.heap [] := va_S.rf
  have hin2 : ∀ w ∈ u_ws RX2 TX2 5, w ∈ wsX2_add := fun w h => List.mem_cons_of_mem _ (List.mem_append_right _ h)
  have hl := lv_entry ([.ref (a_t 0), .int y1, .int y2, .int y3]) (n := 4) (Nat.le_of_ble_eq_true rfl)
  rw [lg_entry_eq]
  generalize (lg_sl ([.ref (a_t 0), .int y1, .int y2, .int y3]) ++ List.replicate (4 - (lg_sl ([.ref (a_t 0), .int y1, .int y2, .int y3])).length) Slot.unset).toArray = ls at hl ⊢
  have hl : lv_has ls 4 [(0, .ref (a_t 0)), (1, .int y1), (2, .int y2), (3, .int y3)] := hl
  unfold m_Entries_add at h
  refine lv_aload_n hx hb dX2_add_0 rfl (lv_at hl 0 rfl) ?_
  refine va_get (D := (dC, dI)) (ci := 2) (v := .int i_t_count) (C := RX2) (T := TX2) (N := 5) hx hb hts hin2 hown hK hP 0 rfl rfl 4 (by decide) (hts (.fieldLink RX2 9 "TowedBack$Entries" "count" "I") (List.mem_of_getElem? (i := 1) rfl)) (fun _ h9 => h9) rfl dX2_add_1 ?_
  refine lv_if_lt (tgt := 18) hx hb dX2_add_4 (by decide) (fun hc => ?_) (fun hc => ?_)
  · have h := k_pos hc h
    refine lv_iconst (v := 0) hx hb dX2_add_18 (by decide) ?_
    obtain ⟨rfl, rfl, rfl, rfl, rfl⟩ := k_in5 h
    exact k_rz hx hb hr hlocks rfl hP hS dX2_add_19
  · have h := k_neg hc h
    refine lv_aload_n hx hb dX2_add_7 rfl (lv_at hl 0 rfl) ?_
    refine va_get (D := (dC, dI)) (ci := 2) (v := .int i_t_count) (C := RX2) (T := TX2) (N := 5) hx hb hts hin2 hown hK hP 0 rfl rfl 4 (by decide) (hts (.fieldLink RX2 9 "TowedBack$Entries" "count" "I") (List.mem_of_getElem? (i := 1) rfl)) (fun _ h9 => h9) rfl dX2_add_8 ?_
    refine lv_aload_n hx hb dX2_add_11 rfl (lv_at hl 0 rfl) ?_
    refine va_get (D := (dC, dI)) (ci := 2) (v := .int t_most) (C := RX2) (T := TX2) (N := 5) hx hb hts hin2 hown hK hP 0 rfl rfl 0 (by decide) (hts (.fieldLink RX2 21 "TowedBack$Entries" "most" "I") (List.mem_of_getElem? (i := 2) rfl)) (fun _ h9 => h9) rfl dX2_add_12 ?_
    refine lv_icmp_lt (tgt := 20) hx hb dX2_add_15 (by decide) (fun hc => ?_) (fun hc => ?_)
    · have h := k_pos hc h
      refine lv_aload_n hx hb dX2_add_20 rfl (lv_at hl 0 rfl) ?_
      refine va_get (D := (dC, dI)) (ci := 2) (v := .ref (a_t 1)) (C := RX2) (T := TX2) (N := 5) hx hb hts hin2 hown hK hP 0 rfl rfl 1 (by decide) (hts (.fieldLink RX2 24 "TowedBack$Entries" "boats" "[I") (List.mem_of_getElem? (i := 3) rfl)) (fun _ h9 => h9) rfl dX2_add_21 ?_
      refine lv_aload_n hx hb dX2_add_24 rfl (lv_at hl 0 rfl) ?_
      refine va_get (D := (dC, dI)) (ci := 2) (v := .int i_t_count) (C := RX2) (T := TX2) (N := 5) hx hb hts hin2 hown hK hP 0 rfl rfl 4 (by decide) (hts (.fieldLink RX2 9 "TowedBack$Entries" "count" "I") (List.mem_of_getElem? (i := 1) rfl)) (fun _ h9 => h9) rfl dX2_add_25 ?_
      refine lv_iload_n hx hb dX2_add_28 rfl (lv_at hl 1 rfl) ?_
      obtain ⟨hi1, h⟩ := kg_some h
      refine va_iast hx hb hK hP hD hS 1 0 rfl rfl hi1 dX2_add_29 (fun H locs hP hD hS => ?_)
      have hP : va_P (dC, dI) vwCl (wd_tEntries cI cZ a_t t_nz t_most (upd i_t_boats i_t_count.toNatClampNeg y1) i_t_steps i_t_junctions i_t_count) H := hP
      have hD : va_D (va_A (wd_tEntries cI cZ a_t t_nz t_most i_t_boats i_t_steps i_t_junctions i_t_count) s.heap.size) (wd_tEntries cI cZ a_t t_nz t_most (upd i_t_boats i_t_count.toNatClampNeg y1) i_t_steps i_t_junctions i_t_count) := hD
      refine lv_aload_n hx hb dX2_add_30 rfl (lv_at hl 0 rfl) ?_
      refine va_get (D := (dC, dI)) (ci := 2) (v := .ref (a_t 2)) (C := RX2) (T := TX2) (N := 5) hx hb hts hin2 hown hK hP 0 rfl rfl 2 (by decide) (hts (.fieldLink RX2 28 "TowedBack$Entries" "steps" "[I") (List.mem_of_getElem? (i := 4) rfl)) (fun _ h9 => h9) rfl dX2_add_31 ?_
      refine lv_aload_n hx hb dX2_add_34 rfl (lv_at hl 0 rfl) ?_
      refine va_get (D := (dC, dI)) (ci := 2) (v := .int i_t_count) (C := RX2) (T := TX2) (N := 5) hx hb hts hin2 hown hK hP 0 rfl rfl 4 (by decide) (hts (.fieldLink RX2 9 "TowedBack$Entries" "count" "I") (List.mem_of_getElem? (i := 1) rfl)) (fun _ h9 => h9) rfl dX2_add_35 ?_
      refine lv_iload_n hx hb dX2_add_38 rfl (lv_at hl 2 rfl) ?_
      obtain ⟨hi2, h⟩ := kg_some h
      refine va_iast hx hb hK hP hD hS 2 0 rfl rfl hi2 dX2_add_39 (fun H locs hP hD hS => ?_)
      have hP : va_P (dC, dI) vwCl (wd_tEntries cI cZ a_t t_nz t_most (upd i_t_boats i_t_count.toNatClampNeg y1) (upd i_t_steps i_t_count.toNatClampNeg y2) i_t_junctions i_t_count) H := hP
      have hD : va_D (va_A (wd_tEntries cI cZ a_t t_nz t_most i_t_boats i_t_steps i_t_junctions i_t_count) s.heap.size) (wd_tEntries cI cZ a_t t_nz t_most (upd i_t_boats i_t_count.toNatClampNeg y1) (upd i_t_steps i_t_count.toNatClampNeg y2) i_t_junctions i_t_count) := hD
      refine lv_aload_n hx hb dX2_add_40 rfl (lv_at hl 0 rfl) ?_
      refine va_get (D := (dC, dI)) (ci := 2) (v := .ref (a_t 3)) (C := RX2) (T := TX2) (N := 5) hx hb hts hin2 hown hK hP 0 rfl rfl 3 (by decide) (hts (.fieldLink RX2 31 "TowedBack$Entries" "junctions" "[I") (List.mem_of_getElem? (i := 5) rfl)) (fun _ h9 => h9) rfl dX2_add_41 ?_
      refine lv_aload_n hx hb dX2_add_44 rfl (lv_at hl 0 rfl) ?_
      refine va_get (D := (dC, dI)) (ci := 2) (v := .int i_t_count) (C := RX2) (T := TX2) (N := 5) hx hb hts hin2 hown hK hP 0 rfl rfl 4 (by decide) (hts (.fieldLink RX2 9 "TowedBack$Entries" "count" "I") (List.mem_of_getElem? (i := 1) rfl)) (fun _ h9 => h9) rfl dX2_add_45 ?_
      refine lv_iload_n hx hb dX2_add_48 rfl (lv_at hl 3 rfl) ?_
      obtain ⟨hi3, h⟩ := kg_some h
      refine va_iast hx hb hK hP hD hS 3 0 rfl rfl hi3 dX2_add_49 (fun H locs hP hD hS => ?_)
      have hP : va_P (dC, dI) vwCl (wd_tEntries cI cZ a_t t_nz t_most (upd i_t_boats i_t_count.toNatClampNeg y1) (upd i_t_steps i_t_count.toNatClampNeg y2) (upd i_t_junctions i_t_count.toNatClampNeg y3) i_t_count) H := hP
      have hD : va_D (va_A (wd_tEntries cI cZ a_t t_nz t_most i_t_boats i_t_steps i_t_junctions i_t_count) s.heap.size) (wd_tEntries cI cZ a_t t_nz t_most (upd i_t_boats i_t_count.toNatClampNeg y1) (upd i_t_steps i_t_count.toNatClampNeg y2) (upd i_t_junctions i_t_count.toNatClampNeg y3) i_t_count) := hD
      refine lv_aload_n hx hb dX2_add_50 rfl (lv_at hl 0 rfl) ?_
      refine lv_dup hx hb dX2_add_51 rfl ?_
      refine va_get (D := (dC, dI)) (ci := 2) (v := .int i_t_count) (C := RX2) (T := TX2) (N := 5) hx hb hts hin2 hown hK hP 0 rfl rfl 4 (by decide) (hts (.fieldLink RX2 9 "TowedBack$Entries" "count" "I") (List.mem_of_getElem? (i := 1) rfl)) (fun _ h9 => h9) rfl dX2_add_52 ?_
      refine lv_iconst (v := 1) hx hb dX2_add_55 (by decide) ?_
      refine lv_iadd hx hb dX2_add_56 ?_
      refine va_put (D := (dC, dI)) (ci := 2) (v := .int (i_t_count + 1)) (ty := tyX2 4) (C := RX2) (T := TX2) (N := 5) hx hb hts hin2 tyX2 tyX2_ok nmX2 hown hK hP hD hS 0 rfl rfl 4 (by decide) (hts (.fieldLink RX2 9 "TowedBack$Entries" "count" "I") (List.mem_of_getElem? (i := 1) rfl)) (fun _ h9 => h9) rfl (tyX2_ok 4 (by decide)) rfl rfl (Nat.le_of_ble_eq_true rfl) dX2_add_57 (fun H locs hP hD hS => ?_)
      have hP : va_P (dC, dI) vwCl (wd_tEntries cI cZ a_t t_nz t_most (upd i_t_boats i_t_count.toNatClampNeg y1) (upd i_t_steps i_t_count.toNatClampNeg y2) (upd i_t_junctions i_t_count.toNatClampNeg y3) (i_t_count + 1)) H := hP
      have hD : va_D (va_A (wd_tEntries cI cZ a_t t_nz t_most i_t_boats i_t_steps i_t_junctions i_t_count) s.heap.size) (wd_tEntries cI cZ a_t t_nz t_most (upd i_t_boats i_t_count.toNatClampNeg y1) (upd i_t_steps i_t_count.toNatClampNeg y2) (upd i_t_junctions i_t_count.toNatClampNeg y3) (i_t_count + 1)) := hD
      refine lv_iconst (v := 1) hx hb dX2_add_60 (by decide) ?_
      obtain ⟨rfl, rfl, rfl, rfl, rfl⟩ := k_in5 h
      exact k_rz hx hb hr hlocks rfl hP hS dX2_add_61
    · have h := k_neg hc h
      refine lv_iconst (v := 0) hx hb dX2_add_18 (by decide) ?_
      obtain ⟨rfl, rfl, rfl, rfl, rfl⟩ := k_in5 h
      exact k_rz hx hb hr hlocks rfl hP hS dX2_add_19
set_option maxHeartbeats 4000000 in
set_option maxRecDepth 100000 in
theorem c_Entries_has (l : Launch) (dC : Nat → ClassId) (dI : Nat → Nat → Nat) (cI cZ : ClassId) (a_t : Nat → Nat) (t_nz : Nat) (t_most : Int32) (t_boats : Nat → Int32) (t_steps : Nat → Int32) (t_junctions : Nat → Int32) (t_count : Int32) (y1 : Int32) (r0 : Int32) (h : m_Entries_has y1 t_most t_count = some r0) : (MI l yX2_has wsX2_has ({ frames := 0, cells := 0, slots := 0, locals := 0 }) (dC, dI) [(cI, .int), (cZ, .boolean)] (wd_tEntries cI cZ a_t t_nz t_most t_boats t_steps t_junctions t_count) (wd_tEntries cI cZ a_t t_nz t_most t_boats t_steps t_junctions t_count) [.ref (a_t 0), .int y1] r0) := by
  intro sz
  refine Met.ofW (cc := cX2_has) (maxL := 2) (ret := (some .boolean)) (by decide) rfl ?_
  intro p e s m args below meth c s₁ B hml hv
  obtain ⟨rfl, hsz, hP, hK, hD0⟩ := hv
  have hx := B.exec
  have hb := B.bytes
  have hr := B.returns
  have hts := atoms_spec (ws := wsX2_has) B.pre
  have hown : s.vm.findClass RX2 = some m.cls := findClass_of_methodNamed B.named
  have hlocks := B.notSynchronized
  subst hsz
  have hD := hD0.self (sz := s.heap.size)
  have hA : ∀ q : Nat, s.heap.size ≤ q → va_A (wd_tEntries cI cZ a_t t_nz t_most t_boats t_steps t_junctions t_count) s.heap.size q := fun q h => Or.inr h
  have hS : va_S (va_A (wd_tEntries cI cZ a_t t_nz t_most t_boats t_steps t_junctions t_count) s.heap.size) s.heap s.heap [] := va_S.rf
  have hin2 : ∀ w ∈ u_ws RX2 TX2 5, w ∈ wsX2_has := fun w h => List.mem_cons_of_mem _ (List.mem_append_right _ h)
  have hl := lv_entry ([.ref (a_t 0), .int y1]) (n := 2) (Nat.le_of_ble_eq_true rfl)
  rw [lg_entry_eq]
  generalize (lg_sl ([.ref (a_t 0), .int y1]) ++ List.replicate (2 - (lg_sl ([.ref (a_t 0), .int y1])).length) Slot.unset).toArray = ls at hl ⊢
  have hl : lv_has ls 2 [(0, .ref (a_t 0)), (1, .int y1)] := hl
  unfold m_Entries_has at h
  refine lv_iload_n hx hb dX2_has_0 rfl (lv_at hl 1 rfl) ?_
  refine lv_if_lt (tgt := 24) hx hb dX2_has_1 (by decide) (fun hc => ?_) (fun hc => ?_)
  · have h := k_pos hc h
    refine lv_iconst (v := 0) hx hb dX2_has_24 (by decide) ?_
    obtain rfl := k_in1 h
    exact k_rz hx hb hr hlocks rfl hP hS dX2_has_25
  · have h := k_neg hc h
    refine lv_iload_n hx hb dX2_has_4 rfl (lv_at hl 1 rfl) ?_
    refine lv_aload_n hx hb dX2_has_5 rfl (lv_at hl 0 rfl) ?_
    refine va_get (D := (dC, dI)) (ci := 2) (v := .int t_count) (C := RX2) (T := TX2) (N := 5) hx hb hts hin2 hown hK hP 0 rfl rfl 4 (by decide) (hts (.fieldLink RX2 9 "TowedBack$Entries" "count" "I") (List.mem_of_getElem? (i := 1) rfl)) (fun _ h9 => h9) rfl dX2_has_6 ?_
    refine lv_icmp_ge (tgt := 24) hx hb dX2_has_9 (by decide) (fun hc => ?_) (fun hc => ?_)
    · have h := k_pos hc h
      refine lv_iconst (v := 0) hx hb dX2_has_24 (by decide) ?_
      obtain rfl := k_in1 h
      exact k_rz hx hb hr hlocks rfl hP hS dX2_has_25
    · have h := k_neg hc h
      refine lv_iload_n hx hb dX2_has_12 rfl (lv_at hl 1 rfl) ?_
      refine lv_aload_n hx hb dX2_has_13 rfl (lv_at hl 0 rfl) ?_
      refine va_get (D := (dC, dI)) (ci := 2) (v := .int t_most) (C := RX2) (T := TX2) (N := 5) hx hb hts hin2 hown hK hP 0 rfl rfl 0 (by decide) (hts (.fieldLink RX2 21 "TowedBack$Entries" "most" "I") (List.mem_of_getElem? (i := 2) rfl)) (fun _ h9 => h9) rfl dX2_has_14 ?_
      refine lv_icmp_ge (tgt := 24) hx hb dX2_has_17 (by decide) (fun hc => ?_) (fun hc => ?_)
      · have h := k_pos hc h
        refine lv_iconst (v := 0) hx hb dX2_has_24 (by decide) ?_
        obtain rfl := k_in1 h
        exact k_rz hx hb hr hlocks rfl hP hS dX2_has_25
      · have h := k_neg hc h
        refine lv_iconst (v := 1) hx hb dX2_has_20 (by decide) ?_
        refine lv_goto (tgt := 25) hx hb dX2_has_21 (by decide) ?_
        obtain rfl := k_in1 h
        exact k_rz hx hb hr hlocks rfl hP hS dX2_has_25
set_option maxHeartbeats 4000000 in
set_option maxRecDepth 100000 in
theorem c_Entries_boatIn (l : Launch) (dC : Nat → ClassId) (dI : Nat → Nat → Nat) (cI cZ : ClassId) (a_t : Nat → Nat) (t_nz : Nat) (t_most : Int32) (t_boats : Nat → Int32) (t_steps : Nat → Int32) (t_junctions : Nat → Int32) (t_count : Int32) (y1 : Int32) (r0 : Int32) (h : m_Entries_boatIn y1 t_nz t_most t_boats t_count = some r0) : (MI l yX2_boatIn wsX2_boatIn ({ frames := 1, cells := 0, slots := 0, locals := 21 }) (dC, dI) [(cI, .int), (cZ, .boolean)] (wd_tEntries cI cZ a_t t_nz t_most t_boats t_steps t_junctions t_count) (wd_tEntries cI cZ a_t t_nz t_most t_boats t_steps t_junctions t_count) [.ref (a_t 0), .int y1] r0) := by
  intro sz
  refine Met.ofW (cc := cX2_boatIn) (maxL := 2) (ret := (some .int)) (by decide) rfl ?_
  intro p e s m args below meth c s₁ B hml hv
  obtain ⟨rfl, hsz, hP, hK, hD0⟩ := hv
  have hx := B.exec
  have hb := B.bytes
  have hr := B.returns
  have hts := atoms_spec (ws := wsX2_boatIn) B.pre
  have hown : s.vm.findClass RX2 = some m.cls := findClass_of_methodNamed B.named
  have hlocks := B.notSynchronized
  subst hsz
  have hD := hD0.self (sz := s.heap.size)
  have hA : ∀ q : Nat, s.heap.size ≤ q → va_A (wd_tEntries cI cZ a_t t_nz t_most t_boats t_steps t_junctions t_count) s.heap.size q := fun q h => Or.inr h
  have hS : va_S (va_A (wd_tEntries cI cZ a_t t_nz t_most t_boats t_steps t_junctions t_count) s.heap.size) s.heap s.heap [] := va_S.rf
  have hin2 : ∀ w ∈ u_ws RX2 TX2 5, w ∈ wsX2_boatIn := fun w h => List.mem_cons_of_mem _ (List.mem_append_right _ h)
  have hl := lv_entry ([.ref (a_t 0), .int y1]) (n := 2) (Nat.le_of_ble_eq_true rfl)
  rw [lg_entry_eq]
  generalize (lg_sl ([.ref (a_t 0), .int y1]) ++ List.replicate (2 - (lg_sl ([.ref (a_t 0), .int y1])).length) Slot.unset).toArray = ls at hl ⊢
  have hl : lv_has ls 2 [(0, .ref (a_t 0)), (1, .int y1)] := hl
  unfold m_Entries_boatIn at h
  refine lv_aload_n hx hb dX2_boatIn_0 rfl (lv_at hl 0 rfl) ?_
  refine lv_iload_n hx hb dX2_boatIn_1 rfl (lv_at hl 1 rfl) ?_
  obtain ⟨r1, hc1, h⟩ := kb1_some h
  refine k_FVi (rest := []) (As := [.int y1]) ⟨hx, hb, hml, hown, hts⟩ (c_Entries_has l dC dI cI cZ a_t t_nz t_most t_boats t_steps t_junctions t_count y1 r1 hc1) (cwV 1 hts gX2_boatIn_X2_has rfl rfl rfl hd_2_has ⟨Nat.le_of_ble_eq_true rfl, Nat.le_of_ble_eq_true rfl⟩) hK hP hD hS hA 0 2 rfl rfl rfl (wd_tEntries_f.trans wd_tEntries_f.symm) rfl hl.1 rfl (Nat.le_of_ble_eq_true rfl) dX2_boatIn_2 ⟨Nat.zero_le _, Nat.zero_le _⟩ (fun H locs hP hD hS => ?_)
  refine lv_if_eq (tgt := 17) hx hb dX2_boatIn_5 (by decide) (fun hc => ?_) (fun hc => ?_)
  · have h := k_pos hc h
    refine lv_iconst (v := (-1)) hx hb dX2_boatIn_17 (by decide) ?_
    obtain rfl := k_in1 h
    exact k_ri hx hb hr hlocks hP hS dX2_boatIn_18
  · have h := k_neg hc h
    refine lv_aload_n hx hb dX2_boatIn_8 rfl (lv_at hl 0 rfl) ?_
    refine va_get (D := (dC, dI)) (ci := 2) (v := .ref (a_t 1)) (C := RX2) (T := TX2) (N := 5) hx hb hts hin2 hown hK hP 0 rfl rfl 1 (by decide) (hts (.fieldLink RX2 24 "TowedBack$Entries" "boats" "[I") (List.mem_of_getElem? (i := 1) rfl)) (fun _ h9 => h9) rfl dX2_boatIn_9 ?_
    refine lv_iload_n hx hb dX2_boatIn_12 rfl (lv_at hl 1 rfl) ?_
    obtain ⟨hi2, h⟩ := kg_some h
    refine va_iald hx hb hK hP 1 0 rfl rfl hi2 dX2_boatIn_13 ?_
    refine lv_goto (tgt := 18) hx hb dX2_boatIn_14 (by decide) ?_
    obtain rfl := k_in1 h
    exact k_ri hx hb hr hlocks hP hS dX2_boatIn_18
set_option maxHeartbeats 4000000 in
set_option maxRecDepth 100000 in
theorem c_Entries_stepsIn (l : Launch) (dC : Nat → ClassId) (dI : Nat → Nat → Nat) (cI cZ : ClassId) (a_t : Nat → Nat) (t_nz : Nat) (t_most : Int32) (t_boats : Nat → Int32) (t_steps : Nat → Int32) (t_junctions : Nat → Int32) (t_count : Int32) (y1 : Int32) (r0 : Int32) (h : m_Entries_stepsIn y1 t_nz t_most t_steps t_count = some r0) : (MI l yX2_stepsIn wsX2_stepsIn ({ frames := 1, cells := 0, slots := 0, locals := 21 }) (dC, dI) [(cI, .int), (cZ, .boolean)] (wd_tEntries cI cZ a_t t_nz t_most t_boats t_steps t_junctions t_count) (wd_tEntries cI cZ a_t t_nz t_most t_boats t_steps t_junctions t_count) [.ref (a_t 0), .int y1] r0) := by
  intro sz
  refine Met.ofW (cc := cX2_stepsIn) (maxL := 2) (ret := (some .int)) (by decide) rfl ?_
  intro p e s m args below meth c s₁ B hml hv
  obtain ⟨rfl, hsz, hP, hK, hD0⟩ := hv
  have hx := B.exec
  have hb := B.bytes
  have hr := B.returns
  have hts := atoms_spec (ws := wsX2_stepsIn) B.pre
  have hown : s.vm.findClass RX2 = some m.cls := findClass_of_methodNamed B.named
  have hlocks := B.notSynchronized
  subst hsz
  have hD := hD0.self (sz := s.heap.size)
  have hA : ∀ q : Nat, s.heap.size ≤ q → va_A (wd_tEntries cI cZ a_t t_nz t_most t_boats t_steps t_junctions t_count) s.heap.size q := fun q h => Or.inr h
  have hS : va_S (va_A (wd_tEntries cI cZ a_t t_nz t_most t_boats t_steps t_junctions t_count) s.heap.size) s.heap s.heap [] := va_S.rf
  have hin2 : ∀ w ∈ u_ws RX2 TX2 5, w ∈ wsX2_stepsIn := fun w h => List.mem_cons_of_mem _ (List.mem_append_right _ h)
  have hl := lv_entry ([.ref (a_t 0), .int y1]) (n := 2) (Nat.le_of_ble_eq_true rfl)
  rw [lg_entry_eq]
  generalize (lg_sl ([.ref (a_t 0), .int y1]) ++ List.replicate (2 - (lg_sl ([.ref (a_t 0), .int y1])).length) Slot.unset).toArray = ls at hl ⊢
  have hl : lv_has ls 2 [(0, .ref (a_t 0)), (1, .int y1)] := hl
  unfold m_Entries_stepsIn at h
  refine lv_aload_n hx hb dX2_stepsIn_0 rfl (lv_at hl 0 rfl) ?_
  refine lv_iload_n hx hb dX2_stepsIn_1 rfl (lv_at hl 1 rfl) ?_
  obtain ⟨r1, hc1, h⟩ := kb1_some h
  refine k_FVi (rest := []) (As := [.int y1]) ⟨hx, hb, hml, hown, hts⟩ (c_Entries_has l dC dI cI cZ a_t t_nz t_most t_boats t_steps t_junctions t_count y1 r1 hc1) (cwV 1 hts gX2_stepsIn_X2_has rfl rfl rfl hd_2_has ⟨Nat.le_of_ble_eq_true rfl, Nat.le_of_ble_eq_true rfl⟩) hK hP hD hS hA 0 2 rfl rfl rfl (wd_tEntries_f.trans wd_tEntries_f.symm) rfl hl.1 rfl (Nat.le_of_ble_eq_true rfl) dX2_stepsIn_2 ⟨Nat.zero_le _, Nat.zero_le _⟩ (fun H locs hP hD hS => ?_)
  refine lv_if_eq (tgt := 17) hx hb dX2_stepsIn_5 (by decide) (fun hc => ?_) (fun hc => ?_)
  · have h := k_pos hc h
    refine lv_iconst (v := (-1)) hx hb dX2_stepsIn_17 (by decide) ?_
    obtain rfl := k_in1 h
    exact k_ri hx hb hr hlocks hP hS dX2_stepsIn_18
  · have h := k_neg hc h
    refine lv_aload_n hx hb dX2_stepsIn_8 rfl (lv_at hl 0 rfl) ?_
    refine va_get (D := (dC, dI)) (ci := 2) (v := .ref (a_t 2)) (C := RX2) (T := TX2) (N := 5) hx hb hts hin2 hown hK hP 0 rfl rfl 2 (by decide) (hts (.fieldLink RX2 28 "TowedBack$Entries" "steps" "[I") (List.mem_of_getElem? (i := 1) rfl)) (fun _ h9 => h9) rfl dX2_stepsIn_9 ?_
    refine lv_iload_n hx hb dX2_stepsIn_12 rfl (lv_at hl 1 rfl) ?_
    obtain ⟨hi2, h⟩ := kg_some h
    refine va_iald hx hb hK hP 2 0 rfl rfl hi2 dX2_stepsIn_13 ?_
    refine lv_goto (tgt := 18) hx hb dX2_stepsIn_14 (by decide) ?_
    obtain rfl := k_in1 h
    exact k_ri hx hb hr hlocks hP hS dX2_stepsIn_18
set_option maxHeartbeats 4000000 in
set_option maxRecDepth 100000 in
theorem c_Entries_junctionIn (l : Launch) (dC : Nat → ClassId) (dI : Nat → Nat → Nat) (cI cZ : ClassId) (a_t : Nat → Nat) (t_nz : Nat) (t_most : Int32) (t_boats : Nat → Int32) (t_steps : Nat → Int32) (t_junctions : Nat → Int32) (t_count : Int32) (y1 : Int32) (r0 : Int32) (h : m_Entries_junctionIn y1 t_nz t_most t_junctions t_count = some r0) : (MI l yX2_junctionIn wsX2_junctionIn ({ frames := 1, cells := 0, slots := 0, locals := 21 }) (dC, dI) [(cI, .int), (cZ, .boolean)] (wd_tEntries cI cZ a_t t_nz t_most t_boats t_steps t_junctions t_count) (wd_tEntries cI cZ a_t t_nz t_most t_boats t_steps t_junctions t_count) [.ref (a_t 0), .int y1] r0) := by
  intro sz
  refine Met.ofW (cc := cX2_junctionIn) (maxL := 2) (ret := (some .int)) (by decide) rfl ?_
  intro p e s m args below meth c s₁ B hml hv
  obtain ⟨rfl, hsz, hP, hK, hD0⟩ := hv
  have hx := B.exec
  have hb := B.bytes
  have hr := B.returns
  have hts := atoms_spec (ws := wsX2_junctionIn) B.pre
  have hown : s.vm.findClass RX2 = some m.cls := findClass_of_methodNamed B.named
  have hlocks := B.notSynchronized
  subst hsz
  have hD := hD0.self (sz := s.heap.size)
  have hA : ∀ q : Nat, s.heap.size ≤ q → va_A (wd_tEntries cI cZ a_t t_nz t_most t_boats t_steps t_junctions t_count) s.heap.size q := fun q h => Or.inr h
  have hS : va_S (va_A (wd_tEntries cI cZ a_t t_nz t_most t_boats t_steps t_junctions t_count) s.heap.size) s.heap s.heap [] := va_S.rf
  have hin2 : ∀ w ∈ u_ws RX2 TX2 5, w ∈ wsX2_junctionIn := fun w h => List.mem_cons_of_mem _ (List.mem_append_right _ h)
  have hl := lv_entry ([.ref (a_t 0), .int y1]) (n := 2) (Nat.le_of_ble_eq_true rfl)
  rw [lg_entry_eq]
  generalize (lg_sl ([.ref (a_t 0), .int y1]) ++ List.replicate (2 - (lg_sl ([.ref (a_t 0), .int y1])).length) Slot.unset).toArray = ls at hl ⊢
  have hl : lv_has ls 2 [(0, .ref (a_t 0)), (1, .int y1)] := hl
  unfold m_Entries_junctionIn at h
  refine lv_aload_n hx hb dX2_junctionIn_0 rfl (lv_at hl 0 rfl) ?_
  refine lv_iload_n hx hb dX2_junctionIn_1 rfl (lv_at hl 1 rfl) ?_
  obtain ⟨r1, hc1, h⟩ := kb1_some h
  refine k_FVi (rest := []) (As := [.int y1]) ⟨hx, hb, hml, hown, hts⟩ (c_Entries_has l dC dI cI cZ a_t t_nz t_most t_boats t_steps t_junctions t_count y1 r1 hc1) (cwV 1 hts gX2_junctionIn_X2_has rfl rfl rfl hd_2_has ⟨Nat.le_of_ble_eq_true rfl, Nat.le_of_ble_eq_true rfl⟩) hK hP hD hS hA 0 2 rfl rfl rfl (wd_tEntries_f.trans wd_tEntries_f.symm) rfl hl.1 rfl (Nat.le_of_ble_eq_true rfl) dX2_junctionIn_2 ⟨Nat.zero_le _, Nat.zero_le _⟩ (fun H locs hP hD hS => ?_)
  refine lv_if_eq (tgt := 17) hx hb dX2_junctionIn_5 (by decide) (fun hc => ?_) (fun hc => ?_)
  · have h := k_pos hc h
    refine lv_iconst (v := (-1)) hx hb dX2_junctionIn_17 (by decide) ?_
    obtain rfl := k_in1 h
    exact k_ri hx hb hr hlocks hP hS dX2_junctionIn_18
  · have h := k_neg hc h
    refine lv_aload_n hx hb dX2_junctionIn_8 rfl (lv_at hl 0 rfl) ?_
    refine va_get (D := (dC, dI)) (ci := 2) (v := .ref (a_t 3)) (C := RX2) (T := TX2) (N := 5) hx hb hts hin2 hown hK hP 0 rfl rfl 3 (by decide) (hts (.fieldLink RX2 31 "TowedBack$Entries" "junctions" "[I") (List.mem_of_getElem? (i := 1) rfl)) (fun _ h9 => h9) rfl dX2_junctionIn_9 ?_
    refine lv_iload_n hx hb dX2_junctionIn_12 rfl (lv_at hl 1 rfl) ?_
    obtain ⟨hi2, h⟩ := kg_some h
    refine va_iald hx hb hK hP 3 0 rfl rfl hi2 dX2_junctionIn_13 ?_
    refine lv_goto (tgt := 18) hx hb dX2_junctionIn_14 (by decide) ?_
    obtain rfl := k_in1 h
    exact k_ri hx hb hr hlocks hP hS dX2_junctionIn_18
