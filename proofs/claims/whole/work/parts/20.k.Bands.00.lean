set_option maxHeartbeats 4000000 in
set_option maxRecDepth 100000 in
theorem c_Bands_fits (l : Launch) (dC : Nat → ClassId) (dI : Nat → Nat → Nat) (cI cZ : ClassId) (a_wy a_en : Nat → Nat) (wy_places : Nat → Int32) (wy_needs : Nat → Int32) (wy_last : Int32) (en_nz : Nat) (en_most : Int32) (en_boats : Nat → Int32) (en_steps : Nat → Int32) (en_junctions : Nat → Int32) (en_count : Int32) (y2 : Int32) (y3 : Int32) (r0 : Int32) (h : m_Bands_fits y2 y3 wy_places wy_last en_nz en_most en_boats en_steps en_junctions en_count = some r0) : (MI l yX0_fits wsX0_fits ({ frames := 2, cells := 0, slots := 0, locals := 42 }) (dC, dI) [(cI, .int), (cZ, .boolean)] (wd_wyWay_enEntries cI cZ a_wy a_en wy_places wy_needs wy_last en_nz en_most en_boats en_steps en_junctions en_count) (wd_wyWay_enEntries cI cZ a_wy a_en wy_places wy_needs wy_last en_nz en_most en_boats en_steps en_junctions en_count) [.ref (a_wy 0), .ref (a_en 0), .int y2, .int y3] r0) := by
  intro sz
  refine Met.ofW (cc := cX0_fits) (maxL := 5) (ret := (some .boolean)) (by decide) rfl ?_
  intro p e s m args below meth c s₁ B hml hv
  obtain ⟨rfl, hsz, hP, hK, hD0⟩ := hv
  have hx := B.exec
  have hb := B.bytes
  have hr := B.returns
  have hts := atoms_spec (ws := wsX0_fits) B.pre
  have hown : s.vm.findClass RX0 = some m.cls := findClass_of_methodNamed B.named
  have hlocks := B.notSynchronized
  subst hsz
  have hD := hD0.self (sz := s.heap.size)
  have hA : ∀ q : Nat, s.heap.size ≤ q → va_A (wd_wyWay_enEntries cI cZ a_wy a_en wy_places wy_needs wy_last en_nz en_most en_boats en_steps en_junctions en_count) s.heap.size q := fun q h => Or.inr h
  have hS : va_S (va_A (wd_wyWay_enEntries cI cZ a_wy a_en wy_places wy_needs wy_last en_nz en_most en_boats en_steps en_junctions en_count) s.heap.size) s.heap s.heap [] := va_S.rf
  have hin2 : ∀ w ∈ u_ws RX2 TX2 5, w ∈ wsX0_fits := fun w h => List.mem_cons_of_mem _ (List.mem_append_left _ (List.mem_append_right _ h))
  have hl := lv_entry ([.ref (a_wy 0), .ref (a_en 0), .int y2, .int y3]) (n := 5) (Nat.le_of_ble_eq_true rfl)
  rw [lg_entry_eq]
  generalize (lg_sl ([.ref (a_wy 0), .ref (a_en 0), .int y2, .int y3]) ++ List.replicate (5 - (lg_sl ([.ref (a_wy 0), .ref (a_en 0), .int y2, .int y3])).length) Slot.unset).toArray = ls at hl ⊢
  have hl : lv_has ls 5 [(0, .ref (a_wy 0)), (1, .ref (a_en 0)), (2, .int y2), (3, .int y3)] := hl
  have L3 : ∀ (n3 : Nat) (x2 : Int32) (x3 : Int32) (x4 : Int32)  (H : Heap) (locs : List Loc) (ls : Array Slot), va_P (dC, dI) vwCl (wd_wyWay_enEntries cI cZ a_wy a_en wy_places wy_needs wy_last en_nz en_most en_boats en_steps en_junctions en_count) H → va_D (va_A (wd_wyWay_enEntries cI cZ a_wy a_en wy_places wy_needs wy_last en_nz en_most en_boats en_steps en_junctions en_count) s.heap.size) (wd_wyWay_enEntries cI cZ a_wy a_en wy_places wy_needs wy_last en_nz en_most en_boats en_steps en_junctions en_count) → va_S (va_A (wd_wyWay_enEntries cI cZ a_wy a_en wy_places wy_needs wy_last en_nz en_most en_boats en_steps en_junctions en_count) s.heap.size) s.heap H locs → lv_has ls 5 [(0, .ref (a_wy 0)), (1, .ref (a_en 0)), (2, .int x2), (3, .int x3), (4, .int x4)] → m_Bands_fits_L3  n3 x2 x3 x4 wy_places wy_last en_nz en_most en_boats en_steps en_junctions en_count = some r0 → W p l e (headSpec wsX0_fits ({ frames := 2, cells := 0, slots := 0, locals := 42 })).room s m ([.ref (a_wy 0), .ref (a_en 0), .int y2, .int y3] : List Value).toArray below meth c H locs 0 0 (MQ below (cQi (dC, dI) (wd_wyWay_enEntries cI cZ a_wy a_en wy_places wy_needs wy_last en_nz en_most en_boats en_steps en_junctions en_count) (wd_wyWay_enEntries cI cZ a_wy a_en wy_places wy_needs wy_last en_nz en_most en_boats en_steps en_junctions en_count) s.heap.size r0) ([.ref (a_wy 0), .ref (a_en 0), .int y2, .int y3] : List Value).toArray s 0 0 (va_A (wd_wyWay_enEntries cI cZ a_wy a_en wy_places wy_needs wy_last en_nz en_most en_boats en_steps en_junctions en_count) s.heap.size)) (F0 m 3 ls []) := by
    intro n3
    induction n3 with
    | zero => intro x2 x3 x4 H locs ls hP hD hS hl h; have h : none = some r0 := h; cases h
    | succ n3 ih3 =>
      intro x2 x3 x4 H locs ls hP hD hS hl h
      have h : m_Bands_fits_B3  (m_Bands_fits_L3  n3) x2 x3 x4 wy_places wy_last en_nz en_most en_boats en_steps en_junctions en_count = some r0 := h
      have J50 : ∀ (x2 : Int32) (x3 : Int32) (x4 : Int32)  (H : Heap) (locs : List Loc) (ls : Array Slot), va_P (dC, dI) vwCl (wd_wyWay_enEntries cI cZ a_wy a_en wy_places wy_needs wy_last en_nz en_most en_boats en_steps en_junctions en_count) H → va_D (va_A (wd_wyWay_enEntries cI cZ a_wy a_en wy_places wy_needs wy_last en_nz en_most en_boats en_steps en_junctions en_count) s.heap.size) (wd_wyWay_enEntries cI cZ a_wy a_en wy_places wy_needs wy_last en_nz en_most en_boats en_steps en_junctions en_count) → va_S (va_A (wd_wyWay_enEntries cI cZ a_wy a_en wy_places wy_needs wy_last en_nz en_most en_boats en_steps en_junctions en_count) s.heap.size) s.heap H locs → lv_has ls 5 [(0, .ref (a_wy 0)), (1, .ref (a_en 0)), (2, .int x2), (3, .int x3), (4, .int x4)] → m_Bands_fits_B50 (m_Bands_fits_L3  n3) x2 x3 x4 wy_places wy_last en_nz en_most en_boats en_steps en_junctions en_count = some r0 → W p l e (headSpec wsX0_fits ({ frames := 2, cells := 0, slots := 0, locals := 42 })).room s m ([.ref (a_wy 0), .ref (a_en 0), .int y2, .int y3] : List Value).toArray below meth c H locs 0 0 (MQ below (cQi (dC, dI) (wd_wyWay_enEntries cI cZ a_wy a_en wy_places wy_needs wy_last en_nz en_most en_boats en_steps en_junctions en_count) (wd_wyWay_enEntries cI cZ a_wy a_en wy_places wy_needs wy_last en_nz en_most en_boats en_steps en_junctions en_count) s.heap.size r0) ([.ref (a_wy 0), .ref (a_en 0), .int y2, .int y3] : List Value).toArray s 0 0 (va_A (wd_wyWay_enEntries cI cZ a_wy a_en wy_places wy_needs wy_last en_nz en_most en_boats en_steps en_junctions en_count) s.heap.size)) (F0 m 50 ls []) := by
        intro x2 x3 x4 H locs ls hP hD hS hl h
        unfold m_Bands_fits_B50 at h
        refine lv_iinc (v := (x4 + 1)) (lv' := [(4, .int (x4 + 1)), (0, .ref (a_wy 0)), (1, .ref (a_en 0)), (2, .int x2), (3, .int x3)]) hx hb dX0_fits_50 hl (k := 4) rfl rfl (by decide) rfl (fun ls hl => ?_)
        refine lv_goto (tgt := 3) hx hb dX0_fits_53 (by decide) ?_
        exact ih3 x2 x3 (x4 + 1) _ _ _ hP hD hS (lv_sub hl [1, 2, 3, 4, 0] rfl) h
      unfold m_Bands_fits_B3 at h
      refine lv_iload hx hb dX0_fits_3 (lv_at hl 4 rfl) ?_
      refine lv_aload_n hx hb dX0_fits_5 rfl (lv_at hl 1 rfl) ?_
      refine va_get (D := (dC, dI)) (ci := 2) (v := .int en_count) (C := RX2) (T := TX2) (N := 5) hx hb hts hin2 hown hK hP 3 rfl rfl 4 (by decide) (hts (.fieldLink RX0 31 "TowedBack$Entries" "count" "I") (List.mem_of_getElem? (i := 1) rfl)) (fun _ h9 => h9) rfl dX0_fits_6 ?_
      refine lv_icmp_ge (tgt := 56) hx hb dX0_fits_9 (by decide) (fun hc => ?_) (fun hc => ?_)
      · have h := k_pos hc h
        refine lv_iconst (v := 1) hx hb dX0_fits_56 (by decide) ?_
        obtain rfl := k_in1 h
        exact k_rz hx hb hr hlocks rfl hP hS dX0_fits_57
      · have h := k_neg hc h
        refine lv_aload_n hx hb dX0_fits_12 rfl (lv_at hl 1 rfl) ?_
        refine lv_iload hx hb dX0_fits_13 (lv_at hl 4 rfl) ?_
        obtain ⟨r1, hc1, h⟩ := kb1_some h
        refine k_RVi (rest := []) (As := [.int x4]) ⟨hx, hb, hml, hown, hts⟩ (c_Entries_boatIn l dC dI cI cZ a_en en_nz en_most en_boats en_steps en_junctions en_count x4 r1 hc1) (cwV 1 hts gX0_fits_X2_boatIn rfl rfl rfl hd_2_boatIn ⟨Nat.le_of_ble_eq_true rfl, Nat.le_of_ble_eq_true rfl⟩) hK hP hD hS hA [3, 4, 5, 6] rfl (by decide +kernel) 3 2 rfl rfl rfl rfl hl.1 rfl (Nat.le_of_ble_eq_true rfl) dX0_fits_15 ⟨Nat.zero_le _, Nat.zero_le _⟩ (fun H locs hP hD hS => ?_)
        refine lv_iload_n hx hb dX0_fits_18 rfl (lv_at hl 2 rfl) ?_
        refine lv_icmp_eq (tgt := 25) hx hb dX0_fits_19 (by decide) (fun hc => ?_) (fun hc => ?_)
        · have h := k_pos hc h
          refine lv_aload_n hx hb dX0_fits_25 rfl (lv_at hl 0 rfl) ?_
          refine lv_iload_n hx hb dX0_fits_26 rfl (lv_at hl 3 rfl) ?_
          refine lv_aload_n hx hb dX0_fits_27 rfl (lv_at hl 1 rfl) ?_
          refine lv_iload hx hb dX0_fits_28 (lv_at hl 4 rfl) ?_
          obtain ⟨r2, hc2, h⟩ := kb1_some h
          refine k_RVi (rest := [.int x3, .ref (a_wy 0)]) (As := [.int x4]) ⟨hx, hb, hml, hown, hts⟩ (c_Entries_stepsIn l dC dI cI cZ a_en en_nz en_most en_boats en_steps en_junctions en_count x4 r2 hc2) (cwV 1 hts gX0_fits_X2_stepsIn rfl rfl rfl hd_2_stepsIn ⟨Nat.le_of_ble_eq_true rfl, Nat.le_of_ble_eq_true rfl⟩) hK hP hD hS hA [3, 4, 5, 6] rfl (by decide +kernel) 3 2 rfl rfl rfl rfl hl.1 rfl (Nat.le_of_ble_eq_true rfl) dX0_fits_30 ⟨Nat.zero_le _, Nat.zero_le _⟩ (fun H locs hP hD hS => ?_)
          refine va_mmin hx hb (hml.trans hl.1.symm) hown (hts (.methodLink RX0 43 Lib.Math.min.name) (List.mem_of_getElem? (i := 2) rfl)) (hts (.static Lib.Math.min.name) (List.mem_of_getElem? (i := 3) rfl)) (hts (.initialized "java/lang/Math") (List.mem_of_getElem? (i := 4) rfl)) (hts (.code Lib.Math.min.name Lib.Math.min.code 2 (some .int)) (List.mem_of_getElem? (i := 5) rfl)) (Nat.le_of_ble_eq_true rfl) (Nat.le_of_ble_eq_true rfl) (Nat.zero_le _) (Nat.zero_le _) dX0_fits_33 ?_
          obtain ⟨r3, hc3, h⟩ := kb1_some h
          refine k_RVi (rest := []) (As := [.int (if r2 < x3 then r2 else x3)]) ⟨hx, hb, hml, hown, hts⟩ (c_Way_place l dC dI cI cZ a_wy wy_places wy_needs wy_last (if r2 < x3 then r2 else x3) r3 hc3) (cwV 1 hts gX0_fits_X10_place rfl rfl rfl hd_10_place ⟨Nat.le_of_ble_eq_true rfl, Nat.le_of_ble_eq_true rfl⟩) hK hP hD hS hA [0, 1, 2] rfl (by decide +kernel) 0 10 rfl rfl rfl rfl hl.1 rfl (Nat.le_of_ble_eq_true rfl) dX0_fits_36 ⟨Nat.zero_le _, Nat.zero_le _⟩ (fun H locs hP hD hS => ?_)
          refine lv_aload_n hx hb dX0_fits_39 rfl (lv_at hl 1 rfl) ?_
          refine lv_iload hx hb dX0_fits_40 (lv_at hl 4 rfl) ?_
          obtain ⟨r4, hc4, h⟩ := kb1_some h
          refine k_RVi (rest := [.int r3]) (As := [.int x4]) ⟨hx, hb, hml, hown, hts⟩ (c_Entries_junctionIn l dC dI cI cZ a_en en_nz en_most en_boats en_steps en_junctions en_count x4 r4 hc4) (cwV 1 hts gX0_fits_X2_junctionIn rfl rfl rfl hd_2_junctionIn ⟨Nat.le_of_ble_eq_true rfl, Nat.le_of_ble_eq_true rfl⟩) hK hP hD hS hA [3, 4, 5, 6] rfl (by decide +kernel) 3 2 rfl rfl rfl rfl hl.1 rfl (Nat.le_of_ble_eq_true rfl) dX0_fits_42 ⟨Nat.zero_le _, Nat.zero_le _⟩ (fun H locs hP hD hS => ?_)
          refine lv_icmp_eq (tgt := 50) hx hb dX0_fits_45 (by decide) (fun hc => ?_) (fun hc => ?_)
          · have h := k_pos hc h
            exact J50 x2 x3 x4 _ _ _ hP hD hS (lv_sub hl [0, 1, 2, 3, 4] rfl) h
          · have h := k_neg hc h
            refine lv_iconst (v := 0) hx hb dX0_fits_48 (by decide) ?_
            obtain rfl := k_in1 h
            exact k_rz hx hb hr hlocks rfl hP hS dX0_fits_49
        · have h := k_neg hc h
          refine lv_goto (tgt := 50) hx hb dX0_fits_22 (by decide) ?_
          exact J50 x2 x3 x4 _ _ _ hP hD hS (lv_sub hl [0, 1, 2, 3, 4] rfl) h
  unfold m_Bands_fits at h
  refine lv_iconst (v := 0) hx hb dX0_fits_0 (by decide) ?_
  refine lv_istore (lv' := [(4, .int 0), (0, .ref (a_wy 0)), (1, .ref (a_en 0)), (2, .int y2), (3, .int y3)]) hx hb dX0_fits_1 hl (by decide) rfl (fun ls hl => ?_)
  exact L3 FU y2 y3 0 _ _ _ hP hD hS (lv_sub hl [1, 2, 3, 4, 0] rfl) h
set_option maxHeartbeats 4000000 in
set_option maxRecDepth 100000 in
theorem c_Bands_sort (l : Launch) (dC : Nat → ClassId) (dI : Nat → Nat → Nat) (cI cZ : ClassId) (a_t a_wy a_en : Nat → Nat) (i_t_lows : Nat → Int32) (i_t_sizes : Nat → Int32) (t_parts : Nat → Int32) (wy_places : Nat → Int32) (wy_needs : Nat → Int32) (wy_last : Int32) (en_nz : Nat) (en_most : Int32) (en_boats : Nat → Int32) (en_steps : Nat → Int32) (en_junctions : Nat → Int32) (en_count : Int32) (y3 : Int32) (o_t_lows : Nat → Int32) (o_t_sizes : Nat → Int32) (h : m_Bands_sort y3 i_t_lows i_t_sizes wy_places wy_needs wy_last en_nz en_most en_boats en_steps en_junctions en_count = some (o_t_lows, o_t_sizes)) : (MV l yX0_sort wsX0_sort ({ frames := 3, cells := 0, slots := 0, locals := 66 }) (dC, dI) [(cI, .int), (cZ, .boolean)] (wd_tBands_wyWay_enEntries cI cZ a_t a_wy a_en i_t_lows i_t_sizes t_parts wy_places wy_needs wy_last en_nz en_most en_boats en_steps en_junctions en_count) (wd_tBands_wyWay_enEntries cI cZ a_t a_wy a_en o_t_lows o_t_sizes t_parts wy_places wy_needs wy_last en_nz en_most en_boats en_steps en_junctions en_count) [.ref (a_t 0), .ref (a_wy 0), .ref (a_en 0), .int y3]) := by
  intro sz
  refine Met.ofW (cc := cX0_sort) (maxL := 5) (ret := none) (by decide) rfl ?_
  intro p e s m args below meth c s₁ B hml hv
  obtain ⟨rfl, hsz, hP, hK, hD0⟩ := hv
  have hx := B.exec
  have hb := B.bytes
  have hr := B.returns
  have hts := atoms_spec (ws := wsX0_sort) B.pre
  have hown : s.vm.findClass RX0 = some m.cls := findClass_of_methodNamed B.named
  have hlocks := B.notSynchronized
  subst hsz
  have hD := hD0.self (sz := s.heap.size)
  have hA : ∀ q : Nat, s.heap.size ≤ q → va_A (wd_tBands_wyWay_enEntries cI cZ a_t a_wy a_en i_t_lows i_t_sizes t_parts wy_places wy_needs wy_last en_nz en_most en_boats en_steps en_junctions en_count) s.heap.size q := fun q h => Or.inr h
  have hS : va_S (va_A (wd_tBands_wyWay_enEntries cI cZ a_t a_wy a_en i_t_lows i_t_sizes t_parts wy_places wy_needs wy_last en_nz en_most en_boats en_steps en_junctions en_count) s.heap.size) s.heap s.heap [] := va_S.rf
  have hin0 : ∀ w ∈ u_ws RX0 TX0 3, w ∈ wsX0_sort := fun w h => List.mem_cons_of_mem _ (List.mem_append_left _ (List.mem_append_left _ (List.mem_append_right _ h)))
  have hl := lv_entry ([.ref (a_t 0), .ref (a_wy 0), .ref (a_en 0), .int y3]) (n := 5) (Nat.le_of_ble_eq_true rfl)
  rw [lg_entry_eq]
  generalize (lg_sl ([.ref (a_t 0), .ref (a_wy 0), .ref (a_en 0), .int y3]) ++ List.replicate (5 - (lg_sl ([.ref (a_t 0), .ref (a_wy 0), .ref (a_en 0), .int y3])).length) Slot.unset).toArray = ls at hl ⊢
  have hl : lv_has ls 5 [(0, .ref (a_t 0)), (1, .ref (a_wy 0)), (2, .ref (a_en 0)), (3, .int y3)] := hl
  have L3 : ∀ (n3 : Nat) (x3 : Int32) (x4 : Int32) (t_lows : Nat → Int32) (t_sizes : Nat → Int32) (H : Heap) (locs : List Loc) (ls : Array Slot), va_P (dC, dI) vwCl (wd_tBands_wyWay_enEntries cI cZ a_t a_wy a_en t_lows t_sizes t_parts wy_places wy_needs wy_last en_nz en_most en_boats en_steps en_junctions en_count) H → va_D (va_A (wd_tBands_wyWay_enEntries cI cZ a_t a_wy a_en i_t_lows i_t_sizes t_parts wy_places wy_needs wy_last en_nz en_most en_boats en_steps en_junctions en_count) s.heap.size) (wd_tBands_wyWay_enEntries cI cZ a_t a_wy a_en t_lows t_sizes t_parts wy_places wy_needs wy_last en_nz en_most en_boats en_steps en_junctions en_count) → va_S (va_A (wd_tBands_wyWay_enEntries cI cZ a_t a_wy a_en i_t_lows i_t_sizes t_parts wy_places wy_needs wy_last en_nz en_most en_boats en_steps en_junctions en_count) s.heap.size) s.heap H locs → lv_has ls 5 [(0, .ref (a_t 0)), (1, .ref (a_wy 0)), (2, .ref (a_en 0)), (3, .int x3), (4, .int x4)] → m_Bands_sort_L3  n3 x3 x4 t_lows t_sizes wy_places wy_needs wy_last en_nz en_most en_boats en_steps en_junctions en_count = some (o_t_lows, o_t_sizes) → W p l e (headSpec wsX0_sort ({ frames := 3, cells := 0, slots := 0, locals := 66 })).room s m ([.ref (a_t 0), .ref (a_wy 0), .ref (a_en 0), .int y3] : List Value).toArray below meth c H locs 0 0 (MQ below (cQv (dC, dI) (wd_tBands_wyWay_enEntries cI cZ a_t a_wy a_en i_t_lows i_t_sizes t_parts wy_places wy_needs wy_last en_nz en_most en_boats en_steps en_junctions en_count) (wd_tBands_wyWay_enEntries cI cZ a_t a_wy a_en o_t_lows o_t_sizes t_parts wy_places wy_needs wy_last en_nz en_most en_boats en_steps en_junctions en_count) s.heap.size) ([.ref (a_t 0), .ref (a_wy 0), .ref (a_en 0), .int y3] : List Value).toArray s 0 0 (va_A (wd_tBands_wyWay_enEntries cI cZ a_t a_wy a_en i_t_lows i_t_sizes t_parts wy_places wy_needs wy_last en_nz en_most en_boats en_steps en_junctions en_count) s.heap.size)) (F0 m 3 ls []) := by
    intro n3
    induction n3 with
    | zero => intro x3 x4 t_lows t_sizes H locs ls hP hD hS hl h; have h : none = some (o_t_lows, o_t_sizes) := h; cases h
    | succ n3 ih3 =>
      intro x3 x4 t_lows t_sizes H locs ls hP hD hS hl h
      have h : m_Bands_sort_B3  (m_Bands_sort_L3  n3) x3 x4 t_lows t_sizes wy_places wy_needs wy_last en_nz en_most en_boats en_steps en_junctions en_count = some (o_t_lows, o_t_sizes) := h
      have J59 : ∀ (x3 : Int32) (x4 : Int32) (k_1 : Int32) (k_2 : Int32) (t_lows : Nat → Int32) (t_sizes : Nat → Int32) (H : Heap) (locs : List Loc) (ls : Array Slot), va_P (dC, dI) vwCl (wd_tBands_wyWay_enEntries cI cZ a_t a_wy a_en t_lows t_sizes t_parts wy_places wy_needs wy_last en_nz en_most en_boats en_steps en_junctions en_count) H → va_D (va_A (wd_tBands_wyWay_enEntries cI cZ a_t a_wy a_en i_t_lows i_t_sizes t_parts wy_places wy_needs wy_last en_nz en_most en_boats en_steps en_junctions en_count) s.heap.size) (wd_tBands_wyWay_enEntries cI cZ a_t a_wy a_en t_lows t_sizes t_parts wy_places wy_needs wy_last en_nz en_most en_boats en_steps en_junctions en_count) → va_S (va_A (wd_tBands_wyWay_enEntries cI cZ a_t a_wy a_en i_t_lows i_t_sizes t_parts wy_places wy_needs wy_last en_nz en_most en_boats en_steps en_junctions en_count) s.heap.size) s.heap H locs → lv_has ls 5 [(0, .ref (a_t 0)), (1, .ref (a_wy 0)), (2, .ref (a_en 0)), (3, .int x3), (4, .int x4)] → m_Bands_sort_B59 (m_Bands_sort_L3  n3) x3 x4 k_1 k_2 t_lows t_sizes wy_places wy_needs wy_last en_nz en_most en_boats en_steps en_junctions en_count = some (o_t_lows, o_t_sizes) → W p l e (headSpec wsX0_sort ({ frames := 3, cells := 0, slots := 0, locals := 66 })).room s m ([.ref (a_t 0), .ref (a_wy 0), .ref (a_en 0), .int y3] : List Value).toArray below meth c H locs 0 0 (MQ below (cQv (dC, dI) (wd_tBands_wyWay_enEntries cI cZ a_t a_wy a_en i_t_lows i_t_sizes t_parts wy_places wy_needs wy_last en_nz en_most en_boats en_steps en_junctions en_count) (wd_tBands_wyWay_enEntries cI cZ a_t a_wy a_en o_t_lows o_t_sizes t_parts wy_places wy_needs wy_last en_nz en_most en_boats en_steps en_junctions en_count) s.heap.size) ([.ref (a_t 0), .ref (a_wy 0), .ref (a_en 0), .int y3] : List Value).toArray s 0 0 (va_A (wd_tBands_wyWay_enEntries cI cZ a_t a_wy a_en i_t_lows i_t_sizes t_parts wy_places wy_needs wy_last en_nz en_most en_boats en_steps en_junctions en_count) s.heap.size)) (F0 m 59 ls [.int k_2, .int k_1, .ref (a_t 2)]) := by
        intro x3 x4 k_1 k_2 t_lows t_sizes H locs ls hP hD hS hl h
        unfold m_Bands_sort_B59 at h
        obtain ⟨hi1, h⟩ := kg_some h
        refine va_iast hx hb hK hP hD hS 2 0 rfl rfl hi1 dX0_sort_59 (fun H locs hP hD hS => ?_)
        have hP : va_P (dC, dI) vwCl (wd_tBands_wyWay_enEntries cI cZ a_t a_wy a_en t_lows (upd t_sizes k_1.toNatClampNeg k_2) t_parts wy_places wy_needs wy_last en_nz en_most en_boats en_steps en_junctions en_count) H := hP
        have hD : va_D (va_A (wd_tBands_wyWay_enEntries cI cZ a_t a_wy a_en i_t_lows i_t_sizes t_parts wy_places wy_needs wy_last en_nz en_most en_boats en_steps en_junctions en_count) s.heap.size) (wd_tBands_wyWay_enEntries cI cZ a_t a_wy a_en t_lows (upd t_sizes k_1.toNatClampNeg k_2) t_parts wy_places wy_needs wy_last en_nz en_most en_boats en_steps en_junctions en_count) := hD
        refine lv_iinc (v := (x4 + 1)) (lv' := [(4, .int (x4 + 1)), (0, .ref (a_t 0)), (1, .ref (a_wy 0)), (2, .ref (a_en 0)), (3, .int x3)]) hx hb dX0_sort_60 hl (k := 4) rfl rfl (by decide) rfl (fun ls hl => ?_)
        refine lv_goto (tgt := 3) hx hb dX0_sort_63 (by decide) ?_
        exact ih3 x3 (x4 + 1) t_lows (upd t_sizes k_1.toNatClampNeg k_2) _ _ _ hP hD hS (lv_sub hl [1, 2, 3, 4, 0] rfl) h
      unfold m_Bands_sort_B3 at h
      refine lv_iload hx hb dX0_sort_3 (lv_at hl 4 rfl) ?_
      refine lv_bipush (v := 31) hx hb dX0_sort_5 (by decide) ?_
      refine lv_icmp_ge (tgt := 66) hx hb dX0_sort_7 (by decide) (fun hc => ?_) (fun hc => ?_)
      · have h := k_pos hc h
        obtain ⟨rfl, rfl⟩ := k_in2 h
        exact k_rv hx hb hr hlocks hP hS dX0_sort_66
      · have h := k_neg hc h
        refine lv_aload_n hx hb dX0_sort_10 rfl (lv_at hl 0 rfl) ?_
        refine va_get (D := (dC, dI)) (ci := 0) (v := .ref (a_t 1)) (C := RX0) (T := TX0) (N := 3) hx hb hts hin0 hown hK hP 0 rfl rfl 0 (by decide) (hts (.fieldLink RX0 11 "TowedBack$Bands" "lows" "[I") (List.mem_of_getElem? (i := 1) rfl)) (fun _ h9 => h9) rfl dX0_sort_11 ?_
        refine lv_iload hx hb dX0_sort_14 (lv_at hl 4 rfl) ?_
        refine lv_aload_n hx hb dX0_sort_16 rfl (lv_at hl 1 rfl) ?_
        refine lv_iload hx hb dX0_sort_17 (lv_at hl 4 rfl) ?_
        obtain ⟨r2, hc2, h⟩ := kb1_some h
        refine k_RVi (rest := [.int x4, .ref (a_t 1)]) (As := [.int x4]) ⟨hx, hb, hml, hown, hts⟩ (c_Way_need l dC dI cI cZ a_wy wy_places wy_needs wy_last x4 r2 hc2) (cwV 1 hts gX0_sort_X10_need rfl rfl rfl hd_10_need ⟨Nat.le_of_ble_eq_true rfl, Nat.le_of_ble_eq_true rfl⟩) hK hP hD hS hA [4, 5, 6] rfl (by decide +kernel) 4 10 rfl rfl rfl rfl hl.1 rfl (Nat.le_of_ble_eq_true rfl) dX0_sort_19 ⟨Nat.zero_le _, Nat.zero_le _⟩ (fun H locs hP hD hS => ?_)
        obtain ⟨hi3, h⟩ := kg_some h
        refine va_iast hx hb hK hP hD hS 1 0 rfl rfl hi3 dX0_sort_22 (fun H locs hP hD hS => ?_)
        have hP : va_P (dC, dI) vwCl (wd_tBands_wyWay_enEntries cI cZ a_t a_wy a_en (upd t_lows x4.toNatClampNeg r2) t_sizes t_parts wy_places wy_needs wy_last en_nz en_most en_boats en_steps en_junctions en_count) H := hP
        have hD : va_D (va_A (wd_tBands_wyWay_enEntries cI cZ a_t a_wy a_en i_t_lows i_t_sizes t_parts wy_places wy_needs wy_last en_nz en_most en_boats en_steps en_junctions en_count) s.heap.size) (wd_tBands_wyWay_enEntries cI cZ a_t a_wy a_en (upd t_lows x4.toNatClampNeg r2) t_sizes t_parts wy_places wy_needs wy_last en_nz en_most en_boats en_steps en_junctions en_count) := hD
        refine lv_aload_n hx hb dX0_sort_23 rfl (lv_at hl 0 rfl) ?_
        refine va_get (D := (dC, dI)) (ci := 0) (v := .ref (a_t 2)) (C := RX0) (T := TX0) (N := 3) hx hb hts hin0 hown hK hP 0 rfl rfl 1 (by decide) (hts (.fieldLink RX0 15 "TowedBack$Bands" "sizes" "[I") (List.mem_of_getElem? (i := 2) rfl)) (fun _ h9 => h9) rfl dX0_sort_24 ?_
        refine lv_iload hx hb dX0_sort_27 (lv_at hl 4 rfl) ?_
        refine lv_aload_n hx hb dX0_sort_29 rfl (lv_at hl 1 rfl) ?_
        refine lv_aload_n hx hb dX0_sort_30 rfl (lv_at hl 2 rfl) ?_
        refine lv_iload_n hx hb dX0_sort_31 rfl (lv_at hl 3 rfl) ?_
        refine lv_iload hx hb dX0_sort_32 (lv_at hl 4 rfl) ?_
        obtain ⟨r4, hc4, h⟩ := kb1_some h
        refine k_RSi (rest := [.int x4, .ref (a_t 2)]) (As := [.ref (a_wy 0), .ref (a_en 0), .int x3, .int x4]) ⟨hx, hb, hml, hown, hts⟩ (c_Bands_fits l dC dI cI cZ a_wy a_en wy_places wy_needs wy_last en_nz en_most en_boats en_steps en_junctions en_count x3 x4 r4 hc4) (va_cwS 4 hts gX0_sort_X0_fits rfl rfl rfl hd_0_fits ⟨Nat.le_of_ble_eq_true rfl, Nat.le_of_ble_eq_true rfl⟩) hK hP hD hS hA [4, 5, 6, 7, 8, 9, 10] rfl (by decide +kernel) rfl hl.1 rfl (Nat.le_of_ble_eq_true rfl) dX0_sort_34 ⟨Nat.zero_le _, Nat.zero_le _⟩ (fun H locs hP hD hS => ?_)
        refine lv_if_eq (tgt := 58) hx hb dX0_sort_37 (by decide) (fun hc => ?_) (fun hc => ?_)
        · have h := k_pos hc h
          refine lv_iconst (v := 0) hx hb dX0_sort_58 (by decide) ?_
          exact J59 x3 x4 x4 0 (upd t_lows x4.toNatClampNeg r2) t_sizes _ _ _ hP hD hS (lv_sub hl [0, 1, 2, 3, 4] rfl) h
        · have h := k_neg hc h
          refine lv_aload_n hx hb dX0_sort_40 rfl (lv_at hl 1 rfl) ?_
          refine lv_iload hx hb dX0_sort_41 (lv_at hl 4 rfl) ?_
          refine lv_iconst (v := 1) hx hb dX0_sort_43 (by decide) ?_
          refine lv_iadd hx hb dX0_sort_44 ?_
          obtain ⟨r5, hc5, h⟩ := kb1_some h
          refine k_RVi (rest := [.int x4, .ref (a_t 2)]) (As := [.int (x4 + 1)]) ⟨hx, hb, hml, hown, hts⟩ (c_Way_need l dC dI cI cZ a_wy wy_places wy_needs wy_last (x4 + 1) r5 hc5) (cwV 1 hts gX0_sort_X10_need rfl rfl rfl hd_10_need ⟨Nat.le_of_ble_eq_true rfl, Nat.le_of_ble_eq_true rfl⟩) hK hP hD hS hA [4, 5, 6] rfl (by decide +kernel) 4 10 rfl rfl rfl rfl hl.1 rfl (Nat.le_of_ble_eq_true rfl) dX0_sort_45 ⟨Nat.zero_le _, Nat.zero_le _⟩ (fun H locs hP hD hS => ?_)
          refine lv_aload_n hx hb dX0_sort_48 rfl (lv_at hl 1 rfl) ?_
          refine lv_iload hx hb dX0_sort_49 (lv_at hl 4 rfl) ?_
          obtain ⟨r6, hc6, h⟩ := kb1_some h
          refine k_RVi (rest := [.int r5, .int x4, .ref (a_t 2)]) (As := [.int x4]) ⟨hx, hb, hml, hown, hts⟩ (c_Way_need l dC dI cI cZ a_wy wy_places wy_needs wy_last x4 r6 hc6) (cwV 1 hts gX0_sort_X10_need rfl rfl rfl hd_10_need ⟨Nat.le_of_ble_eq_true rfl, Nat.le_of_ble_eq_true rfl⟩) hK hP hD hS hA [4, 5, 6] rfl (by decide +kernel) 4 10 rfl rfl rfl rfl hl.1 rfl (Nat.le_of_ble_eq_true rfl) dX0_sort_51 ⟨Nat.zero_le _, Nat.zero_le _⟩ (fun H locs hP hD hS => ?_)
          refine lv_isub hx hb dX0_sort_54 ?_
          refine lv_goto (tgt := 59) hx hb dX0_sort_55 (by decide) ?_
          exact J59 x3 x4 x4 (r5 - r6) (upd t_lows x4.toNatClampNeg r2) t_sizes _ _ _ hP hD hS (lv_sub hl [0, 1, 2, 3, 4] rfl) h
  unfold m_Bands_sort at h
  refine lv_iconst (v := 0) hx hb dX0_sort_0 (by decide) ?_
  refine lv_istore (lv' := [(4, .int 0), (0, .ref (a_t 0)), (1, .ref (a_wy 0)), (2, .ref (a_en 0)), (3, .int y3)]) hx hb dX0_sort_1 hl (by decide) rfl (fun ls hl => ?_)
  exact L3 FU y3 0 i_t_lows i_t_sizes _ _ _ hP hD hS (lv_sub hl [1, 2, 3, 4, 0] rfl) h
set_option maxHeartbeats 4000000 in
set_option maxRecDepth 100000 in
theorem c_Bands_total (l : Launch) (dC : Nat → ClassId) (dI : Nat → Nat → Nat) (cI cZ : ClassId) (a_t : Nat → Nat) (t_lows : Nat → Int32) (t_sizes : Nat → Int32) (t_parts : Nat → Int32)  (r0 : Int32) (h : m_Bands_total t_sizes = some r0) : (MI l yX0_total wsX0_total ({ frames := 0, cells := 0, slots := 0, locals := 0 }) (dC, dI) [(cI, .int), (cZ, .boolean)] (wd_tBands cI cZ a_t t_lows t_sizes t_parts) (wd_tBands cI cZ a_t t_lows t_sizes t_parts) [.ref (a_t 0)] r0) := by
  intro sz
  refine Met.ofW (cc := cX0_total) (maxL := 3) (ret := (some .int)) (by decide) rfl ?_
  intro p e s m args below meth c s₁ B hml hv
  obtain ⟨rfl, hsz, hP, hK, hD0⟩ := hv
  have hx := B.exec
  have hb := B.bytes
  have hr := B.returns
  have hts := atoms_spec (ws := wsX0_total) B.pre
  have hown : s.vm.findClass RX0 = some m.cls := findClass_of_methodNamed B.named
  have hlocks := B.notSynchronized
  subst hsz
  have hD := hD0.self (sz := s.heap.size)
  have hA : ∀ q : Nat, s.heap.size ≤ q → va_A (wd_tBands cI cZ a_t t_lows t_sizes t_parts) s.heap.size q := fun q h => Or.inr h
  have hS : va_S (va_A (wd_tBands cI cZ a_t t_lows t_sizes t_parts) s.heap.size) s.heap s.heap [] := va_S.rf
  have hin0 : ∀ w ∈ u_ws RX0 TX0 3, w ∈ wsX0_total := fun w h => List.mem_cons_of_mem _ (List.mem_append_right _ h)
  have hl := lv_entry ([.ref (a_t 0)]) (n := 3) (Nat.le_of_ble_eq_true rfl)
  rw [lg_entry_eq]
  generalize (lg_sl ([.ref (a_t 0)]) ++ List.replicate (3 - (lg_sl ([.ref (a_t 0)])).length) Slot.unset).toArray = ls at hl ⊢
  have hl : lv_has ls 3 [(0, .ref (a_t 0))] := hl
  have L4 : ∀ (n4 : Nat) (x1 : Int32) (x2 : Int32)  (H : Heap) (locs : List Loc) (ls : Array Slot), va_P (dC, dI) vwCl (wd_tBands cI cZ a_t t_lows t_sizes t_parts) H → va_D (va_A (wd_tBands cI cZ a_t t_lows t_sizes t_parts) s.heap.size) (wd_tBands cI cZ a_t t_lows t_sizes t_parts) → va_S (va_A (wd_tBands cI cZ a_t t_lows t_sizes t_parts) s.heap.size) s.heap H locs → lv_has ls 3 [(0, .ref (a_t 0)), (1, .int x1), (2, .int x2)] → m_Bands_total_L4  n4 x1 x2 t_sizes = some r0 → W p l e (headSpec wsX0_total ({ frames := 0, cells := 0, slots := 0, locals := 0 })).room s m ([.ref (a_t 0)] : List Value).toArray below meth c H locs 0 0 (MQ below (cQi (dC, dI) (wd_tBands cI cZ a_t t_lows t_sizes t_parts) (wd_tBands cI cZ a_t t_lows t_sizes t_parts) s.heap.size r0) ([.ref (a_t 0)] : List Value).toArray s 0 0 (va_A (wd_tBands cI cZ a_t t_lows t_sizes t_parts) s.heap.size)) (F0 m 4 ls []) := by
    intro n4
    induction n4 with
    | zero => intro x1 x2 H locs ls hP hD hS hl h; have h : none = some r0 := h; cases h
    | succ n4 ih4 =>
      intro x1 x2 H locs ls hP hD hS hl h
      have h : m_Bands_total_B4  (m_Bands_total_L4  n4) x1 x2 t_sizes = some r0 := h
      unfold m_Bands_total_B4 at h
      refine lv_iload_n hx hb dX0_total_4 rfl (lv_at hl 2 rfl) ?_
      refine lv_bipush (v := 31) hx hb dX0_total_5 (by decide) ?_
      refine lv_icmp_ge (tgt := 25) hx hb dX0_total_7 (by decide) (fun hc => ?_) (fun hc => ?_)
      · have h := k_pos hc h
        refine lv_iload_n hx hb dX0_total_25 rfl (lv_at hl 1 rfl) ?_
        obtain rfl := k_in1 h
        exact k_ri hx hb hr hlocks hP hS dX0_total_26
      · have h := k_neg hc h
        refine lv_iload_n hx hb dX0_total_10 rfl (lv_at hl 1 rfl) ?_
        refine lv_aload_n hx hb dX0_total_11 rfl (lv_at hl 0 rfl) ?_
        refine va_get (D := (dC, dI)) (ci := 0) (v := .ref (a_t 2)) (C := RX0) (T := TX0) (N := 3) hx hb hts hin0 hown hK hP 0 rfl rfl 1 (by decide) (hts (.fieldLink RX0 15 "TowedBack$Bands" "sizes" "[I") (List.mem_of_getElem? (i := 1) rfl)) (fun _ h9 => h9) rfl dX0_total_12 ?_
        refine lv_iload_n hx hb dX0_total_15 rfl (lv_at hl 2 rfl) ?_
        obtain ⟨hi1, h⟩ := kg_some h
        refine va_iald hx hb hK hP 2 0 rfl rfl hi1 dX0_total_16 ?_
        refine lv_iadd hx hb dX0_total_17 ?_
        refine lv_istore_n (lv' := [(1, .int (x1 + (t_sizes x2.toNatClampNeg))), (0, .ref (a_t 0)), (2, .int x2)]) hx hb dX0_total_18 rfl hl (by decide) rfl (fun ls hl => ?_)
        refine lv_iinc (v := (x2 + 1)) (lv' := [(2, .int (x2 + 1)), (1, .int (x1 + (t_sizes x2.toNatClampNeg))), (0, .ref (a_t 0))]) hx hb dX0_total_19 hl (k := 2) rfl rfl (by decide) rfl (fun ls hl => ?_)
        refine lv_goto (tgt := 4) hx hb dX0_total_22 (by decide) ?_
        exact ih4 (x1 + (t_sizes x2.toNatClampNeg)) (x2 + 1) _ _ _ hP hD hS (lv_sub hl [2, 1, 0] rfl) h
  unfold m_Bands_total at h
  refine lv_iconst (v := 0) hx hb dX0_total_0 (by decide) ?_
  refine lv_istore_n (lv' := [(1, .int 0), (0, .ref (a_t 0))]) hx hb dX0_total_1 rfl hl (by decide) rfl (fun ls hl => ?_)
  refine lv_iconst (v := 0) hx hb dX0_total_2 (by decide) ?_
  refine lv_istore_n (lv' := [(2, .int 0), (1, .int 0), (0, .ref (a_t 0))]) hx hb dX0_total_3 rfl hl (by decide) rfl (fun ls hl => ?_)
  exact L4 FU 0 0 _ _ _ hP hD hS (lv_sub hl [2, 1, 0] rfl) h
set_option maxHeartbeats 4000000 in
set_option maxRecDepth 100000 in
theorem c_Bands_pullAt (l : Launch) (dC : Nat → ClassId) (dI : Nat → Nat → Nat) (cI cZ : ClassId) (a_t : Nat → Nat) (t_lows : Nat → Int32) (t_sizes : Nat → Int32) (t_parts : Nat → Int32) (y1 : Int32) (r0 : Int32) (h : m_Bands_pullAt y1 t_lows t_sizes = some r0) : (MI l yX0_pullAt wsX0_pullAt ({ frames := 0, cells := 0, slots := 0, locals := 0 }) (dC, dI) [(cI, .int), (cZ, .boolean)] (wd_tBands cI cZ a_t t_lows t_sizes t_parts) (wd_tBands cI cZ a_t t_lows t_sizes t_parts) [.ref (a_t 0), .int y1] r0) := by
  intro sz
  refine Met.ofW (cc := cX0_pullAt) (maxL := 4) (ret := (some .int)) (by decide) rfl ?_
  intro p e s m args below meth c s₁ B hml hv
  obtain ⟨rfl, hsz, hP, hK, hD0⟩ := hv
  have hx := B.exec
  have hb := B.bytes
  have hr := B.returns
  have hts := atoms_spec (ws := wsX0_pullAt) B.pre
  have hown : s.vm.findClass RX0 = some m.cls := findClass_of_methodNamed B.named
  have hlocks := B.notSynchronized
  subst hsz
  have hD := hD0.self (sz := s.heap.size)
  have hA : ∀ q : Nat, s.heap.size ≤ q → va_A (wd_tBands cI cZ a_t t_lows t_sizes t_parts) s.heap.size q := fun q h => Or.inr h
  have hS : va_S (va_A (wd_tBands cI cZ a_t t_lows t_sizes t_parts) s.heap.size) s.heap s.heap [] := va_S.rf
  have hin0 : ∀ w ∈ u_ws RX0 TX0 3, w ∈ wsX0_pullAt := fun w h => List.mem_cons_of_mem _ (List.mem_append_right _ h)
  have hl := lv_entry ([.ref (a_t 0), .int y1]) (n := 4) (Nat.le_of_ble_eq_true rfl)
  rw [lg_entry_eq]
  generalize (lg_sl ([.ref (a_t 0), .int y1]) ++ List.replicate (4 - (lg_sl ([.ref (a_t 0), .int y1])).length) Slot.unset).toArray = ls at hl ⊢
  have hl : lv_has ls 4 [(0, .ref (a_t 0)), (1, .int y1)] := hl
  have J28 : ∀ (x1 : Int32) (x2 : Int32) (x3 : Int32)  (H : Heap) (locs : List Loc) (ls : Array Slot), va_P (dC, dI) vwCl (wd_tBands cI cZ a_t t_lows t_sizes t_parts) H → va_D (va_A (wd_tBands cI cZ a_t t_lows t_sizes t_parts) s.heap.size) (wd_tBands cI cZ a_t t_lows t_sizes t_parts) → va_S (va_A (wd_tBands cI cZ a_t t_lows t_sizes t_parts) s.heap.size) s.heap H locs → lv_has ls 4 [(0, .ref (a_t 0)), (1, .int x1), (2, .int x2), (3, .int x3)] → m_Bands_pullAt_B28  x1 x2 x3 t_lows t_sizes = some r0 → W p l e (headSpec wsX0_pullAt ({ frames := 0, cells := 0, slots := 0, locals := 0 })).room s m ([.ref (a_t 0), .int y1] : List Value).toArray below meth c H locs 0 0 (MQ below (cQi (dC, dI) (wd_tBands cI cZ a_t t_lows t_sizes t_parts) (wd_tBands cI cZ a_t t_lows t_sizes t_parts) s.heap.size r0) ([.ref (a_t 0), .int y1] : List Value).toArray s 0 0 (va_A (wd_tBands cI cZ a_t t_lows t_sizes t_parts) s.heap.size)) (F0 m 28 ls []) := by
    intro x1 x2 x3 H locs ls hP hD hS hl h
    unfold m_Bands_pullAt_B28 at h
    refine lv_aload_n hx hb dX0_pullAt_28 rfl (lv_at hl 0 rfl) ?_
    refine va_get (D := (dC, dI)) (ci := 0) (v := .ref (a_t 1)) (C := RX0) (T := TX0) (N := 3) hx hb hts hin0 hown hK hP 0 rfl rfl 0 (by decide) (hts (.fieldLink RX0 11 "TowedBack$Bands" "lows" "[I") (List.mem_of_getElem? (i := 2) rfl)) (fun _ h9 => h9) rfl dX0_pullAt_29 ?_
    refine lv_iload_n hx hb dX0_pullAt_32 rfl (lv_at hl 3 rfl) ?_
    obtain ⟨hi1, h⟩ := kg_some h
    refine va_iald hx hb hK hP 1 0 rfl rfl hi1 dX0_pullAt_33 ?_
    refine lv_iload_n hx hb dX0_pullAt_34 rfl (lv_at hl 1 rfl) ?_
    refine lv_iadd hx hb dX0_pullAt_35 ?_
    refine lv_iload_n hx hb dX0_pullAt_36 rfl (lv_at hl 2 rfl) ?_
    refine lv_isub hx hb dX0_pullAt_37 ?_
    obtain rfl := k_in1 h
    exact k_ri hx hb hr hlocks hP hS dX0_pullAt_38
  have L10 : ∀ (n10 : Nat) (x1 : Int32) (x2 : Int32) (x3 : Int32)  (H : Heap) (locs : List Loc) (ls : Array Slot), va_P (dC, dI) vwCl (wd_tBands cI cZ a_t t_lows t_sizes t_parts) H → va_D (va_A (wd_tBands cI cZ a_t t_lows t_sizes t_parts) s.heap.size) (wd_tBands cI cZ a_t t_lows t_sizes t_parts) → va_S (va_A (wd_tBands cI cZ a_t t_lows t_sizes t_parts) s.heap.size) s.heap H locs → lv_has ls 4 [(0, .ref (a_t 0)), (1, .int x1), (2, .int x2), (3, .int x3)] → m_Bands_pullAt_L10  n10 x1 x2 x3 t_lows t_sizes = some r0 → W p l e (headSpec wsX0_pullAt ({ frames := 0, cells := 0, slots := 0, locals := 0 })).room s m ([.ref (a_t 0), .int y1] : List Value).toArray below meth c H locs 0 0 (MQ below (cQi (dC, dI) (wd_tBands cI cZ a_t t_lows t_sizes t_parts) (wd_tBands cI cZ a_t t_lows t_sizes t_parts) s.heap.size r0) ([.ref (a_t 0), .int y1] : List Value).toArray s 0 0 (va_A (wd_tBands cI cZ a_t t_lows t_sizes t_parts) s.heap.size)) (F0 m 10 ls []) := by
    intro n10
    induction n10 with
    | zero => intro x1 x2 x3 H locs ls hP hD hS hl h; have h : none = some r0 := h; cases h
    | succ n10 ih10 =>
      intro x1 x2 x3 H locs ls hP hD hS hl h
      have h : m_Bands_pullAt_B10  (m_Bands_pullAt_L10  n10) x1 x2 x3 t_lows t_sizes = some r0 := h
      unfold m_Bands_pullAt_B10 at h
      refine lv_iload_n hx hb dX0_pullAt_10 rfl (lv_at hl 3 rfl) ?_
      refine lv_bipush (v := 31) hx hb dX0_pullAt_11 (by decide) ?_
      refine lv_icmp_ge (tgt := 54) hx hb dX0_pullAt_13 (by decide) (fun hc => ?_) (fun hc => ?_)
      · have h := k_pos hc h
        refine lv_iconst (v := (-1)) hx hb dX0_pullAt_54 (by decide) ?_
        obtain rfl := k_in1 h
        exact k_ri hx hb hr hlocks hP hS dX0_pullAt_55
      · have h := k_neg hc h
        refine lv_iload_n hx hb dX0_pullAt_16 rfl (lv_at hl 1 rfl) ?_
        refine lv_iload_n hx hb dX0_pullAt_17 rfl (lv_at hl 2 rfl) ?_
        refine lv_aload_n hx hb dX0_pullAt_18 rfl (lv_at hl 0 rfl) ?_
        refine va_get (D := (dC, dI)) (ci := 0) (v := .ref (a_t 2)) (C := RX0) (T := TX0) (N := 3) hx hb hts hin0 hown hK hP 0 rfl rfl 1 (by decide) (hts (.fieldLink RX0 15 "TowedBack$Bands" "sizes" "[I") (List.mem_of_getElem? (i := 1) rfl)) (fun _ h9 => h9) rfl dX0_pullAt_19 ?_
        refine lv_iload_n hx hb dX0_pullAt_22 rfl (lv_at hl 3 rfl) ?_
        obtain ⟨hi2, h⟩ := kg_some h
        refine va_iald hx hb hK hP 2 0 rfl rfl hi2 dX0_pullAt_23 ?_
        refine lv_iadd hx hb dX0_pullAt_24 ?_
        refine lv_icmp_ge (tgt := 39) hx hb dX0_pullAt_25 (by decide) (fun hc => ?_) (fun hc => ?_)
        · have h := k_pos hc h
          refine lv_iload_n hx hb dX0_pullAt_39 rfl (lv_at hl 2 rfl) ?_
          refine lv_aload_n hx hb dX0_pullAt_40 rfl (lv_at hl 0 rfl) ?_
          refine va_get (D := (dC, dI)) (ci := 0) (v := .ref (a_t 2)) (C := RX0) (T := TX0) (N := 3) hx hb hts hin0 hown hK hP 0 rfl rfl 1 (by decide) (hts (.fieldLink RX0 15 "TowedBack$Bands" "sizes" "[I") (List.mem_of_getElem? (i := 1) rfl)) (fun _ h9 => h9) rfl dX0_pullAt_41 ?_
          refine lv_iload_n hx hb dX0_pullAt_44 rfl (lv_at hl 3 rfl) ?_
          obtain ⟨hi3, h⟩ := kg_some h
          refine va_iald hx hb hK hP 2 0 rfl rfl hi3 dX0_pullAt_45 ?_
          refine lv_iadd hx hb dX0_pullAt_46 ?_
          refine lv_istore_n (lv' := [(2, .int (x2 + (t_sizes x3.toNatClampNeg))), (0, .ref (a_t 0)), (1, .int x1), (3, .int x3)]) hx hb dX0_pullAt_47 rfl hl (by decide) rfl (fun ls hl => ?_)
          refine lv_iinc (v := (x3 + 1)) (lv' := [(3, .int (x3 + 1)), (2, .int (x2 + (t_sizes x3.toNatClampNeg))), (0, .ref (a_t 0)), (1, .int x1)]) hx hb dX0_pullAt_48 hl (k := 3) rfl rfl (by decide) rfl (fun ls hl => ?_)
          refine lv_goto (tgt := 10) hx hb dX0_pullAt_51 (by decide) ?_
          exact ih10 x1 (x2 + (t_sizes x3.toNatClampNeg)) (x3 + 1) _ _ _ hP hD hS (lv_sub hl [2, 3, 1, 0] rfl) h
        · have h := k_neg hc h
          exact J28 x1 x2 x3 _ _ _ hP hD hS (lv_sub hl [0, 1, 2, 3] rfl) h
  unfold m_Bands_pullAt at h
  refine lv_iload_n hx hb dX0_pullAt_0 rfl (lv_at hl 1 rfl) ?_
  refine lv_if_ge (tgt := 6) hx hb dX0_pullAt_1 (by decide) (fun hc => ?_) (fun hc => ?_)
  · have h := k_pos hc h
    refine lv_iconst (v := 0) hx hb dX0_pullAt_6 (by decide) ?_
    refine lv_istore_n (lv' := [(2, .int 0), (0, .ref (a_t 0)), (1, .int y1)]) hx hb dX0_pullAt_7 rfl hl (by decide) rfl (fun ls hl => ?_)
    refine lv_iconst (v := 0) hx hb dX0_pullAt_8 (by decide) ?_
    refine lv_istore_n (lv' := [(3, .int 0), (2, .int 0), (0, .ref (a_t 0)), (1, .int y1)]) hx hb dX0_pullAt_9 rfl hl (by decide) rfl (fun ls hl => ?_)
    exact L10 FU y1 0 0 _ _ _ hP hD hS (lv_sub hl [2, 3, 1, 0] rfl) h
  · have h := k_neg hc h
    refine lv_iconst (v := (-1)) hx hb dX0_pullAt_4 (by decide) ?_
    obtain rfl := k_in1 h
    exact k_ri hx hb hr hlocks hP hS dX0_pullAt_5
set_option maxHeartbeats 4000000 in
set_option maxRecDepth 100000 in
theorem c_Bands_greatestPart (l : Launch) (dC : Nat → ClassId) (dI : Nat → Nat → Nat) (cI cZ : ClassId) (a_t a_wy : Nat → Nat) (t_lows : Nat → Int32) (t_sizes : Nat → Int32) (i_t_parts : Nat → Int32) (wy_places : Nat → Int32) (wy_needs : Nat → Int32) (wy_last : Int32) (y2 : Int32) (r0 : Int32) (o_t_parts : Nat → Int32) (h : m_Bands_greatestPart y2 t_sizes i_t_parts wy_places wy_last = some (r0, o_t_parts)) : (MI l yX0_greatestPart wsX0_greatestPart ({ frames := 1, cells := 0, slots := 0, locals := 21 }) (dC, dI) [(cI, .int), (cZ, .boolean)] (wd_tBands_wyWay cI cZ a_t a_wy t_lows t_sizes i_t_parts wy_places wy_needs wy_last) (wd_tBands_wyWay cI cZ a_t a_wy t_lows t_sizes o_t_parts wy_places wy_needs wy_last) [.ref (a_t 0), .ref (a_wy 0), .int y2] r0) := by
  intro sz
  refine Met.ofW (cc := cX0_greatestPart) (maxL := 6) (ret := (some .int)) (by decide) rfl ?_
  intro p e s m args below meth c s₁ B hml hv
  obtain ⟨rfl, hsz, hP, hK, hD0⟩ := hv
  have hx := B.exec
  have hb := B.bytes
  have hr := B.returns
  have hts := atoms_spec (ws := wsX0_greatestPart) B.pre
  have hown : s.vm.findClass RX0 = some m.cls := findClass_of_methodNamed B.named
  have hlocks := B.notSynchronized
  subst hsz
  have hD := hD0.self (sz := s.heap.size)
  have hA : ∀ q : Nat, s.heap.size ≤ q → va_A (wd_tBands_wyWay cI cZ a_t a_wy t_lows t_sizes i_t_parts wy_places wy_needs wy_last) s.heap.size q := fun q h => Or.inr h
  have hS : va_S (va_A (wd_tBands_wyWay cI cZ a_t a_wy t_lows t_sizes i_t_parts wy_places wy_needs wy_last) s.heap.size) s.heap s.heap [] := va_S.rf
  have hin0 : ∀ w ∈ u_ws RX0 TX0 3, w ∈ wsX0_greatestPart := fun w h => List.mem_cons_of_mem _ (List.mem_append_left _ (List.mem_append_right _ h))
  have hl := lv_entry ([.ref (a_t 0), .ref (a_wy 0), .int y2]) (n := 6) (Nat.le_of_ble_eq_true rfl)
  rw [lg_entry_eq]
  generalize (lg_sl ([.ref (a_t 0), .ref (a_wy 0), .int y2]) ++ List.replicate (6 - (lg_sl ([.ref (a_t 0), .ref (a_wy 0), .int y2])).length) Slot.unset).toArray = ls at hl ⊢
  have hl : lv_has ls 6 [(0, .ref (a_t 0)), (1, .ref (a_wy 0)), (2, .int y2)] := hl
  have L26 : ∀ (n26 : Nat) (x2 : Int32) (x3 : Int32) (x4 : Int32) (t_parts : Nat → Int32) (H : Heap) (locs : List Loc) (ls : Array Slot), va_P (dC, dI) vwCl (wd_tBands_wyWay cI cZ a_t a_wy t_lows t_sizes t_parts wy_places wy_needs wy_last) H → va_D (va_A (wd_tBands_wyWay cI cZ a_t a_wy t_lows t_sizes i_t_parts wy_places wy_needs wy_last) s.heap.size) (wd_tBands_wyWay cI cZ a_t a_wy t_lows t_sizes t_parts wy_places wy_needs wy_last) → va_S (va_A (wd_tBands_wyWay cI cZ a_t a_wy t_lows t_sizes i_t_parts wy_places wy_needs wy_last) s.heap.size) s.heap H locs → lv_has ls 6 [(0, .ref (a_t 0)), (1, .ref (a_wy 0)), (2, .int x2), (3, .int x3), (4, .int x4)] → m_Bands_greatestPart_L26  n26 x2 x3 x4 t_sizes t_parts wy_places wy_last = some (r0, o_t_parts) → W p l e (headSpec wsX0_greatestPart ({ frames := 1, cells := 0, slots := 0, locals := 21 })).room s m ([.ref (a_t 0), .ref (a_wy 0), .int y2] : List Value).toArray below meth c H locs 0 0 (MQ below (cQi (dC, dI) (wd_tBands_wyWay cI cZ a_t a_wy t_lows t_sizes i_t_parts wy_places wy_needs wy_last) (wd_tBands_wyWay cI cZ a_t a_wy t_lows t_sizes o_t_parts wy_places wy_needs wy_last) s.heap.size r0) ([.ref (a_t 0), .ref (a_wy 0), .int y2] : List Value).toArray s 0 0 (va_A (wd_tBands_wyWay cI cZ a_t a_wy t_lows t_sizes i_t_parts wy_places wy_needs wy_last) s.heap.size)) (F0 m 26 ls []) := by
    intro n26
    induction n26 with
    | zero => intro x2 x3 x4 t_parts H locs ls hP hD hS hl h; have h : none = some (r0, o_t_parts) := h; cases h
    | succ n26 ih26 =>
      intro x2 x3 x4 t_parts H locs ls hP hD hS hl h
      have h : m_Bands_greatestPart_B26  (m_Bands_greatestPart_L26  n26) x2 x3 x4 t_sizes t_parts wy_places wy_last = some (r0, o_t_parts) := h
      have J89 : ∀ (x2 : Int32) (x3 : Int32) (x4 : Int32) (t_parts : Nat → Int32) (H : Heap) (locs : List Loc) (ls : Array Slot), va_P (dC, dI) vwCl (wd_tBands_wyWay cI cZ a_t a_wy t_lows t_sizes t_parts wy_places wy_needs wy_last) H → va_D (va_A (wd_tBands_wyWay cI cZ a_t a_wy t_lows t_sizes i_t_parts wy_places wy_needs wy_last) s.heap.size) (wd_tBands_wyWay cI cZ a_t a_wy t_lows t_sizes t_parts wy_places wy_needs wy_last) → va_S (va_A (wd_tBands_wyWay cI cZ a_t a_wy t_lows t_sizes i_t_parts wy_places wy_needs wy_last) s.heap.size) s.heap H locs → lv_has ls 6 [(0, .ref (a_t 0)), (1, .ref (a_wy 0)), (2, .int x2), (3, .int x3), (4, .int x4)] → m_Bands_greatestPart_B89 (m_Bands_greatestPart_L26  n26) x2 x3 x4 t_sizes t_parts wy_places wy_last = some (r0, o_t_parts) → W p l e (headSpec wsX0_greatestPart ({ frames := 1, cells := 0, slots := 0, locals := 21 })).room s m ([.ref (a_t 0), .ref (a_wy 0), .int y2] : List Value).toArray below meth c H locs 0 0 (MQ below (cQi (dC, dI) (wd_tBands_wyWay cI cZ a_t a_wy t_lows t_sizes i_t_parts wy_places wy_needs wy_last) (wd_tBands_wyWay cI cZ a_t a_wy t_lows t_sizes o_t_parts wy_places wy_needs wy_last) s.heap.size r0) ([.ref (a_t 0), .ref (a_wy 0), .int y2] : List Value).toArray s 0 0 (va_A (wd_tBands_wyWay cI cZ a_t a_wy t_lows t_sizes i_t_parts wy_places wy_needs wy_last) s.heap.size)) (F0 m 89 ls []) := by
        intro x2 x3 x4 t_parts H locs ls hP hD hS hl h
        unfold m_Bands_greatestPart_B89 at h
        refine lv_iinc (v := (x4 + 1)) (lv' := [(4, .int (x4 + 1)), (0, .ref (a_t 0)), (1, .ref (a_wy 0)), (2, .int x2), (3, .int x3)]) hx hb dX0_greatestPart_89 hl (k := 4) rfl rfl (by decide) rfl (fun ls hl => ?_)
        refine lv_goto (tgt := 26) hx hb dX0_greatestPart_92 (by decide) ?_
        exact ih26 x2 x3 (x4 + 1) t_parts _ _ _ hP hD hS (lv_sub hl [1, 2, 3, 4, 0] rfl) h
      unfold m_Bands_greatestPart_B26 at h
      refine lv_iload hx hb dX0_greatestPart_26 (lv_at hl 4 rfl) ?_
      refine lv_bipush (v := 31) hx hb dX0_greatestPart_28 (by decide) ?_
      refine lv_icmp_ge (tgt := 95) hx hb dX0_greatestPart_30 (by decide) (fun hc => ?_) (fun hc => ?_)
      · have h := k_pos hc h
        refine lv_iload_n hx hb dX0_greatestPart_95 rfl (lv_at hl 3 rfl) ?_
        obtain ⟨rfl, rfl⟩ := k_in2 h
        exact k_ri hx hb hr hlocks hP hS dX0_greatestPart_96
      · have h := k_neg hc h
        refine lv_aload_n hx hb dX0_greatestPart_33 rfl (lv_at hl 1 rfl) ?_
        refine lv_iload hx hb dX0_greatestPart_34 (lv_at hl 4 rfl) ?_
        refine lv_iload_n hx hb dX0_greatestPart_36 rfl (lv_at hl 2 rfl) ?_
        refine va_mmin hx hb (hml.trans hl.1.symm) hown (hts (.methodLink RX0 43 Lib.Math.min.name) (List.mem_of_getElem? (i := 2) rfl)) (hts (.static Lib.Math.min.name) (List.mem_of_getElem? (i := 3) rfl)) (hts (.initialized "java/lang/Math") (List.mem_of_getElem? (i := 4) rfl)) (hts (.code Lib.Math.min.name Lib.Math.min.code 2 (some .int)) (List.mem_of_getElem? (i := 5) rfl)) (Nat.le_of_ble_eq_true rfl) (Nat.le_of_ble_eq_true rfl) (Nat.zero_le _) (Nat.zero_le _) dX0_greatestPart_37 ?_
        obtain ⟨r1, hc1, h⟩ := kb1_some h
        refine k_RVi (rest := []) (As := [.int (if x2 < x4 then x2 else x4)]) ⟨hx, hb, hml, hown, hts⟩ (c_Way_place l dC dI cI cZ a_wy wy_places wy_needs wy_last (if x2 < x4 then x2 else x4) r1 hc1) (cwV 1 hts gX0_greatestPart_X10_place rfl rfl rfl hd_10_place ⟨Nat.le_of_ble_eq_true rfl, Nat.le_of_ble_eq_true rfl⟩) hK hP hD hS hA [4, 5, 6] rfl (by decide +kernel) 4 10 rfl rfl rfl rfl hl.1 rfl (Nat.le_of_ble_eq_true rfl) dX0_greatestPart_40 ⟨Nat.zero_le _, Nat.zero_le _⟩ (fun H locs hP hD hS => ?_)
        refine lv_istore (lv' := [(5, .int r1), (0, .ref (a_t 0)), (1, .ref (a_wy 0)), (2, .int x2), (3, .int x3), (4, .int x4)]) hx hb dX0_greatestPart_43 hl (by decide) rfl (fun ls hl => ?_)
        refine lv_iload hx hb dX0_greatestPart_45 (lv_at hl 0 rfl) ?_
        refine lv_if_lt (tgt := 89) hx hb dX0_greatestPart_47 (by decide) (fun hc => ?_) (fun hc => ?_)
        · have h := k_pos hc h
          exact J89 x2 x3 x4 t_parts _ _ _ hP hD hS (lv_sub hl [1, 2, 3, 4, 5] rfl) h
        · have h := k_neg hc h
          refine lv_iload hx hb dX0_greatestPart_50 (lv_at hl 0 rfl) ?_
          refine lv_bipush (v := 9) hx hb dX0_greatestPart_52 (by decide) ?_
          refine lv_icmp_lt (tgt := 60) hx hb dX0_greatestPart_54 (by decide) (fun hc => ?_) (fun hc => ?_)
          · have h := k_pos hc h
            refine lv_aload_n hx hb dX0_greatestPart_60 rfl (lv_at hl 1 rfl) ?_
            refine va_get (D := (dC, dI)) (ci := 0) (v := .ref (a_t 3)) (C := RX0) (T := TX0) (N := 3) hx hb hts hin0 hown hK hP 0 rfl rfl 2 (by decide) (hts (.fieldLink RX0 18 "TowedBack$Bands" "parts" "[I") (List.mem_of_getElem? (i := 1) rfl)) (fun _ h9 => h9) rfl dX0_greatestPart_61 ?_
            refine lv_iload hx hb dX0_greatestPart_64 (lv_at hl 0 rfl) ?_
            refine lv_dup2_11 hx hb dX0_greatestPart_66 rfl rfl ?_
            obtain ⟨hi2, h⟩ := kg_some h
            refine va_iald hx hb hK hP 3 0 rfl rfl hi2 dX0_greatestPart_67 ?_
            refine lv_aload_n hx hb dX0_greatestPart_68 rfl (lv_at hl 1 rfl) ?_
            refine va_get (D := (dC, dI)) (ci := 0) (v := .ref (a_t 2)) (C := RX0) (T := TX0) (N := 3) hx hb hts hin0 hown hK hP 0 rfl rfl 1 (by decide) (hts (.fieldLink RX0 15 "TowedBack$Bands" "sizes" "[I") (List.mem_of_getElem? (i := 6) rfl)) (fun _ h9 => h9) rfl dX0_greatestPart_69 ?_
            refine lv_iload hx hb dX0_greatestPart_72 (lv_at hl 5 rfl) ?_
            obtain ⟨hi3, h⟩ := kg_some h
            refine va_iald hx hb hK hP 2 0 rfl rfl hi3 dX0_greatestPart_74 ?_
            refine lv_iadd hx hb dX0_greatestPart_75 ?_
            obtain ⟨hi4, h⟩ := kg_some h
            refine va_iast hx hb hK hP hD hS 3 0 rfl rfl hi4 dX0_greatestPart_76 (fun H locs hP hD hS => ?_)
            have hP : va_P (dC, dI) vwCl (wd_tBands_wyWay cI cZ a_t a_wy t_lows t_sizes (upd t_parts r1.toNatClampNeg ((t_parts r1.toNatClampNeg) + (t_sizes x4.toNatClampNeg))) wy_places wy_needs wy_last) H := hP
            have hD : va_D (va_A (wd_tBands_wyWay cI cZ a_t a_wy t_lows t_sizes i_t_parts wy_places wy_needs wy_last) s.heap.size) (wd_tBands_wyWay cI cZ a_t a_wy t_lows t_sizes (upd t_parts r1.toNatClampNeg ((t_parts r1.toNatClampNeg) + (t_sizes x4.toNatClampNeg))) wy_places wy_needs wy_last) := hD
            refine lv_iload_n hx hb dX0_greatestPart_77 rfl (lv_at hl 4 rfl) ?_
            refine lv_aload_n hx hb dX0_greatestPart_78 rfl (lv_at hl 1 rfl) ?_
            refine va_get (D := (dC, dI)) (ci := 0) (v := .ref (a_t 3)) (C := RX0) (T := TX0) (N := 3) hx hb hts hin0 hown hK hP 0 rfl rfl 2 (by decide) (hts (.fieldLink RX0 18 "TowedBack$Bands" "parts" "[I") (List.mem_of_getElem? (i := 1) rfl)) (fun _ h9 => h9) rfl dX0_greatestPart_79 ?_
            refine lv_iload hx hb dX0_greatestPart_82 (lv_at hl 0 rfl) ?_
            obtain ⟨hi5, h⟩ := kg_some h
            refine va_iald hx hb hK hP 3 0 rfl rfl hi5 dX0_greatestPart_84 ?_
            refine va_mmax hx hb (hml.trans hl.1.symm) hown (hts (.methodLink RX0 63 Lib.Math.max.name) (List.mem_of_getElem? (i := 7) rfl)) (hts (.static Lib.Math.max.name) (List.mem_of_getElem? (i := 8) rfl)) (hts (.initialized "java/lang/Math") (List.mem_of_getElem? (i := 4) rfl)) (hts (.code Lib.Math.max.name Lib.Math.max.code 2 (some .int)) (List.mem_of_getElem? (i := 9) rfl)) (Nat.le_of_ble_eq_true rfl) (Nat.le_of_ble_eq_true rfl) (Nat.zero_le _) (Nat.zero_le _) dX0_greatestPart_85 ?_
            refine lv_istore_n (lv' := [(3, .int (if x3 < ((upd t_parts r1.toNatClampNeg ((t_parts r1.toNatClampNeg) + (t_sizes x4.toNatClampNeg))) r1.toNatClampNeg) then ((upd t_parts r1.toNatClampNeg ((t_parts r1.toNatClampNeg) + (t_sizes x4.toNatClampNeg))) r1.toNatClampNeg) else x3)), (5, .int r1), (0, .ref (a_t 0)), (1, .ref (a_wy 0)), (2, .int x2), (4, .int x4)]) hx hb dX0_greatestPart_88 rfl hl (by decide) rfl (fun ls hl => ?_)
            exact J89 x2 (if x3 < ((upd t_parts r1.toNatClampNeg ((t_parts r1.toNatClampNeg) + (t_sizes x4.toNatClampNeg))) r1.toNatClampNeg) then ((upd t_parts r1.toNatClampNeg ((t_parts r1.toNatClampNeg) + (t_sizes x4.toNatClampNeg))) r1.toNatClampNeg) else x3) x4 (upd t_parts r1.toNatClampNeg ((t_parts r1.toNatClampNeg) + (t_sizes x4.toNatClampNeg))) _ _ _ hP hD hS (lv_sub hl [2, 3, 4, 0, 5] rfl) h
          · have h := k_neg hc h
            refine lv_goto (tgt := 89) hx hb dX0_greatestPart_57 (by decide) ?_
            exact J89 x2 x3 x4 t_parts _ _ _ hP hD hS (lv_sub hl [1, 2, 3, 4, 5] rfl) h
  have J21 : ∀ (x2 : Int32) (t_parts : Nat → Int32) (H : Heap) (locs : List Loc) (ls : Array Slot), va_P (dC, dI) vwCl (wd_tBands_wyWay cI cZ a_t a_wy t_lows t_sizes t_parts wy_places wy_needs wy_last) H → va_D (va_A (wd_tBands_wyWay cI cZ a_t a_wy t_lows t_sizes i_t_parts wy_places wy_needs wy_last) s.heap.size) (wd_tBands_wyWay cI cZ a_t a_wy t_lows t_sizes t_parts wy_places wy_needs wy_last) → va_S (va_A (wd_tBands_wyWay cI cZ a_t a_wy t_lows t_sizes i_t_parts wy_places wy_needs wy_last) s.heap.size) s.heap H locs → lv_has ls 6 [(0, .ref (a_t 0)), (1, .ref (a_wy 0)), (2, .int x2)] → m_Bands_greatestPart_B21  x2 t_sizes t_parts wy_places wy_last = some (r0, o_t_parts) → W p l e (headSpec wsX0_greatestPart ({ frames := 1, cells := 0, slots := 0, locals := 21 })).room s m ([.ref (a_t 0), .ref (a_wy 0), .int y2] : List Value).toArray below meth c H locs 0 0 (MQ below (cQi (dC, dI) (wd_tBands_wyWay cI cZ a_t a_wy t_lows t_sizes i_t_parts wy_places wy_needs wy_last) (wd_tBands_wyWay cI cZ a_t a_wy t_lows t_sizes o_t_parts wy_places wy_needs wy_last) s.heap.size r0) ([.ref (a_t 0), .ref (a_wy 0), .int y2] : List Value).toArray s 0 0 (va_A (wd_tBands_wyWay cI cZ a_t a_wy t_lows t_sizes i_t_parts wy_places wy_needs wy_last) s.heap.size)) (F0 m 21 ls []) := by
    intro x2 t_parts H locs ls hP hD hS hl h
    unfold m_Bands_greatestPart_B21 at h
    refine lv_iconst (v := 0) hx hb dX0_greatestPart_21 (by decide) ?_
    refine lv_istore_n (lv' := [(3, .int 0), (0, .ref (a_t 0)), (1, .ref (a_wy 0)), (2, .int x2)]) hx hb dX0_greatestPart_22 rfl hl (by decide) rfl (fun ls hl => ?_)
    refine lv_iconst (v := 0) hx hb dX0_greatestPart_23 (by decide) ?_
    refine lv_istore (lv' := [(4, .int 0), (3, .int 0), (0, .ref (a_t 0)), (1, .ref (a_wy 0)), (2, .int x2)]) hx hb dX0_greatestPart_24 hl (by decide) rfl (fun ls hl => ?_)
    exact L26 FU x2 0 0 t_parts _ _ _ hP hD hS (lv_sub hl [2, 3, 4, 1, 0] rfl) h
  have L2 : ∀ (n2 : Nat) (x2 : Int32) (x3 : Int32) (t_parts : Nat → Int32) (H : Heap) (locs : List Loc) (ls : Array Slot), va_P (dC, dI) vwCl (wd_tBands_wyWay cI cZ a_t a_wy t_lows t_sizes t_parts wy_places wy_needs wy_last) H → va_D (va_A (wd_tBands_wyWay cI cZ a_t a_wy t_lows t_sizes i_t_parts wy_places wy_needs wy_last) s.heap.size) (wd_tBands_wyWay cI cZ a_t a_wy t_lows t_sizes t_parts wy_places wy_needs wy_last) → va_S (va_A (wd_tBands_wyWay cI cZ a_t a_wy t_lows t_sizes i_t_parts wy_places wy_needs wy_last) s.heap.size) s.heap H locs → lv_has ls 6 [(0, .ref (a_t 0)), (1, .ref (a_wy 0)), (2, .int x2), (3, .int x3)] → m_Bands_greatestPart_L2  n2 x2 x3 t_sizes t_parts wy_places wy_last = some (r0, o_t_parts) → W p l e (headSpec wsX0_greatestPart ({ frames := 1, cells := 0, slots := 0, locals := 21 })).room s m ([.ref (a_t 0), .ref (a_wy 0), .int y2] : List Value).toArray below meth c H locs 0 0 (MQ below (cQi (dC, dI) (wd_tBands_wyWay cI cZ a_t a_wy t_lows t_sizes i_t_parts wy_places wy_needs wy_last) (wd_tBands_wyWay cI cZ a_t a_wy t_lows t_sizes o_t_parts wy_places wy_needs wy_last) s.heap.size r0) ([.ref (a_t 0), .ref (a_wy 0), .int y2] : List Value).toArray s 0 0 (va_A (wd_tBands_wyWay cI cZ a_t a_wy t_lows t_sizes i_t_parts wy_places wy_needs wy_last) s.heap.size)) (F0 m 2 ls []) := by
    intro n2
    induction n2 with
    | zero => intro x2 x3 t_parts H locs ls hP hD hS hl h; have h : none = some (r0, o_t_parts) := h; cases h
    | succ n2 ih2 =>
      intro x2 x3 t_parts H locs ls hP hD hS hl h
      have h : m_Bands_greatestPart_B2  (m_Bands_greatestPart_L2  n2) x2 x3 t_sizes t_parts wy_places wy_last = some (r0, o_t_parts) := h
      unfold m_Bands_greatestPart_B2 at h
      refine lv_iload_n hx hb dX0_greatestPart_2 rfl (lv_at hl 3 rfl) ?_
      refine lv_bipush (v := 9) hx hb dX0_greatestPart_3 (by decide) ?_
      refine lv_icmp_ge (tgt := 21) hx hb dX0_greatestPart_5 (by decide) (fun hc => ?_) (fun hc => ?_)
      · have h := k_pos hc h
        exact J21 x2 t_parts _ _ _ hP hD hS (lv_sub hl [0, 1, 2] rfl) h
      · have h := k_neg hc h
        refine lv_aload_n hx hb dX0_greatestPart_8 rfl (lv_at hl 0 rfl) ?_
        refine va_get (D := (dC, dI)) (ci := 0) (v := .ref (a_t 3)) (C := RX0) (T := TX0) (N := 3) hx hb hts hin0 hown hK hP 0 rfl rfl 2 (by decide) (hts (.fieldLink RX0 18 "TowedBack$Bands" "parts" "[I") (List.mem_of_getElem? (i := 1) rfl)) (fun _ h9 => h9) rfl dX0_greatestPart_9 ?_
        refine lv_iload_n hx hb dX0_greatestPart_12 rfl (lv_at hl 3 rfl) ?_
        refine lv_iconst (v := 0) hx hb dX0_greatestPart_13 (by decide) ?_
        obtain ⟨hi6, h⟩ := kg_some h
        refine va_iast hx hb hK hP hD hS 3 0 rfl rfl hi6 dX0_greatestPart_14 (fun H locs hP hD hS => ?_)
        have hP : va_P (dC, dI) vwCl (wd_tBands_wyWay cI cZ a_t a_wy t_lows t_sizes (upd t_parts x3.toNatClampNeg 0) wy_places wy_needs wy_last) H := hP
        have hD : va_D (va_A (wd_tBands_wyWay cI cZ a_t a_wy t_lows t_sizes i_t_parts wy_places wy_needs wy_last) s.heap.size) (wd_tBands_wyWay cI cZ a_t a_wy t_lows t_sizes (upd t_parts x3.toNatClampNeg 0) wy_places wy_needs wy_last) := hD
        refine lv_iinc (v := (x3 + 1)) (lv' := [(3, .int (x3 + 1)), (0, .ref (a_t 0)), (1, .ref (a_wy 0)), (2, .int x2)]) hx hb dX0_greatestPart_15 hl (k := 3) rfl rfl (by decide) rfl (fun ls hl => ?_)
        refine lv_goto (tgt := 2) hx hb dX0_greatestPart_18 (by decide) ?_
        exact ih2 x2 (x3 + 1) (upd t_parts x3.toNatClampNeg 0) _ _ _ hP hD hS (lv_sub hl [1, 2, 3, 0] rfl) h
  unfold m_Bands_greatestPart at h
  refine lv_iconst (v := 0) hx hb dX0_greatestPart_0 (by decide) ?_
  refine lv_istore_n (lv' := [(3, .int 0), (0, .ref (a_t 0)), (1, .ref (a_wy 0)), (2, .int y2)]) hx hb dX0_greatestPart_1 rfl hl (by decide) rfl (fun ls hl => ?_)
  exact L2 FU y2 0 i_t_parts _ _ _ hP hD hS (lv_sub hl [1, 2, 3, 0] rfl) h
