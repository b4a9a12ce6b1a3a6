set_option maxHeartbeats 4000000 in
set_option maxRecDepth 100000 in
theorem c_Images_isKept (l : Launch) (dC : Nat → ClassId) (dI : Nat → Nat → Nat) (cI cZ : ClassId) (a_t a_t_shelf : Nat → Nat) (t_seeds : Nat → Int32) (t_kept : Nat → Int32) (t_shelf_nz : Nat) (t_shelf_slots : Int32) (t_shelf_rows : Nat → Int32) (y1 : Int32) (r0 : Int32) (h : m_Images_isKept y1 t_kept = some r0) : (MI l yX5_isKept wsX5_isKept ({ frames := 0, cells := 0, slots := 0, locals := 0 }) (dC, dI) [(cI, .int), (cZ, .boolean)] (wd_tImages cI cZ a_t a_t_shelf t_seeds t_kept t_shelf_nz t_shelf_slots t_shelf_rows) (wd_tImages cI cZ a_t a_t_shelf t_seeds t_kept t_shelf_nz t_shelf_slots t_shelf_rows) [.ref (a_t 0), .int y1] r0) := by
  intro sz
  refine Met.ofW (cc := cX5_isKept) (maxL := 2) (ret := (some .boolean)) (by decide) rfl ?_
  intro p e s m args below meth c s₁ B hml hv
  obtain ⟨rfl, hsz, hP, hK, hD0⟩ := hv
  have hx := B.exec
  have hb := B.bytes
  have hr := B.returns
  have hts := atoms_spec (ws := wsX5_isKept) B.pre
  have hown : s.vm.findClass RX5 = some m.cls := findClass_of_methodNamed B.named
  have hlocks := B.notSynchronized
  subst hsz
  have hD := hD0.self (sz := s.heap.size)
  have hA : ∀ q : Nat, s.heap.size ≤ q → va_A (wd_tImages cI cZ a_t a_t_shelf t_seeds t_kept t_shelf_nz t_shelf_slots t_shelf_rows) s.heap.size q := fun q h => Or.inr h
  have hS : va_S (va_A (wd_tImages cI cZ a_t a_t_shelf t_seeds t_kept t_shelf_nz t_shelf_slots t_shelf_rows) s.heap.size) s.heap s.heap [] := va_S.rf
  have hin5 : ∀ w ∈ u_ws RX5 TX5 3, w ∈ wsX5_isKept := fun w h => List.mem_cons_of_mem _ (List.mem_append_right _ h)
  have hl := lv_entry ([.ref (a_t 0), .int y1]) (n := 2) (Nat.le_of_ble_eq_true rfl)
  rw [lg_entry_eq]
  generalize (lg_sl ([.ref (a_t 0), .int y1]) ++ List.replicate (2 - (lg_sl ([.ref (a_t 0), .int y1])).length) Slot.unset).toArray = ls at hl ⊢
  have hl : lv_has ls 2 [(0, .ref (a_t 0)), (1, .int y1)] := hl
  unfold m_Images_isKept at h
  refine lv_iload_n hx hb dX5_isKept_0 rfl (lv_at hl 1 rfl) ?_
  refine lv_if_lt (tgt := 22) hx hb dX5_isKept_1 (by decide) (fun hc => ?_) (fun hc => ?_)
  · have h := k_pos hc h
    refine lv_iconst (v := 0) hx hb dX5_isKept_22 (by decide) ?_
    obtain rfl := k_in1 h
    exact k_rz hx hb hr hlocks rfl hP hS dX5_isKept_23
  · have h := k_neg hc h
    refine lv_iload_n hx hb dX5_isKept_4 rfl (lv_at hl 1 rfl) ?_
    refine lv_iconst (v := 2) hx hb dX5_isKept_5 (by decide) ?_
    refine lv_icmp_ge (tgt := 22) hx hb dX5_isKept_6 (by decide) (fun hc => ?_) (fun hc => ?_)
    · have h := k_pos hc h
      refine lv_iconst (v := 0) hx hb dX5_isKept_22 (by decide) ?_
      obtain rfl := k_in1 h
      exact k_rz hx hb hr hlocks rfl hP hS dX5_isKept_23
    · have h := k_neg hc h
      refine lv_aload_n hx hb dX5_isKept_9 rfl (lv_at hl 0 rfl) ?_
      refine va_get (D := (dC, dI)) (ci := 5) (v := .ref (a_t 2)) (C := RX5) (T := TX5) (N := 3) hx hb hts hin5 hown hK hP 0 rfl rfl 2 (by decide) (hts (.fieldLink RX5 24 "TowedBack$Images" "kept" "[Z") (List.mem_of_getElem? (i := 1) rfl)) (fun _ h9 => h9) rfl dX5_isKept_10 ?_
      refine lv_iload_n hx hb dX5_isKept_13 rfl (lv_at hl 1 rfl) ?_
      obtain ⟨hi1, h⟩ := kg_some h
      refine va_zald hx hb hK hP 2 1 rfl rfl hi1 dX5_isKept_14 ?_
      refine lv_if_eq (tgt := 22) hx hb dX5_isKept_15 (by decide) (fun hc => ?_) (fun hc => ?_)
      · have h := k_pos hc h
        refine lv_iconst (v := 0) hx hb dX5_isKept_22 (by decide) ?_
        obtain rfl := k_in1 h
        exact k_rz hx hb hr hlocks rfl hP hS dX5_isKept_23
      · have h := k_neg hc h
        refine lv_iconst (v := 1) hx hb dX5_isKept_18 (by decide) ?_
        refine lv_goto (tgt := 23) hx hb dX5_isKept_19 (by decide) ?_
        obtain rfl := k_in1 h
        exact k_rz hx hb hr hlocks rfl hP hS dX5_isKept_23
set_option maxHeartbeats 4000000 in
set_option maxRecDepth 100000 in
theorem c_Images_keepIn (l : Launch) (dC : Nat → ClassId) (dI : Nat → Nat → Nat) (cI cZ : ClassId) (a_t a_t_shelf a_fl a_dr : Nat → Nat) (i_t_seeds : Nat → Int32) (i_t_kept : Nat → Int32) (t_shelf_nz : Nat) (t_shelf_slots : Int32) (i_t_shelf_rows : Nat → Int32) (fl_row : Nat → Int32) (dr_value : Int32) (y1 : Int32) (o_t_seeds : Nat → Int32) (o_t_kept : Nat → Int32) (o_t_shelf_rows : Nat → Int32) (h : m_Images_keepIn y1 i_t_seeds i_t_kept t_shelf_nz t_shelf_slots i_t_shelf_rows fl_row dr_value = some (o_t_seeds, o_t_kept, o_t_shelf_rows)) : (MV l yX5_keepIn wsX5_keepIn ({ frames := 2, cells := 0, slots := 0, locals := 48 }) (dC, dI) [(cI, .int), (cZ, .boolean)] (wd_tImages_flFleet_drDraws cI cZ a_t a_t_shelf a_fl a_dr i_t_seeds i_t_kept t_shelf_nz t_shelf_slots i_t_shelf_rows fl_row dr_value) (wd_tImages_flFleet_drDraws cI cZ a_t a_t_shelf a_fl a_dr o_t_seeds o_t_kept t_shelf_nz t_shelf_slots o_t_shelf_rows fl_row dr_value) [.ref (a_t 0), .int y1, .ref (a_fl 0), .ref (a_dr 0)]) := by
  intro sz
  refine Met.ofW (cc := cX5_keepIn) (maxL := 4) (ret := none) (by decide) rfl ?_
  intro p e s m args below meth c s₁ B hml hv
  obtain ⟨rfl, hsz, hP, hK, hD0⟩ := hv
  have hx := B.exec
  have hb := B.bytes
  have hr := B.returns
  have hts := atoms_spec (ws := wsX5_keepIn) B.pre
  have hown : s.vm.findClass RX5 = some m.cls := findClass_of_methodNamed B.named
  have hlocks := B.notSynchronized
  subst hsz
  have hD := hD0.self (sz := s.heap.size)
  have hA : ∀ q : Nat, s.heap.size ≤ q → va_A (wd_tImages_flFleet_drDraws cI cZ a_t a_t_shelf a_fl a_dr i_t_seeds i_t_kept t_shelf_nz t_shelf_slots i_t_shelf_rows fl_row dr_value) s.heap.size q := fun q h => Or.inr h
  have hS : va_S (va_A (wd_tImages_flFleet_drDraws cI cZ a_t a_t_shelf a_fl a_dr i_t_seeds i_t_kept t_shelf_nz t_shelf_slots i_t_shelf_rows fl_row dr_value) s.heap.size) s.heap s.heap [] := va_S.rf
  have hin1 : ∀ w ∈ u_ws RX1 TX1 1, w ∈ wsX5_keepIn := fun w h => List.mem_cons_of_mem _ (List.mem_append_left _ (List.mem_append_left _ (List.mem_append_right _ h)))
  have hin5 : ∀ w ∈ u_ws RX5 TX5 3, w ∈ wsX5_keepIn := fun w h => List.mem_cons_of_mem _ (List.mem_append_left _ (List.mem_append_left _ (List.mem_append_left _ (List.mem_append_right _ h))))
  have hl := lv_entry ([.ref (a_t 0), .int y1, .ref (a_fl 0), .ref (a_dr 0)]) (n := 4) (Nat.le_of_ble_eq_true rfl)
  rw [lg_entry_eq]
  generalize (lg_sl ([.ref (a_t 0), .int y1, .ref (a_fl 0), .ref (a_dr 0)]) ++ List.replicate (4 - (lg_sl ([.ref (a_t 0), .int y1, .ref (a_fl 0), .ref (a_dr 0)])).length) Slot.unset).toArray = ls at hl ⊢
  have hl : lv_has ls 4 [(0, .ref (a_t 0)), (1, .int y1), (2, .ref (a_fl 0)), (3, .ref (a_dr 0))] := hl
  unfold m_Images_keepIn at h
  refine lv_iload_n hx hb dX5_keepIn_0 rfl (lv_at hl 1 rfl) ?_
  refine lv_if_lt (tgt := 9) hx hb dX5_keepIn_1 (by decide) (fun hc => ?_) (fun hc => ?_)
  · have h := k_pos hc h
    obtain ⟨rfl, rfl, rfl⟩ := k_in3 h
    exact k_rv hx hb hr hlocks hP hS dX5_keepIn_9
  · have h := k_neg hc h
    refine lv_iload_n hx hb dX5_keepIn_4 rfl (lv_at hl 1 rfl) ?_
    refine lv_iconst (v := 2) hx hb dX5_keepIn_5 (by decide) ?_
    refine lv_icmp_lt (tgt := 10) hx hb dX5_keepIn_6 (by decide) (fun hc => ?_) (fun hc => ?_)
    · have h := k_pos hc h
      refine lv_aload_n hx hb dX5_keepIn_10 rfl (lv_at hl 0 rfl) ?_
      refine va_get (D := (dC, dI)) (ci := 5) (v := .ref (a_t_shelf 0)) (C := RX5) (T := TX5) (N := 3) hx hb hts hin5 hown hK hP 0 rfl rfl 0 (by decide) (hts (.fieldLink RX5 14 "TowedBack$Images" "shelf" "LTowedBack$Shelf;") (List.mem_of_getElem? (i := 1) rfl)) (fun _ h9 => h9) rfl dX5_keepIn_11 ?_
      refine lv_iload_n hx hb dX5_keepIn_14 rfl (lv_at hl 1 rfl) ?_
      refine lv_aload_n hx hb dX5_keepIn_15 rfl (lv_at hl 2 rfl) ?_
      obtain ⟨t_shelf_rows_1, hc1, h⟩ := kb1_some h
      refine k_GVv (rest := []) (As := [.int y1, .ref (a_fl 0)]) (ws' := (wd_tImages_flFleet_drDraws cI cZ a_t a_t_shelf a_fl a_dr i_t_seeds i_t_kept t_shelf_nz t_shelf_slots t_shelf_rows_1 fl_row dr_value)) ⟨hx, hb, hml, hown, hts⟩ (c_Shelf_store l dC dI cI cZ a_t_shelf a_fl t_shelf_nz t_shelf_slots i_t_shelf_rows fl_row y1 t_shelf_rows_1 hc1) (cwV 2 hts gX5_keepIn_X8_store rfl rfl rfl hd_8_store ⟨Nat.le_of_ble_eq_true rfl, Nat.le_of_ble_eq_true rfl⟩) hK hP hD hS hA [3, 4, 5, 6] rfl (by decide +kernel) 3 8 rfl rfl rfl [0, 1, 2, 7] rfl (k_allc rfl rfl (k_allc rfl rfl (k_allc rfl rfl (k_allc rfl rfl k_alln)))) 8 rfl (by decide +kernel) (wd_tImages_flFleet_drDraws_f.trans wd_tImages_flFleet_drDraws_f.symm) rfl hl.1 rfl (Nat.le_of_ble_eq_true rfl) dX5_keepIn_16 ⟨Nat.zero_le _, Nat.zero_le _⟩ (fun H locs hP hD hS => ?_)
      refine lv_aload_n hx hb dX5_keepIn_19 rfl (lv_at hl 0 rfl) ?_
      refine va_get (D := (dC, dI)) (ci := 5) (v := .ref (a_t 1)) (C := RX5) (T := TX5) (N := 3) hx hb hts hin5 hown hK hP 0 rfl rfl 1 (by decide) (hts (.fieldLink RX5 20 "TowedBack$Images" "seeds" "[I") (List.mem_of_getElem? (i := 2) rfl)) (fun _ h9 => h9) rfl dX5_keepIn_20 ?_
      refine lv_iload_n hx hb dX5_keepIn_23 rfl (lv_at hl 1 rfl) ?_
      refine lv_aload_n hx hb dX5_keepIn_24 rfl (lv_at hl 3 rfl) ?_
      refine va_get (D := (dC, dI)) (ci := 1) (v := .int dr_value) (C := RX1) (T := TX1) (N := 1) hx hb hts hin1 hown hK hP 7 rfl rfl 0 (by decide) (hts (.fieldLink RX5 32 "TowedBack$Draws" "value" "I") (List.mem_of_getElem? (i := 3) rfl)) (fun _ h9 => h9) rfl dX5_keepIn_25 ?_
      obtain ⟨hi2, h⟩ := kg_some h
      refine va_iast hx hb hK hP hD hS 1 0 rfl rfl hi2 dX5_keepIn_28 (fun H locs hP hD hS => ?_)
      have hP : va_P (dC, dI) vwCl (wd_tImages_flFleet_drDraws cI cZ a_t a_t_shelf a_fl a_dr (upd i_t_seeds y1.toNatClampNeg dr_value) i_t_kept t_shelf_nz t_shelf_slots t_shelf_rows_1 fl_row dr_value) H := hP
      have hD : va_D (va_A (wd_tImages_flFleet_drDraws cI cZ a_t a_t_shelf a_fl a_dr i_t_seeds i_t_kept t_shelf_nz t_shelf_slots i_t_shelf_rows fl_row dr_value) s.heap.size) (wd_tImages_flFleet_drDraws cI cZ a_t a_t_shelf a_fl a_dr (upd i_t_seeds y1.toNatClampNeg dr_value) i_t_kept t_shelf_nz t_shelf_slots t_shelf_rows_1 fl_row dr_value) := hD
      refine lv_aload_n hx hb dX5_keepIn_29 rfl (lv_at hl 0 rfl) ?_
      refine va_get (D := (dC, dI)) (ci := 5) (v := .ref (a_t 2)) (C := RX5) (T := TX5) (N := 3) hx hb hts hin5 hown hK hP 0 rfl rfl 2 (by decide) (hts (.fieldLink RX5 24 "TowedBack$Images" "kept" "[Z") (List.mem_of_getElem? (i := 4) rfl)) (fun _ h9 => h9) rfl dX5_keepIn_30 ?_
      refine lv_iload_n hx hb dX5_keepIn_33 rfl (lv_at hl 1 rfl) ?_
      refine lv_iconst (v := 1) hx hb dX5_keepIn_34 (by decide) ?_
      obtain ⟨hi3, h⟩ := kg_some h
      refine va_zast hx hb hK hP hD hS 2 1 rfl rfl hi3 dX5_keepIn_35 (fun H locs hP hD hS => ?_)
      have hP : va_P (dC, dI) vwCl (wd_tImages_flFleet_drDraws cI cZ a_t a_t_shelf a_fl a_dr (upd i_t_seeds y1.toNatClampNeg dr_value) (upd i_t_kept y1.toNatClampNeg (vp_nar .boolean 1)) t_shelf_nz t_shelf_slots t_shelf_rows_1 fl_row dr_value) H := hP
      have hD : va_D (va_A (wd_tImages_flFleet_drDraws cI cZ a_t a_t_shelf a_fl a_dr i_t_seeds i_t_kept t_shelf_nz t_shelf_slots i_t_shelf_rows fl_row dr_value) s.heap.size) (wd_tImages_flFleet_drDraws cI cZ a_t a_t_shelf a_fl a_dr (upd i_t_seeds y1.toNatClampNeg dr_value) (upd i_t_kept y1.toNatClampNeg (vp_nar .boolean 1)) t_shelf_nz t_shelf_slots t_shelf_rows_1 fl_row dr_value) := hD
      obtain ⟨rfl, rfl, rfl⟩ := k_in3 h
      exact k_rv hx hb hr hlocks hP hS dX5_keepIn_36
    · have h := k_neg hc h
      obtain ⟨rfl, rfl, rfl⟩ := k_in3 h
      exact k_rv hx hb hr hlocks hP hS dX5_keepIn_9
set_option maxHeartbeats 4000000 in
set_option maxRecDepth 100000 in
theorem c_Images_bringBack (l : Launch) (dC : Nat → ClassId) (dI : Nat → Nat → Nat) (cI cZ : ClassId) (a_t a_t_shelf a_fl a_dr : Nat → Nat) (t_seeds : Nat → Int32) (t_kept : Nat → Int32) (t_shelf_nz : Nat) (t_shelf_slots : Int32) (t_shelf_rows : Nat → Int32) (i_fl_row : Nat → Int32) (i_dr_value : Int32) (y1 : Int32) (o_fl_row : Nat → Int32) (o_dr_value : Int32) (h : m_Images_bringBack y1 t_seeds t_kept t_shelf_nz t_shelf_slots t_shelf_rows i_fl_row i_dr_value = some (o_fl_row, o_dr_value)) : (MV l yX5_bringBack wsX5_bringBack ({ frames := 2, cells := 0, slots := 0, locals := 48 }) (dC, dI) [(cI, .int), (cZ, .boolean)] (wd_tImages_flFleet_drDraws cI cZ a_t a_t_shelf a_fl a_dr t_seeds t_kept t_shelf_nz t_shelf_slots t_shelf_rows i_fl_row i_dr_value) (wd_tImages_flFleet_drDraws cI cZ a_t a_t_shelf a_fl a_dr t_seeds t_kept t_shelf_nz t_shelf_slots t_shelf_rows o_fl_row o_dr_value) [.ref (a_t 0), .int y1, .ref (a_fl 0), .ref (a_dr 0)]) := by
  intro sz
  refine Met.ofW (cc := cX5_bringBack) (maxL := 4) (ret := none) (by decide) rfl ?_
  intro p e s m args below meth c s₁ B hml hv
  obtain ⟨rfl, hsz, hP, hK, hD0⟩ := hv
  have hx := B.exec
  have hb := B.bytes
  have hr := B.returns
  have hts := atoms_spec (ws := wsX5_bringBack) B.pre
  have hown : s.vm.findClass RX5 = some m.cls := findClass_of_methodNamed B.named
  have hlocks := B.notSynchronized
  subst hsz
  have hD := hD0.self (sz := s.heap.size)
  have hA : ∀ q : Nat, s.heap.size ≤ q → va_A (wd_tImages_flFleet_drDraws cI cZ a_t a_t_shelf a_fl a_dr t_seeds t_kept t_shelf_nz t_shelf_slots t_shelf_rows i_fl_row i_dr_value) s.heap.size q := fun q h => Or.inr h
  have hS : va_S (va_A (wd_tImages_flFleet_drDraws cI cZ a_t a_t_shelf a_fl a_dr t_seeds t_kept t_shelf_nz t_shelf_slots t_shelf_rows i_fl_row i_dr_value) s.heap.size) s.heap s.heap [] := va_S.rf
  have hin1 : ∀ w ∈ u_ws RX1 TX1 1, w ∈ wsX5_bringBack := fun w h => List.mem_cons_of_mem _ (List.mem_append_left _ (List.mem_append_left _ (List.mem_append_right _ h)))
  have hin5 : ∀ w ∈ u_ws RX5 TX5 3, w ∈ wsX5_bringBack := fun w h => List.mem_cons_of_mem _ (List.mem_append_left _ (List.mem_append_left _ (List.mem_append_left _ (List.mem_append_right _ h))))
  have hl := lv_entry ([.ref (a_t 0), .int y1, .ref (a_fl 0), .ref (a_dr 0)]) (n := 4) (Nat.le_of_ble_eq_true rfl)
  rw [lg_entry_eq]
  generalize (lg_sl ([.ref (a_t 0), .int y1, .ref (a_fl 0), .ref (a_dr 0)]) ++ List.replicate (4 - (lg_sl ([.ref (a_t 0), .int y1, .ref (a_fl 0), .ref (a_dr 0)])).length) Slot.unset).toArray = ls at hl ⊢
  have hl : lv_has ls 4 [(0, .ref (a_t 0)), (1, .int y1), (2, .ref (a_fl 0)), (3, .ref (a_dr 0))] := hl
  unfold m_Images_bringBack at h
  refine lv_aload_n hx hb dX5_bringBack_0 rfl (lv_at hl 0 rfl) ?_
  refine lv_iload_n hx hb dX5_bringBack_1 rfl (lv_at hl 1 rfl) ?_
  obtain ⟨r1, hc1, h⟩ := kb1_some h
  refine k_RVi (rest := []) (As := [.int y1]) ⟨hx, hb, hml, hown, hts⟩ (c_Images_isKept l dC dI cI cZ a_t a_t_shelf t_seeds t_kept t_shelf_nz t_shelf_slots t_shelf_rows y1 r1 hc1) (cwV 1 hts gX5_bringBack_X5_isKept rfl rfl rfl hd_5_isKept ⟨Nat.le_of_ble_eq_true rfl, Nat.le_of_ble_eq_true rfl⟩) hK hP hD hS hA [0, 1, 2, 3, 4] rfl (by decide +kernel) 0 5 rfl rfl rfl rfl hl.1 rfl (Nat.le_of_ble_eq_true rfl) dX5_bringBack_2 ⟨Nat.zero_le _, Nat.zero_le _⟩ (fun H locs hP hD hS => ?_)
  refine lv_if_ne (tgt := 9) hx hb dX5_bringBack_5 (by decide) (fun hc => ?_) (fun hc => ?_)
  · have h := k_neg hc h
    refine lv_aload_n hx hb dX5_bringBack_9 rfl (lv_at hl 0 rfl) ?_
    refine va_get (D := (dC, dI)) (ci := 5) (v := .ref (a_t_shelf 0)) (C := RX5) (T := TX5) (N := 3) hx hb hts hin5 hown hK hP 0 rfl rfl 0 (by decide) (hts (.fieldLink RX5 14 "TowedBack$Images" "shelf" "LTowedBack$Shelf;") (List.mem_of_getElem? (i := 1) rfl)) (fun _ h9 => h9) rfl dX5_bringBack_10 ?_
    refine lv_iload_n hx hb dX5_bringBack_13 rfl (lv_at hl 1 rfl) ?_
    refine lv_aload_n hx hb dX5_bringBack_14 rfl (lv_at hl 2 rfl) ?_
    obtain ⟨fl_row_2, hc2, h⟩ := kb1_some h
    refine k_GVv (rest := []) (As := [.int y1, .ref (a_fl 0)]) (ws' := (wd_tImages_flFleet_drDraws cI cZ a_t a_t_shelf a_fl a_dr t_seeds t_kept t_shelf_nz t_shelf_slots t_shelf_rows fl_row_2 i_dr_value)) ⟨hx, hb, hml, hown, hts⟩ (c_Shelf_fetch l dC dI cI cZ a_t_shelf a_fl t_shelf_nz t_shelf_slots t_shelf_rows i_fl_row y1 fl_row_2 hc2) (cwV 2 hts gX5_bringBack_X8_fetch rfl rfl rfl hd_8_fetch ⟨Nat.le_of_ble_eq_true rfl, Nat.le_of_ble_eq_true rfl⟩) hK hP hD hS hA [3, 4, 5, 6] rfl (by decide +kernel) 3 8 rfl rfl rfl [0, 1, 2, 7] rfl (k_allc rfl rfl (k_allc rfl rfl (k_allc rfl rfl (k_allc rfl rfl k_alln)))) 8 rfl (by decide +kernel) (wd_tImages_flFleet_drDraws_f.trans wd_tImages_flFleet_drDraws_f.symm) rfl hl.1 rfl (Nat.le_of_ble_eq_true rfl) dX5_bringBack_15 ⟨Nat.zero_le _, Nat.zero_le _⟩ (fun H locs hP hD hS => ?_)
    refine lv_aload_n hx hb dX5_bringBack_18 rfl (lv_at hl 3 rfl) ?_
    refine lv_aload_n hx hb dX5_bringBack_19 rfl (lv_at hl 0 rfl) ?_
    refine va_get (D := (dC, dI)) (ci := 5) (v := .ref (a_t 1)) (C := RX5) (T := TX5) (N := 3) hx hb hts hin5 hown hK hP 0 rfl rfl 1 (by decide) (hts (.fieldLink RX5 20 "TowedBack$Images" "seeds" "[I") (List.mem_of_getElem? (i := 2) rfl)) (fun _ h9 => h9) rfl dX5_bringBack_20 ?_
    refine lv_iload_n hx hb dX5_bringBack_23 rfl (lv_at hl 1 rfl) ?_
    obtain ⟨hi3, h⟩ := kg_some h
    refine va_iald hx hb hK hP 1 0 rfl rfl hi3 dX5_bringBack_24 ?_
    refine va_put (D := (dC, dI)) (ci := 1) (v := .int (t_seeds y1.toNatClampNeg)) (ty := tyX1 0) (C := RX1) (T := TX1) (N := 1) hx hb hts hin1 tyX1 tyX1_ok nmX1 hown hK hP hD hS 7 rfl rfl 0 (by decide) (hts (.fieldLink RX5 32 "TowedBack$Draws" "value" "I") (List.mem_of_getElem? (i := 3) rfl)) (fun _ h9 => h9) rfl (tyX1_ok 0 (by decide)) rfl rfl (Nat.le_of_ble_eq_true rfl) dX5_bringBack_25 (fun H locs hP hD hS => ?_)
    have hP : va_P (dC, dI) vwCl (wd_tImages_flFleet_drDraws cI cZ a_t a_t_shelf a_fl a_dr t_seeds t_kept t_shelf_nz t_shelf_slots t_shelf_rows fl_row_2 (t_seeds y1.toNatClampNeg)) H := hP
    have hD : va_D (va_A (wd_tImages_flFleet_drDraws cI cZ a_t a_t_shelf a_fl a_dr t_seeds t_kept t_shelf_nz t_shelf_slots t_shelf_rows i_fl_row i_dr_value) s.heap.size) (wd_tImages_flFleet_drDraws cI cZ a_t a_t_shelf a_fl a_dr t_seeds t_kept t_shelf_nz t_shelf_slots t_shelf_rows fl_row_2 (t_seeds y1.toNatClampNeg)) := hD
    obtain ⟨rfl, rfl⟩ := k_in2 h
    exact k_rv hx hb hr hlocks hP hS dX5_bringBack_28
  · have h := k_pos hc h
    obtain ⟨rfl, rfl⟩ := k_in2 h
    exact k_rv hx hb hr hlocks hP hS dX5_bringBack_8
set_option maxHeartbeats 4000000 in
set_option maxRecDepth 100000 in
theorem c_Images_forget (l : Launch) (dC : Nat → ClassId) (dI : Nat → Nat → Nat) (cI cZ : ClassId) (a_t a_t_shelf : Nat → Nat) (t_seeds : Nat → Int32) (i_t_kept : Nat → Int32) (t_shelf_nz : Nat) (t_shelf_slots : Int32) (t_shelf_rows : Nat → Int32)  (o_t_kept : Nat → Int32) (h : m_Images_forget i_t_kept = some o_t_kept) : (MV l yX5_forget wsX5_forget ({ frames := 0, cells := 0, slots := 0, locals := 0 }) (dC, dI) [(cI, .int), (cZ, .boolean)] (wd_tImages cI cZ a_t a_t_shelf t_seeds i_t_kept t_shelf_nz t_shelf_slots t_shelf_rows) (wd_tImages cI cZ a_t a_t_shelf t_seeds o_t_kept t_shelf_nz t_shelf_slots t_shelf_rows) [.ref (a_t 0)]) := by
  intro sz
  refine Met.ofW (cc := cX5_forget) (maxL := 2) (ret := none) (by decide) rfl ?_
  intro p e s m args below meth c s₁ B hml hv
  obtain ⟨rfl, hsz, hP, hK, hD0⟩ := hv
  have hx := B.exec
  have hb := B.bytes
  have hr := B.returns
  have hts := atoms_spec (ws := wsX5_forget) B.pre
  have hown : s.vm.findClass RX5 = some m.cls := findClass_of_methodNamed B.named
  have hlocks := B.notSynchronized
  subst hsz
  have hD := hD0.self (sz := s.heap.size)
  have hA : ∀ q : Nat, s.heap.size ≤ q → va_A (wd_tImages cI cZ a_t a_t_shelf t_seeds i_t_kept t_shelf_nz t_shelf_slots t_shelf_rows) s.heap.size q := fun q h => Or.inr h
  have hS : va_S (va_A (wd_tImages cI cZ a_t a_t_shelf t_seeds i_t_kept t_shelf_nz t_shelf_slots t_shelf_rows) s.heap.size) s.heap s.heap [] := va_S.rf
  have hin5 : ∀ w ∈ u_ws RX5 TX5 3, w ∈ wsX5_forget := fun w h => List.mem_cons_of_mem _ (List.mem_append_right _ h)
  have hl := lv_entry ([.ref (a_t 0)]) (n := 2) (Nat.le_of_ble_eq_true rfl)
  rw [lg_entry_eq]
  generalize (lg_sl ([.ref (a_t 0)]) ++ List.replicate (2 - (lg_sl ([.ref (a_t 0)])).length) Slot.unset).toArray = ls at hl ⊢
  have hl : lv_has ls 2 [(0, .ref (a_t 0))] := hl
  have L2 : ∀ (n2 : Nat) (x1 : Int32) (t_kept : Nat → Int32) (H : Heap) (locs : List Loc) (ls : Array Slot), va_P (dC, dI) vwCl (wd_tImages cI cZ a_t a_t_shelf t_seeds t_kept t_shelf_nz t_shelf_slots t_shelf_rows) H → va_D (va_A (wd_tImages cI cZ a_t a_t_shelf t_seeds i_t_kept t_shelf_nz t_shelf_slots t_shelf_rows) s.heap.size) (wd_tImages cI cZ a_t a_t_shelf t_seeds t_kept t_shelf_nz t_shelf_slots t_shelf_rows) → va_S (va_A (wd_tImages cI cZ a_t a_t_shelf t_seeds i_t_kept t_shelf_nz t_shelf_slots t_shelf_rows) s.heap.size) s.heap H locs → lv_has ls 2 [(0, .ref (a_t 0)), (1, .int x1)] → m_Images_forget_L2  n2 x1 t_kept = some o_t_kept → W p l e (headSpec wsX5_forget ({ frames := 0, cells := 0, slots := 0, locals := 0 })).room s m ([.ref (a_t 0)] : List Value).toArray below meth c H locs 0 0 (MQ below (cQv (dC, dI) (wd_tImages cI cZ a_t a_t_shelf t_seeds i_t_kept t_shelf_nz t_shelf_slots t_shelf_rows) (wd_tImages cI cZ a_t a_t_shelf t_seeds o_t_kept t_shelf_nz t_shelf_slots t_shelf_rows) s.heap.size) ([.ref (a_t 0)] : List Value).toArray s 0 0 (va_A (wd_tImages cI cZ a_t a_t_shelf t_seeds i_t_kept t_shelf_nz t_shelf_slots t_shelf_rows) s.heap.size)) (F0 m 2 ls []) := by
    intro n2
    induction n2 with
    | zero => intro x1 t_kept H locs ls hP hD hS hl h; have h : none = some o_t_kept := h; cases h
    | succ n2 ih2 =>
      intro x1 t_kept H locs ls hP hD hS hl h
      have h : m_Images_forget_B2  (m_Images_forget_L2  n2) x1 t_kept = some o_t_kept := h
      unfold m_Images_forget_B2 at h
      refine lv_iload_n hx hb dX5_forget_2 rfl (lv_at hl 1 rfl) ?_
      refine lv_iconst (v := 2) hx hb dX5_forget_3 (by decide) ?_
      refine lv_icmp_ge (tgt := 20) hx hb dX5_forget_4 (by decide) (fun hc => ?_) (fun hc => ?_)
      · have h := k_pos hc h
        obtain rfl := k_in1 h
        exact k_rv hx hb hr hlocks hP hS dX5_forget_20
      · have h := k_neg hc h
        refine lv_aload_n hx hb dX5_forget_7 rfl (lv_at hl 0 rfl) ?_
        refine va_get (D := (dC, dI)) (ci := 5) (v := .ref (a_t 2)) (C := RX5) (T := TX5) (N := 3) hx hb hts hin5 hown hK hP 0 rfl rfl 2 (by decide) (hts (.fieldLink RX5 24 "TowedBack$Images" "kept" "[Z") (List.mem_of_getElem? (i := 1) rfl)) (fun _ h9 => h9) rfl dX5_forget_8 ?_
        refine lv_iload_n hx hb dX5_forget_11 rfl (lv_at hl 1 rfl) ?_
        refine lv_iconst (v := 0) hx hb dX5_forget_12 (by decide) ?_
        obtain ⟨hi1, h⟩ := kg_some h
        refine va_zast hx hb hK hP hD hS 2 1 rfl rfl hi1 dX5_forget_13 (fun H locs hP hD hS => ?_)
        have hP : va_P (dC, dI) vwCl (wd_tImages cI cZ a_t a_t_shelf t_seeds (upd t_kept x1.toNatClampNeg (vp_nar .boolean 0)) t_shelf_nz t_shelf_slots t_shelf_rows) H := hP
        have hD : va_D (va_A (wd_tImages cI cZ a_t a_t_shelf t_seeds i_t_kept t_shelf_nz t_shelf_slots t_shelf_rows) s.heap.size) (wd_tImages cI cZ a_t a_t_shelf t_seeds (upd t_kept x1.toNatClampNeg (vp_nar .boolean 0)) t_shelf_nz t_shelf_slots t_shelf_rows) := hD
        refine lv_iinc (v := (x1 + 1)) (lv' := [(1, .int (x1 + 1)), (0, .ref (a_t 0))]) hx hb dX5_forget_14 hl (k := 1) rfl rfl (by decide) rfl (fun ls hl => ?_)
        refine lv_goto (tgt := 2) hx hb dX5_forget_17 (by decide) ?_
        exact ih2 (x1 + 1) (upd t_kept x1.toNatClampNeg (vp_nar .boolean 0)) _ _ _ hP hD hS (lv_sub hl [1, 0] rfl) h
  unfold m_Images_forget at h
  refine lv_iconst (v := 0) hx hb dX5_forget_0 (by decide) ?_
  refine lv_istore_n (lv' := [(1, .int 0), (0, .ref (a_t 0))]) hx hb dX5_forget_1 rfl hl (by decide) rfl (fun ls hl => ?_)
  exact L2 FU 0 i_t_kept _ _ _ hP hD hS (lv_sub hl [1, 0] rfl) h
