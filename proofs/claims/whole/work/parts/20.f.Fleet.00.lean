set_option maxHeartbeats 4000000 in
set_option maxRecDepth 100000 in
theorem c_Fleet_get (l : Launch) (dC : Nat → ClassId) (dI : Nat → Nat → Nat) (cI cZ : ClassId) (a_t : Nat → Nat) (t_row : Nat → Int32) (y1 : Int32) (y2 : Int32) (r0 : Int32) (h : m_Fleet_get y1 y2 t_row = some r0) : (MI l yX4_get wsX4_get ({ frames := 0, cells := 0, slots := 0, locals := 0 }) (dC, dI) [(cI, .int), (cZ, .boolean)] (wd_tFleet cI cZ a_t t_row) (wd_tFleet cI cZ a_t t_row) [.ref (a_t 0), .int y1, .int y2] r0) := by
  intro sz
  refine Met.ofW (cc := cX4_get) (maxL := 3) (ret := (some .int)) (by decide) rfl ?_
  intro p e s m args below meth c s₁ B hml hv
  obtain ⟨rfl, hsz, hP, hK, hD0⟩ := hv
  have hx := B.exec
  have hb := B.bytes
  have hr := B.returns
  have hts := atoms_spec (ws := wsX4_get) B.pre
  have hown : s.vm.findClass RX4 = some m.cls := findClass_of_methodNamed B.named
  have hlocks := B.notSynchronized
  subst hsz
  have hD := hD0.self (sz := s.heap.size)
  have hA : ∀ q : Nat, s.heap.size ≤ q → va_A (wd_tFleet cI cZ a_t t_row) s.heap.size q := fun q h => Or.inr h
  have hS : va_S (va_A (wd_tFleet cI cZ a_t t_row) s.heap.size) s.heap s.heap [] := va_S.rf
  have hin4 : ∀ w ∈ u_ws RX4 TX4 1, w ∈ wsX4_get := fun w h => List.mem_cons_of_mem _ (List.mem_append_right _ h)
  have hl := lv_entry ([.ref (a_t 0), .int y1, .int y2]) (n := 3) (Nat.le_of_ble_eq_true rfl)
  rw [lg_entry_eq]
  generalize (lg_sl ([.ref (a_t 0), .int y1, .int y2]) ++ List.replicate (3 - (lg_sl ([.ref (a_t 0), .int y1, .int y2])).length) Slot.unset).toArray = ls at hl ⊢
  have hl : lv_has ls 3 [(0, .ref (a_t 0)), (1, .int y1), (2, .int y2)] := hl
  unfold m_Fleet_get at h
  refine lv_iload_n hx hb dX4_get_0 rfl (lv_at hl 2 rfl) ?_
  refine lv_if_lt (tgt := 20) hx hb dX4_get_1 (by decide) (fun hc => ?_) (fun hc => ?_)
  · have h := k_pos hc h
    refine lv_iconst (v := (-1)) hx hb dX4_get_20 (by decide) ?_
    obtain rfl := k_in1 h
    exact k_ri hx hb hr hlocks hP hS dX4_get_21
  · have h := k_neg hc h
    refine lv_iload_n hx hb dX4_get_4 rfl (lv_at hl 2 rfl) ?_
    refine lv_iconst (v := 5) hx hb dX4_get_5 (by decide) ?_
    refine lv_icmp_ge (tgt := 20) hx hb dX4_get_6 (by decide) (fun hc => ?_) (fun hc => ?_)
    · have h := k_pos hc h
      refine lv_iconst (v := (-1)) hx hb dX4_get_20 (by decide) ?_
      obtain rfl := k_in1 h
      exact k_ri hx hb hr hlocks hP hS dX4_get_21
    · have h := k_neg hc h
      refine lv_aload_n hx hb dX4_get_9 rfl (lv_at hl 0 rfl) ?_
      refine va_get (D := (dC, dI)) (ci := 4) (v := .ref (a_t 1)) (C := RX4) (T := TX4) (N := 1) hx hb hts hin4 hown hK hP 0 rfl rfl 0 (by decide) (hts (.fieldLink RX4 11 "TowedBack$Fleet" "row" "[I") (List.mem_of_getElem? (i := 1) rfl)) (fun _ h9 => h9) rfl dX4_get_10 ?_
      refine lv_iload_n hx hb dX4_get_13 rfl (lv_at hl 1 rfl) ?_
      refine lv_iload_n hx hb dX4_get_14 rfl (lv_at hl 2 rfl) ?_
      refine lv_iadd hx hb dX4_get_15 ?_
      obtain ⟨hi1, h⟩ := kg_some h
      refine va_iald hx hb hK hP 1 0 rfl rfl hi1 dX4_get_16 ?_
      refine lv_goto (tgt := 21) hx hb dX4_get_17 (by decide) ?_
      obtain rfl := k_in1 h
      exact k_ri hx hb hr hlocks hP hS dX4_get_21
set_option maxHeartbeats 4000000 in
set_option maxRecDepth 100000 in
theorem c_Fleet_put (l : Launch) (dC : Nat → ClassId) (dI : Nat → Nat → Nat) (cI cZ : ClassId) (a_t : Nat → Nat) (i_t_row : Nat → Int32) (y1 : Int32) (y2 : Int32) (y3 : Int32) (o_t_row : Nat → Int32) (h : m_Fleet_put y1 y2 y3 i_t_row = some o_t_row) : (MV l yX4_put wsX4_put ({ frames := 0, cells := 0, slots := 0, locals := 0 }) (dC, dI) [(cI, .int), (cZ, .boolean)] (wd_tFleet cI cZ a_t i_t_row) (wd_tFleet cI cZ a_t o_t_row) [.ref (a_t 0), .int y1, .int y2, .int y3]) := by
  intro sz
  refine Met.ofW (cc := cX4_put) (maxL := 4) (ret := none) (by decide) rfl ?_
  intro p e s m args below meth c s₁ B hml hv
  obtain ⟨rfl, hsz, hP, hK, hD0⟩ := hv
  have hx := B.exec
  have hb := B.bytes
  have hr := B.returns
  have hts := atoms_spec (ws := wsX4_put) B.pre
  have hown : s.vm.findClass RX4 = some m.cls := findClass_of_methodNamed B.named
  have hlocks := B.notSynchronized
  subst hsz
  have hD := hD0.self (sz := s.heap.size)
  have hA : ∀ q : Nat, s.heap.size ≤ q → va_A (wd_tFleet cI cZ a_t i_t_row) s.heap.size q := fun q h => Or.inr h
  have hS : va_S (va_A (wd_tFleet cI cZ a_t i_t_row) s.heap.size) s.heap s.heap [] := va_S.rf
  have hin4 : ∀ w ∈ u_ws RX4 TX4 1, w ∈ wsX4_put := fun w h => List.mem_cons_of_mem _ (List.mem_append_right _ h)
  have hl := lv_entry ([.ref (a_t 0), .int y1, .int y2, .int y3]) (n := 4) (Nat.le_of_ble_eq_true rfl)
  rw [lg_entry_eq]
  generalize (lg_sl ([.ref (a_t 0), .int y1, .int y2, .int y3]) ++ List.replicate (4 - (lg_sl ([.ref (a_t 0), .int y1, .int y2, .int y3])).length) Slot.unset).toArray = ls at hl ⊢
  have hl : lv_has ls 4 [(0, .ref (a_t 0)), (1, .int y1), (2, .int y2), (3, .int y3)] := hl
  unfold m_Fleet_put at h
  refine lv_iload_n hx hb dX4_put_0 rfl (lv_at hl 2 rfl) ?_
  refine lv_if_lt (tgt := 18) hx hb dX4_put_1 (by decide) (fun hc => ?_) (fun hc => ?_)
  · have h := k_pos hc h
    obtain rfl := k_in1 h
    exact k_rv hx hb hr hlocks hP hS dX4_put_18
  · have h := k_neg hc h
    refine lv_iload_n hx hb dX4_put_4 rfl (lv_at hl 2 rfl) ?_
    refine lv_iconst (v := 5) hx hb dX4_put_5 (by decide) ?_
    refine lv_icmp_ge (tgt := 18) hx hb dX4_put_6 (by decide) (fun hc => ?_) (fun hc => ?_)
    · have h := k_pos hc h
      obtain rfl := k_in1 h
      exact k_rv hx hb hr hlocks hP hS dX4_put_18
    · have h := k_neg hc h
      refine lv_aload_n hx hb dX4_put_9 rfl (lv_at hl 0 rfl) ?_
      refine va_get (D := (dC, dI)) (ci := 4) (v := .ref (a_t 1)) (C := RX4) (T := TX4) (N := 1) hx hb hts hin4 hown hK hP 0 rfl rfl 0 (by decide) (hts (.fieldLink RX4 11 "TowedBack$Fleet" "row" "[I") (List.mem_of_getElem? (i := 1) rfl)) (fun _ h9 => h9) rfl dX4_put_10 ?_
      refine lv_iload_n hx hb dX4_put_13 rfl (lv_at hl 1 rfl) ?_
      refine lv_iload_n hx hb dX4_put_14 rfl (lv_at hl 2 rfl) ?_
      refine lv_iadd hx hb dX4_put_15 ?_
      refine lv_iload_n hx hb dX4_put_16 rfl (lv_at hl 3 rfl) ?_
      obtain ⟨hi1, h⟩ := kg_some h
      refine va_iast hx hb hK hP hD hS 1 0 rfl rfl hi1 dX4_put_17 (fun H locs hP hD hS => ?_)
      have hP : va_P (dC, dI) vwCl (wd_tFleet cI cZ a_t (upd i_t_row (y1 + y2).toNatClampNeg y3)) H := hP
      have hD : va_D (va_A (wd_tFleet cI cZ a_t i_t_row) s.heap.size) (wd_tFleet cI cZ a_t (upd i_t_row (y1 + y2).toNatClampNeg y3)) := hD
      obtain rfl := k_in1 h
      exact k_rv hx hb hr hlocks hP hS dX4_put_18
set_option maxHeartbeats 4000000 in
set_option maxRecDepth 100000 in
theorem c_Fleet_at (l : Launch) (dC : Nat → ClassId) (dI : Nat → Nat → Nat) (cI cZ : ClassId) (a_t : Nat → Nat) (t_row : Nat → Int32) (y1 : Int32) (r0 : Int32) (h : m_Fleet_at y1 t_row = some r0) : (MI l yX4_at wsX4_at ({ frames := 1, cells := 0, slots := 0, locals := 22 }) (dC, dI) [(cI, .int), (cZ, .boolean)] (wd_tFleet cI cZ a_t t_row) (wd_tFleet cI cZ a_t t_row) [.ref (a_t 0), .int y1] r0) := by
  intro sz
  refine Met.ofW (cc := cX4_at) (maxL := 2) (ret := (some .int)) (by decide) rfl ?_
  intro p e s m args below meth c s₁ B hml hv
  obtain ⟨rfl, hsz, hP, hK, hD0⟩ := hv
  have hx := B.exec
  have hb := B.bytes
  have hr := B.returns
  have hts := atoms_spec (ws := wsX4_at) B.pre
  have hown : s.vm.findClass RX4 = some m.cls := findClass_of_methodNamed B.named
  have hlocks := B.notSynchronized
  subst hsz
  have hD := hD0.self (sz := s.heap.size)
  have hA : ∀ q : Nat, s.heap.size ≤ q → va_A (wd_tFleet cI cZ a_t t_row) s.heap.size q := fun q h => Or.inr h
  have hS : va_S (va_A (wd_tFleet cI cZ a_t t_row) s.heap.size) s.heap s.heap [] := va_S.rf
  have hl := lv_entry ([.ref (a_t 0), .int y1]) (n := 2) (Nat.le_of_ble_eq_true rfl)
  rw [lg_entry_eq]
  generalize (lg_sl ([.ref (a_t 0), .int y1]) ++ List.replicate (2 - (lg_sl ([.ref (a_t 0), .int y1])).length) Slot.unset).toArray = ls at hl ⊢
  have hl : lv_has ls 2 [(0, .ref (a_t 0)), (1, .int y1)] := hl
  unfold m_Fleet_at at h
  refine lv_aload_n hx hb dX4_at_0 rfl (lv_at hl 0 rfl) ?_
  refine lv_iconst (v := 0) hx hb dX4_at_1 (by decide) ?_
  refine lv_iload_n hx hb dX4_at_2 rfl (lv_at hl 1 rfl) ?_
  obtain ⟨r1, hc1, h⟩ := kb1_some h
  refine k_FVi (rest := []) (As := [.int 0, .int y1]) ⟨hx, hb, hml, hown, hts⟩ (c_Fleet_get l dC dI cI cZ a_t t_row 0 y1 r1 hc1) (cwV 2 hts gX4_at_X4_get rfl rfl rfl hd_4_get ⟨Nat.le_of_ble_eq_true rfl, Nat.le_of_ble_eq_true rfl⟩) hK hP hD hS hA 0 4 rfl rfl rfl (wd_tFleet_f.trans wd_tFleet_f.symm) rfl hl.1 rfl (Nat.le_of_ble_eq_true rfl) dX4_at_3 ⟨Nat.zero_le _, Nat.zero_le _⟩ (fun H locs hP hD hS => ?_)
  obtain rfl := k_in1 h
  exact k_ri hx hb hr hlocks hP hS dX4_at_6
set_option maxHeartbeats 4000000 in
set_option maxRecDepth 100000 in
theorem c_Fleet_from (l : Launch) (dC : Nat → ClassId) (dI : Nat → Nat → Nat) (cI cZ : ClassId) (a_t : Nat → Nat) (t_row : Nat → Int32) (y1 : Int32) (r0 : Int32) (h : m_Fleet_from y1 t_row = some r0) : (MI l yX4_from wsX4_from ({ frames := 1, cells := 0, slots := 0, locals := 22 }) (dC, dI) [(cI, .int), (cZ, .boolean)] (wd_tFleet cI cZ a_t t_row) (wd_tFleet cI cZ a_t t_row) [.ref (a_t 0), .int y1] r0) := by
  intro sz
  refine Met.ofW (cc := cX4_from) (maxL := 2) (ret := (some .int)) (by decide) rfl ?_
  intro p e s m args below meth c s₁ B hml hv
  obtain ⟨rfl, hsz, hP, hK, hD0⟩ := hv
  have hx := B.exec
  have hb := B.bytes
  have hr := B.returns
  have hts := atoms_spec (ws := wsX4_from) B.pre
  have hown : s.vm.findClass RX4 = some m.cls := findClass_of_methodNamed B.named
  have hlocks := B.notSynchronized
  subst hsz
  have hD := hD0.self (sz := s.heap.size)
  have hA : ∀ q : Nat, s.heap.size ≤ q → va_A (wd_tFleet cI cZ a_t t_row) s.heap.size q := fun q h => Or.inr h
  have hS : va_S (va_A (wd_tFleet cI cZ a_t t_row) s.heap.size) s.heap s.heap [] := va_S.rf
  have hl := lv_entry ([.ref (a_t 0), .int y1]) (n := 2) (Nat.le_of_ble_eq_true rfl)
  rw [lg_entry_eq]
  generalize (lg_sl ([.ref (a_t 0), .int y1]) ++ List.replicate (2 - (lg_sl ([.ref (a_t 0), .int y1])).length) Slot.unset).toArray = ls at hl ⊢
  have hl : lv_has ls 2 [(0, .ref (a_t 0)), (1, .int y1)] := hl
  unfold m_Fleet_from at h
  refine lv_aload_n hx hb dX4_from_0 rfl (lv_at hl 0 rfl) ?_
  refine lv_iconst (v := 5) hx hb dX4_from_1 (by decide) ?_
  refine lv_iload_n hx hb dX4_from_2 rfl (lv_at hl 1 rfl) ?_
  obtain ⟨r1, hc1, h⟩ := kb1_some h
  refine k_FVi (rest := []) (As := [.int 5, .int y1]) ⟨hx, hb, hml, hown, hts⟩ (c_Fleet_get l dC dI cI cZ a_t t_row 5 y1 r1 hc1) (cwV 2 hts gX4_from_X4_get rfl rfl rfl hd_4_get ⟨Nat.le_of_ble_eq_true rfl, Nat.le_of_ble_eq_true rfl⟩) hK hP hD hS hA 0 4 rfl rfl rfl (wd_tFleet_f.trans wd_tFleet_f.symm) rfl hl.1 rfl (Nat.le_of_ble_eq_true rfl) dX4_from_3 ⟨Nat.zero_le _, Nat.zero_le _⟩ (fun H locs hP hD hS => ?_)
  obtain rfl := k_in1 h
  exact k_ri hx hb hr hlocks hP hS dX4_from_6
set_option maxHeartbeats 4000000 in
set_option maxRecDepth 100000 in
theorem c_Fleet_pull (l : Launch) (dC : Nat → ClassId) (dI : Nat → Nat → Nat) (cI cZ : ClassId) (a_t : Nat → Nat) (t_row : Nat → Int32) (y1 : Int32) (r0 : Int32) (h : m_Fleet_pull y1 t_row = some r0) : (MI l yX4_pull wsX4_pull ({ frames := 1, cells := 0, slots := 0, locals := 22 }) (dC, dI) [(cI, .int), (cZ, .boolean)] (wd_tFleet cI cZ a_t t_row) (wd_tFleet cI cZ a_t t_row) [.ref (a_t 0), .int y1] r0) := by
  intro sz
  refine Met.ofW (cc := cX4_pull) (maxL := 2) (ret := (some .int)) (by decide) rfl ?_
  intro p e s m args below meth c s₁ B hml hv
  obtain ⟨rfl, hsz, hP, hK, hD0⟩ := hv
  have hx := B.exec
  have hb := B.bytes
  have hr := B.returns
  have hts := atoms_spec (ws := wsX4_pull) B.pre
  have hown : s.vm.findClass RX4 = some m.cls := findClass_of_methodNamed B.named
  have hlocks := B.notSynchronized
  subst hsz
  have hD := hD0.self (sz := s.heap.size)
  have hA : ∀ q : Nat, s.heap.size ≤ q → va_A (wd_tFleet cI cZ a_t t_row) s.heap.size q := fun q h => Or.inr h
  have hS : va_S (va_A (wd_tFleet cI cZ a_t t_row) s.heap.size) s.heap s.heap [] := va_S.rf
  have hl := lv_entry ([.ref (a_t 0), .int y1]) (n := 2) (Nat.le_of_ble_eq_true rfl)
  rw [lg_entry_eq]
  generalize (lg_sl ([.ref (a_t 0), .int y1]) ++ List.replicate (2 - (lg_sl ([.ref (a_t 0), .int y1])).length) Slot.unset).toArray = ls at hl ⊢
  have hl : lv_has ls 2 [(0, .ref (a_t 0)), (1, .int y1)] := hl
  unfold m_Fleet_pull at h
  refine lv_aload_n hx hb dX4_pull_0 rfl (lv_at hl 0 rfl) ?_
  refine lv_bipush (v := 10) hx hb dX4_pull_1 (by decide) ?_
  refine lv_iload_n hx hb dX4_pull_3 rfl (lv_at hl 1 rfl) ?_
  obtain ⟨r1, hc1, h⟩ := kb1_some h
  refine k_FVi (rest := []) (As := [.int 10, .int y1]) ⟨hx, hb, hml, hown, hts⟩ (c_Fleet_get l dC dI cI cZ a_t t_row 10 y1 r1 hc1) (cwV 2 hts gX4_pull_X4_get rfl rfl rfl hd_4_get ⟨Nat.le_of_ble_eq_true rfl, Nat.le_of_ble_eq_true rfl⟩) hK hP hD hS hA 0 4 rfl rfl rfl (wd_tFleet_f.trans wd_tFleet_f.symm) rfl hl.1 rfl (Nat.le_of_ble_eq_true rfl) dX4_pull_4 ⟨Nat.zero_le _, Nat.zero_le _⟩ (fun H locs hP hD hS => ?_)
  obtain rfl := k_in1 h
  exact k_ri hx hb hr hlocks hP hS dX4_pull_7
set_option maxHeartbeats 4000000 in
set_option maxRecDepth 100000 in
theorem c_Fleet_went (l : Launch) (dC : Nat → ClassId) (dI : Nat → Nat → Nat) (cI cZ : ClassId) (a_t : Nat → Nat) (t_row : Nat → Int32) (y1 : Int32) (r0 : Int32) (h : m_Fleet_went y1 t_row = some r0) : (MI l yX4_went wsX4_went ({ frames := 1, cells := 0, slots := 0, locals := 22 }) (dC, dI) [(cI, .int), (cZ, .boolean)] (wd_tFleet cI cZ a_t t_row) (wd_tFleet cI cZ a_t t_row) [.ref (a_t 0), .int y1] r0) := by
  intro sz
  refine Met.ofW (cc := cX4_went) (maxL := 2) (ret := (some .int)) (by decide) rfl ?_
  intro p e s m args below meth c s₁ B hml hv
  obtain ⟨rfl, hsz, hP, hK, hD0⟩ := hv
  have hx := B.exec
  have hb := B.bytes
  have hr := B.returns
  have hts := atoms_spec (ws := wsX4_went) B.pre
  have hown : s.vm.findClass RX4 = some m.cls := findClass_of_methodNamed B.named
  have hlocks := B.notSynchronized
  subst hsz
  have hD := hD0.self (sz := s.heap.size)
  have hA : ∀ q : Nat, s.heap.size ≤ q → va_A (wd_tFleet cI cZ a_t t_row) s.heap.size q := fun q h => Or.inr h
  have hS : va_S (va_A (wd_tFleet cI cZ a_t t_row) s.heap.size) s.heap s.heap [] := va_S.rf
  have hl := lv_entry ([.ref (a_t 0), .int y1]) (n := 2) (Nat.le_of_ble_eq_true rfl)
  rw [lg_entry_eq]
  generalize (lg_sl ([.ref (a_t 0), .int y1]) ++ List.replicate (2 - (lg_sl ([.ref (a_t 0), .int y1])).length) Slot.unset).toArray = ls at hl ⊢
  have hl : lv_has ls 2 [(0, .ref (a_t 0)), (1, .int y1)] := hl
  unfold m_Fleet_went at h
  refine lv_aload_n hx hb dX4_went_0 rfl (lv_at hl 0 rfl) ?_
  refine lv_bipush (v := 15) hx hb dX4_went_1 (by decide) ?_
  refine lv_iload_n hx hb dX4_went_3 rfl (lv_at hl 1 rfl) ?_
  obtain ⟨r1, hc1, h⟩ := kb1_some h
  refine k_FVi (rest := []) (As := [.int 15, .int y1]) ⟨hx, hb, hml, hown, hts⟩ (c_Fleet_get l dC dI cI cZ a_t t_row 15 y1 r1 hc1) (cwV 2 hts gX4_went_X4_get rfl rfl rfl hd_4_get ⟨Nat.le_of_ble_eq_true rfl, Nat.le_of_ble_eq_true rfl⟩) hK hP hD hS hA 0 4 rfl rfl rfl (wd_tFleet_f.trans wd_tFleet_f.symm) rfl hl.1 rfl (Nat.le_of_ble_eq_true rfl) dX4_went_4 ⟨Nat.zero_le _, Nat.zero_le _⟩ (fun H locs hP hD hS => ?_)
  obtain rfl := k_in1 h
  exact k_ri hx hb hr hlocks hP hS dX4_went_7
set_option maxHeartbeats 4000000 in
set_option maxRecDepth 100000 in
theorem c_Fleet_stepsGone (l : Launch) (dC : Nat → ClassId) (dI : Nat → Nat → Nat) (cI cZ : ClassId) (a_t : Nat → Nat) (t_row : Nat → Int32)  (r0 : Int32) (h : m_Fleet_stepsGone t_row = some r0) : (MI l yX4_stepsGone wsX4_stepsGone ({ frames := 0, cells := 0, slots := 0, locals := 0 }) (dC, dI) [(cI, .int), (cZ, .boolean)] (wd_tFleet cI cZ a_t t_row) (wd_tFleet cI cZ a_t t_row) [.ref (a_t 0)] r0) := by
  intro sz
  refine Met.ofW (cc := cX4_stepsGone) (maxL := 1) (ret := (some .int)) (by decide) rfl ?_
  intro p e s m args below meth c s₁ B hml hv
  obtain ⟨rfl, hsz, hP, hK, hD0⟩ := hv
  have hx := B.exec
  have hb := B.bytes
  have hr := B.returns
  have hts := atoms_spec (ws := wsX4_stepsGone) B.pre
  have hown : s.vm.findClass RX4 = some m.cls := findClass_of_methodNamed B.named
  have hlocks := B.notSynchronized
  subst hsz
  have hD := hD0.self (sz := s.heap.size)
  have hA : ∀ q : Nat, s.heap.size ≤ q → va_A (wd_tFleet cI cZ a_t t_row) s.heap.size q := fun q h => Or.inr h
  have hS : va_S (va_A (wd_tFleet cI cZ a_t t_row) s.heap.size) s.heap s.heap [] := va_S.rf
  have hin4 : ∀ w ∈ u_ws RX4 TX4 1, w ∈ wsX4_stepsGone := fun w h => List.mem_cons_of_mem _ (List.mem_append_right _ h)
  have hl := lv_entry ([.ref (a_t 0)]) (n := 1) (Nat.le_of_ble_eq_true rfl)
  rw [lg_entry_eq]
  generalize (lg_sl ([.ref (a_t 0)]) ++ List.replicate (1 - (lg_sl ([.ref (a_t 0)])).length) Slot.unset).toArray = ls at hl ⊢
  have hl : lv_has ls 1 [(0, .ref (a_t 0))] := hl
  unfold m_Fleet_stepsGone at h
  refine lv_aload_n hx hb dX4_stepsGone_0 rfl (lv_at hl 0 rfl) ?_
  refine va_get (D := (dC, dI)) (ci := 4) (v := .ref (a_t 1)) (C := RX4) (T := TX4) (N := 1) hx hb hts hin4 hown hK hP 0 rfl rfl 0 (by decide) (hts (.fieldLink RX4 11 "TowedBack$Fleet" "row" "[I") (List.mem_of_getElem? (i := 1) rfl)) (fun _ h9 => h9) rfl dX4_stepsGone_1 ?_
  refine lv_bipush (v := 20) hx hb dX4_stepsGone_4 (by decide) ?_
  obtain ⟨hi1, h⟩ := kg_some h
  refine va_iald hx hb hK hP 1 0 rfl rfl hi1 dX4_stepsGone_6 ?_
  obtain rfl := k_in1 h
  exact k_ri hx hb hr hlocks hP hS dX4_stepsGone_7
set_option maxHeartbeats 4000000 in
set_option maxRecDepth 100000 in
theorem c_Fleet_launch (l : Launch) (dC : Nat → ClassId) (dI : Nat → Nat → Nat) (cI cZ : ClassId) (a_t a_on : Nat → Nat) (i_t_row : Nat → Int32) (on_junctions : Int32) (on_cuts : Int32) (on_boats : Int32) (on_cutA : Nat → Int32) (on_cutB : Nat → Int32) (on_cutHard : Nat → Int32) (on_boatAt : Nat → Int32) (on_boatPull : Nat → Int32) (on_boatWear : Nat → Int32) (on_onward : Nat → Int32) (on_onwardHard : Nat → Int32)  (o_t_row : Nat → Int32) (h : m_Fleet_launch i_t_row on_boats on_boatAt on_boatPull = some o_t_row) : (MV l yX4_launch wsX4_launch ({ frames := 2, cells := 0, slots := 0, locals := 42 }) (dC, dI) [(cI, .int), (cZ, .boolean)] (wd_tFleet_onWater cI cZ a_t a_on i_t_row on_junctions on_cuts on_boats on_cutA on_cutB on_cutHard on_boatAt on_boatPull on_boatWear on_onward on_onwardHard) (wd_tFleet_onWater cI cZ a_t a_on o_t_row on_junctions on_cuts on_boats on_cutA on_cutB on_cutHard on_boatAt on_boatPull on_boatWear on_onward on_onwardHard) [.ref (a_t 0), .ref (a_on 0)]) := by
  intro sz
  refine Met.ofW (cc := cX4_launch) (maxL := 3) (ret := none) (by decide) rfl ?_
  intro p e s m args below meth c s₁ B hml hv
  obtain ⟨rfl, hsz, hP, hK, hD0⟩ := hv
  have hx := B.exec
  have hb := B.bytes
  have hr := B.returns
  have hts := atoms_spec (ws := wsX4_launch) B.pre
  have hown : s.vm.findClass RX4 = some m.cls := findClass_of_methodNamed B.named
  have hlocks := B.notSynchronized
  subst hsz
  have hD := hD0.self (sz := s.heap.size)
  have hA : ∀ q : Nat, s.heap.size ≤ q → va_A (wd_tFleet_onWater cI cZ a_t a_on i_t_row on_junctions on_cuts on_boats on_cutA on_cutB on_cutHard on_boatAt on_boatPull on_boatWear on_onward on_onwardHard) s.heap.size q := fun q h => Or.inr h
  have hS : va_S (va_A (wd_tFleet_onWater cI cZ a_t a_on i_t_row on_junctions on_cuts on_boats on_cutA on_cutB on_cutHard on_boatAt on_boatPull on_boatWear on_onward on_onwardHard) s.heap.size) s.heap s.heap [] := va_S.rf
  have hin4 : ∀ w ∈ u_ws RX4 TX4 1, w ∈ wsX4_launch := fun w h => List.mem_cons_of_mem _ (List.mem_append_left _ (List.mem_append_right _ h))
  have hl := lv_entry ([.ref (a_t 0), .ref (a_on 0)]) (n := 3) (Nat.le_of_ble_eq_true rfl)
  rw [lg_entry_eq]
  generalize (lg_sl ([.ref (a_t 0), .ref (a_on 0)]) ++ List.replicate (3 - (lg_sl ([.ref (a_t 0), .ref (a_on 0)])).length) Slot.unset).toArray = ls at hl ⊢
  have hl : lv_has ls 3 [(0, .ref (a_t 0)), (1, .ref (a_on 0))] := hl
  have J51 : ∀  (t_row : Nat → Int32) (H : Heap) (locs : List Loc) (ls : Array Slot), va_P (dC, dI) vwCl (wd_tFleet_onWater cI cZ a_t a_on t_row on_junctions on_cuts on_boats on_cutA on_cutB on_cutHard on_boatAt on_boatPull on_boatWear on_onward on_onwardHard) H → va_D (va_A (wd_tFleet_onWater cI cZ a_t a_on i_t_row on_junctions on_cuts on_boats on_cutA on_cutB on_cutHard on_boatAt on_boatPull on_boatWear on_onward on_onwardHard) s.heap.size) (wd_tFleet_onWater cI cZ a_t a_on t_row on_junctions on_cuts on_boats on_cutA on_cutB on_cutHard on_boatAt on_boatPull on_boatWear on_onward on_onwardHard) → va_S (va_A (wd_tFleet_onWater cI cZ a_t a_on i_t_row on_junctions on_cuts on_boats on_cutA on_cutB on_cutHard on_boatAt on_boatPull on_boatWear on_onward on_onwardHard) s.heap.size) s.heap H locs → lv_has ls 3 [(0, .ref (a_t 0))] → m_Fleet_launch_B51  t_row on_boats on_boatAt on_boatPull = some o_t_row → W p l e (headSpec wsX4_launch ({ frames := 2, cells := 0, slots := 0, locals := 42 })).room s m ([.ref (a_t 0), .ref (a_on 0)] : List Value).toArray below meth c H locs 0 0 (MQ below (cQv (dC, dI) (wd_tFleet_onWater cI cZ a_t a_on i_t_row on_junctions on_cuts on_boats on_cutA on_cutB on_cutHard on_boatAt on_boatPull on_boatWear on_onward on_onwardHard) (wd_tFleet_onWater cI cZ a_t a_on o_t_row on_junctions on_cuts on_boats on_cutA on_cutB on_cutHard on_boatAt on_boatPull on_boatWear on_onward on_onwardHard) s.heap.size) ([.ref (a_t 0), .ref (a_on 0)] : List Value).toArray s 0 0 (va_A (wd_tFleet_onWater cI cZ a_t a_on i_t_row on_junctions on_cuts on_boats on_cutA on_cutB on_cutHard on_boatAt on_boatPull on_boatWear on_onward on_onwardHard) s.heap.size)) (F0 m 51 ls []) := by
    intro t_row H locs ls hP hD hS hl h
    unfold m_Fleet_launch_B51 at h
    refine lv_aload_n hx hb dX4_launch_51 rfl (lv_at hl 0 rfl) ?_
    refine va_get (D := (dC, dI)) (ci := 4) (v := .ref (a_t 1)) (C := RX4) (T := TX4) (N := 1) hx hb hts hin4 hown hK hP 0 rfl rfl 0 (by decide) (hts (.fieldLink RX4 11 "TowedBack$Fleet" "row" "[I") (List.mem_of_getElem? (i := 1) rfl)) (fun _ h9 => h9) rfl dX4_launch_52 ?_
    refine lv_bipush (v := 20) hx hb dX4_launch_55 (by decide) ?_
    refine lv_iconst (v := 0) hx hb dX4_launch_57 (by decide) ?_
    obtain ⟨hi1, h⟩ := kg_some h
    refine va_iast hx hb hK hP hD hS 1 0 rfl rfl hi1 dX4_launch_58 (fun H locs hP hD hS => ?_)
    have hP : va_P (dC, dI) vwCl (wd_tFleet_onWater cI cZ a_t a_on (upd t_row (20 : Int32).toNatClampNeg 0) on_junctions on_cuts on_boats on_cutA on_cutB on_cutHard on_boatAt on_boatPull on_boatWear on_onward on_onwardHard) H := hP
    have hD : va_D (va_A (wd_tFleet_onWater cI cZ a_t a_on i_t_row on_junctions on_cuts on_boats on_cutA on_cutB on_cutHard on_boatAt on_boatPull on_boatWear on_onward on_onwardHard) s.heap.size) (wd_tFleet_onWater cI cZ a_t a_on (upd t_row (20 : Int32).toNatClampNeg 0) on_junctions on_cuts on_boats on_cutA on_cutB on_cutHard on_boatAt on_boatPull on_boatWear on_onward on_onwardHard) := hD
    obtain rfl := k_in1 h
    exact k_rv hx hb hr hlocks hP hS dX4_launch_59
  have L2 : ∀ (n2 : Nat) (x2 : Int32) (t_row : Nat → Int32) (H : Heap) (locs : List Loc) (ls : Array Slot), va_P (dC, dI) vwCl (wd_tFleet_onWater cI cZ a_t a_on t_row on_junctions on_cuts on_boats on_cutA on_cutB on_cutHard on_boatAt on_boatPull on_boatWear on_onward on_onwardHard) H → va_D (va_A (wd_tFleet_onWater cI cZ a_t a_on i_t_row on_junctions on_cuts on_boats on_cutA on_cutB on_cutHard on_boatAt on_boatPull on_boatWear on_onward on_onwardHard) s.heap.size) (wd_tFleet_onWater cI cZ a_t a_on t_row on_junctions on_cuts on_boats on_cutA on_cutB on_cutHard on_boatAt on_boatPull on_boatWear on_onward on_onwardHard) → va_S (va_A (wd_tFleet_onWater cI cZ a_t a_on i_t_row on_junctions on_cuts on_boats on_cutA on_cutB on_cutHard on_boatAt on_boatPull on_boatWear on_onward on_onwardHard) s.heap.size) s.heap H locs → lv_has ls 3 [(0, .ref (a_t 0)), (1, .ref (a_on 0)), (2, .int x2)] → m_Fleet_launch_L2  n2 x2 t_row on_boats on_boatAt on_boatPull = some o_t_row → W p l e (headSpec wsX4_launch ({ frames := 2, cells := 0, slots := 0, locals := 42 })).room s m ([.ref (a_t 0), .ref (a_on 0)] : List Value).toArray below meth c H locs 0 0 (MQ below (cQv (dC, dI) (wd_tFleet_onWater cI cZ a_t a_on i_t_row on_junctions on_cuts on_boats on_cutA on_cutB on_cutHard on_boatAt on_boatPull on_boatWear on_onward on_onwardHard) (wd_tFleet_onWater cI cZ a_t a_on o_t_row on_junctions on_cuts on_boats on_cutA on_cutB on_cutHard on_boatAt on_boatPull on_boatWear on_onward on_onwardHard) s.heap.size) ([.ref (a_t 0), .ref (a_on 0)] : List Value).toArray s 0 0 (va_A (wd_tFleet_onWater cI cZ a_t a_on i_t_row on_junctions on_cuts on_boats on_cutA on_cutB on_cutHard on_boatAt on_boatPull on_boatWear on_onward on_onwardHard) s.heap.size)) (F0 m 2 ls []) := by
    intro n2
    induction n2 with
    | zero => intro x2 t_row H locs ls hP hD hS hl h; have h : none = some o_t_row := h; cases h
    | succ n2 ih2 =>
      intro x2 t_row H locs ls hP hD hS hl h
      have h : m_Fleet_launch_B2  (m_Fleet_launch_L2  n2) x2 t_row on_boats on_boatAt on_boatPull = some o_t_row := h
      unfold m_Fleet_launch_B2 at h
      refine lv_iload_n hx hb dX4_launch_2 rfl (lv_at hl 2 rfl) ?_
      refine lv_iconst (v := 5) hx hb dX4_launch_3 (by decide) ?_
      refine lv_icmp_ge (tgt := 51) hx hb dX4_launch_4 (by decide) (fun hc => ?_) (fun hc => ?_)
      · have h := k_pos hc h
        exact J51 t_row _ _ _ hP hD hS (lv_sub hl [0] rfl) h
      · have h := k_neg hc h
        refine lv_aload_n hx hb dX4_launch_7 rfl (lv_at hl 0 rfl) ?_
        refine lv_iconst (v := 0) hx hb dX4_launch_8 (by decide) ?_
        refine lv_iload_n hx hb dX4_launch_9 rfl (lv_at hl 2 rfl) ?_
        refine lv_aload_n hx hb dX4_launch_10 rfl (lv_at hl 1 rfl) ?_
        refine lv_iload_n hx hb dX4_launch_11 rfl (lv_at hl 2 rfl) ?_
        obtain ⟨r2, hc2, h⟩ := kb1_some h
        refine k_RVi (rest := [.int x2, .int 0, .ref (a_t 0)]) (As := [.int x2]) ⟨hx, hb, hml, hown, hts⟩ (c_Water_startOf l dC dI cI cZ a_on on_junctions on_cuts on_boats on_cutA on_cutB on_cutHard on_boatAt on_boatPull on_boatWear on_onward on_onwardHard x2 r2 hc2) (cwV 1 hts gX4_launch_X9_startOf rfl rfl rfl hd_9_startOf ⟨Nat.le_of_ble_eq_true rfl, Nat.le_of_ble_eq_true rfl⟩) hK hP hD hS hA [2, 3, 4, 5, 6, 7, 8, 9, 10] rfl (by decide +kernel) 2 9 rfl rfl rfl rfl hl.1 rfl (Nat.le_of_ble_eq_true rfl) dX4_launch_12 ⟨Nat.zero_le _, Nat.zero_le _⟩ (fun H locs hP hD hS => ?_)
        obtain ⟨t_row_3, hc3, h⟩ := kb1_some h
        refine k_GVv (rest := []) (As := [.int 0, .int x2, .int r2]) (ws' := (wd_tFleet_onWater cI cZ a_t a_on t_row_3 on_junctions on_cuts on_boats on_cutA on_cutB on_cutHard on_boatAt on_boatPull on_boatWear on_onward on_onwardHard)) ⟨hx, hb, hml, hown, hts⟩ (c_Fleet_put l dC dI cI cZ a_t t_row 0 x2 r2 t_row_3 hc3) (cwV 3 hts gX4_launch_X4_put rfl rfl rfl hd_4_put ⟨Nat.le_of_ble_eq_true rfl, Nat.le_of_ble_eq_true rfl⟩) hK hP hD hS hA [0, 1] rfl (by decide +kernel) 0 4 rfl rfl rfl [2, 3, 4, 5, 6, 7, 8, 9, 10] rfl (k_allc rfl rfl (k_allc rfl rfl (k_allc rfl rfl (k_allc rfl rfl (k_allc rfl rfl (k_allc rfl rfl (k_allc rfl rfl (k_allc rfl rfl (k_allc rfl rfl k_alln))))))))) 11 rfl (by decide +kernel) (wd_tFleet_onWater_f.trans wd_tFleet_onWater_f.symm) rfl hl.1 rfl (Nat.le_of_ble_eq_true rfl) dX4_launch_15 ⟨Nat.zero_le _, Nat.zero_le _⟩ (fun H locs hP hD hS => ?_)
        refine lv_aload_n hx hb dX4_launch_18 rfl (lv_at hl 0 rfl) ?_
        refine lv_iconst (v := 5) hx hb dX4_launch_19 (by decide) ?_
        refine lv_iload_n hx hb dX4_launch_20 rfl (lv_at hl 2 rfl) ?_
        refine lv_iconst (v := (-1)) hx hb dX4_launch_21 (by decide) ?_
        obtain ⟨t_row_4, hc4, h⟩ := kb1_some h
        refine k_GVv (rest := []) (As := [.int 5, .int x2, .int (-1)]) (ws' := (wd_tFleet_onWater cI cZ a_t a_on t_row_4 on_junctions on_cuts on_boats on_cutA on_cutB on_cutHard on_boatAt on_boatPull on_boatWear on_onward on_onwardHard)) ⟨hx, hb, hml, hown, hts⟩ (c_Fleet_put l dC dI cI cZ a_t t_row_3 5 x2 (-1) t_row_4 hc4) (cwV 3 hts gX4_launch_X4_put rfl rfl rfl hd_4_put ⟨Nat.le_of_ble_eq_true rfl, Nat.le_of_ble_eq_true rfl⟩) hK hP hD hS hA [0, 1] rfl (by decide +kernel) 0 4 rfl rfl rfl [2, 3, 4, 5, 6, 7, 8, 9, 10] rfl (k_allc rfl rfl (k_allc rfl rfl (k_allc rfl rfl (k_allc rfl rfl (k_allc rfl rfl (k_allc rfl rfl (k_allc rfl rfl (k_allc rfl rfl (k_allc rfl rfl k_alln))))))))) 11 rfl (by decide +kernel) (wd_tFleet_onWater_f.trans wd_tFleet_onWater_f.symm) rfl hl.1 rfl (Nat.le_of_ble_eq_true rfl) dX4_launch_22 ⟨Nat.zero_le _, Nat.zero_le _⟩ (fun H locs hP hD hS => ?_)
        refine lv_aload_n hx hb dX4_launch_25 rfl (lv_at hl 0 rfl) ?_
        refine lv_bipush (v := 10) hx hb dX4_launch_26 (by decide) ?_
        refine lv_iload_n hx hb dX4_launch_28 rfl (lv_at hl 2 rfl) ?_
        refine lv_aload_n hx hb dX4_launch_29 rfl (lv_at hl 1 rfl) ?_
        refine lv_iload_n hx hb dX4_launch_30 rfl (lv_at hl 2 rfl) ?_
        obtain ⟨r5, hc5, h⟩ := kb1_some h
        refine k_RVi (rest := [.int x2, .int 10, .ref (a_t 0)]) (As := [.int x2]) ⟨hx, hb, hml, hown, hts⟩ (c_Water_startPullOf l dC dI cI cZ a_on on_junctions on_cuts on_boats on_cutA on_cutB on_cutHard on_boatAt on_boatPull on_boatWear on_onward on_onwardHard x2 r5 hc5) (cwV 1 hts gX4_launch_X9_startPullOf rfl rfl rfl hd_9_startPullOf ⟨Nat.le_of_ble_eq_true rfl, Nat.le_of_ble_eq_true rfl⟩) hK hP hD hS hA [2, 3, 4, 5, 6, 7, 8, 9, 10] rfl (by decide +kernel) 2 9 rfl rfl rfl rfl hl.1 rfl (Nat.le_of_ble_eq_true rfl) dX4_launch_31 ⟨Nat.zero_le _, Nat.zero_le _⟩ (fun H locs hP hD hS => ?_)
        obtain ⟨t_row_6, hc6, h⟩ := kb1_some h
        refine k_GVv (rest := []) (As := [.int 10, .int x2, .int r5]) (ws' := (wd_tFleet_onWater cI cZ a_t a_on t_row_6 on_junctions on_cuts on_boats on_cutA on_cutB on_cutHard on_boatAt on_boatPull on_boatWear on_onward on_onwardHard)) ⟨hx, hb, hml, hown, hts⟩ (c_Fleet_put l dC dI cI cZ a_t t_row_4 10 x2 r5 t_row_6 hc6) (cwV 3 hts gX4_launch_X4_put rfl rfl rfl hd_4_put ⟨Nat.le_of_ble_eq_true rfl, Nat.le_of_ble_eq_true rfl⟩) hK hP hD hS hA [0, 1] rfl (by decide +kernel) 0 4 rfl rfl rfl [2, 3, 4, 5, 6, 7, 8, 9, 10] rfl (k_allc rfl rfl (k_allc rfl rfl (k_allc rfl rfl (k_allc rfl rfl (k_allc rfl rfl (k_allc rfl rfl (k_allc rfl rfl (k_allc rfl rfl (k_allc rfl rfl k_alln))))))))) 11 rfl (by decide +kernel) (wd_tFleet_onWater_f.trans wd_tFleet_onWater_f.symm) rfl hl.1 rfl (Nat.le_of_ble_eq_true rfl) dX4_launch_34 ⟨Nat.zero_le _, Nat.zero_le _⟩ (fun H locs hP hD hS => ?_)
        refine lv_aload_n hx hb dX4_launch_37 rfl (lv_at hl 0 rfl) ?_
        refine lv_bipush (v := 15) hx hb dX4_launch_38 (by decide) ?_
        refine lv_iload_n hx hb dX4_launch_40 rfl (lv_at hl 2 rfl) ?_
        refine lv_iconst (v := 0) hx hb dX4_launch_41 (by decide) ?_
        obtain ⟨t_row_7, hc7, h⟩ := kb1_some h
        refine k_GVv (rest := []) (As := [.int 15, .int x2, .int 0]) (ws' := (wd_tFleet_onWater cI cZ a_t a_on t_row_7 on_junctions on_cuts on_boats on_cutA on_cutB on_cutHard on_boatAt on_boatPull on_boatWear on_onward on_onwardHard)) ⟨hx, hb, hml, hown, hts⟩ (c_Fleet_put l dC dI cI cZ a_t t_row_6 15 x2 0 t_row_7 hc7) (cwV 3 hts gX4_launch_X4_put rfl rfl rfl hd_4_put ⟨Nat.le_of_ble_eq_true rfl, Nat.le_of_ble_eq_true rfl⟩) hK hP hD hS hA [0, 1] rfl (by decide +kernel) 0 4 rfl rfl rfl [2, 3, 4, 5, 6, 7, 8, 9, 10] rfl (k_allc rfl rfl (k_allc rfl rfl (k_allc rfl rfl (k_allc rfl rfl (k_allc rfl rfl (k_allc rfl rfl (k_allc rfl rfl (k_allc rfl rfl (k_allc rfl rfl k_alln))))))))) 11 rfl (by decide +kernel) (wd_tFleet_onWater_f.trans wd_tFleet_onWater_f.symm) rfl hl.1 rfl (Nat.le_of_ble_eq_true rfl) dX4_launch_42 ⟨Nat.zero_le _, Nat.zero_le _⟩ (fun H locs hP hD hS => ?_)
        refine lv_iinc (v := (x2 + 1)) (lv' := [(2, .int (x2 + 1)), (0, .ref (a_t 0)), (1, .ref (a_on 0))]) hx hb dX4_launch_45 hl (k := 2) rfl rfl (by decide) rfl (fun ls hl => ?_)
        refine lv_goto (tgt := 2) hx hb dX4_launch_48 (by decide) ?_
        exact ih2 (x2 + 1) t_row_7 _ _ _ hP hD hS (lv_sub hl [1, 2, 0] rfl) h
  unfold m_Fleet_launch at h
  refine lv_iconst (v := 0) hx hb dX4_launch_0 (by decide) ?_
  refine lv_istore_n (lv' := [(2, .int 0), (0, .ref (a_t 0)), (1, .ref (a_on 0))]) hx hb dX4_launch_1 rfl hl (by decide) rfl (fun ls hl => ?_)
  exact L2 FU 0 i_t_row _ _ _ hP hD hS (lv_sub hl [1, 2, 0] rfl) h
set_option maxHeartbeats 4000000 in
set_option maxRecDepth 100000 in
theorem c_Fleet_isSitting (l : Launch) (dC : Nat → ClassId) (dI : Nat → Nat → Nat) (cI cZ : ClassId) (a_t a_on : Nat → Nat) (t_row : Nat → Int32) (on_junctions : Int32) (on_cuts : Int32) (on_boats : Int32) (on_cutA : Nat → Int32) (on_cutB : Nat → Int32) (on_cutHard : Nat → Int32) (on_boatAt : Nat → Int32) (on_boatPull : Nat → Int32) (on_boatWear : Nat → Int32) (on_onward : Nat → Int32) (on_onwardHard : Nat → Int32) (y2 : Int32) (r0 : Int32) (h : m_Fleet_isSitting y2 t_row on_onwardHard = some r0) : (MI l yX4_isSitting wsX4_isSitting ({ frames := 2, cells := 0, slots := 0, locals := 45 }) (dC, dI) [(cI, .int), (cZ, .boolean)] (wd_tFleet_onWater cI cZ a_t a_on t_row on_junctions on_cuts on_boats on_cutA on_cutB on_cutHard on_boatAt on_boatPull on_boatWear on_onward on_onwardHard) (wd_tFleet_onWater cI cZ a_t a_on t_row on_junctions on_cuts on_boats on_cutA on_cutB on_cutHard on_boatAt on_boatPull on_boatWear on_onward on_onwardHard) [.ref (a_t 0), .ref (a_on 0), .int y2] r0) := by
  intro sz
  refine Met.ofW (cc := cX4_isSitting) (maxL := 3) (ret := (some .boolean)) (by decide) rfl ?_
  intro p e s m args below meth c s₁ B hml hv
  obtain ⟨rfl, hsz, hP, hK, hD0⟩ := hv
  have hx := B.exec
  have hb := B.bytes
  have hr := B.returns
  have hts := atoms_spec (ws := wsX4_isSitting) B.pre
  have hown : s.vm.findClass RX4 = some m.cls := findClass_of_methodNamed B.named
  have hlocks := B.notSynchronized
  subst hsz
  have hD := hD0.self (sz := s.heap.size)
  have hA : ∀ q : Nat, s.heap.size ≤ q → va_A (wd_tFleet_onWater cI cZ a_t a_on t_row on_junctions on_cuts on_boats on_cutA on_cutB on_cutHard on_boatAt on_boatPull on_boatWear on_onward on_onwardHard) s.heap.size q := fun q h => Or.inr h
  have hS : va_S (va_A (wd_tFleet_onWater cI cZ a_t a_on t_row on_junctions on_cuts on_boats on_cutA on_cutB on_cutHard on_boatAt on_boatPull on_boatWear on_onward on_onwardHard) s.heap.size) s.heap s.heap [] := va_S.rf
  have hl := lv_entry ([.ref (a_t 0), .ref (a_on 0), .int y2]) (n := 3) (Nat.le_of_ble_eq_true rfl)
  rw [lg_entry_eq]
  generalize (lg_sl ([.ref (a_t 0), .ref (a_on 0), .int y2]) ++ List.replicate (3 - (lg_sl ([.ref (a_t 0), .ref (a_on 0), .int y2])).length) Slot.unset).toArray = ls at hl ⊢
  have hl : lv_has ls 3 [(0, .ref (a_t 0)), (1, .ref (a_on 0)), (2, .int y2)] := hl
  unfold m_Fleet_isSitting at h
  refine lv_aload_n hx hb dX4_isSitting_0 rfl (lv_at hl 0 rfl) ?_
  refine lv_iload_n hx hb dX4_isSitting_1 rfl (lv_at hl 2 rfl) ?_
  obtain ⟨r1, hc1, h⟩ := kb1_some h
  refine k_RVi (rest := []) (As := [.int y2]) ⟨hx, hb, hml, hown, hts⟩ (c_Fleet_pull l dC dI cI cZ a_t t_row y2 r1 hc1) (cwV 1 hts gX4_isSitting_X4_pull rfl rfl rfl hd_4_pull ⟨Nat.le_of_ble_eq_true rfl, Nat.le_of_ble_eq_true rfl⟩) hK hP hD hS hA [0, 1] rfl (by decide +kernel) 0 4 rfl rfl rfl rfl hl.1 rfl (Nat.le_of_ble_eq_true rfl) dX4_isSitting_2 ⟨Nat.zero_le _, Nat.zero_le _⟩ (fun H locs hP hD hS => ?_)
  refine lv_aload_n hx hb dX4_isSitting_5 rfl (lv_at hl 1 rfl) ?_
  refine lv_aload_n hx hb dX4_isSitting_6 rfl (lv_at hl 0 rfl) ?_
  refine lv_iload_n hx hb dX4_isSitting_7 rfl (lv_at hl 2 rfl) ?_
  obtain ⟨r2, hc2, h⟩ := kb1_some h
  refine k_RVi (rest := [.ref (a_on 0), .int r1]) (As := [.int y2]) ⟨hx, hb, hml, hown, hts⟩ (c_Fleet_at l dC dI cI cZ a_t t_row y2 r2 hc2) (cwV 1 hts gX4_isSitting_X4_at rfl rfl rfl hd_4_at ⟨Nat.le_of_ble_eq_true rfl, Nat.le_of_ble_eq_true rfl⟩) hK hP hD hS hA [0, 1] rfl (by decide +kernel) 0 4 rfl rfl rfl rfl hl.1 rfl (Nat.le_of_ble_eq_true rfl) dX4_isSitting_8 ⟨Nat.zero_le _, Nat.zero_le _⟩ (fun H locs hP hD hS => ?_)
  refine lv_aload_n hx hb dX4_isSitting_11 rfl (lv_at hl 0 rfl) ?_
  refine lv_iload_n hx hb dX4_isSitting_12 rfl (lv_at hl 2 rfl) ?_
  obtain ⟨r3, hc3, h⟩ := kb1_some h
  refine k_RVi (rest := [.int r2, .ref (a_on 0), .int r1]) (As := [.int y2]) ⟨hx, hb, hml, hown, hts⟩ (c_Fleet_from l dC dI cI cZ a_t t_row y2 r3 hc3) (cwV 1 hts gX4_isSitting_X4_from rfl rfl rfl hd_4_from ⟨Nat.le_of_ble_eq_true rfl, Nat.le_of_ble_eq_true rfl⟩) hK hP hD hS hA [0, 1] rfl (by decide +kernel) 0 4 rfl rfl rfl rfl hl.1 rfl (Nat.le_of_ble_eq_true rfl) dX4_isSitting_13 ⟨Nat.zero_le _, Nat.zero_le _⟩ (fun H locs hP hD hS => ?_)
  obtain ⟨r4, hc4, h⟩ := kb1_some h
  refine k_RVi (rest := [.int r1]) (As := [.int r2, .int r3]) ⟨hx, hb, hml, hown, hts⟩ (c_Water_hardOn l dC dI cI cZ a_on on_junctions on_cuts on_boats on_cutA on_cutB on_cutHard on_boatAt on_boatPull on_boatWear on_onward on_onwardHard r2 r3 r4 hc4) (cwV 2 hts gX4_isSitting_X9_hardOn rfl rfl rfl hd_9_hardOn ⟨Nat.le_of_ble_eq_true rfl, Nat.le_of_ble_eq_true rfl⟩) hK hP hD hS hA [2, 3, 4, 5, 6, 7, 8, 9, 10] rfl (by decide +kernel) 2 9 rfl rfl rfl rfl hl.1 rfl (Nat.le_of_ble_eq_true rfl) dX4_isSitting_16 ⟨Nat.zero_le _, Nat.zero_le _⟩ (fun H locs hP hD hS => ?_)
  refine lv_icmp_gt (tgt := 26) hx hb dX4_isSitting_19 (by decide) (fun hc => ?_) (fun hc => ?_)
  · have h := k_pos hc h
    refine lv_iconst (v := 0) hx hb dX4_isSitting_26 (by decide) ?_
    obtain rfl := k_in1 h
    exact k_rz hx hb hr hlocks rfl hP hS dX4_isSitting_27
  · have h := k_neg hc h
    refine lv_iconst (v := 1) hx hb dX4_isSitting_22 (by decide) ?_
    refine lv_goto (tgt := 27) hx hb dX4_isSitting_23 (by decide) ?_
    obtain rfl := k_in1 h
    exact k_rz hx hb hr hlocks rfl hP hS dX4_isSitting_27
set_option maxHeartbeats 4000000 in
set_option maxRecDepth 100000 in
theorem c_Fleet_lighten (l : Launch) (dC : Nat → ClassId) (dI : Nat → Nat → Nat) (cI cZ : ClassId) (a_t : Nat → Nat) (i_t_row : Nat → Int32) (y1 : Int32) (y2 : Int32) (o_t_row : Nat → Int32) (h : m_Fleet_lighten y1 y2 i_t_row = some o_t_row) : (MV l yX4_lighten wsX4_lighten ({ frames := 2, cells := 0, slots := 0, locals := 43 }) (dC, dI) [(cI, .int), (cZ, .boolean)] (wd_tFleet cI cZ a_t i_t_row) (wd_tFleet cI cZ a_t o_t_row) [.ref (a_t 0), .int y1, .int y2]) := by
  intro sz
  refine Met.ofW (cc := cX4_lighten) (maxL := 3) (ret := none) (by decide) rfl ?_
  intro p e s m args below meth c s₁ B hml hv
  obtain ⟨rfl, hsz, hP, hK, hD0⟩ := hv
  have hx := B.exec
  have hb := B.bytes
  have hr := B.returns
  have hts := atoms_spec (ws := wsX4_lighten) B.pre
  have hown : s.vm.findClass RX4 = some m.cls := findClass_of_methodNamed B.named
  have hlocks := B.notSynchronized
  subst hsz
  have hD := hD0.self (sz := s.heap.size)
  have hA : ∀ q : Nat, s.heap.size ≤ q → va_A (wd_tFleet cI cZ a_t i_t_row) s.heap.size q := fun q h => Or.inr h
  have hS : va_S (va_A (wd_tFleet cI cZ a_t i_t_row) s.heap.size) s.heap s.heap [] := va_S.rf
  have hl := lv_entry ([.ref (a_t 0), .int y1, .int y2]) (n := 3) (Nat.le_of_ble_eq_true rfl)
  rw [lg_entry_eq]
  generalize (lg_sl ([.ref (a_t 0), .int y1, .int y2]) ++ List.replicate (3 - (lg_sl ([.ref (a_t 0), .int y1, .int y2])).length) Slot.unset).toArray = ls at hl ⊢
  have hl : lv_has ls 3 [(0, .ref (a_t 0)), (1, .int y1), (2, .int y2)] := hl
  unfold m_Fleet_lighten at h
  refine lv_aload_n hx hb dX4_lighten_0 rfl (lv_at hl 0 rfl) ?_
  refine lv_bipush (v := 10) hx hb dX4_lighten_1 (by decide) ?_
  refine lv_iload_n hx hb dX4_lighten_3 rfl (lv_at hl 1 rfl) ?_
  refine lv_iconst (v := 0) hx hb dX4_lighten_4 (by decide) ?_
  refine lv_aload_n hx hb dX4_lighten_5 rfl (lv_at hl 0 rfl) ?_
  refine lv_iload_n hx hb dX4_lighten_6 rfl (lv_at hl 1 rfl) ?_
  obtain ⟨r1, hc1, h⟩ := kb1_some h
  refine k_FVi (rest := [.int 0, .int y1, .int 10, .ref (a_t 0)]) (As := [.int y1]) ⟨hx, hb, hml, hown, hts⟩ (c_Fleet_pull l dC dI cI cZ a_t i_t_row y1 r1 hc1) (cwV 1 hts gX4_lighten_X4_pull rfl rfl rfl hd_4_pull ⟨Nat.le_of_ble_eq_true rfl, Nat.le_of_ble_eq_true rfl⟩) hK hP hD hS hA 0 4 rfl rfl rfl (wd_tFleet_f.trans wd_tFleet_f.symm) rfl hl.1 rfl (Nat.le_of_ble_eq_true rfl) dX4_lighten_7 ⟨Nat.zero_le _, Nat.zero_le _⟩ (fun H locs hP hD hS => ?_)
  refine lv_iload_n hx hb dX4_lighten_10 rfl (lv_at hl 2 rfl) ?_
  refine lv_isub hx hb dX4_lighten_11 ?_
  refine va_mmax hx hb (hml.trans hl.1.symm) hown (hts (.methodLink RX4 69 Lib.Math.max.name) (List.mem_of_getElem? (i := 1) rfl)) (hts (.static Lib.Math.max.name) (List.mem_of_getElem? (i := 2) rfl)) (hts (.initialized "java/lang/Math") (List.mem_of_getElem? (i := 3) rfl)) (hts (.code Lib.Math.max.name Lib.Math.max.code 2 (some .int)) (List.mem_of_getElem? (i := 4) rfl)) (Nat.le_of_ble_eq_true rfl) (Nat.le_of_ble_eq_true rfl) (Nat.zero_le _) (Nat.zero_le _) dX4_lighten_12 ?_
  obtain ⟨t_row_2, hc2, h⟩ := kb1_some h
  refine k_FVv (rest := []) (As := [.int 10, .int y1, .int (if 0 < (r1 - y2) then (r1 - y2) else 0)]) ⟨hx, hb, hml, hown, hts⟩ (c_Fleet_put l dC dI cI cZ a_t i_t_row 10 y1 (if 0 < (r1 - y2) then (r1 - y2) else 0) t_row_2 hc2) (cwV 3 hts gX4_lighten_X4_put rfl rfl rfl hd_4_put ⟨Nat.le_of_ble_eq_true rfl, Nat.le_of_ble_eq_true rfl⟩) hK hP hD hS hA 0 4 rfl rfl rfl (wd_tFleet_f.trans wd_tFleet_f.symm) rfl hl.1 rfl (Nat.le_of_ble_eq_true rfl) dX4_lighten_15 ⟨Nat.zero_le _, Nat.zero_le _⟩ (fun H locs hP hD hS => ?_)
  obtain rfl := k_in1 h
  exact k_rv hx hb hr hlocks hP hS dX4_lighten_18
set_option maxHeartbeats 4000000 in
set_option maxRecDepth 100000 in
theorem c_Fleet_advance (l : Launch) (dC : Nat → ClassId) (dI : Nat → Nat → Nat) (cI cZ : ClassId) (a_t a_on : Nat → Nat) (i_t_row : Nat → Int32) (on_junctions : Int32) (on_cuts : Int32) (on_boats : Int32) (on_cutA : Nat → Int32) (on_cutB : Nat → Int32) (on_cutHard : Nat → Int32) (on_boatAt : Nat → Int32) (on_boatPull : Nat → Int32) (on_boatWear : Nat → Int32) (on_onward : Nat → Int32) (on_onwardHard : Nat → Int32) (y2 : Int32) (o_t_row : Nat → Int32) (h : m_Fleet_advance y2 i_t_row on_boats on_boatWear on_onward on_onwardHard = some o_t_row) : (MV l yX4_advance wsX4_advance ({ frames := 3, cells := 0, slots := 0, locals := 67 }) (dC, dI) [(cI, .int), (cZ, .boolean)] (wd_tFleet_onWater cI cZ a_t a_on i_t_row on_junctions on_cuts on_boats on_cutA on_cutB on_cutHard on_boatAt on_boatPull on_boatWear on_onward on_onwardHard) (wd_tFleet_onWater cI cZ a_t a_on o_t_row on_junctions on_cuts on_boats on_cutA on_cutB on_cutHard on_boatAt on_boatPull on_boatWear on_onward on_onwardHard) [.ref (a_t 0), .ref (a_on 0), .int y2]) := by
  intro sz
  refine Met.ofW (cc := cX4_advance) (maxL := 4) (ret := none) (by decide) rfl ?_
  intro p e s m args below meth c s₁ B hml hv
  obtain ⟨rfl, hsz, hP, hK, hD0⟩ := hv
  have hx := B.exec
  have hb := B.bytes
  have hr := B.returns
  have hts := atoms_spec (ws := wsX4_advance) B.pre
  have hown : s.vm.findClass RX4 = some m.cls := findClass_of_methodNamed B.named
  have hlocks := B.notSynchronized
  subst hsz
  have hD := hD0.self (sz := s.heap.size)
  have hA : ∀ q : Nat, s.heap.size ≤ q → va_A (wd_tFleet_onWater cI cZ a_t a_on i_t_row on_junctions on_cuts on_boats on_cutA on_cutB on_cutHard on_boatAt on_boatPull on_boatWear on_onward on_onwardHard) s.heap.size q := fun q h => Or.inr h
  have hS : va_S (va_A (wd_tFleet_onWater cI cZ a_t a_on i_t_row on_junctions on_cuts on_boats on_cutA on_cutB on_cutHard on_boatAt on_boatPull on_boatWear on_onward on_onwardHard) s.heap.size) s.heap s.heap [] := va_S.rf
  have hl := lv_entry ([.ref (a_t 0), .ref (a_on 0), .int y2]) (n := 4) (Nat.le_of_ble_eq_true rfl)
  rw [lg_entry_eq]
  generalize (lg_sl ([.ref (a_t 0), .ref (a_on 0), .int y2]) ++ List.replicate (4 - (lg_sl ([.ref (a_t 0), .ref (a_on 0), .int y2])).length) Slot.unset).toArray = ls at hl ⊢
  have hl : lv_has ls 4 [(0, .ref (a_t 0)), (1, .ref (a_on 0)), (2, .int y2)] := hl
  unfold m_Fleet_advance at h
  refine lv_aload_n hx hb dX4_advance_0 rfl (lv_at hl 0 rfl) ?_
  refine lv_aload_n hx hb dX4_advance_1 rfl (lv_at hl 1 rfl) ?_
  refine lv_iload_n hx hb dX4_advance_2 rfl (lv_at hl 2 rfl) ?_
  obtain ⟨r1, hc1, h⟩ := kb1_some h
  refine k_FVi (rest := []) (As := [.ref (a_on 0), .int y2]) ⟨hx, hb, hml, hown, hts⟩ (c_Fleet_isSitting l dC dI cI cZ a_t a_on i_t_row on_junctions on_cuts on_boats on_cutA on_cutB on_cutHard on_boatAt on_boatPull on_boatWear on_onward on_onwardHard y2 r1 hc1) (cwV 2 hts gX4_advance_X4_isSitting rfl rfl rfl hd_4_isSitting ⟨Nat.le_of_ble_eq_true rfl, Nat.le_of_ble_eq_true rfl⟩) hK hP hD hS hA 0 4 rfl rfl rfl (wd_tFleet_onWater_f.trans wd_tFleet_onWater_f.symm) rfl hl.1 rfl (Nat.le_of_ble_eq_true rfl) dX4_advance_3 ⟨Nat.zero_le _, Nat.zero_le _⟩ (fun H locs hP hD hS => ?_)
  refine lv_if_eq (tgt := 10) hx hb dX4_advance_6 (by decide) (fun hc => ?_) (fun hc => ?_)
  · have h := k_pos hc h
    refine lv_aload_n hx hb dX4_advance_10 rfl (lv_at hl 0 rfl) ?_
    refine lv_iload_n hx hb dX4_advance_11 rfl (lv_at hl 2 rfl) ?_
    obtain ⟨r2, hc2, h⟩ := kb1_some h
    refine k_RVi (rest := []) (As := [.int y2]) ⟨hx, hb, hml, hown, hts⟩ (c_Fleet_at l dC dI cI cZ a_t i_t_row y2 r2 hc2) (cwV 1 hts gX4_advance_X4_at rfl rfl rfl hd_4_at ⟨Nat.le_of_ble_eq_true rfl, Nat.le_of_ble_eq_true rfl⟩) hK hP hD hS hA [0, 1] rfl (by decide +kernel) 0 4 rfl rfl rfl rfl hl.1 rfl (Nat.le_of_ble_eq_true rfl) dX4_advance_12 ⟨Nat.zero_le _, Nat.zero_le _⟩ (fun H locs hP hD hS => ?_)
    refine lv_istore_n (lv' := [(3, .int r2), (0, .ref (a_t 0)), (1, .ref (a_on 0)), (2, .int y2)]) hx hb dX4_advance_15 rfl hl (by decide) rfl (fun ls hl => ?_)
    refine lv_aload_n hx hb dX4_advance_16 rfl (lv_at hl 1 rfl) ?_
    refine lv_iconst (v := 0) hx hb dX4_advance_17 (by decide) ?_
    refine lv_iload_n hx hb dX4_advance_18 rfl (lv_at hl 3 rfl) ?_
    refine lv_aload_n hx hb dX4_advance_19 rfl (lv_at hl 2 rfl) ?_
    refine lv_iload_n hx hb dX4_advance_20 rfl (lv_at hl 0 rfl) ?_
    refine lv_aload_n hx hb dX4_advance_21 rfl (lv_at hl 1 rfl) ?_
    refine lv_iload_n hx hb dX4_advance_22 rfl (lv_at hl 3 rfl) ?_
    obtain ⟨r3, hc3, h⟩ := kb1_some h
    refine k_RVi (rest := [.int r2, .ref (a_on 0), .int y2, .int 0, .ref (a_t 0)]) (As := [.int y2]) ⟨hx, hb, hml, hown, hts⟩ (c_Fleet_from l dC dI cI cZ a_t i_t_row y2 r3 hc3) (cwV 1 hts gX4_advance_X4_from rfl rfl rfl hd_4_from ⟨Nat.le_of_ble_eq_true rfl, Nat.le_of_ble_eq_true rfl⟩) hK hP hD hS hA [0, 1] rfl (by decide +kernel) 0 4 rfl rfl rfl rfl hl.1 rfl (Nat.le_of_ble_eq_true rfl) dX4_advance_23 ⟨Nat.zero_le _, Nat.zero_le _⟩ (fun H locs hP hD hS => ?_)
    obtain ⟨r4, hc4, h⟩ := kb1_some h
    refine k_RVi (rest := [.int y2, .int 0, .ref (a_t 0)]) (As := [.int r2, .int r3]) ⟨hx, hb, hml, hown, hts⟩ (c_Water_goesTo l dC dI cI cZ a_on on_junctions on_cuts on_boats on_cutA on_cutB on_cutHard on_boatAt on_boatPull on_boatWear on_onward on_onwardHard r2 r3 r4 hc4) (cwV 2 hts gX4_advance_X9_goesTo rfl rfl rfl hd_9_goesTo ⟨Nat.le_of_ble_eq_true rfl, Nat.le_of_ble_eq_true rfl⟩) hK hP hD hS hA [2, 3, 4, 5, 6, 7, 8, 9, 10] rfl (by decide +kernel) 2 9 rfl rfl rfl rfl hl.1 rfl (Nat.le_of_ble_eq_true rfl) dX4_advance_26 ⟨Nat.zero_le _, Nat.zero_le _⟩ (fun H locs hP hD hS => ?_)
    obtain ⟨t_row_5, hc5, h⟩ := kb1_some h
    refine k_GVv (rest := []) (As := [.int 0, .int y2, .int r4]) (ws' := (wd_tFleet_onWater cI cZ a_t a_on t_row_5 on_junctions on_cuts on_boats on_cutA on_cutB on_cutHard on_boatAt on_boatPull on_boatWear on_onward on_onwardHard)) ⟨hx, hb, hml, hown, hts⟩ (c_Fleet_put l dC dI cI cZ a_t i_t_row 0 y2 r4 t_row_5 hc5) (cwV 3 hts gX4_advance_X4_put rfl rfl rfl hd_4_put ⟨Nat.le_of_ble_eq_true rfl, Nat.le_of_ble_eq_true rfl⟩) hK hP hD hS hA [0, 1] rfl (by decide +kernel) 0 4 rfl rfl rfl [2, 3, 4, 5, 6, 7, 8, 9, 10] rfl (k_allc rfl rfl (k_allc rfl rfl (k_allc rfl rfl (k_allc rfl rfl (k_allc rfl rfl (k_allc rfl rfl (k_allc rfl rfl (k_allc rfl rfl (k_allc rfl rfl k_alln))))))))) 11 rfl (by decide +kernel) (wd_tFleet_onWater_f.trans wd_tFleet_onWater_f.symm) rfl hl.1 rfl (Nat.le_of_ble_eq_true rfl) dX4_advance_29 ⟨Nat.zero_le _, Nat.zero_le _⟩ (fun H locs hP hD hS => ?_)
    refine lv_aload_n hx hb dX4_advance_32 rfl (lv_at hl 1 rfl) ?_
    refine lv_iconst (v := 5) hx hb dX4_advance_33 (by decide) ?_
    refine lv_iload_n hx hb dX4_advance_34 rfl (lv_at hl 3 rfl) ?_
    refine lv_iload_n hx hb dX4_advance_35 rfl (lv_at hl 0 rfl) ?_
    obtain ⟨t_row_6, hc6, h⟩ := kb1_some h
    refine k_GVv (rest := []) (As := [.int 5, .int y2, .int r2]) (ws' := (wd_tFleet_onWater cI cZ a_t a_on t_row_6 on_junctions on_cuts on_boats on_cutA on_cutB on_cutHard on_boatAt on_boatPull on_boatWear on_onward on_onwardHard)) ⟨hx, hb, hml, hown, hts⟩ (c_Fleet_put l dC dI cI cZ a_t t_row_5 5 y2 r2 t_row_6 hc6) (cwV 3 hts gX4_advance_X4_put rfl rfl rfl hd_4_put ⟨Nat.le_of_ble_eq_true rfl, Nat.le_of_ble_eq_true rfl⟩) hK hP hD hS hA [0, 1] rfl (by decide +kernel) 0 4 rfl rfl rfl [2, 3, 4, 5, 6, 7, 8, 9, 10] rfl (k_allc rfl rfl (k_allc rfl rfl (k_allc rfl rfl (k_allc rfl rfl (k_allc rfl rfl (k_allc rfl rfl (k_allc rfl rfl (k_allc rfl rfl (k_allc rfl rfl k_alln))))))))) 11 rfl (by decide +kernel) (wd_tFleet_onWater_f.trans wd_tFleet_onWater_f.symm) rfl hl.1 rfl (Nat.le_of_ble_eq_true rfl) dX4_advance_36 ⟨Nat.zero_le _, Nat.zero_le _⟩ (fun H locs hP hD hS => ?_)
    refine lv_aload_n hx hb dX4_advance_39 rfl (lv_at hl 1 rfl) ?_
    refine lv_bipush (v := 15) hx hb dX4_advance_40 (by decide) ?_
    refine lv_iload_n hx hb dX4_advance_42 rfl (lv_at hl 3 rfl) ?_
    refine lv_aload_n hx hb dX4_advance_43 rfl (lv_at hl 1 rfl) ?_
    refine lv_iload_n hx hb dX4_advance_44 rfl (lv_at hl 3 rfl) ?_
    obtain ⟨r7, hc7, h⟩ := kb1_some h
    refine k_RVi (rest := [.int y2, .int 15, .ref (a_t 0)]) (As := [.int y2]) ⟨hx, hb, hml, hown, hts⟩ (c_Fleet_went l dC dI cI cZ a_t t_row_6 y2 r7 hc7) (cwV 1 hts gX4_advance_X4_went rfl rfl rfl hd_4_went ⟨Nat.le_of_ble_eq_true rfl, Nat.le_of_ble_eq_true rfl⟩) hK hP hD hS hA [0, 1] rfl (by decide +kernel) 0 4 rfl rfl rfl rfl hl.1 rfl (Nat.le_of_ble_eq_true rfl) dX4_advance_45 ⟨Nat.zero_le _, Nat.zero_le _⟩ (fun H locs hP hD hS => ?_)
    refine lv_iconst (v := 1) hx hb dX4_advance_48 (by decide) ?_
    refine lv_iadd hx hb dX4_advance_49 ?_
    obtain ⟨t_row_8, hc8, h⟩ := kb1_some h
    refine k_GVv (rest := []) (As := [.int 15, .int y2, .int (r7 + 1)]) (ws' := (wd_tFleet_onWater cI cZ a_t a_on t_row_8 on_junctions on_cuts on_boats on_cutA on_cutB on_cutHard on_boatAt on_boatPull on_boatWear on_onward on_onwardHard)) ⟨hx, hb, hml, hown, hts⟩ (c_Fleet_put l dC dI cI cZ a_t t_row_6 15 y2 (r7 + 1) t_row_8 hc8) (cwV 3 hts gX4_advance_X4_put rfl rfl rfl hd_4_put ⟨Nat.le_of_ble_eq_true rfl, Nat.le_of_ble_eq_true rfl⟩) hK hP hD hS hA [0, 1] rfl (by decide +kernel) 0 4 rfl rfl rfl [2, 3, 4, 5, 6, 7, 8, 9, 10] rfl (k_allc rfl rfl (k_allc rfl rfl (k_allc rfl rfl (k_allc rfl rfl (k_allc rfl rfl (k_allc rfl rfl (k_allc rfl rfl (k_allc rfl rfl (k_allc rfl rfl k_alln))))))))) 11 rfl (by decide +kernel) (wd_tFleet_onWater_f.trans wd_tFleet_onWater_f.symm) rfl hl.1 rfl (Nat.le_of_ble_eq_true rfl) dX4_advance_50 ⟨Nat.zero_le _, Nat.zero_le _⟩ (fun H locs hP hD hS => ?_)
    refine lv_aload_n hx hb dX4_advance_53 rfl (lv_at hl 1 rfl) ?_
    refine lv_iload_n hx hb dX4_advance_54 rfl (lv_at hl 3 rfl) ?_
    refine lv_aload_n hx hb dX4_advance_55 rfl (lv_at hl 2 rfl) ?_
    refine lv_iload_n hx hb dX4_advance_56 rfl (lv_at hl 3 rfl) ?_
    obtain ⟨r9, hc9, h⟩ := kb1_some h
    refine k_RVi (rest := [.int y2, .ref (a_t 0)]) (As := [.int y2]) ⟨hx, hb, hml, hown, hts⟩ (c_Water_wearOf l dC dI cI cZ a_on on_junctions on_cuts on_boats on_cutA on_cutB on_cutHard on_boatAt on_boatPull on_boatWear on_onward on_onwardHard y2 r9 hc9) (cwV 1 hts gX4_advance_X9_wearOf rfl rfl rfl hd_9_wearOf ⟨Nat.le_of_ble_eq_true rfl, Nat.le_of_ble_eq_true rfl⟩) hK hP hD hS hA [2, 3, 4, 5, 6, 7, 8, 9, 10] rfl (by decide +kernel) 2 9 rfl rfl rfl rfl hl.1 rfl (Nat.le_of_ble_eq_true rfl) dX4_advance_57 ⟨Nat.zero_le _, Nat.zero_le _⟩ (fun H locs hP hD hS => ?_)
    obtain ⟨t_row_10, hc10, h⟩ := kb1_some h
    refine k_GVv (rest := []) (As := [.int y2, .int r9]) (ws' := (wd_tFleet_onWater cI cZ a_t a_on t_row_10 on_junctions on_cuts on_boats on_cutA on_cutB on_cutHard on_boatAt on_boatPull on_boatWear on_onward on_onwardHard)) ⟨hx, hb, hml, hown, hts⟩ (c_Fleet_lighten l dC dI cI cZ a_t t_row_8 y2 r9 t_row_10 hc10) (cwV 2 hts gX4_advance_X4_lighten rfl rfl rfl hd_4_lighten ⟨Nat.le_of_ble_eq_true rfl, Nat.le_of_ble_eq_true rfl⟩) hK hP hD hS hA [0, 1] rfl (by decide +kernel) 0 4 rfl rfl rfl [2, 3, 4, 5, 6, 7, 8, 9, 10] rfl (k_allc rfl rfl (k_allc rfl rfl (k_allc rfl rfl (k_allc rfl rfl (k_allc rfl rfl (k_allc rfl rfl (k_allc rfl rfl (k_allc rfl rfl (k_allc rfl rfl k_alln))))))))) 11 rfl (by decide +kernel) (wd_tFleet_onWater_f.trans wd_tFleet_onWater_f.symm) rfl hl.1 rfl (Nat.le_of_ble_eq_true rfl) dX4_advance_60 ⟨Nat.zero_le _, Nat.zero_le _⟩ (fun H locs hP hD hS => ?_)
    obtain rfl := k_in1 h
    exact k_rv hx hb hr hlocks hP hS dX4_advance_63
  · have h := k_neg hc h
    obtain rfl := k_in1 h
    exact k_rv hx hb hr hlocks hP hS dX4_advance_9
