set_option maxHeartbeats 4000000 in
set_option maxRecDepth 100000 in
theorem c_Water_empty (l : Launch) (dC : Nat → ClassId) (dI : Nat → Nat → Nat) (cI cZ : ClassId) (a_t : Nat → Nat) (i_t_junctions : Int32) (i_t_cuts : Int32) (i_t_boats : Int32) (t_cutA : Nat → Int32) (t_cutB : Nat → Int32) (t_cutHard : Nat → Int32) (t_boatAt : Nat → Int32) (t_boatPull : Nat → Int32) (t_boatWear : Nat → Int32) (t_onward : Nat → Int32) (t_onwardHard : Nat → Int32)  (o_t_junctions : Int32) (o_t_cuts : Int32) (o_t_boats : Int32) (h : m_Water_empty i_t_junctions i_t_cuts i_t_boats = some (o_t_junctions, o_t_cuts, o_t_boats)) : (MV l yX9_empty wsX9_empty ({ frames := 0, cells := 0, slots := 0, locals := 0 }) (dC, dI) [(cI, .int), (cZ, .boolean)] (wd_tWater cI cZ a_t i_t_junctions i_t_cuts i_t_boats t_cutA t_cutB t_cutHard t_boatAt t_boatPull t_boatWear t_onward t_onwardHard) (wd_tWater cI cZ a_t o_t_junctions o_t_cuts o_t_boats t_cutA t_cutB t_cutHard t_boatAt t_boatPull t_boatWear t_onward t_onwardHard) [.ref (a_t 0)]) := by
  intro sz
  refine Met.ofW (cc := cX9_empty) (maxL := 1) (ret := none) (by decide) rfl ?_
  intro p e s m args below meth c s₁ B hml hv
  obtain ⟨rfl, hsz, hP, hK, hD0⟩ := hv
  have hx := B.exec
  have hb := B.bytes
  have hr := B.returns
  have hts := atoms_spec (ws := wsX9_empty) B.pre
  have hown : s.vm.findClass RX9 = some m.cls := findClass_of_methodNamed B.named
  have hlocks := B.notSynchronized
  subst hsz
  have hD := hD0.self (sz := s.heap.size)
  have hA : ∀ q : Nat, s.heap.size ≤ q → va_A (wd_tWater cI cZ a_t i_t_junctions i_t_cuts i_t_boats t_cutA t_cutB t_cutHard t_boatAt t_boatPull t_boatWear t_onward t_onwardHard) s.heap.size q := fun q h => Or.inr h
  have hS : va_S (va_A (wd_tWater cI cZ a_t i_t_junctions i_t_cuts i_t_boats t_cutA t_cutB t_cutHard t_boatAt t_boatPull t_boatWear t_onward t_onwardHard) s.heap.size) s.heap s.heap [] := va_S.rf
  have hin9 : ∀ w ∈ u_ws RX9 TX9 11, w ∈ wsX9_empty := fun w h => List.mem_cons_of_mem _ (List.mem_append_right _ h)
  have hl := lv_entry ([.ref (a_t 0)]) (n := 1) (Nat.le_of_ble_eq_true rfl)
  rw [lg_entry_eq]
  generalize (lg_sl ([.ref (a_t 0)]) ++ List.replicate (1 - (lg_sl ([.ref (a_t 0)])).length) Slot.unset).toArray = ls at hl ⊢
  have hl : lv_has ls 1 [(0, .ref (a_t 0))] := hl
  unfold m_Water_empty at h
  refine lv_aload_n hx hb dX9_empty_0 rfl (lv_at hl 0 rfl) ?_
  refine lv_iconst (v := 0) hx hb dX9_empty_1 (by decide) ?_
  refine va_put (D := (dC, dI)) (ci := 9) (v := .int 0) (ty := tyX9 0) (C := RX9) (T := TX9) (N := 11) hx hb hts hin9 tyX9 tyX9_ok nmX9 hown hK hP hD hS 0 rfl rfl 0 (by decide) (hts (.fieldLink RX9 9 "TowedBack$Water" "junctions" "I") (List.mem_of_getElem? (i := 1) rfl)) (fun _ h9 => h9) rfl (tyX9_ok 0 (by decide)) rfl rfl (Nat.le_of_ble_eq_true rfl) dX9_empty_2 (fun H locs hP hD hS => ?_)
  have hP : va_P (dC, dI) vwCl (wd_tWater cI cZ a_t 0 i_t_cuts i_t_boats t_cutA t_cutB t_cutHard t_boatAt t_boatPull t_boatWear t_onward t_onwardHard) H := hP
  have hD : va_D (va_A (wd_tWater cI cZ a_t i_t_junctions i_t_cuts i_t_boats t_cutA t_cutB t_cutHard t_boatAt t_boatPull t_boatWear t_onward t_onwardHard) s.heap.size) (wd_tWater cI cZ a_t 0 i_t_cuts i_t_boats t_cutA t_cutB t_cutHard t_boatAt t_boatPull t_boatWear t_onward t_onwardHard) := hD
  refine lv_aload_n hx hb dX9_empty_5 rfl (lv_at hl 0 rfl) ?_
  refine lv_iconst (v := 0) hx hb dX9_empty_6 (by decide) ?_
  refine va_put (D := (dC, dI)) (ci := 9) (v := .int 0) (ty := tyX9 1) (C := RX9) (T := TX9) (N := 11) hx hb hts hin9 tyX9 tyX9_ok nmX9 hown hK hP hD hS 0 rfl rfl 1 (by decide) (hts (.fieldLink RX9 15 "TowedBack$Water" "cuts" "I") (List.mem_of_getElem? (i := 2) rfl)) (fun _ h9 => h9) rfl (tyX9_ok 1 (by decide)) rfl rfl (Nat.le_of_ble_eq_true rfl) dX9_empty_7 (fun H locs hP hD hS => ?_)
  have hP : va_P (dC, dI) vwCl (wd_tWater cI cZ a_t 0 0 i_t_boats t_cutA t_cutB t_cutHard t_boatAt t_boatPull t_boatWear t_onward t_onwardHard) H := hP
  have hD : va_D (va_A (wd_tWater cI cZ a_t i_t_junctions i_t_cuts i_t_boats t_cutA t_cutB t_cutHard t_boatAt t_boatPull t_boatWear t_onward t_onwardHard) s.heap.size) (wd_tWater cI cZ a_t 0 0 i_t_boats t_cutA t_cutB t_cutHard t_boatAt t_boatPull t_boatWear t_onward t_onwardHard) := hD
  refine lv_aload_n hx hb dX9_empty_10 rfl (lv_at hl 0 rfl) ?_
  refine lv_iconst (v := 0) hx hb dX9_empty_11 (by decide) ?_
  refine va_put (D := (dC, dI)) (ci := 9) (v := .int 0) (ty := tyX9 2) (C := RX9) (T := TX9) (N := 11) hx hb hts hin9 tyX9 tyX9_ok nmX9 hown hK hP hD hS 0 rfl rfl 2 (by decide) (hts (.fieldLink RX9 18 "TowedBack$Water" "boats" "I") (List.mem_of_getElem? (i := 3) rfl)) (fun _ h9 => h9) rfl (tyX9_ok 2 (by decide)) rfl rfl (Nat.le_of_ble_eq_true rfl) dX9_empty_12 (fun H locs hP hD hS => ?_)
  have hP : va_P (dC, dI) vwCl (wd_tWater cI cZ a_t 0 0 0 t_cutA t_cutB t_cutHard t_boatAt t_boatPull t_boatWear t_onward t_onwardHard) H := hP
  have hD : va_D (va_A (wd_tWater cI cZ a_t i_t_junctions i_t_cuts i_t_boats t_cutA t_cutB t_cutHard t_boatAt t_boatPull t_boatWear t_onward t_onwardHard) s.heap.size) (wd_tWater cI cZ a_t 0 0 0 t_cutA t_cutB t_cutHard t_boatAt t_boatPull t_boatWear t_onward t_onwardHard) := hD
  obtain ⟨rfl, rfl, rfl⟩ := k_in3 h
  exact k_rv hx hb hr hlocks hP hS dX9_empty_15
set_option maxHeartbeats 4000000 in
set_option maxRecDepth 100000 in
theorem c_Water_hasJunction (l : Launch) (dC : Nat → ClassId) (dI : Nat → Nat → Nat) (cI cZ : ClassId) (a_t : Nat → Nat) (t_junctions : Int32) (t_cuts : Int32) (t_boats : Int32) (t_cutA : Nat → Int32) (t_cutB : Nat → Int32) (t_cutHard : Nat → Int32) (t_boatAt : Nat → Int32) (t_boatPull : Nat → Int32) (t_boatWear : Nat → Int32) (t_onward : Nat → Int32) (t_onwardHard : Nat → Int32) (y1 : Int32) (r0 : Int32) (h : m_Water_hasJunction y1 t_junctions = some r0) : (MI l yX9_hasJunction wsX9_hasJunction ({ frames := 0, cells := 0, slots := 0, locals := 0 }) (dC, dI) [(cI, .int), (cZ, .boolean)] (wd_tWater cI cZ a_t t_junctions t_cuts t_boats t_cutA t_cutB t_cutHard t_boatAt t_boatPull t_boatWear t_onward t_onwardHard) (wd_tWater cI cZ a_t t_junctions t_cuts t_boats t_cutA t_cutB t_cutHard t_boatAt t_boatPull t_boatWear t_onward t_onwardHard) [.ref (a_t 0), .int y1] r0) := by
  intro sz
  refine Met.ofW (cc := cX9_hasJunction) (maxL := 2) (ret := (some .boolean)) (by decide) rfl ?_
  intro p e s m args below meth c s₁ B hml hv
  obtain ⟨rfl, hsz, hP, hK, hD0⟩ := hv
  have hx := B.exec
  have hb := B.bytes
  have hr := B.returns
  have hts := atoms_spec (ws := wsX9_hasJunction) B.pre
  have hown : s.vm.findClass RX9 = some m.cls := findClass_of_methodNamed B.named
  have hlocks := B.notSynchronized
  subst hsz
  have hD := hD0.self (sz := s.heap.size)
  have hA : ∀ q : Nat, s.heap.size ≤ q → va_A (wd_tWater cI cZ a_t t_junctions t_cuts t_boats t_cutA t_cutB t_cutHard t_boatAt t_boatPull t_boatWear t_onward t_onwardHard) s.heap.size q := fun q h => Or.inr h
  have hS : va_S (va_A (wd_tWater cI cZ a_t t_junctions t_cuts t_boats t_cutA t_cutB t_cutHard t_boatAt t_boatPull t_boatWear t_onward t_onwardHard) s.heap.size) s.heap s.heap [] := va_S.rf
  have hin9 : ∀ w ∈ u_ws RX9 TX9 11, w ∈ wsX9_hasJunction := fun w h => List.mem_cons_of_mem _ (List.mem_append_right _ h)
  have hl := lv_entry ([.ref (a_t 0), .int y1]) (n := 2) (Nat.le_of_ble_eq_true rfl)
  rw [lg_entry_eq]
  generalize (lg_sl ([.ref (a_t 0), .int y1]) ++ List.replicate (2 - (lg_sl ([.ref (a_t 0), .int y1])).length) Slot.unset).toArray = ls at hl ⊢
  have hl : lv_has ls 2 [(0, .ref (a_t 0)), (1, .int y1)] := hl
  unfold m_Water_hasJunction at h
  refine lv_iload_n hx hb dX9_hasJunction_0 rfl (lv_at hl 1 rfl) ?_
  refine lv_if_lt (tgt := 16) hx hb dX9_hasJunction_1 (by decide) (fun hc => ?_) (fun hc => ?_)
  · have h := k_pos hc h
    refine lv_iconst (v := 0) hx hb dX9_hasJunction_16 (by decide) ?_
    obtain rfl := k_in1 h
    exact k_rz hx hb hr hlocks rfl hP hS dX9_hasJunction_17
  · have h := k_neg hc h
    refine lv_iload_n hx hb dX9_hasJunction_4 rfl (lv_at hl 1 rfl) ?_
    refine lv_aload_n hx hb dX9_hasJunction_5 rfl (lv_at hl 0 rfl) ?_
    refine va_get (D := (dC, dI)) (ci := 9) (v := .int t_junctions) (C := RX9) (T := TX9) (N := 11) hx hb hts hin9 hown hK hP 0 rfl rfl 0 (by decide) (hts (.fieldLink RX9 9 "TowedBack$Water" "junctions" "I") (List.mem_of_getElem? (i := 1) rfl)) (fun _ h9 => h9) rfl dX9_hasJunction_6 ?_
    refine lv_icmp_ge (tgt := 16) hx hb dX9_hasJunction_9 (by decide) (fun hc => ?_) (fun hc => ?_)
    · have h := k_pos hc h
      refine lv_iconst (v := 0) hx hb dX9_hasJunction_16 (by decide) ?_
      obtain rfl := k_in1 h
      exact k_rz hx hb hr hlocks rfl hP hS dX9_hasJunction_17
    · have h := k_neg hc h
      refine lv_iconst (v := 1) hx hb dX9_hasJunction_12 (by decide) ?_
      refine lv_goto (tgt := 17) hx hb dX9_hasJunction_13 (by decide) ?_
      obtain rfl := k_in1 h
      exact k_rz hx hb hr hlocks rfl hP hS dX9_hasJunction_17
set_option maxHeartbeats 4000000 in
set_option maxRecDepth 100000 in
theorem c_Water_hasCut (l : Launch) (dC : Nat → ClassId) (dI : Nat → Nat → Nat) (cI cZ : ClassId) (a_t : Nat → Nat) (t_junctions : Int32) (t_cuts : Int32) (t_boats : Int32) (t_cutA : Nat → Int32) (t_cutB : Nat → Int32) (t_cutHard : Nat → Int32) (t_boatAt : Nat → Int32) (t_boatPull : Nat → Int32) (t_boatWear : Nat → Int32) (t_onward : Nat → Int32) (t_onwardHard : Nat → Int32) (y1 : Int32) (r0 : Int32) (h : m_Water_hasCut y1 t_cuts = some r0) : (MI l yX9_hasCut wsX9_hasCut ({ frames := 0, cells := 0, slots := 0, locals := 0 }) (dC, dI) [(cI, .int), (cZ, .boolean)] (wd_tWater cI cZ a_t t_junctions t_cuts t_boats t_cutA t_cutB t_cutHard t_boatAt t_boatPull t_boatWear t_onward t_onwardHard) (wd_tWater cI cZ a_t t_junctions t_cuts t_boats t_cutA t_cutB t_cutHard t_boatAt t_boatPull t_boatWear t_onward t_onwardHard) [.ref (a_t 0), .int y1] r0) := by
  intro sz
  refine Met.ofW (cc := cX9_hasCut) (maxL := 2) (ret := (some .boolean)) (by decide) rfl ?_
  intro p e s m args below meth c s₁ B hml hv
  obtain ⟨rfl, hsz, hP, hK, hD0⟩ := hv
  have hx := B.exec
  have hb := B.bytes
  have hr := B.returns
  have hts := atoms_spec (ws := wsX9_hasCut) B.pre
  have hown : s.vm.findClass RX9 = some m.cls := findClass_of_methodNamed B.named
  have hlocks := B.notSynchronized
  subst hsz
  have hD := hD0.self (sz := s.heap.size)
  have hA : ∀ q : Nat, s.heap.size ≤ q → va_A (wd_tWater cI cZ a_t t_junctions t_cuts t_boats t_cutA t_cutB t_cutHard t_boatAt t_boatPull t_boatWear t_onward t_onwardHard) s.heap.size q := fun q h => Or.inr h
  have hS : va_S (va_A (wd_tWater cI cZ a_t t_junctions t_cuts t_boats t_cutA t_cutB t_cutHard t_boatAt t_boatPull t_boatWear t_onward t_onwardHard) s.heap.size) s.heap s.heap [] := va_S.rf
  have hin9 : ∀ w ∈ u_ws RX9 TX9 11, w ∈ wsX9_hasCut := fun w h => List.mem_cons_of_mem _ (List.mem_append_right _ h)
  have hl := lv_entry ([.ref (a_t 0), .int y1]) (n := 2) (Nat.le_of_ble_eq_true rfl)
  rw [lg_entry_eq]
  generalize (lg_sl ([.ref (a_t 0), .int y1]) ++ List.replicate (2 - (lg_sl ([.ref (a_t 0), .int y1])).length) Slot.unset).toArray = ls at hl ⊢
  have hl : lv_has ls 2 [(0, .ref (a_t 0)), (1, .int y1)] := hl
  unfold m_Water_hasCut at h
  refine lv_iload_n hx hb dX9_hasCut_0 rfl (lv_at hl 1 rfl) ?_
  refine lv_if_lt (tgt := 22) hx hb dX9_hasCut_1 (by decide) (fun hc => ?_) (fun hc => ?_)
  · have h := k_pos hc h
    refine lv_iconst (v := 0) hx hb dX9_hasCut_22 (by decide) ?_
    obtain rfl := k_in1 h
    exact k_rz hx hb hr hlocks rfl hP hS dX9_hasCut_23
  · have h := k_neg hc h
    refine lv_iload_n hx hb dX9_hasCut_4 rfl (lv_at hl 1 rfl) ?_
    refine lv_aload_n hx hb dX9_hasCut_5 rfl (lv_at hl 0 rfl) ?_
    refine va_get (D := (dC, dI)) (ci := 9) (v := .int t_cuts) (C := RX9) (T := TX9) (N := 11) hx hb hts hin9 hown hK hP 0 rfl rfl 1 (by decide) (hts (.fieldLink RX9 15 "TowedBack$Water" "cuts" "I") (List.mem_of_getElem? (i := 1) rfl)) (fun _ h9 => h9) rfl dX9_hasCut_6 ?_
    refine lv_icmp_ge (tgt := 22) hx hb dX9_hasCut_9 (by decide) (fun hc => ?_) (fun hc => ?_)
    · have h := k_pos hc h
      refine lv_iconst (v := 0) hx hb dX9_hasCut_22 (by decide) ?_
      obtain rfl := k_in1 h
      exact k_rz hx hb hr hlocks rfl hP hS dX9_hasCut_23
    · have h := k_neg hc h
      refine lv_iload_n hx hb dX9_hasCut_12 rfl (lv_at hl 1 rfl) ?_
      refine lv_bipush (v := 14) hx hb dX9_hasCut_13 (by decide) ?_
      refine lv_icmp_ge (tgt := 22) hx hb dX9_hasCut_15 (by decide) (fun hc => ?_) (fun hc => ?_)
      · have h := k_pos hc h
        refine lv_iconst (v := 0) hx hb dX9_hasCut_22 (by decide) ?_
        obtain rfl := k_in1 h
        exact k_rz hx hb hr hlocks rfl hP hS dX9_hasCut_23
      · have h := k_neg hc h
        refine lv_iconst (v := 1) hx hb dX9_hasCut_18 (by decide) ?_
        refine lv_goto (tgt := 23) hx hb dX9_hasCut_19 (by decide) ?_
        obtain rfl := k_in1 h
        exact k_rz hx hb hr hlocks rfl hP hS dX9_hasCut_23
set_option maxHeartbeats 4000000 in
set_option maxRecDepth 100000 in
theorem c_Water_hasBoat (l : Launch) (dC : Nat → ClassId) (dI : Nat → Nat → Nat) (cI cZ : ClassId) (a_t : Nat → Nat) (t_junctions : Int32) (t_cuts : Int32) (t_boats : Int32) (t_cutA : Nat → Int32) (t_cutB : Nat → Int32) (t_cutHard : Nat → Int32) (t_boatAt : Nat → Int32) (t_boatPull : Nat → Int32) (t_boatWear : Nat → Int32) (t_onward : Nat → Int32) (t_onwardHard : Nat → Int32) (y1 : Int32) (r0 : Int32) (h : m_Water_hasBoat y1 t_boats = some r0) : (MI l yX9_hasBoat wsX9_hasBoat ({ frames := 0, cells := 0, slots := 0, locals := 0 }) (dC, dI) [(cI, .int), (cZ, .boolean)] (wd_tWater cI cZ a_t t_junctions t_cuts t_boats t_cutA t_cutB t_cutHard t_boatAt t_boatPull t_boatWear t_onward t_onwardHard) (wd_tWater cI cZ a_t t_junctions t_cuts t_boats t_cutA t_cutB t_cutHard t_boatAt t_boatPull t_boatWear t_onward t_onwardHard) [.ref (a_t 0), .int y1] r0) := by
  intro sz
  refine Met.ofW (cc := cX9_hasBoat) (maxL := 2) (ret := (some .boolean)) (by decide) rfl ?_
  intro p e s m args below meth c s₁ B hml hv
  obtain ⟨rfl, hsz, hP, hK, hD0⟩ := hv
  have hx := B.exec
  have hb := B.bytes
  have hr := B.returns
  have hts := atoms_spec (ws := wsX9_hasBoat) B.pre
  have hown : s.vm.findClass RX9 = some m.cls := findClass_of_methodNamed B.named
  have hlocks := B.notSynchronized
  subst hsz
  have hD := hD0.self (sz := s.heap.size)
  have hA : ∀ q : Nat, s.heap.size ≤ q → va_A (wd_tWater cI cZ a_t t_junctions t_cuts t_boats t_cutA t_cutB t_cutHard t_boatAt t_boatPull t_boatWear t_onward t_onwardHard) s.heap.size q := fun q h => Or.inr h
  have hS : va_S (va_A (wd_tWater cI cZ a_t t_junctions t_cuts t_boats t_cutA t_cutB t_cutHard t_boatAt t_boatPull t_boatWear t_onward t_onwardHard) s.heap.size) s.heap s.heap [] := va_S.rf
  have hin9 : ∀ w ∈ u_ws RX9 TX9 11, w ∈ wsX9_hasBoat := fun w h => List.mem_cons_of_mem _ (List.mem_append_right _ h)
  have hl := lv_entry ([.ref (a_t 0), .int y1]) (n := 2) (Nat.le_of_ble_eq_true rfl)
  rw [lg_entry_eq]
  generalize (lg_sl ([.ref (a_t 0), .int y1]) ++ List.replicate (2 - (lg_sl ([.ref (a_t 0), .int y1])).length) Slot.unset).toArray = ls at hl ⊢
  have hl : lv_has ls 2 [(0, .ref (a_t 0)), (1, .int y1)] := hl
  unfold m_Water_hasBoat at h
  refine lv_iload_n hx hb dX9_hasBoat_0 rfl (lv_at hl 1 rfl) ?_
  refine lv_if_lt (tgt := 21) hx hb dX9_hasBoat_1 (by decide) (fun hc => ?_) (fun hc => ?_)
  · have h := k_pos hc h
    refine lv_iconst (v := 0) hx hb dX9_hasBoat_21 (by decide) ?_
    obtain rfl := k_in1 h
    exact k_rz hx hb hr hlocks rfl hP hS dX9_hasBoat_22
  · have h := k_neg hc h
    refine lv_iload_n hx hb dX9_hasBoat_4 rfl (lv_at hl 1 rfl) ?_
    refine lv_aload_n hx hb dX9_hasBoat_5 rfl (lv_at hl 0 rfl) ?_
    refine va_get (D := (dC, dI)) (ci := 9) (v := .int t_boats) (C := RX9) (T := TX9) (N := 11) hx hb hts hin9 hown hK hP 0 rfl rfl 2 (by decide) (hts (.fieldLink RX9 18 "TowedBack$Water" "boats" "I") (List.mem_of_getElem? (i := 1) rfl)) (fun _ h9 => h9) rfl dX9_hasBoat_6 ?_
    refine lv_icmp_ge (tgt := 21) hx hb dX9_hasBoat_9 (by decide) (fun hc => ?_) (fun hc => ?_)
    · have h := k_pos hc h
      refine lv_iconst (v := 0) hx hb dX9_hasBoat_21 (by decide) ?_
      obtain rfl := k_in1 h
      exact k_rz hx hb hr hlocks rfl hP hS dX9_hasBoat_22
    · have h := k_neg hc h
      refine lv_iload_n hx hb dX9_hasBoat_12 rfl (lv_at hl 1 rfl) ?_
      refine lv_iconst (v := 5) hx hb dX9_hasBoat_13 (by decide) ?_
      refine lv_icmp_ge (tgt := 21) hx hb dX9_hasBoat_14 (by decide) (fun hc => ?_) (fun hc => ?_)
      · have h := k_pos hc h
        refine lv_iconst (v := 0) hx hb dX9_hasBoat_21 (by decide) ?_
        obtain rfl := k_in1 h
        exact k_rz hx hb hr hlocks rfl hP hS dX9_hasBoat_22
      · have h := k_neg hc h
        refine lv_iconst (v := 1) hx hb dX9_hasBoat_17 (by decide) ?_
        refine lv_goto (tgt := 22) hx hb dX9_hasBoat_18 (by decide) ?_
        obtain rfl := k_in1 h
        exact k_rz hx hb hr hlocks rfl hP hS dX9_hasBoat_22
set_option maxHeartbeats 4000000 in
set_option maxRecDepth 100000 in
theorem c_Water_startOf (l : Launch) (dC : Nat → ClassId) (dI : Nat → Nat → Nat) (cI cZ : ClassId) (a_t : Nat → Nat) (t_junctions : Int32) (t_cuts : Int32) (t_boats : Int32) (t_cutA : Nat → Int32) (t_cutB : Nat → Int32) (t_cutHard : Nat → Int32) (t_boatAt : Nat → Int32) (t_boatPull : Nat → Int32) (t_boatWear : Nat → Int32) (t_onward : Nat → Int32) (t_onwardHard : Nat → Int32) (y1 : Int32) (r0 : Int32) (h : m_Water_startOf y1 t_boats t_boatAt = some r0) : (MI l yX9_startOf wsX9_startOf ({ frames := 1, cells := 0, slots := 0, locals := 21 }) (dC, dI) [(cI, .int), (cZ, .boolean)] (wd_tWater cI cZ a_t t_junctions t_cuts t_boats t_cutA t_cutB t_cutHard t_boatAt t_boatPull t_boatWear t_onward t_onwardHard) (wd_tWater cI cZ a_t t_junctions t_cuts t_boats t_cutA t_cutB t_cutHard t_boatAt t_boatPull t_boatWear t_onward t_onwardHard) [.ref (a_t 0), .int y1] r0) := by
  intro sz
  refine Met.ofW (cc := cX9_startOf) (maxL := 2) (ret := (some .int)) (by decide) rfl ?_
  intro p e s m args below meth c s₁ B hml hv
  obtain ⟨rfl, hsz, hP, hK, hD0⟩ := hv
  have hx := B.exec
  have hb := B.bytes
  have hr := B.returns
  have hts := atoms_spec (ws := wsX9_startOf) B.pre
  have hown : s.vm.findClass RX9 = some m.cls := findClass_of_methodNamed B.named
  have hlocks := B.notSynchronized
  subst hsz
  have hD := hD0.self (sz := s.heap.size)
  have hA : ∀ q : Nat, s.heap.size ≤ q → va_A (wd_tWater cI cZ a_t t_junctions t_cuts t_boats t_cutA t_cutB t_cutHard t_boatAt t_boatPull t_boatWear t_onward t_onwardHard) s.heap.size q := fun q h => Or.inr h
  have hS : va_S (va_A (wd_tWater cI cZ a_t t_junctions t_cuts t_boats t_cutA t_cutB t_cutHard t_boatAt t_boatPull t_boatWear t_onward t_onwardHard) s.heap.size) s.heap s.heap [] := va_S.rf
  have hin9 : ∀ w ∈ u_ws RX9 TX9 11, w ∈ wsX9_startOf := fun w h => List.mem_cons_of_mem _ (List.mem_append_right _ h)
  have hl := lv_entry ([.ref (a_t 0), .int y1]) (n := 2) (Nat.le_of_ble_eq_true rfl)
  rw [lg_entry_eq]
  generalize (lg_sl ([.ref (a_t 0), .int y1]) ++ List.replicate (2 - (lg_sl ([.ref (a_t 0), .int y1])).length) Slot.unset).toArray = ls at hl ⊢
  have hl : lv_has ls 2 [(0, .ref (a_t 0)), (1, .int y1)] := hl
  unfold m_Water_startOf at h
  refine lv_aload_n hx hb dX9_startOf_0 rfl (lv_at hl 0 rfl) ?_
  refine lv_iload_n hx hb dX9_startOf_1 rfl (lv_at hl 1 rfl) ?_
  obtain ⟨r1, hc1, h⟩ := kb1_some h
  refine k_FVi (rest := []) (As := [.int y1]) ⟨hx, hb, hml, hown, hts⟩ (c_Water_hasBoat l dC dI cI cZ a_t t_junctions t_cuts t_boats t_cutA t_cutB t_cutHard t_boatAt t_boatPull t_boatWear t_onward t_onwardHard y1 r1 hc1) (cwV 1 hts gX9_startOf_X9_hasBoat rfl rfl rfl hd_9_hasBoat ⟨Nat.le_of_ble_eq_true rfl, Nat.le_of_ble_eq_true rfl⟩) hK hP hD hS hA 0 9 rfl rfl rfl (wd_tWater_f.trans wd_tWater_f.symm) rfl hl.1 rfl (Nat.le_of_ble_eq_true rfl) dX9_startOf_2 ⟨Nat.zero_le _, Nat.zero_le _⟩ (fun H locs hP hD hS => ?_)
  refine lv_if_eq (tgt := 17) hx hb dX9_startOf_5 (by decide) (fun hc => ?_) (fun hc => ?_)
  · have h := k_pos hc h
    refine lv_iconst (v := (-1)) hx hb dX9_startOf_17 (by decide) ?_
    obtain rfl := k_in1 h
    exact k_ri hx hb hr hlocks hP hS dX9_startOf_18
  · have h := k_neg hc h
    refine lv_aload_n hx hb dX9_startOf_8 rfl (lv_at hl 0 rfl) ?_
    refine va_get (D := (dC, dI)) (ci := 9) (v := .ref (a_t 4)) (C := RX9) (T := TX9) (N := 11) hx hb hts hin9 hown hK hP 0 rfl rfl 6 (by decide) (hts (.fieldLink RX9 31 "TowedBack$Water" "boatAt" "[I") (List.mem_of_getElem? (i := 1) rfl)) (fun _ h9 => h9) rfl dX9_startOf_9 ?_
    refine lv_iload_n hx hb dX9_startOf_12 rfl (lv_at hl 1 rfl) ?_
    obtain ⟨hi2, h⟩ := kg_some h
    refine va_iald hx hb hK hP 4 0 rfl rfl hi2 dX9_startOf_13 ?_
    refine lv_goto (tgt := 18) hx hb dX9_startOf_14 (by decide) ?_
    obtain rfl := k_in1 h
    exact k_ri hx hb hr hlocks hP hS dX9_startOf_18
set_option maxHeartbeats 4000000 in
set_option maxRecDepth 100000 in
theorem c_Water_startPullOf (l : Launch) (dC : Nat → ClassId) (dI : Nat → Nat → Nat) (cI cZ : ClassId) (a_t : Nat → Nat) (t_junctions : Int32) (t_cuts : Int32) (t_boats : Int32) (t_cutA : Nat → Int32) (t_cutB : Nat → Int32) (t_cutHard : Nat → Int32) (t_boatAt : Nat → Int32) (t_boatPull : Nat → Int32) (t_boatWear : Nat → Int32) (t_onward : Nat → Int32) (t_onwardHard : Nat → Int32) (y1 : Int32) (r0 : Int32) (h : m_Water_startPullOf y1 t_boats t_boatPull = some r0) : (MI l yX9_startPullOf wsX9_startPullOf ({ frames := 1, cells := 0, slots := 0, locals := 21 }) (dC, dI) [(cI, .int), (cZ, .boolean)] (wd_tWater cI cZ a_t t_junctions t_cuts t_boats t_cutA t_cutB t_cutHard t_boatAt t_boatPull t_boatWear t_onward t_onwardHard) (wd_tWater cI cZ a_t t_junctions t_cuts t_boats t_cutA t_cutB t_cutHard t_boatAt t_boatPull t_boatWear t_onward t_onwardHard) [.ref (a_t 0), .int y1] r0) := by
  intro sz
  refine Met.ofW (cc := cX9_startPullOf) (maxL := 2) (ret := (some .int)) (by decide) rfl ?_
  intro p e s m args below meth c s₁ B hml hv
  obtain ⟨rfl, hsz, hP, hK, hD0⟩ := hv
  have hx := B.exec
  have hb := B.bytes
  have hr := B.returns
  have hts := atoms_spec (ws := wsX9_startPullOf) B.pre
  have hown : s.vm.findClass RX9 = some m.cls := findClass_of_methodNamed B.named
  have hlocks := B.notSynchronized
  subst hsz
  have hD := hD0.self (sz := s.heap.size)
  have hA : ∀ q : Nat, s.heap.size ≤ q → va_A (wd_tWater cI cZ a_t t_junctions t_cuts t_boats t_cutA t_cutB t_cutHard t_boatAt t_boatPull t_boatWear t_onward t_onwardHard) s.heap.size q := fun q h => Or.inr h
  have hS : va_S (va_A (wd_tWater cI cZ a_t t_junctions t_cuts t_boats t_cutA t_cutB t_cutHard t_boatAt t_boatPull t_boatWear t_onward t_onwardHard) s.heap.size) s.heap s.heap [] := va_S.rf
  have hin9 : ∀ w ∈ u_ws RX9 TX9 11, w ∈ wsX9_startPullOf := fun w h => List.mem_cons_of_mem _ (List.mem_append_right _ h)
  have hl := lv_entry ([.ref (a_t 0), .int y1]) (n := 2) (Nat.le_of_ble_eq_true rfl)
  rw [lg_entry_eq]
  generalize (lg_sl ([.ref (a_t 0), .int y1]) ++ List.replicate (2 - (lg_sl ([.ref (a_t 0), .int y1])).length) Slot.unset).toArray = ls at hl ⊢
  have hl : lv_has ls 2 [(0, .ref (a_t 0)), (1, .int y1)] := hl
  unfold m_Water_startPullOf at h
  refine lv_aload_n hx hb dX9_startPullOf_0 rfl (lv_at hl 0 rfl) ?_
  refine lv_iload_n hx hb dX9_startPullOf_1 rfl (lv_at hl 1 rfl) ?_
  obtain ⟨r1, hc1, h⟩ := kb1_some h
  refine k_FVi (rest := []) (As := [.int y1]) ⟨hx, hb, hml, hown, hts⟩ (c_Water_hasBoat l dC dI cI cZ a_t t_junctions t_cuts t_boats t_cutA t_cutB t_cutHard t_boatAt t_boatPull t_boatWear t_onward t_onwardHard y1 r1 hc1) (cwV 1 hts gX9_startPullOf_X9_hasBoat rfl rfl rfl hd_9_hasBoat ⟨Nat.le_of_ble_eq_true rfl, Nat.le_of_ble_eq_true rfl⟩) hK hP hD hS hA 0 9 rfl rfl rfl (wd_tWater_f.trans wd_tWater_f.symm) rfl hl.1 rfl (Nat.le_of_ble_eq_true rfl) dX9_startPullOf_2 ⟨Nat.zero_le _, Nat.zero_le _⟩ (fun H locs hP hD hS => ?_)
  refine lv_if_eq (tgt := 17) hx hb dX9_startPullOf_5 (by decide) (fun hc => ?_) (fun hc => ?_)
  · have h := k_pos hc h
    refine lv_iconst (v := 0) hx hb dX9_startPullOf_17 (by decide) ?_
    obtain rfl := k_in1 h
    exact k_ri hx hb hr hlocks hP hS dX9_startPullOf_18
  · have h := k_neg hc h
    refine lv_aload_n hx hb dX9_startPullOf_8 rfl (lv_at hl 0 rfl) ?_
    refine va_get (D := (dC, dI)) (ci := 9) (v := .ref (a_t 5)) (C := RX9) (T := TX9) (N := 11) hx hb hts hin9 hown hK hP 0 rfl rfl 7 (by decide) (hts (.fieldLink RX9 34 "TowedBack$Water" "boatPull" "[I") (List.mem_of_getElem? (i := 1) rfl)) (fun _ h9 => h9) rfl dX9_startPullOf_9 ?_
    refine lv_iload_n hx hb dX9_startPullOf_12 rfl (lv_at hl 1 rfl) ?_
    obtain ⟨hi2, h⟩ := kg_some h
    refine va_iald hx hb hK hP 5 0 rfl rfl hi2 dX9_startPullOf_13 ?_
    refine lv_goto (tgt := 18) hx hb dX9_startPullOf_14 (by decide) ?_
    obtain rfl := k_in1 h
    exact k_ri hx hb hr hlocks hP hS dX9_startPullOf_18
set_option maxHeartbeats 4000000 in
set_option maxRecDepth 100000 in
theorem c_Water_wearOf (l : Launch) (dC : Nat → ClassId) (dI : Nat → Nat → Nat) (cI cZ : ClassId) (a_t : Nat → Nat) (t_junctions : Int32) (t_cuts : Int32) (t_boats : Int32) (t_cutA : Nat → Int32) (t_cutB : Nat → Int32) (t_cutHard : Nat → Int32) (t_boatAt : Nat → Int32) (t_boatPull : Nat → Int32) (t_boatWear : Nat → Int32) (t_onward : Nat → Int32) (t_onwardHard : Nat → Int32) (y1 : Int32) (r0 : Int32) (h : m_Water_wearOf y1 t_boats t_boatWear = some r0) : (MI l yX9_wearOf wsX9_wearOf ({ frames := 1, cells := 0, slots := 0, locals := 21 }) (dC, dI) [(cI, .int), (cZ, .boolean)] (wd_tWater cI cZ a_t t_junctions t_cuts t_boats t_cutA t_cutB t_cutHard t_boatAt t_boatPull t_boatWear t_onward t_onwardHard) (wd_tWater cI cZ a_t t_junctions t_cuts t_boats t_cutA t_cutB t_cutHard t_boatAt t_boatPull t_boatWear t_onward t_onwardHard) [.ref (a_t 0), .int y1] r0) := by
  intro sz
  refine Met.ofW (cc := cX9_wearOf) (maxL := 2) (ret := (some .int)) (by decide) rfl ?_
  intro p e s m args below meth c s₁ B hml hv
  obtain ⟨rfl, hsz, hP, hK, hD0⟩ := hv
  have hx := B.exec
  have hb := B.bytes
  have hr := B.returns
  have hts := atoms_spec (ws := wsX9_wearOf) B.pre
  have hown : s.vm.findClass RX9 = some m.cls := findClass_of_methodNamed B.named
  have hlocks := B.notSynchronized
  subst hsz
  have hD := hD0.self (sz := s.heap.size)
  have hA : ∀ q : Nat, s.heap.size ≤ q → va_A (wd_tWater cI cZ a_t t_junctions t_cuts t_boats t_cutA t_cutB t_cutHard t_boatAt t_boatPull t_boatWear t_onward t_onwardHard) s.heap.size q := fun q h => Or.inr h
  have hS : va_S (va_A (wd_tWater cI cZ a_t t_junctions t_cuts t_boats t_cutA t_cutB t_cutHard t_boatAt t_boatPull t_boatWear t_onward t_onwardHard) s.heap.size) s.heap s.heap [] := va_S.rf
  have hin9 : ∀ w ∈ u_ws RX9 TX9 11, w ∈ wsX9_wearOf := fun w h => List.mem_cons_of_mem _ (List.mem_append_right _ h)
  have hl := lv_entry ([.ref (a_t 0), .int y1]) (n := 2) (Nat.le_of_ble_eq_true rfl)
  rw [lg_entry_eq]
  generalize (lg_sl ([.ref (a_t 0), .int y1]) ++ List.replicate (2 - (lg_sl ([.ref (a_t 0), .int y1])).length) Slot.unset).toArray = ls at hl ⊢
  have hl : lv_has ls 2 [(0, .ref (a_t 0)), (1, .int y1)] := hl
  unfold m_Water_wearOf at h
  refine lv_aload_n hx hb dX9_wearOf_0 rfl (lv_at hl 0 rfl) ?_
  refine lv_iload_n hx hb dX9_wearOf_1 rfl (lv_at hl 1 rfl) ?_
  obtain ⟨r1, hc1, h⟩ := kb1_some h
  refine k_FVi (rest := []) (As := [.int y1]) ⟨hx, hb, hml, hown, hts⟩ (c_Water_hasBoat l dC dI cI cZ a_t t_junctions t_cuts t_boats t_cutA t_cutB t_cutHard t_boatAt t_boatPull t_boatWear t_onward t_onwardHard y1 r1 hc1) (cwV 1 hts gX9_wearOf_X9_hasBoat rfl rfl rfl hd_9_hasBoat ⟨Nat.le_of_ble_eq_true rfl, Nat.le_of_ble_eq_true rfl⟩) hK hP hD hS hA 0 9 rfl rfl rfl (wd_tWater_f.trans wd_tWater_f.symm) rfl hl.1 rfl (Nat.le_of_ble_eq_true rfl) dX9_wearOf_2 ⟨Nat.zero_le _, Nat.zero_le _⟩ (fun H locs hP hD hS => ?_)
  refine lv_if_eq (tgt := 17) hx hb dX9_wearOf_5 (by decide) (fun hc => ?_) (fun hc => ?_)
  · have h := k_pos hc h
    refine lv_iconst (v := 0) hx hb dX9_wearOf_17 (by decide) ?_
    obtain rfl := k_in1 h
    exact k_ri hx hb hr hlocks hP hS dX9_wearOf_18
  · have h := k_neg hc h
    refine lv_aload_n hx hb dX9_wearOf_8 rfl (lv_at hl 0 rfl) ?_
    refine va_get (D := (dC, dI)) (ci := 9) (v := .ref (a_t 6)) (C := RX9) (T := TX9) (N := 11) hx hb hts hin9 hown hK hP 0 rfl rfl 8 (by decide) (hts (.fieldLink RX9 37 "TowedBack$Water" "boatWear" "[I") (List.mem_of_getElem? (i := 1) rfl)) (fun _ h9 => h9) rfl dX9_wearOf_9 ?_
    refine lv_iload_n hx hb dX9_wearOf_12 rfl (lv_at hl 1 rfl) ?_
    obtain ⟨hi2, h⟩ := kg_some h
    refine va_iald hx hb hK hP 6 0 rfl rfl hi2 dX9_wearOf_13 ?_
    refine lv_goto (tgt := 18) hx hb dX9_wearOf_14 (by decide) ?_
    obtain rfl := k_in1 h
    exact k_ri hx hb hr hlocks hP hS dX9_wearOf_18
set_option maxHeartbeats 4000000 in
set_option maxRecDepth 100000 in
theorem c_Water_otherEnd (l : Launch) (dC : Nat → ClassId) (dI : Nat → Nat → Nat) (cI cZ : ClassId) (a_t : Nat → Nat) (t_junctions : Int32) (t_cuts : Int32) (t_boats : Int32) (t_cutA : Nat → Int32) (t_cutB : Nat → Int32) (t_cutHard : Nat → Int32) (t_boatAt : Nat → Int32) (t_boatPull : Nat → Int32) (t_boatWear : Nat → Int32) (t_onward : Nat → Int32) (t_onwardHard : Nat → Int32) (y1 : Int32) (y2 : Int32) (r0 : Int32) (h : m_Water_otherEnd y1 y2 t_cuts t_cutA t_cutB = some r0) : (MI l yX9_otherEnd wsX9_otherEnd ({ frames := 1, cells := 0, slots := 0, locals := 21 }) (dC, dI) [(cI, .int), (cZ, .boolean)] (wd_tWater cI cZ a_t t_junctions t_cuts t_boats t_cutA t_cutB t_cutHard t_boatAt t_boatPull t_boatWear t_onward t_onwardHard) (wd_tWater cI cZ a_t t_junctions t_cuts t_boats t_cutA t_cutB t_cutHard t_boatAt t_boatPull t_boatWear t_onward t_onwardHard) [.ref (a_t 0), .int y1, .int y2] r0) := by
  intro sz
  refine Met.ofW (cc := cX9_otherEnd) (maxL := 3) (ret := (some .int)) (by decide) rfl ?_
  intro p e s m args below meth c s₁ B hml hv
  obtain ⟨rfl, hsz, hP, hK, hD0⟩ := hv
  have hx := B.exec
  have hb := B.bytes
  have hr := B.returns
  have hts := atoms_spec (ws := wsX9_otherEnd) B.pre
  have hown : s.vm.findClass RX9 = some m.cls := findClass_of_methodNamed B.named
  have hlocks := B.notSynchronized
  subst hsz
  have hD := hD0.self (sz := s.heap.size)
  have hA : ∀ q : Nat, s.heap.size ≤ q → va_A (wd_tWater cI cZ a_t t_junctions t_cuts t_boats t_cutA t_cutB t_cutHard t_boatAt t_boatPull t_boatWear t_onward t_onwardHard) s.heap.size q := fun q h => Or.inr h
  have hS : va_S (va_A (wd_tWater cI cZ a_t t_junctions t_cuts t_boats t_cutA t_cutB t_cutHard t_boatAt t_boatPull t_boatWear t_onward t_onwardHard) s.heap.size) s.heap s.heap [] := va_S.rf
  have hin9 : ∀ w ∈ u_ws RX9 TX9 11, w ∈ wsX9_otherEnd := fun w h => List.mem_cons_of_mem _ (List.mem_append_right _ h)
  have hl := lv_entry ([.ref (a_t 0), .int y1, .int y2]) (n := 3) (Nat.le_of_ble_eq_true rfl)
  rw [lg_entry_eq]
  generalize (lg_sl ([.ref (a_t 0), .int y1, .int y2]) ++ List.replicate (3 - (lg_sl ([.ref (a_t 0), .int y1, .int y2])).length) Slot.unset).toArray = ls at hl ⊢
  have hl : lv_has ls 3 [(0, .ref (a_t 0)), (1, .int y1), (2, .int y2)] := hl
  unfold m_Water_otherEnd at h
  refine lv_aload_n hx hb dX9_otherEnd_0 rfl (lv_at hl 0 rfl) ?_
  refine lv_iload_n hx hb dX9_otherEnd_1 rfl (lv_at hl 1 rfl) ?_
  obtain ⟨r1, hc1, h⟩ := kb1_some h
  refine k_FVi (rest := []) (As := [.int y1]) ⟨hx, hb, hml, hown, hts⟩ (c_Water_hasCut l dC dI cI cZ a_t t_junctions t_cuts t_boats t_cutA t_cutB t_cutHard t_boatAt t_boatPull t_boatWear t_onward t_onwardHard y1 r1 hc1) (cwV 1 hts gX9_otherEnd_X9_hasCut rfl rfl rfl hd_9_hasCut ⟨Nat.le_of_ble_eq_true rfl, Nat.le_of_ble_eq_true rfl⟩) hK hP hD hS hA 0 9 rfl rfl rfl (wd_tWater_f.trans wd_tWater_f.symm) rfl hl.1 rfl (Nat.le_of_ble_eq_true rfl) dX9_otherEnd_2 ⟨Nat.zero_le _, Nat.zero_le _⟩ (fun H locs hP hD hS => ?_)
  refine lv_if_ne (tgt := 10) hx hb dX9_otherEnd_5 (by decide) (fun hc => ?_) (fun hc => ?_)
  · have h := k_neg hc h
    refine lv_aload_n hx hb dX9_otherEnd_10 rfl (lv_at hl 0 rfl) ?_
    refine va_get (D := (dC, dI)) (ci := 9) (v := .ref (a_t 1)) (C := RX9) (T := TX9) (N := 11) hx hb hts hin9 hown hK hP 0 rfl rfl 3 (by decide) (hts (.fieldLink RX9 21 "TowedBack$Water" "cutA" "[I") (List.mem_of_getElem? (i := 1) rfl)) (fun _ h9 => h9) rfl dX9_otherEnd_11 ?_
    refine lv_iload_n hx hb dX9_otherEnd_14 rfl (lv_at hl 1 rfl) ?_
    obtain ⟨hi2, h⟩ := kg_some h
    refine va_iald hx hb hK hP 1 0 rfl rfl hi2 dX9_otherEnd_15 ?_
    refine lv_iload_n hx hb dX9_otherEnd_16 rfl (lv_at hl 2 rfl) ?_
    refine lv_icmp_ne (tgt := 27) hx hb dX9_otherEnd_17 (by decide) (fun hc => ?_) (fun hc => ?_)
    · have h := k_neg hc h
      refine lv_aload_n hx hb dX9_otherEnd_27 rfl (lv_at hl 0 rfl) ?_
      refine va_get (D := (dC, dI)) (ci := 9) (v := .ref (a_t 2)) (C := RX9) (T := TX9) (N := 11) hx hb hts hin9 hown hK hP 0 rfl rfl 4 (by decide) (hts (.fieldLink RX9 25 "TowedBack$Water" "cutB" "[I") (List.mem_of_getElem? (i := 2) rfl)) (fun _ h9 => h9) rfl dX9_otherEnd_28 ?_
      refine lv_iload_n hx hb dX9_otherEnd_31 rfl (lv_at hl 1 rfl) ?_
      obtain ⟨hi3, h⟩ := kg_some h
      refine va_iald hx hb hK hP 2 0 rfl rfl hi3 dX9_otherEnd_32 ?_
      refine lv_iload_n hx hb dX9_otherEnd_33 rfl (lv_at hl 2 rfl) ?_
      refine lv_icmp_ne (tgt := 46) hx hb dX9_otherEnd_34 (by decide) (fun hc => ?_) (fun hc => ?_)
      · have h := k_neg hc h
        refine lv_iconst (v := (-1)) hx hb dX9_otherEnd_46 (by decide) ?_
        obtain rfl := k_in1 h
        exact k_ri hx hb hr hlocks hP hS dX9_otherEnd_47
      · have h := k_pos hc h
        refine lv_aload_n hx hb dX9_otherEnd_37 rfl (lv_at hl 0 rfl) ?_
        refine va_get (D := (dC, dI)) (ci := 9) (v := .ref (a_t 1)) (C := RX9) (T := TX9) (N := 11) hx hb hts hin9 hown hK hP 0 rfl rfl 3 (by decide) (hts (.fieldLink RX9 21 "TowedBack$Water" "cutA" "[I") (List.mem_of_getElem? (i := 1) rfl)) (fun _ h9 => h9) rfl dX9_otherEnd_38 ?_
        refine lv_iload_n hx hb dX9_otherEnd_41 rfl (lv_at hl 1 rfl) ?_
        obtain ⟨hi4, h⟩ := kg_some h
        refine va_iald hx hb hK hP 1 0 rfl rfl hi4 dX9_otherEnd_42 ?_
        refine lv_goto (tgt := 47) hx hb dX9_otherEnd_43 (by decide) ?_
        obtain rfl := k_in1 h
        exact k_ri hx hb hr hlocks hP hS dX9_otherEnd_47
    · have h := k_pos hc h
      refine lv_aload_n hx hb dX9_otherEnd_20 rfl (lv_at hl 0 rfl) ?_
      refine va_get (D := (dC, dI)) (ci := 9) (v := .ref (a_t 2)) (C := RX9) (T := TX9) (N := 11) hx hb hts hin9 hown hK hP 0 rfl rfl 4 (by decide) (hts (.fieldLink RX9 25 "TowedBack$Water" "cutB" "[I") (List.mem_of_getElem? (i := 2) rfl)) (fun _ h9 => h9) rfl dX9_otherEnd_21 ?_
      refine lv_iload_n hx hb dX9_otherEnd_24 rfl (lv_at hl 1 rfl) ?_
      obtain ⟨hi5, h⟩ := kg_some h
      refine va_iald hx hb hK hP 2 0 rfl rfl hi5 dX9_otherEnd_25 ?_
      obtain rfl := k_in1 h
      exact k_ri hx hb hr hlocks hP hS dX9_otherEnd_26
  · have h := k_pos hc h
    refine lv_iconst (v := (-1)) hx hb dX9_otherEnd_8 (by decide) ?_
    obtain rfl := k_in1 h
    exact k_ri hx hb hr hlocks hP hS dX9_otherEnd_9
set_option maxHeartbeats 4000000 in
set_option maxRecDepth 100000 in
theorem c_Water_joined (l : Launch) (dC : Nat → ClassId) (dI : Nat → Nat → Nat) (cI cZ : ClassId) (a_t : Nat → Nat) (t_junctions : Int32) (t_cuts : Int32) (t_boats : Int32) (t_cutA : Nat → Int32) (t_cutB : Nat → Int32) (t_cutHard : Nat → Int32) (t_boatAt : Nat → Int32) (t_boatPull : Nat → Int32) (t_boatWear : Nat → Int32) (t_onward : Nat → Int32) (t_onwardHard : Nat → Int32) (y1 : Int32) (y2 : Int32) (r0 : Int32) (h : m_Water_joined y1 y2 t_cuts t_cutA t_cutB = some r0) : (MI l yX9_joined wsX9_joined ({ frames := 2, cells := 0, slots := 0, locals := 43 }) (dC, dI) [(cI, .int), (cZ, .boolean)] (wd_tWater cI cZ a_t t_junctions t_cuts t_boats t_cutA t_cutB t_cutHard t_boatAt t_boatPull t_boatWear t_onward t_onwardHard) (wd_tWater cI cZ a_t t_junctions t_cuts t_boats t_cutA t_cutB t_cutHard t_boatAt t_boatPull t_boatWear t_onward t_onwardHard) [.ref (a_t 0), .int y1, .int y2] r0) := by
  intro sz
  refine Met.ofW (cc := cX9_joined) (maxL := 4) (ret := (some .boolean)) (by decide) rfl ?_
  intro p e s m args below meth c s₁ B hml hv
  obtain ⟨rfl, hsz, hP, hK, hD0⟩ := hv
  have hx := B.exec
  have hb := B.bytes
  have hr := B.returns
  have hts := atoms_spec (ws := wsX9_joined) B.pre
  have hown : s.vm.findClass RX9 = some m.cls := findClass_of_methodNamed B.named
  have hlocks := B.notSynchronized
  subst hsz
  have hD := hD0.self (sz := s.heap.size)
  have hA : ∀ q : Nat, s.heap.size ≤ q → va_A (wd_tWater cI cZ a_t t_junctions t_cuts t_boats t_cutA t_cutB t_cutHard t_boatAt t_boatPull t_boatWear t_onward t_onwardHard) s.heap.size q := fun q h => Or.inr h
  have hS : va_S (va_A (wd_tWater cI cZ a_t t_junctions t_cuts t_boats t_cutA t_cutB t_cutHard t_boatAt t_boatPull t_boatWear t_onward t_onwardHard) s.heap.size) s.heap s.heap [] := va_S.rf
  have hin9 : ∀ w ∈ u_ws RX9 TX9 11, w ∈ wsX9_joined := fun w h => List.mem_cons_of_mem _ (List.mem_append_right _ h)
  have hl := lv_entry ([.ref (a_t 0), .int y1, .int y2]) (n := 4) (Nat.le_of_ble_eq_true rfl)
  rw [lg_entry_eq]
  generalize (lg_sl ([.ref (a_t 0), .int y1, .int y2]) ++ List.replicate (4 - (lg_sl ([.ref (a_t 0), .int y1, .int y2])).length) Slot.unset).toArray = ls at hl ⊢
  have hl : lv_has ls 4 [(0, .ref (a_t 0)), (1, .int y1), (2, .int y2)] := hl
  have L2 : ∀ (n2 : Nat) (x1 : Int32) (x2 : Int32) (x3 : Int32)  (H : Heap) (locs : List Loc) (ls : Array Slot), va_P (dC, dI) vwCl (wd_tWater cI cZ a_t t_junctions t_cuts t_boats t_cutA t_cutB t_cutHard t_boatAt t_boatPull t_boatWear t_onward t_onwardHard) H → va_D (va_A (wd_tWater cI cZ a_t t_junctions t_cuts t_boats t_cutA t_cutB t_cutHard t_boatAt t_boatPull t_boatWear t_onward t_onwardHard) s.heap.size) (wd_tWater cI cZ a_t t_junctions t_cuts t_boats t_cutA t_cutB t_cutHard t_boatAt t_boatPull t_boatWear t_onward t_onwardHard) → va_S (va_A (wd_tWater cI cZ a_t t_junctions t_cuts t_boats t_cutA t_cutB t_cutHard t_boatAt t_boatPull t_boatWear t_onward t_onwardHard) s.heap.size) s.heap H locs → lv_has ls 4 [(0, .ref (a_t 0)), (1, .int x1), (2, .int x2), (3, .int x3)] → m_Water_joined_L2  n2 x1 x2 x3 t_cuts t_cutA t_cutB = some r0 → W p l e (headSpec wsX9_joined ({ frames := 2, cells := 0, slots := 0, locals := 43 })).room s m ([.ref (a_t 0), .int y1, .int y2] : List Value).toArray below meth c H locs 0 0 (MQ below (cQi (dC, dI) (wd_tWater cI cZ a_t t_junctions t_cuts t_boats t_cutA t_cutB t_cutHard t_boatAt t_boatPull t_boatWear t_onward t_onwardHard) (wd_tWater cI cZ a_t t_junctions t_cuts t_boats t_cutA t_cutB t_cutHard t_boatAt t_boatPull t_boatWear t_onward t_onwardHard) s.heap.size r0) ([.ref (a_t 0), .int y1, .int y2] : List Value).toArray s 0 0 (va_A (wd_tWater cI cZ a_t t_junctions t_cuts t_boats t_cutA t_cutB t_cutHard t_boatAt t_boatPull t_boatWear t_onward t_onwardHard) s.heap.size)) (F0 m 2 ls []) := by
    intro n2
    induction n2 with
    | zero => intro x1 x2 x3 H locs ls hP hD hS hl h; have h : none = some r0 := h; cases h
    | succ n2 ih2 =>
      intro x1 x2 x3 H locs ls hP hD hS hl h
      have h : m_Water_joined_B2  (m_Water_joined_L2  n2) x1 x2 x3 t_cuts t_cutA t_cutB = some r0 := h
      unfold m_Water_joined_B2 at h
      refine lv_iload_n hx hb dX9_joined_2 rfl (lv_at hl 3 rfl) ?_
      refine lv_aload_n hx hb dX9_joined_3 rfl (lv_at hl 0 rfl) ?_
      refine va_get (D := (dC, dI)) (ci := 9) (v := .int t_cuts) (C := RX9) (T := TX9) (N := 11) hx hb hts hin9 hown hK hP 0 rfl rfl 1 (by decide) (hts (.fieldLink RX9 15 "TowedBack$Water" "cuts" "I") (List.mem_of_getElem? (i := 1) rfl)) (fun _ h9 => h9) rfl dX9_joined_4 ?_
      refine lv_icmp_ge (tgt := 28) hx hb dX9_joined_7 (by decide) (fun hc => ?_) (fun hc => ?_)
      · have h := k_pos hc h
        refine lv_iconst (v := 0) hx hb dX9_joined_28 (by decide) ?_
        obtain rfl := k_in1 h
        exact k_rz hx hb hr hlocks rfl hP hS dX9_joined_29
      · have h := k_neg hc h
        refine lv_aload_n hx hb dX9_joined_10 rfl (lv_at hl 0 rfl) ?_
        refine lv_iload_n hx hb dX9_joined_11 rfl (lv_at hl 3 rfl) ?_
        refine lv_iload_n hx hb dX9_joined_12 rfl (lv_at hl 1 rfl) ?_
        obtain ⟨r1, hc1, h⟩ := kb1_some h
        refine k_FVi (rest := []) (As := [.int x3, .int x1]) ⟨hx, hb, hml, hown, hts⟩ (c_Water_otherEnd l dC dI cI cZ a_t t_junctions t_cuts t_boats t_cutA t_cutB t_cutHard t_boatAt t_boatPull t_boatWear t_onward t_onwardHard x3 x1 r1 hc1) (cwV 2 hts gX9_joined_X9_otherEnd rfl rfl rfl hd_9_otherEnd ⟨Nat.le_of_ble_eq_true rfl, Nat.le_of_ble_eq_true rfl⟩) hK hP hD hS hA 0 9 rfl rfl rfl (wd_tWater_f.trans wd_tWater_f.symm) rfl hl.1 rfl (Nat.le_of_ble_eq_true rfl) dX9_joined_13 ⟨Nat.zero_le _, Nat.zero_le _⟩ (fun H locs hP hD hS => ?_)
        refine lv_iload_n hx hb dX9_joined_16 rfl (lv_at hl 2 rfl) ?_
        refine lv_icmp_ne (tgt := 22) hx hb dX9_joined_17 (by decide) (fun hc => ?_) (fun hc => ?_)
        · have h := k_neg hc h
          refine lv_iinc (v := (x3 + 1)) (lv' := [(3, .int (x3 + 1)), (0, .ref (a_t 0)), (1, .int x1), (2, .int x2)]) hx hb dX9_joined_22 hl (k := 3) rfl rfl (by decide) rfl (fun ls hl => ?_)
          refine lv_goto (tgt := 2) hx hb dX9_joined_25 (by decide) ?_
          exact ih2 x1 x2 (x3 + 1) _ _ _ hP hD hS (lv_sub hl [1, 2, 3, 0] rfl) h
        · have h := k_pos hc h
          refine lv_iconst (v := 1) hx hb dX9_joined_20 (by decide) ?_
          obtain rfl := k_in1 h
          exact k_rz hx hb hr hlocks rfl hP hS dX9_joined_21
  unfold m_Water_joined at h
  refine lv_iconst (v := 0) hx hb dX9_joined_0 (by decide) ?_
  refine lv_istore_n (lv' := [(3, .int 0), (0, .ref (a_t 0)), (1, .int y1), (2, .int y2)]) hx hb dX9_joined_1 rfl hl (by decide) rfl (fun ls hl => ?_)
  exact L2 FU y1 y2 0 _ _ _ hP hD hS (lv_sub hl [1, 2, 3, 0] rfl) h
set_option maxHeartbeats 4000000 in
set_option maxRecDepth 100000 in
theorem c_Water_addCut (l : Launch) (dC : Nat → ClassId) (dI : Nat → Nat → Nat) (cI cZ : ClassId) (a_t : Nat → Nat) (t_junctions : Int32) (i_t_cuts : Int32) (t_boats : Int32) (i_t_cutA : Nat → Int32) (i_t_cutB : Nat → Int32) (i_t_cutHard : Nat → Int32) (t_boatAt : Nat → Int32) (t_boatPull : Nat → Int32) (t_boatWear : Nat → Int32) (t_onward : Nat → Int32) (t_onwardHard : Nat → Int32) (y1 : Int32) (y2 : Int32) (y3 : Int32) (o_t_cuts : Int32) (o_t_cutA : Nat → Int32) (o_t_cutB : Nat → Int32) (o_t_cutHard : Nat → Int32) (h : m_Water_addCut y1 y2 y3 i_t_cuts i_t_cutA i_t_cutB i_t_cutHard = some (o_t_cuts, o_t_cutA, o_t_cutB, o_t_cutHard)) : (MV l yX9_addCut wsX9_addCut ({ frames := 0, cells := 0, slots := 0, locals := 0 }) (dC, dI) [(cI, .int), (cZ, .boolean)] (wd_tWater cI cZ a_t t_junctions i_t_cuts t_boats i_t_cutA i_t_cutB i_t_cutHard t_boatAt t_boatPull t_boatWear t_onward t_onwardHard) (wd_tWater cI cZ a_t t_junctions o_t_cuts t_boats o_t_cutA o_t_cutB o_t_cutHard t_boatAt t_boatPull t_boatWear t_onward t_onwardHard) [.ref (a_t 0), .int y1, .int y2, .int y3]) := by
  intro sz
  refine Met.ofW (cc := cX9_addCut) (maxL := 4) (ret := none) (by decide) rfl ?_
  intro p e s m args below meth c s₁ B hml hv
  obtain ⟨rfl, hsz, hP, hK, hD0⟩ := hv
  have hx := B.exec
  have hb := B.bytes
  have hr := B.returns
  have hts := atoms_spec (ws := wsX9_addCut) B.pre
  have hown : s.vm.findClass RX9 = some m.cls := findClass_of_methodNamed B.named
  have hlocks := B.notSynchronized
  subst hsz
  have hD := hD0.self (sz := s.heap.size)
  have hA : ∀ q : Nat, s.heap.size ≤ q → va_A (wd_tWater cI cZ a_t t_junctions i_t_cuts t_boats i_t_cutA i_t_cutB i_t_cutHard t_boatAt t_boatPull t_boatWear t_onward t_onwardHard) s.heap.size q := fun q h => Or.inr h
  have hS : va_S (va_A (wd_tWater cI cZ a_t t_junctions i_t_cuts t_boats i_t_cutA i_t_cutB i_t_cutHard t_boatAt t_boatPull t_boatWear t_onward t_onwardHard) s.heap.size) s.heap s.heap [] := va_S.rf
  have hin9 : ∀ w ∈ u_ws RX9 TX9 11, w ∈ wsX9_addCut := fun w h => List.mem_cons_of_mem _ (List.mem_append_right _ h)
  have hl := lv_entry ([.ref (a_t 0), .int y1, .int y2, .int y3]) (n := 4) (Nat.le_of_ble_eq_true rfl)
  rw [lg_entry_eq]
  generalize (lg_sl ([.ref (a_t 0), .int y1, .int y2, .int y3]) ++ List.replicate (4 - (lg_sl ([.ref (a_t 0), .int y1, .int y2, .int y3])).length) Slot.unset).toArray = ls at hl ⊢
  have hl : lv_has ls 4 [(0, .ref (a_t 0)), (1, .int y1), (2, .int y2), (3, .int y3)] := hl
  unfold m_Water_addCut at h
  refine lv_aload_n hx hb dX9_addCut_0 rfl (lv_at hl 0 rfl) ?_
  refine va_get (D := (dC, dI)) (ci := 9) (v := .int i_t_cuts) (C := RX9) (T := TX9) (N := 11) hx hb hts hin9 hown hK hP 0 rfl rfl 1 (by decide) (hts (.fieldLink RX9 15 "TowedBack$Water" "cuts" "I") (List.mem_of_getElem? (i := 1) rfl)) (fun _ h9 => h9) rfl dX9_addCut_1 ?_
  refine lv_if_lt (tgt := 16) hx hb dX9_addCut_4 (by decide) (fun hc => ?_) (fun hc => ?_)
  · have h := k_pos hc h
    obtain ⟨rfl, rfl, rfl, rfl⟩ := k_in4 h
    exact k_rv hx hb hr hlocks hP hS dX9_addCut_16
  · have h := k_neg hc h
    refine lv_aload_n hx hb dX9_addCut_7 rfl (lv_at hl 0 rfl) ?_
    refine va_get (D := (dC, dI)) (ci := 9) (v := .int i_t_cuts) (C := RX9) (T := TX9) (N := 11) hx hb hts hin9 hown hK hP 0 rfl rfl 1 (by decide) (hts (.fieldLink RX9 15 "TowedBack$Water" "cuts" "I") (List.mem_of_getElem? (i := 1) rfl)) (fun _ h9 => h9) rfl dX9_addCut_8 ?_
    refine lv_bipush (v := 14) hx hb dX9_addCut_11 (by decide) ?_
    refine lv_icmp_lt (tgt := 17) hx hb dX9_addCut_13 (by decide) (fun hc => ?_) (fun hc => ?_)
    · have h := k_pos hc h
      refine lv_aload_n hx hb dX9_addCut_17 rfl (lv_at hl 0 rfl) ?_
      refine va_get (D := (dC, dI)) (ci := 9) (v := .ref (a_t 1)) (C := RX9) (T := TX9) (N := 11) hx hb hts hin9 hown hK hP 0 rfl rfl 3 (by decide) (hts (.fieldLink RX9 21 "TowedBack$Water" "cutA" "[I") (List.mem_of_getElem? (i := 2) rfl)) (fun _ h9 => h9) rfl dX9_addCut_18 ?_
      refine lv_aload_n hx hb dX9_addCut_21 rfl (lv_at hl 0 rfl) ?_
      refine va_get (D := (dC, dI)) (ci := 9) (v := .int i_t_cuts) (C := RX9) (T := TX9) (N := 11) hx hb hts hin9 hown hK hP 0 rfl rfl 1 (by decide) (hts (.fieldLink RX9 15 "TowedBack$Water" "cuts" "I") (List.mem_of_getElem? (i := 1) rfl)) (fun _ h9 => h9) rfl dX9_addCut_22 ?_
      refine lv_iload_n hx hb dX9_addCut_25 rfl (lv_at hl 1 rfl) ?_
      obtain ⟨hi1, h⟩ := kg_some h
      refine va_iast hx hb hK hP hD hS 1 0 rfl rfl hi1 dX9_addCut_26 (fun H locs hP hD hS => ?_)
      have hP : va_P (dC, dI) vwCl (wd_tWater cI cZ a_t t_junctions i_t_cuts t_boats (upd i_t_cutA i_t_cuts.toNatClampNeg y1) i_t_cutB i_t_cutHard t_boatAt t_boatPull t_boatWear t_onward t_onwardHard) H := hP
      have hD : va_D (va_A (wd_tWater cI cZ a_t t_junctions i_t_cuts t_boats i_t_cutA i_t_cutB i_t_cutHard t_boatAt t_boatPull t_boatWear t_onward t_onwardHard) s.heap.size) (wd_tWater cI cZ a_t t_junctions i_t_cuts t_boats (upd i_t_cutA i_t_cuts.toNatClampNeg y1) i_t_cutB i_t_cutHard t_boatAt t_boatPull t_boatWear t_onward t_onwardHard) := hD
      refine lv_aload_n hx hb dX9_addCut_27 rfl (lv_at hl 0 rfl) ?_
      refine va_get (D := (dC, dI)) (ci := 9) (v := .ref (a_t 2)) (C := RX9) (T := TX9) (N := 11) hx hb hts hin9 hown hK hP 0 rfl rfl 4 (by decide) (hts (.fieldLink RX9 25 "TowedBack$Water" "cutB" "[I") (List.mem_of_getElem? (i := 3) rfl)) (fun _ h9 => h9) rfl dX9_addCut_28 ?_
      refine lv_aload_n hx hb dX9_addCut_31 rfl (lv_at hl 0 rfl) ?_
      refine va_get (D := (dC, dI)) (ci := 9) (v := .int i_t_cuts) (C := RX9) (T := TX9) (N := 11) hx hb hts hin9 hown hK hP 0 rfl rfl 1 (by decide) (hts (.fieldLink RX9 15 "TowedBack$Water" "cuts" "I") (List.mem_of_getElem? (i := 1) rfl)) (fun _ h9 => h9) rfl dX9_addCut_32 ?_
      refine lv_iload_n hx hb dX9_addCut_35 rfl (lv_at hl 2 rfl) ?_
      obtain ⟨hi2, h⟩ := kg_some h
      refine va_iast hx hb hK hP hD hS 2 0 rfl rfl hi2 dX9_addCut_36 (fun H locs hP hD hS => ?_)
      have hP : va_P (dC, dI) vwCl (wd_tWater cI cZ a_t t_junctions i_t_cuts t_boats (upd i_t_cutA i_t_cuts.toNatClampNeg y1) (upd i_t_cutB i_t_cuts.toNatClampNeg y2) i_t_cutHard t_boatAt t_boatPull t_boatWear t_onward t_onwardHard) H := hP
      have hD : va_D (va_A (wd_tWater cI cZ a_t t_junctions i_t_cuts t_boats i_t_cutA i_t_cutB i_t_cutHard t_boatAt t_boatPull t_boatWear t_onward t_onwardHard) s.heap.size) (wd_tWater cI cZ a_t t_junctions i_t_cuts t_boats (upd i_t_cutA i_t_cuts.toNatClampNeg y1) (upd i_t_cutB i_t_cuts.toNatClampNeg y2) i_t_cutHard t_boatAt t_boatPull t_boatWear t_onward t_onwardHard) := hD
      refine lv_aload_n hx hb dX9_addCut_37 rfl (lv_at hl 0 rfl) ?_
      refine va_get (D := (dC, dI)) (ci := 9) (v := .ref (a_t 3)) (C := RX9) (T := TX9) (N := 11) hx hb hts hin9 hown hK hP 0 rfl rfl 5 (by decide) (hts (.fieldLink RX9 28 "TowedBack$Water" "cutHard" "[I") (List.mem_of_getElem? (i := 4) rfl)) (fun _ h9 => h9) rfl dX9_addCut_38 ?_
      refine lv_aload_n hx hb dX9_addCut_41 rfl (lv_at hl 0 rfl) ?_
      refine va_get (D := (dC, dI)) (ci := 9) (v := .int i_t_cuts) (C := RX9) (T := TX9) (N := 11) hx hb hts hin9 hown hK hP 0 rfl rfl 1 (by decide) (hts (.fieldLink RX9 15 "TowedBack$Water" "cuts" "I") (List.mem_of_getElem? (i := 1) rfl)) (fun _ h9 => h9) rfl dX9_addCut_42 ?_
      refine lv_iload_n hx hb dX9_addCut_45 rfl (lv_at hl 3 rfl) ?_
      obtain ⟨hi3, h⟩ := kg_some h
      refine va_iast hx hb hK hP hD hS 3 0 rfl rfl hi3 dX9_addCut_46 (fun H locs hP hD hS => ?_)
      have hP : va_P (dC, dI) vwCl (wd_tWater cI cZ a_t t_junctions i_t_cuts t_boats (upd i_t_cutA i_t_cuts.toNatClampNeg y1) (upd i_t_cutB i_t_cuts.toNatClampNeg y2) (upd i_t_cutHard i_t_cuts.toNatClampNeg y3) t_boatAt t_boatPull t_boatWear t_onward t_onwardHard) H := hP
      have hD : va_D (va_A (wd_tWater cI cZ a_t t_junctions i_t_cuts t_boats i_t_cutA i_t_cutB i_t_cutHard t_boatAt t_boatPull t_boatWear t_onward t_onwardHard) s.heap.size) (wd_tWater cI cZ a_t t_junctions i_t_cuts t_boats (upd i_t_cutA i_t_cuts.toNatClampNeg y1) (upd i_t_cutB i_t_cuts.toNatClampNeg y2) (upd i_t_cutHard i_t_cuts.toNatClampNeg y3) t_boatAt t_boatPull t_boatWear t_onward t_onwardHard) := hD
      refine lv_aload_n hx hb dX9_addCut_47 rfl (lv_at hl 0 rfl) ?_
      refine lv_dup hx hb dX9_addCut_48 rfl ?_
      refine va_get (D := (dC, dI)) (ci := 9) (v := .int i_t_cuts) (C := RX9) (T := TX9) (N := 11) hx hb hts hin9 hown hK hP 0 rfl rfl 1 (by decide) (hts (.fieldLink RX9 15 "TowedBack$Water" "cuts" "I") (List.mem_of_getElem? (i := 1) rfl)) (fun _ h9 => h9) rfl dX9_addCut_49 ?_
      refine lv_iconst (v := 1) hx hb dX9_addCut_52 (by decide) ?_
      refine lv_iadd hx hb dX9_addCut_53 ?_
      refine va_put (D := (dC, dI)) (ci := 9) (v := .int (i_t_cuts + 1)) (ty := tyX9 1) (C := RX9) (T := TX9) (N := 11) hx hb hts hin9 tyX9 tyX9_ok nmX9 hown hK hP hD hS 0 rfl rfl 1 (by decide) (hts (.fieldLink RX9 15 "TowedBack$Water" "cuts" "I") (List.mem_of_getElem? (i := 1) rfl)) (fun _ h9 => h9) rfl (tyX9_ok 1 (by decide)) rfl rfl (Nat.le_of_ble_eq_true rfl) dX9_addCut_54 (fun H locs hP hD hS => ?_)
      have hP : va_P (dC, dI) vwCl (wd_tWater cI cZ a_t t_junctions (i_t_cuts + 1) t_boats (upd i_t_cutA i_t_cuts.toNatClampNeg y1) (upd i_t_cutB i_t_cuts.toNatClampNeg y2) (upd i_t_cutHard i_t_cuts.toNatClampNeg y3) t_boatAt t_boatPull t_boatWear t_onward t_onwardHard) H := hP
      have hD : va_D (va_A (wd_tWater cI cZ a_t t_junctions i_t_cuts t_boats i_t_cutA i_t_cutB i_t_cutHard t_boatAt t_boatPull t_boatWear t_onward t_onwardHard) s.heap.size) (wd_tWater cI cZ a_t t_junctions (i_t_cuts + 1) t_boats (upd i_t_cutA i_t_cuts.toNatClampNeg y1) (upd i_t_cutB i_t_cuts.toNatClampNeg y2) (upd i_t_cutHard i_t_cuts.toNatClampNeg y3) t_boatAt t_boatPull t_boatWear t_onward t_onwardHard) := hD
      obtain ⟨rfl, rfl, rfl, rfl⟩ := k_in4 h
      exact k_rv hx hb hr hlocks hP hS dX9_addCut_57
    · have h := k_neg hc h
      obtain ⟨rfl, rfl, rfl, rfl⟩ := k_in4 h
      exact k_rv hx hb hr hlocks hP hS dX9_addCut_16
