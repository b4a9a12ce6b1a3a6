set_option maxHeartbeats 4000000 in
set_option maxRecDepth 100000 in
theorem c_Water_addBoat (l : Launch) (dC : Nat → ClassId) (dI : Nat → Nat → Nat) (cI cZ : ClassId) (a_t : Nat → Nat) (t_junctions : Int32) (t_cuts : Int32) (i_t_boats : Int32) (t_cutA : Nat → Int32) (t_cutB : Nat → Int32) (t_cutHard : Nat → Int32) (i_t_boatAt : Nat → Int32) (i_t_boatPull : Nat → Int32) (i_t_boatWear : Nat → Int32) (t_onward : Nat → Int32) (t_onwardHard : Nat → Int32) (y1 : Int32) (y2 : Int32) (y3 : Int32) (o_t_boats : Int32) (o_t_boatAt : Nat → Int32) (o_t_boatPull : Nat → Int32) (o_t_boatWear : Nat → Int32) (h : m_Water_addBoat y1 y2 y3 i_t_boats i_t_boatAt i_t_boatPull i_t_boatWear = some (o_t_boats, o_t_boatAt, o_t_boatPull, o_t_boatWear)) : (MV l yX9_addBoat wsX9_addBoat ({ frames := 0, cells := 0, slots := 0, locals := 0 }) (dC, dI) [(cI, .int), (cZ, .boolean)] (wd_tWater cI cZ a_t t_junctions t_cuts i_t_boats t_cutA t_cutB t_cutHard i_t_boatAt i_t_boatPull i_t_boatWear t_onward t_onwardHard) (wd_tWater cI cZ a_t t_junctions t_cuts o_t_boats t_cutA t_cutB t_cutHard o_t_boatAt o_t_boatPull o_t_boatWear t_onward t_onwardHard) [.ref (a_t 0), .int y1, .int y2, .int y3]) := by
  intro sz
  refine Met.ofW (cc := cX9_addBoat) (maxL := 4) (ret := none) (by decide) rfl ?_
  intro p e s m args below meth c s₁ B hml hv
  obtain ⟨rfl, hsz, hP, hK, hD0⟩ := hv
  have hx := B.exec
  have hb := B.bytes
  have hr := B.returns
  have hts := atoms_spec (ws := wsX9_addBoat) B.pre
  have hown : s.vm.findClass RX9 = some m.cls := findClass_of_methodNamed B.named
  have hlocks := B.notSynchronized
  subst hsz
  have hD := hD0.self (sz := s.heap.size)
  have hA : ∀ q : Nat, s.heap.size ≤ q → va_A (wd_tWater cI cZ a_t t_junctions t_cuts i_t_boats t_cutA t_cutB t_cutHard i_t_boatAt i_t_boatPull i_t_boatWear t_onward t_onwardHard) s.heap.size q := fun q h => Or.inr h
  have hS : va_S (va_A (wd_tWater cI cZ a_t t_junctions t_cuts i_t_boats t_cutA t_cutB t_cutHard i_t_boatAt i_t_boatPull i_t_boatWear t_onward t_onwardHard) s.heap.size) s.heap s.heap [] := va_S.rf
  have hin9 : ∀ w ∈ u_ws RX9 TX9 11, w ∈ wsX9_addBoat := fun w h => List.mem_cons_of_mem _ (List.mem_append_right _ h)
  have hl := lv_entry ([.ref (a_t 0), .int y1, .int y2, .int y3]) (n := 4) (Nat.le_of_ble_eq_true rfl)
  rw [lg_entry_eq]
  generalize (lg_sl ([.ref (a_t 0), .int y1, .int y2, .int y3]) ++ List.replicate (4 - (lg_sl ([.ref (a_t 0), .int y1, .int y2, .int y3])).length) Slot.unset).toArray = ls at hl ⊢
  have hl : lv_has ls 4 [(0, .ref (a_t 0)), (1, .int y1), (2, .int y2), (3, .int y3)] := hl
  unfold m_Water_addBoat at h
  refine lv_aload_n hx hb dX9_addBoat_0 rfl (lv_at hl 0 rfl) ?_
  refine va_get (D := (dC, dI)) (ci := 9) (v := .int i_t_boats) (C := RX9) (T := TX9) (N := 11) hx hb hts hin9 hown hK hP 0 rfl rfl 2 (by decide) (hts (.fieldLink RX9 18 "TowedBack$Water" "boats" "I") (List.mem_of_getElem? (i := 1) rfl)) (fun _ h9 => h9) rfl dX9_addBoat_1 ?_
  refine lv_if_lt (tgt := 15) hx hb dX9_addBoat_4 (by decide) (fun hc => ?_) (fun hc => ?_)
  · have h := k_pos hc h
    obtain ⟨rfl, rfl, rfl, rfl⟩ := k_in4 h
    exact k_rv hx hb hr hlocks hP hS dX9_addBoat_15
  · have h := k_neg hc h
    refine lv_aload_n hx hb dX9_addBoat_7 rfl (lv_at hl 0 rfl) ?_
    refine va_get (D := (dC, dI)) (ci := 9) (v := .int i_t_boats) (C := RX9) (T := TX9) (N := 11) hx hb hts hin9 hown hK hP 0 rfl rfl 2 (by decide) (hts (.fieldLink RX9 18 "TowedBack$Water" "boats" "I") (List.mem_of_getElem? (i := 1) rfl)) (fun _ h9 => h9) rfl dX9_addBoat_8 ?_
    refine lv_iconst (v := 5) hx hb dX9_addBoat_11 (by decide) ?_
    refine lv_icmp_lt (tgt := 16) hx hb dX9_addBoat_12 (by decide) (fun hc => ?_) (fun hc => ?_)
    · have h := k_pos hc h
      refine lv_aload_n hx hb dX9_addBoat_16 rfl (lv_at hl 0 rfl) ?_
      refine va_get (D := (dC, dI)) (ci := 9) (v := .ref (a_t 4)) (C := RX9) (T := TX9) (N := 11) hx hb hts hin9 hown hK hP 0 rfl rfl 6 (by decide) (hts (.fieldLink RX9 31 "TowedBack$Water" "boatAt" "[I") (List.mem_of_getElem? (i := 2) rfl)) (fun _ h9 => h9) rfl dX9_addBoat_17 ?_
      refine lv_aload_n hx hb dX9_addBoat_20 rfl (lv_at hl 0 rfl) ?_
      refine va_get (D := (dC, dI)) (ci := 9) (v := .int i_t_boats) (C := RX9) (T := TX9) (N := 11) hx hb hts hin9 hown hK hP 0 rfl rfl 2 (by decide) (hts (.fieldLink RX9 18 "TowedBack$Water" "boats" "I") (List.mem_of_getElem? (i := 1) rfl)) (fun _ h9 => h9) rfl dX9_addBoat_21 ?_
      refine lv_iload_n hx hb dX9_addBoat_24 rfl (lv_at hl 1 rfl) ?_
      obtain ⟨hi1, h⟩ := kg_some h
      refine va_iast hx hb hK hP hD hS 4 0 rfl rfl hi1 dX9_addBoat_25 (fun H locs hP hD hS => ?_)
      have hP : va_P (dC, dI) vwCl (wd_tWater cI cZ a_t t_junctions t_cuts i_t_boats t_cutA t_cutB t_cutHard (upd i_t_boatAt i_t_boats.toNatClampNeg y1) i_t_boatPull i_t_boatWear t_onward t_onwardHard) H := hP
      have hD : va_D (va_A (wd_tWater cI cZ a_t t_junctions t_cuts i_t_boats t_cutA t_cutB t_cutHard i_t_boatAt i_t_boatPull i_t_boatWear t_onward t_onwardHard) s.heap.size) (wd_tWater cI cZ a_t t_junctions t_cuts i_t_boats t_cutA t_cutB t_cutHard (upd i_t_boatAt i_t_boats.toNatClampNeg y1) i_t_boatPull i_t_boatWear t_onward t_onwardHard) := hD
      refine lv_aload_n hx hb dX9_addBoat_26 rfl (lv_at hl 0 rfl) ?_
      refine va_get (D := (dC, dI)) (ci := 9) (v := .ref (a_t 5)) (C := RX9) (T := TX9) (N := 11) hx hb hts hin9 hown hK hP 0 rfl rfl 7 (by decide) (hts (.fieldLink RX9 34 "TowedBack$Water" "boatPull" "[I") (List.mem_of_getElem? (i := 3) rfl)) (fun _ h9 => h9) rfl dX9_addBoat_27 ?_
      refine lv_aload_n hx hb dX9_addBoat_30 rfl (lv_at hl 0 rfl) ?_
      refine va_get (D := (dC, dI)) (ci := 9) (v := .int i_t_boats) (C := RX9) (T := TX9) (N := 11) hx hb hts hin9 hown hK hP 0 rfl rfl 2 (by decide) (hts (.fieldLink RX9 18 "TowedBack$Water" "boats" "I") (List.mem_of_getElem? (i := 1) rfl)) (fun _ h9 => h9) rfl dX9_addBoat_31 ?_
      refine lv_iload_n hx hb dX9_addBoat_34 rfl (lv_at hl 2 rfl) ?_
      obtain ⟨hi2, h⟩ := kg_some h
      refine va_iast hx hb hK hP hD hS 5 0 rfl rfl hi2 dX9_addBoat_35 (fun H locs hP hD hS => ?_)
      have hP : va_P (dC, dI) vwCl (wd_tWater cI cZ a_t t_junctions t_cuts i_t_boats t_cutA t_cutB t_cutHard (upd i_t_boatAt i_t_boats.toNatClampNeg y1) (upd i_t_boatPull i_t_boats.toNatClampNeg y2) i_t_boatWear t_onward t_onwardHard) H := hP
      have hD : va_D (va_A (wd_tWater cI cZ a_t t_junctions t_cuts i_t_boats t_cutA t_cutB t_cutHard i_t_boatAt i_t_boatPull i_t_boatWear t_onward t_onwardHard) s.heap.size) (wd_tWater cI cZ a_t t_junctions t_cuts i_t_boats t_cutA t_cutB t_cutHard (upd i_t_boatAt i_t_boats.toNatClampNeg y1) (upd i_t_boatPull i_t_boats.toNatClampNeg y2) i_t_boatWear t_onward t_onwardHard) := hD
      refine lv_aload_n hx hb dX9_addBoat_36 rfl (lv_at hl 0 rfl) ?_
      refine va_get (D := (dC, dI)) (ci := 9) (v := .ref (a_t 6)) (C := RX9) (T := TX9) (N := 11) hx hb hts hin9 hown hK hP 0 rfl rfl 8 (by decide) (hts (.fieldLink RX9 37 "TowedBack$Water" "boatWear" "[I") (List.mem_of_getElem? (i := 4) rfl)) (fun _ h9 => h9) rfl dX9_addBoat_37 ?_
      refine lv_aload_n hx hb dX9_addBoat_40 rfl (lv_at hl 0 rfl) ?_
      refine va_get (D := (dC, dI)) (ci := 9) (v := .int i_t_boats) (C := RX9) (T := TX9) (N := 11) hx hb hts hin9 hown hK hP 0 rfl rfl 2 (by decide) (hts (.fieldLink RX9 18 "TowedBack$Water" "boats" "I") (List.mem_of_getElem? (i := 1) rfl)) (fun _ h9 => h9) rfl dX9_addBoat_41 ?_
      refine lv_iload_n hx hb dX9_addBoat_44 rfl (lv_at hl 3 rfl) ?_
      obtain ⟨hi3, h⟩ := kg_some h
      refine va_iast hx hb hK hP hD hS 6 0 rfl rfl hi3 dX9_addBoat_45 (fun H locs hP hD hS => ?_)
      have hP : va_P (dC, dI) vwCl (wd_tWater cI cZ a_t t_junctions t_cuts i_t_boats t_cutA t_cutB t_cutHard (upd i_t_boatAt i_t_boats.toNatClampNeg y1) (upd i_t_boatPull i_t_boats.toNatClampNeg y2) (upd i_t_boatWear i_t_boats.toNatClampNeg y3) t_onward t_onwardHard) H := hP
      have hD : va_D (va_A (wd_tWater cI cZ a_t t_junctions t_cuts i_t_boats t_cutA t_cutB t_cutHard i_t_boatAt i_t_boatPull i_t_boatWear t_onward t_onwardHard) s.heap.size) (wd_tWater cI cZ a_t t_junctions t_cuts i_t_boats t_cutA t_cutB t_cutHard (upd i_t_boatAt i_t_boats.toNatClampNeg y1) (upd i_t_boatPull i_t_boats.toNatClampNeg y2) (upd i_t_boatWear i_t_boats.toNatClampNeg y3) t_onward t_onwardHard) := hD
      refine lv_aload_n hx hb dX9_addBoat_46 rfl (lv_at hl 0 rfl) ?_
      refine lv_dup hx hb dX9_addBoat_47 rfl ?_
      refine va_get (D := (dC, dI)) (ci := 9) (v := .int i_t_boats) (C := RX9) (T := TX9) (N := 11) hx hb hts hin9 hown hK hP 0 rfl rfl 2 (by decide) (hts (.fieldLink RX9 18 "TowedBack$Water" "boats" "I") (List.mem_of_getElem? (i := 1) rfl)) (fun _ h9 => h9) rfl dX9_addBoat_48 ?_
      refine lv_iconst (v := 1) hx hb dX9_addBoat_51 (by decide) ?_
      refine lv_iadd hx hb dX9_addBoat_52 ?_
      refine va_put (D := (dC, dI)) (ci := 9) (v := .int (i_t_boats + 1)) (ty := tyX9 2) (C := RX9) (T := TX9) (N := 11) hx hb hts hin9 tyX9 tyX9_ok nmX9 hown hK hP hD hS 0 rfl rfl 2 (by decide) (hts (.fieldLink RX9 18 "TowedBack$Water" "boats" "I") (List.mem_of_getElem? (i := 1) rfl)) (fun _ h9 => h9) rfl (tyX9_ok 2 (by decide)) rfl rfl (Nat.le_of_ble_eq_true rfl) dX9_addBoat_53 (fun H locs hP hD hS => ?_)
      have hP : va_P (dC, dI) vwCl (wd_tWater cI cZ a_t t_junctions t_cuts (i_t_boats + 1) t_cutA t_cutB t_cutHard (upd i_t_boatAt i_t_boats.toNatClampNeg y1) (upd i_t_boatPull i_t_boats.toNatClampNeg y2) (upd i_t_boatWear i_t_boats.toNatClampNeg y3) t_onward t_onwardHard) H := hP
      have hD : va_D (va_A (wd_tWater cI cZ a_t t_junctions t_cuts i_t_boats t_cutA t_cutB t_cutHard i_t_boatAt i_t_boatPull i_t_boatWear t_onward t_onwardHard) s.heap.size) (wd_tWater cI cZ a_t t_junctions t_cuts (i_t_boats + 1) t_cutA t_cutB t_cutHard (upd i_t_boatAt i_t_boats.toNatClampNeg y1) (upd i_t_boatPull i_t_boats.toNatClampNeg y2) (upd i_t_boatWear i_t_boats.toNatClampNeg y3) t_onward t_onwardHard) := hD
      obtain ⟨rfl, rfl, rfl, rfl⟩ := k_in4 h
      exact k_rv hx hb hr hlocks hP hS dX9_addBoat_56
    · have h := k_neg hc h
      obtain ⟨rfl, rfl, rfl, rfl⟩ := k_in4 h
      exact k_rv hx hb hr hlocks hP hS dX9_addBoat_15
set_option maxHeartbeats 4000000 in
set_option maxRecDepth 100000 in
theorem c_Water_slotOf (l : Launch) (dC : Nat → ClassId) (dI : Nat → Nat → Nat) (cI cZ : ClassId) (a_t : Nat → Nat) (t_junctions : Int32) (t_cuts : Int32) (t_boats : Int32) (t_cutA : Nat → Int32) (t_cutB : Nat → Int32) (t_cutHard : Nat → Int32) (t_boatAt : Nat → Int32) (t_boatPull : Nat → Int32) (t_boatWear : Nat → Int32) (t_onward : Nat → Int32) (t_onwardHard : Nat → Int32) (y1 : Int32) (y2 : Int32) (r0 : Int32) (h : m_Water_slotOf y1 y2 = some r0) : (MI l yX9_slotOf wsX9_slotOf ({ frames := 0, cells := 0, slots := 0, locals := 0 }) (dC, dI) [(cI, .int), (cZ, .boolean)] (wd_tWater cI cZ a_t t_junctions t_cuts t_boats t_cutA t_cutB t_cutHard t_boatAt t_boatPull t_boatWear t_onward t_onwardHard) (wd_tWater cI cZ a_t t_junctions t_cuts t_boats t_cutA t_cutB t_cutHard t_boatAt t_boatPull t_boatWear t_onward t_onwardHard) [.ref (a_t 0), .int y1, .int y2] r0) := by
  intro sz
  refine Met.ofW (cc := cX9_slotOf) (maxL := 3) (ret := (some .int)) (by decide) rfl ?_
  intro p e s m args below meth c s₁ B hml hv
  obtain ⟨rfl, hsz, hP, hK, hD0⟩ := hv
  have hx := B.exec
  have hb := B.bytes
  have hr := B.returns
  have hts := atoms_spec (ws := wsX9_slotOf) B.pre
  have hown : s.vm.findClass RX9 = some m.cls := findClass_of_methodNamed B.named
  have hlocks := B.notSynchronized
  subst hsz
  have hD := hD0.self (sz := s.heap.size)
  have hA : ∀ q : Nat, s.heap.size ≤ q → va_A (wd_tWater cI cZ a_t t_junctions t_cuts t_boats t_cutA t_cutB t_cutHard t_boatAt t_boatPull t_boatWear t_onward t_onwardHard) s.heap.size q := fun q h => Or.inr h
  have hS : va_S (va_A (wd_tWater cI cZ a_t t_junctions t_cuts t_boats t_cutA t_cutB t_cutHard t_boatAt t_boatPull t_boatWear t_onward t_onwardHard) s.heap.size) s.heap s.heap [] := va_S.rf
  have hl := lv_entry ([.ref (a_t 0), .int y1, .int y2]) (n := 3) (Nat.le_of_ble_eq_true rfl)
  rw [lg_entry_eq]
  generalize (lg_sl ([.ref (a_t 0), .int y1, .int y2]) ++ List.replicate (3 - (lg_sl ([.ref (a_t 0), .int y1, .int y2])).length) Slot.unset).toArray = ls at hl ⊢
  have hl : lv_has ls 3 [(0, .ref (a_t 0)), (1, .int y1), (2, .int y2)] := hl
  unfold m_Water_slotOf at h
  refine lv_iload_n hx hb dX9_slotOf_0 rfl (lv_at hl 1 rfl) ?_
  refine lv_if_lt (tgt := 21) hx hb dX9_slotOf_1 (by decide) (fun hc => ?_) (fun hc => ?_)
  · have h := k_pos hc h
    refine lv_iconst (v := (-1)) hx hb dX9_slotOf_21 (by decide) ?_
    obtain rfl := k_in1 h
    exact k_ri hx hb hr hlocks hP hS dX9_slotOf_22
  · have h := k_neg hc h
    refine lv_iload_n hx hb dX9_slotOf_4 rfl (lv_at hl 1 rfl) ?_
    refine lv_bipush (v := 9) hx hb dX9_slotOf_5 (by decide) ?_
    refine lv_icmp_ge (tgt := 21) hx hb dX9_slotOf_7 (by decide) (fun hc => ?_) (fun hc => ?_)
    · have h := k_pos hc h
      refine lv_iconst (v := (-1)) hx hb dX9_slotOf_21 (by decide) ?_
      obtain rfl := k_in1 h
      exact k_ri hx hb hr hlocks hP hS dX9_slotOf_22
    · have h := k_neg hc h
      refine lv_iload_n hx hb dX9_slotOf_10 rfl (lv_at hl 2 rfl) ?_
      refine lv_iconst (v := (-1)) hx hb dX9_slotOf_11 (by decide) ?_
      refine lv_icmp_lt (tgt := 21) hx hb dX9_slotOf_12 (by decide) (fun hc => ?_) (fun hc => ?_)
      · have h := k_pos hc h
        refine lv_iconst (v := (-1)) hx hb dX9_slotOf_21 (by decide) ?_
        obtain rfl := k_in1 h
        exact k_ri hx hb hr hlocks hP hS dX9_slotOf_22
      · have h := k_neg hc h
        refine lv_iload_n hx hb dX9_slotOf_15 rfl (lv_at hl 2 rfl) ?_
        refine lv_bipush (v := 9) hx hb dX9_slotOf_16 (by decide) ?_
        refine lv_icmp_lt (tgt := 23) hx hb dX9_slotOf_18 (by decide) (fun hc => ?_) (fun hc => ?_)
        · have h := k_pos hc h
          refine lv_iload_n hx hb dX9_slotOf_23 rfl (lv_at hl 1 rfl) ?_
          refine lv_bipush (v := 10) hx hb dX9_slotOf_24 (by decide) ?_
          refine lv_imul hx hb dX9_slotOf_26 ?_
          refine lv_iload_n hx hb dX9_slotOf_27 rfl (lv_at hl 2 rfl) ?_
          refine lv_iadd hx hb dX9_slotOf_28 ?_
          refine lv_iconst (v := 1) hx hb dX9_slotOf_29 (by decide) ?_
          refine lv_iadd hx hb dX9_slotOf_30 ?_
          obtain rfl := k_in1 h
          exact k_ri hx hb hr hlocks hP hS dX9_slotOf_31
        · have h := k_neg hc h
          refine lv_iconst (v := (-1)) hx hb dX9_slotOf_21 (by decide) ?_
          obtain rfl := k_in1 h
          exact k_ri hx hb hr hlocks hP hS dX9_slotOf_22
set_option maxHeartbeats 4000000 in
set_option maxRecDepth 100000 in
theorem c_Water_findOnwardFrom (l : Launch) (dC : Nat → ClassId) (dI : Nat → Nat → Nat) (cI cZ : ClassId) (a_t : Nat → Nat) (t_junctions : Int32) (t_cuts : Int32) (t_boats : Int32) (t_cutA : Nat → Int32) (t_cutB : Nat → Int32) (t_cutHard : Nat → Int32) (t_boatAt : Nat → Int32) (t_boatPull : Nat → Int32) (t_boatWear : Nat → Int32) (i_t_onward : Nat → Int32) (i_t_onwardHard : Nat → Int32) (y1 : Int32) (y2 : Int32) (o_t_onward : Nat → Int32) (o_t_onwardHard : Nat → Int32) (h : m_Water_findOnwardFrom y1 y2 t_cuts t_cutA t_cutB t_cutHard i_t_onward i_t_onwardHard = some (o_t_onward, o_t_onwardHard)) : (MV l yX9_findOnwardFrom wsX9_findOnwardFrom ({ frames := 2, cells := 0, slots := 0, locals := 43 }) (dC, dI) [(cI, .int), (cZ, .boolean)] (wd_tWater cI cZ a_t t_junctions t_cuts t_boats t_cutA t_cutB t_cutHard t_boatAt t_boatPull t_boatWear i_t_onward i_t_onwardHard) (wd_tWater cI cZ a_t t_junctions t_cuts t_boats t_cutA t_cutB t_cutHard t_boatAt t_boatPull t_boatWear o_t_onward o_t_onwardHard) [.ref (a_t 0), .int y1, .int y2]) := by
  intro sz
  refine Met.ofW (cc := cX9_findOnwardFrom) (maxL := 7) (ret := none) (by decide) rfl ?_
  intro p e s m args below meth c s₁ B hml hv
  obtain ⟨rfl, hsz, hP, hK, hD0⟩ := hv
  have hx := B.exec
  have hb := B.bytes
  have hr := B.returns
  have hts := atoms_spec (ws := wsX9_findOnwardFrom) B.pre
  have hown : s.vm.findClass RX9 = some m.cls := findClass_of_methodNamed B.named
  have hlocks := B.notSynchronized
  subst hsz
  have hD := hD0.self (sz := s.heap.size)
  have hA : ∀ q : Nat, s.heap.size ≤ q → va_A (wd_tWater cI cZ a_t t_junctions t_cuts t_boats t_cutA t_cutB t_cutHard t_boatAt t_boatPull t_boatWear i_t_onward i_t_onwardHard) s.heap.size q := fun q h => Or.inr h
  have hS : va_S (va_A (wd_tWater cI cZ a_t t_junctions t_cuts t_boats t_cutA t_cutB t_cutHard t_boatAt t_boatPull t_boatWear i_t_onward i_t_onwardHard) s.heap.size) s.heap s.heap [] := va_S.rf
  have hin9 : ∀ w ∈ u_ws RX9 TX9 11, w ∈ wsX9_findOnwardFrom := fun w h => List.mem_cons_of_mem _ (List.mem_append_right _ h)
  have hl := lv_entry ([.ref (a_t 0), .int y1, .int y2]) (n := 7) (Nat.le_of_ble_eq_true rfl)
  rw [lg_entry_eq]
  generalize (lg_sl ([.ref (a_t 0), .int y1, .int y2]) ++ List.replicate (7 - (lg_sl ([.ref (a_t 0), .int y1, .int y2])).length) Slot.unset).toArray = ls at hl ⊢
  have hl : lv_has ls 7 [(0, .ref (a_t 0)), (1, .int y1), (2, .int y2)] := hl
  have J98 : ∀ (x1 : Int32) (x2 : Int32) (x3 : Int32) (x4 : Int32) (t_onward : Nat → Int32) (t_onwardHard : Nat → Int32) (H : Heap) (locs : List Loc) (ls : Array Slot), va_P (dC, dI) vwCl (wd_tWater cI cZ a_t t_junctions t_cuts t_boats t_cutA t_cutB t_cutHard t_boatAt t_boatPull t_boatWear t_onward t_onwardHard) H → va_D (va_A (wd_tWater cI cZ a_t t_junctions t_cuts t_boats t_cutA t_cutB t_cutHard t_boatAt t_boatPull t_boatWear i_t_onward i_t_onwardHard) s.heap.size) (wd_tWater cI cZ a_t t_junctions t_cuts t_boats t_cutA t_cutB t_cutHard t_boatAt t_boatPull t_boatWear t_onward t_onwardHard) → va_S (va_A (wd_tWater cI cZ a_t t_junctions t_cuts t_boats t_cutA t_cutB t_cutHard t_boatAt t_boatPull t_boatWear i_t_onward i_t_onwardHard) s.heap.size) s.heap H locs → lv_has ls 7 [(0, .ref (a_t 0)), (1, .int x1), (2, .int x2), (3, .int x3), (4, .int x4)] → m_Water_findOnwardFrom_B98  x1 x2 x3 x4 t_cuts t_cutA t_cutB t_cutHard t_onward t_onwardHard = some (o_t_onward, o_t_onwardHard) → W p l e (headSpec wsX9_findOnwardFrom ({ frames := 2, cells := 0, slots := 0, locals := 43 })).room s m ([.ref (a_t 0), .int y1, .int y2] : List Value).toArray below meth c H locs 0 0 (MQ below (cQv (dC, dI) (wd_tWater cI cZ a_t t_junctions t_cuts t_boats t_cutA t_cutB t_cutHard t_boatAt t_boatPull t_boatWear i_t_onward i_t_onwardHard) (wd_tWater cI cZ a_t t_junctions t_cuts t_boats t_cutA t_cutB t_cutHard t_boatAt t_boatPull t_boatWear o_t_onward o_t_onwardHard) s.heap.size) ([.ref (a_t 0), .int y1, .int y2] : List Value).toArray s 0 0 (va_A (wd_tWater cI cZ a_t t_junctions t_cuts t_boats t_cutA t_cutB t_cutHard t_boatAt t_boatPull t_boatWear i_t_onward i_t_onwardHard) s.heap.size)) (F0 m 98 ls []) := by
    intro x1 x2 x3 x4 t_onward t_onwardHard H locs ls hP hD hS hl h
    unfold m_Water_findOnwardFrom_B98 at h
    refine lv_aload_n hx hb dX9_findOnwardFrom_98 rfl (lv_at hl 0 rfl) ?_
    refine lv_iload_n hx hb dX9_findOnwardFrom_99 rfl (lv_at hl 1 rfl) ?_
    refine lv_iload_n hx hb dX9_findOnwardFrom_100 rfl (lv_at hl 2 rfl) ?_
    obtain ⟨r1, hc1, h⟩ := kb1_some h
    refine k_FVi (rest := []) (As := [.int x1, .int x2]) ⟨hx, hb, hml, hown, hts⟩ (c_Water_slotOf l dC dI cI cZ a_t t_junctions t_cuts t_boats t_cutA t_cutB t_cutHard t_boatAt t_boatPull t_boatWear t_onward t_onwardHard x1 x2 r1 hc1) (cwV 2 hts gX9_findOnwardFrom_X9_slotOf rfl rfl rfl hd_9_slotOf ⟨Nat.le_of_ble_eq_true rfl, Nat.le_of_ble_eq_true rfl⟩) hK hP hD hS hA 0 9 rfl rfl rfl (wd_tWater_f.trans wd_tWater_f.symm) rfl hl.1 rfl (Nat.le_of_ble_eq_true rfl) dX9_findOnwardFrom_101 ⟨Nat.zero_le _, Nat.zero_le _⟩ (fun H locs hP hD hS => ?_)
    refine lv_istore (lv' := [(5, .int r1), (0, .ref (a_t 0)), (1, .int x1), (2, .int x2), (3, .int x3), (4, .int x4)]) hx hb dX9_findOnwardFrom_104 hl (by decide) rfl (fun ls hl => ?_)
    refine lv_iload hx hb dX9_findOnwardFrom_106 (lv_at hl 0 rfl) ?_
    refine lv_iconst (v := (-1)) hx hb dX9_findOnwardFrom_108 (by decide) ?_
    refine lv_icmp_ne (tgt := 113) hx hb dX9_findOnwardFrom_109 (by decide) (fun hc => ?_) (fun hc => ?_)
    · have h := k_neg hc h
      refine lv_aload_n hx hb dX9_findOnwardFrom_113 rfl (lv_at hl 1 rfl) ?_
      refine va_get (D := (dC, dI)) (ci := 9) (v := .ref (a_t 7)) (C := RX9) (T := TX9) (N := 11) hx hb hts hin9 hown hK hP 0 rfl rfl 9 (by decide) (hts (.fieldLink RX9 40 "TowedBack$Water" "onward" "[I") (List.mem_of_getElem? (i := 3) rfl)) (fun _ h9 => h9) rfl dX9_findOnwardFrom_114 ?_
      refine lv_iload hx hb dX9_findOnwardFrom_117 (lv_at hl 0 rfl) ?_
      refine lv_iload_n hx hb dX9_findOnwardFrom_119 rfl (lv_at hl 4 rfl) ?_
      obtain ⟨hi2, h⟩ := kg_some h
      refine va_iast hx hb hK hP hD hS 7 0 rfl rfl hi2 dX9_findOnwardFrom_120 (fun H locs hP hD hS => ?_)
      have hP : va_P (dC, dI) vwCl (wd_tWater cI cZ a_t t_junctions t_cuts t_boats t_cutA t_cutB t_cutHard t_boatAt t_boatPull t_boatWear (upd t_onward r1.toNatClampNeg x3) t_onwardHard) H := hP
      have hD : va_D (va_A (wd_tWater cI cZ a_t t_junctions t_cuts t_boats t_cutA t_cutB t_cutHard t_boatAt t_boatPull t_boatWear i_t_onward i_t_onwardHard) s.heap.size) (wd_tWater cI cZ a_t t_junctions t_cuts t_boats t_cutA t_cutB t_cutHard t_boatAt t_boatPull t_boatWear (upd t_onward r1.toNatClampNeg x3) t_onwardHard) := hD
      refine lv_aload_n hx hb dX9_findOnwardFrom_121 rfl (lv_at hl 1 rfl) ?_
      refine va_get (D := (dC, dI)) (ci := 9) (v := .ref (a_t 8)) (C := RX9) (T := TX9) (N := 11) hx hb hts hin9 hown hK hP 0 rfl rfl 10 (by decide) (hts (.fieldLink RX9 43 "TowedBack$Water" "onwardHard" "[I") (List.mem_of_getElem? (i := 4) rfl)) (fun _ h9 => h9) rfl dX9_findOnwardFrom_122 ?_
      refine lv_iload hx hb dX9_findOnwardFrom_125 (lv_at hl 0 rfl) ?_
      refine lv_iload hx hb dX9_findOnwardFrom_127 (lv_at hl 5 rfl) ?_
      obtain ⟨hi3, h⟩ := kg_some h
      refine va_iast hx hb hK hP hD hS 8 0 rfl rfl hi3 dX9_findOnwardFrom_129 (fun H locs hP hD hS => ?_)
      have hP : va_P (dC, dI) vwCl (wd_tWater cI cZ a_t t_junctions t_cuts t_boats t_cutA t_cutB t_cutHard t_boatAt t_boatPull t_boatWear (upd t_onward r1.toNatClampNeg x3) (upd t_onwardHard r1.toNatClampNeg x4)) H := hP
      have hD : va_D (va_A (wd_tWater cI cZ a_t t_junctions t_cuts t_boats t_cutA t_cutB t_cutHard t_boatAt t_boatPull t_boatWear i_t_onward i_t_onwardHard) s.heap.size) (wd_tWater cI cZ a_t t_junctions t_cuts t_boats t_cutA t_cutB t_cutHard t_boatAt t_boatPull t_boatWear (upd t_onward r1.toNatClampNeg x3) (upd t_onwardHard r1.toNatClampNeg x4)) := hD
      obtain ⟨rfl, rfl⟩ := k_in2 h
      exact k_rv hx hb hr hlocks hP hS dX9_findOnwardFrom_130
    · have h := k_pos hc h
      obtain ⟨rfl, rfl⟩ := k_in2 h
      exact k_rv hx hb hr hlocks hP hS dX9_findOnwardFrom_112
  have L10 : ∀ (n10 : Nat) (x1 : Int32) (x2 : Int32) (x3 : Int32) (x4 : Int32) (x5 : Int32) (t_onward : Nat → Int32) (t_onwardHard : Nat → Int32) (H : Heap) (locs : List Loc) (ls : Array Slot), va_P (dC, dI) vwCl (wd_tWater cI cZ a_t t_junctions t_cuts t_boats t_cutA t_cutB t_cutHard t_boatAt t_boatPull t_boatWear t_onward t_onwardHard) H → va_D (va_A (wd_tWater cI cZ a_t t_junctions t_cuts t_boats t_cutA t_cutB t_cutHard t_boatAt t_boatPull t_boatWear i_t_onward i_t_onwardHard) s.heap.size) (wd_tWater cI cZ a_t t_junctions t_cuts t_boats t_cutA t_cutB t_cutHard t_boatAt t_boatPull t_boatWear t_onward t_onwardHard) → va_S (va_A (wd_tWater cI cZ a_t t_junctions t_cuts t_boats t_cutA t_cutB t_cutHard t_boatAt t_boatPull t_boatWear i_t_onward i_t_onwardHard) s.heap.size) s.heap H locs → lv_has ls 7 [(0, .ref (a_t 0)), (1, .int x1), (2, .int x2), (3, .int x3), (4, .int x4), (5, .int x5)] → m_Water_findOnwardFrom_L10  n10 x1 x2 x3 x4 x5 t_cuts t_cutA t_cutB t_cutHard t_onward t_onwardHard = some (o_t_onward, o_t_onwardHard) → W p l e (headSpec wsX9_findOnwardFrom ({ frames := 2, cells := 0, slots := 0, locals := 43 })).room s m ([.ref (a_t 0), .int y1, .int y2] : List Value).toArray below meth c H locs 0 0 (MQ below (cQv (dC, dI) (wd_tWater cI cZ a_t t_junctions t_cuts t_boats t_cutA t_cutB t_cutHard t_boatAt t_boatPull t_boatWear i_t_onward i_t_onwardHard) (wd_tWater cI cZ a_t t_junctions t_cuts t_boats t_cutA t_cutB t_cutHard t_boatAt t_boatPull t_boatWear o_t_onward o_t_onwardHard) s.heap.size) ([.ref (a_t 0), .int y1, .int y2] : List Value).toArray s 0 0 (va_A (wd_tWater cI cZ a_t t_junctions t_cuts t_boats t_cutA t_cutB t_cutHard t_boatAt t_boatPull t_boatWear i_t_onward i_t_onwardHard) s.heap.size)) (F0 m 10 ls []) := by
    intro n10
    induction n10 with
    | zero => intro x1 x2 x3 x4 x5 t_onward t_onwardHard H locs ls hP hD hS hl h; have h : none = some (o_t_onward, o_t_onwardHard) := h; cases h
    | succ n10 ih10 =>
      intro x1 x2 x3 x4 x5 t_onward t_onwardHard H locs ls hP hD hS hl h
      have h : m_Water_findOnwardFrom_B10  (m_Water_findOnwardFrom_L10  n10) x1 x2 x3 x4 x5 t_cuts t_cutA t_cutB t_cutHard t_onward t_onwardHard = some (o_t_onward, o_t_onwardHard) := h
      have J92 : ∀ (x1 : Int32) (x2 : Int32) (x3 : Int32) (x4 : Int32) (x5 : Int32) (t_onward : Nat → Int32) (t_onwardHard : Nat → Int32) (H : Heap) (locs : List Loc) (ls : Array Slot), va_P (dC, dI) vwCl (wd_tWater cI cZ a_t t_junctions t_cuts t_boats t_cutA t_cutB t_cutHard t_boatAt t_boatPull t_boatWear t_onward t_onwardHard) H → va_D (va_A (wd_tWater cI cZ a_t t_junctions t_cuts t_boats t_cutA t_cutB t_cutHard t_boatAt t_boatPull t_boatWear i_t_onward i_t_onwardHard) s.heap.size) (wd_tWater cI cZ a_t t_junctions t_cuts t_boats t_cutA t_cutB t_cutHard t_boatAt t_boatPull t_boatWear t_onward t_onwardHard) → va_S (va_A (wd_tWater cI cZ a_t t_junctions t_cuts t_boats t_cutA t_cutB t_cutHard t_boatAt t_boatPull t_boatWear i_t_onward i_t_onwardHard) s.heap.size) s.heap H locs → lv_has ls 7 [(0, .ref (a_t 0)), (1, .int x1), (2, .int x2), (3, .int x3), (4, .int x4), (5, .int x5)] → m_Water_findOnwardFrom_B92 (m_Water_findOnwardFrom_L10  n10) x1 x2 x3 x4 x5 t_cuts t_cutA t_cutB t_cutHard t_onward t_onwardHard = some (o_t_onward, o_t_onwardHard) → W p l e (headSpec wsX9_findOnwardFrom ({ frames := 2, cells := 0, slots := 0, locals := 43 })).room s m ([.ref (a_t 0), .int y1, .int y2] : List Value).toArray below meth c H locs 0 0 (MQ below (cQv (dC, dI) (wd_tWater cI cZ a_t t_junctions t_cuts t_boats t_cutA t_cutB t_cutHard t_boatAt t_boatPull t_boatWear i_t_onward i_t_onwardHard) (wd_tWater cI cZ a_t t_junctions t_cuts t_boats t_cutA t_cutB t_cutHard t_boatAt t_boatPull t_boatWear o_t_onward o_t_onwardHard) s.heap.size) ([.ref (a_t 0), .int y1, .int y2] : List Value).toArray s 0 0 (va_A (wd_tWater cI cZ a_t t_junctions t_cuts t_boats t_cutA t_cutB t_cutHard t_boatAt t_boatPull t_boatWear i_t_onward i_t_onwardHard) s.heap.size)) (F0 m 92 ls []) := by
        intro x1 x2 x3 x4 x5 t_onward t_onwardHard H locs ls hP hD hS hl h
        unfold m_Water_findOnwardFrom_B92 at h
        refine lv_iinc (v := (x5 + 1)) (lv' := [(5, .int (x5 + 1)), (0, .ref (a_t 0)), (1, .int x1), (2, .int x2), (3, .int x3), (4, .int x4)]) hx hb dX9_findOnwardFrom_92 hl (k := 5) rfl rfl (by decide) rfl (fun ls hl => ?_)
        refine lv_goto (tgt := 10) hx hb dX9_findOnwardFrom_95 (by decide) ?_
        exact ih10 x1 x2 x3 x4 (x5 + 1) t_onward t_onwardHard _ _ _ hP hD hS (lv_sub hl [1, 2, 3, 4, 5, 0] rfl) h
      have J80 : ∀ (x1 : Int32) (x2 : Int32) (x5 : Int32) (x6 : Int32) (t_onward : Nat → Int32) (t_onwardHard : Nat → Int32) (H : Heap) (locs : List Loc) (ls : Array Slot), va_P (dC, dI) vwCl (wd_tWater cI cZ a_t t_junctions t_cuts t_boats t_cutA t_cutB t_cutHard t_boatAt t_boatPull t_boatWear t_onward t_onwardHard) H → va_D (va_A (wd_tWater cI cZ a_t t_junctions t_cuts t_boats t_cutA t_cutB t_cutHard t_boatAt t_boatPull t_boatWear i_t_onward i_t_onwardHard) s.heap.size) (wd_tWater cI cZ a_t t_junctions t_cuts t_boats t_cutA t_cutB t_cutHard t_boatAt t_boatPull t_boatWear t_onward t_onwardHard) → va_S (va_A (wd_tWater cI cZ a_t t_junctions t_cuts t_boats t_cutA t_cutB t_cutHard t_boatAt t_boatPull t_boatWear i_t_onward i_t_onwardHard) s.heap.size) s.heap H locs → lv_has ls 7 [(0, .ref (a_t 0)), (1, .int x1), (2, .int x2), (5, .int x5), (6, .int x6)] → m_Water_findOnwardFrom_B80 (m_Water_findOnwardFrom_L10  n10) x1 x2 x5 x6 t_cuts t_cutA t_cutB t_cutHard t_onward t_onwardHard = some (o_t_onward, o_t_onwardHard) → W p l e (headSpec wsX9_findOnwardFrom ({ frames := 2, cells := 0, slots := 0, locals := 43 })).room s m ([.ref (a_t 0), .int y1, .int y2] : List Value).toArray below meth c H locs 0 0 (MQ below (cQv (dC, dI) (wd_tWater cI cZ a_t t_junctions t_cuts t_boats t_cutA t_cutB t_cutHard t_boatAt t_boatPull t_boatWear i_t_onward i_t_onwardHard) (wd_tWater cI cZ a_t t_junctions t_cuts t_boats t_cutA t_cutB t_cutHard t_boatAt t_boatPull t_boatWear o_t_onward o_t_onwardHard) s.heap.size) ([.ref (a_t 0), .int y1, .int y2] : List Value).toArray s 0 0 (va_A (wd_tWater cI cZ a_t t_junctions t_cuts t_boats t_cutA t_cutB t_cutHard t_boatAt t_boatPull t_boatWear i_t_onward i_t_onwardHard) s.heap.size)) (F0 m 80 ls []) := by
        intro x1 x2 x5 x6 t_onward t_onwardHard H locs ls hP hD hS hl h
        unfold m_Water_findOnwardFrom_B80 at h
        refine lv_iload hx hb dX9_findOnwardFrom_80 (lv_at hl 4 rfl) ?_
        refine lv_istore_n (lv' := [(3, .int x6), (0, .ref (a_t 0)), (1, .int x1), (2, .int x2), (5, .int x5), (6, .int x6)]) hx hb dX9_findOnwardFrom_82 rfl hl (by decide) rfl (fun ls hl => ?_)
        refine lv_aload_n hx hb dX9_findOnwardFrom_83 rfl (lv_at hl 1 rfl) ?_
        refine va_get (D := (dC, dI)) (ci := 9) (v := .ref (a_t 3)) (C := RX9) (T := TX9) (N := 11) hx hb hts hin9 hown hK hP 0 rfl rfl 5 (by decide) (hts (.fieldLink RX9 28 "TowedBack$Water" "cutHard" "[I") (List.mem_of_getElem? (i := 2) rfl)) (fun _ h9 => h9) rfl dX9_findOnwardFrom_84 ?_
        refine lv_iload hx hb dX9_findOnwardFrom_87 (lv_at hl 4 rfl) ?_
        obtain ⟨hi4, h⟩ := kg_some h
        refine va_iald hx hb hK hP 3 0 rfl rfl hi4 dX9_findOnwardFrom_89 ?_
        refine lv_istore (lv' := [(4, .int (t_cutHard x5.toNatClampNeg)), (3, .int x6), (0, .ref (a_t 0)), (1, .int x1), (2, .int x2), (5, .int x5), (6, .int x6)]) hx hb dX9_findOnwardFrom_90 hl (by decide) rfl (fun ls hl => ?_)
        exact J92 x1 x2 x6 (t_cutHard x5.toNatClampNeg) x5 t_onward t_onwardHard _ _ _ hP hD hS (lv_sub hl [2, 3, 4, 1, 0, 5] rfl) h
      unfold m_Water_findOnwardFrom_B10 at h
      refine lv_iload hx hb dX9_findOnwardFrom_10 (lv_at hl 5 rfl) ?_
      refine lv_aload_n hx hb dX9_findOnwardFrom_12 rfl (lv_at hl 0 rfl) ?_
      refine va_get (D := (dC, dI)) (ci := 9) (v := .int t_cuts) (C := RX9) (T := TX9) (N := 11) hx hb hts hin9 hown hK hP 0 rfl rfl 1 (by decide) (hts (.fieldLink RX9 15 "TowedBack$Water" "cuts" "I") (List.mem_of_getElem? (i := 1) rfl)) (fun _ h9 => h9) rfl dX9_findOnwardFrom_13 ?_
      refine lv_icmp_ge (tgt := 98) hx hb dX9_findOnwardFrom_16 (by decide) (fun hc => ?_) (fun hc => ?_)
      · have h := k_pos hc h
        exact J98 x1 x2 x3 x4 t_onward t_onwardHard _ _ _ hP hD hS (lv_sub hl [0, 1, 2, 3, 4] rfl) h
      · have h := k_neg hc h
        refine lv_iload hx hb dX9_findOnwardFrom_19 (lv_at hl 5 rfl) ?_
        refine lv_bipush (v := 14) hx hb dX9_findOnwardFrom_21 (by decide) ?_
        refine lv_icmp_ge (tgt := 98) hx hb dX9_findOnwardFrom_23 (by decide) (fun hc => ?_) (fun hc => ?_)
        · have h := k_pos hc h
          exact J98 x1 x2 x3 x4 t_onward t_onwardHard _ _ _ hP hD hS (lv_sub hl [0, 1, 2, 3, 4] rfl) h
        · have h := k_neg hc h
          refine lv_aload_n hx hb dX9_findOnwardFrom_26 rfl (lv_at hl 0 rfl) ?_
          refine lv_iload hx hb dX9_findOnwardFrom_27 (lv_at hl 5 rfl) ?_
          refine lv_iload_n hx hb dX9_findOnwardFrom_29 rfl (lv_at hl 1 rfl) ?_
          obtain ⟨r5, hc5, h⟩ := kb1_some h
          refine k_FVi (rest := []) (As := [.int x5, .int x1]) ⟨hx, hb, hml, hown, hts⟩ (c_Water_otherEnd l dC dI cI cZ a_t t_junctions t_cuts t_boats t_cutA t_cutB t_cutHard t_boatAt t_boatPull t_boatWear t_onward t_onwardHard x5 x1 r5 hc5) (cwV 2 hts gX9_findOnwardFrom_X9_otherEnd rfl rfl rfl hd_9_otherEnd ⟨Nat.le_of_ble_eq_true rfl, Nat.le_of_ble_eq_true rfl⟩) hK hP hD hS hA 0 9 rfl rfl rfl (wd_tWater_f.trans wd_tWater_f.symm) rfl hl.1 rfl (Nat.le_of_ble_eq_true rfl) dX9_findOnwardFrom_30 ⟨Nat.zero_le _, Nat.zero_le _⟩ (fun H locs hP hD hS => ?_)
          refine lv_istore (lv' := [(6, .int r5), (0, .ref (a_t 0)), (1, .int x1), (2, .int x2), (3, .int x3), (4, .int x4), (5, .int x5)]) hx hb dX9_findOnwardFrom_33 hl (by decide) rfl (fun ls hl => ?_)
          refine lv_iload hx hb dX9_findOnwardFrom_35 (lv_at hl 0 rfl) ?_
          refine lv_iconst (v := (-1)) hx hb dX9_findOnwardFrom_37 (by decide) ?_
          refine lv_icmp_eq (tgt := 92) hx hb dX9_findOnwardFrom_38 (by decide) (fun hc => ?_) (fun hc => ?_)
          · have h := k_pos hc h
            exact J92 x1 x2 x3 x4 x5 t_onward t_onwardHard _ _ _ hP hD hS (lv_sub hl [1, 2, 3, 4, 5, 6] rfl) h
          · have h := k_neg hc h
            refine lv_iload hx hb dX9_findOnwardFrom_41 (lv_at hl 0 rfl) ?_
            refine lv_iload_n hx hb dX9_findOnwardFrom_43 rfl (lv_at hl 3 rfl) ?_
            refine lv_icmp_ne (tgt := 50) hx hb dX9_findOnwardFrom_44 (by decide) (fun hc => ?_) (fun hc => ?_)
            · have h := k_neg hc h
              refine lv_aload_n hx hb dX9_findOnwardFrom_50 rfl (lv_at hl 1 rfl) ?_
              refine va_get (D := (dC, dI)) (ci := 9) (v := .ref (a_t 3)) (C := RX9) (T := TX9) (N := 11) hx hb hts hin9 hown hK hP 0 rfl rfl 5 (by decide) (hts (.fieldLink RX9 28 "TowedBack$Water" "cutHard" "[I") (List.mem_of_getElem? (i := 2) rfl)) (fun _ h9 => h9) rfl dX9_findOnwardFrom_51 ?_
              refine lv_iload hx hb dX9_findOnwardFrom_54 (lv_at hl 6 rfl) ?_
              obtain ⟨hi6, h⟩ := kg_some h
              refine va_iald hx hb hK hP 3 0 rfl rfl hi6 dX9_findOnwardFrom_56 ?_
              refine lv_iload hx hb dX9_findOnwardFrom_57 (lv_at hl 5 rfl) ?_
              refine lv_icmp_lt (tgt := 80) hx hb dX9_findOnwardFrom_59 (by decide) (fun hc => ?_) (fun hc => ?_)
              · have h := k_pos hc h
                exact J80 x1 x2 x5 r5 t_onward t_onwardHard _ _ _ hP hD hS (lv_sub hl [1, 2, 3, 6, 0] rfl) h
              · have h := k_neg hc h
                refine lv_aload_n hx hb dX9_findOnwardFrom_62 rfl (lv_at hl 1 rfl) ?_
                refine va_get (D := (dC, dI)) (ci := 9) (v := .ref (a_t 3)) (C := RX9) (T := TX9) (N := 11) hx hb hts hin9 hown hK hP 0 rfl rfl 5 (by decide) (hts (.fieldLink RX9 28 "TowedBack$Water" "cutHard" "[I") (List.mem_of_getElem? (i := 2) rfl)) (fun _ h9 => h9) rfl dX9_findOnwardFrom_63 ?_
                refine lv_iload hx hb dX9_findOnwardFrom_66 (lv_at hl 6 rfl) ?_
                obtain ⟨hi7, h⟩ := kg_some h
                refine va_iald hx hb hK hP 3 0 rfl rfl hi7 dX9_findOnwardFrom_68 ?_
                refine lv_iload hx hb dX9_findOnwardFrom_69 (lv_at hl 5 rfl) ?_
                refine lv_icmp_ne (tgt := 92) hx hb dX9_findOnwardFrom_71 (by decide) (fun hc => ?_) (fun hc => ?_)
                · have h := k_neg hc h
                  exact J92 x1 x2 x3 x4 x5 t_onward t_onwardHard _ _ _ hP hD hS (lv_sub hl [1, 2, 3, 4, 5, 6] rfl) h
                · have h := k_pos hc h
                  refine lv_iload hx hb dX9_findOnwardFrom_74 (lv_at hl 0 rfl) ?_
                  refine lv_iload_n hx hb dX9_findOnwardFrom_76 rfl (lv_at hl 4 rfl) ?_
                  refine lv_icmp_ge (tgt := 92) hx hb dX9_findOnwardFrom_77 (by decide) (fun hc => ?_) (fun hc => ?_)
                  · have h := k_pos hc h
                    exact J92 x1 x2 x3 x4 x5 t_onward t_onwardHard _ _ _ hP hD hS (lv_sub hl [1, 2, 3, 4, 5, 6] rfl) h
                  · have h := k_neg hc h
                    exact J80 x1 x2 x5 r5 t_onward t_onwardHard _ _ _ hP hD hS (lv_sub hl [1, 2, 3, 6, 0] rfl) h
            · have h := k_pos hc h
              refine lv_goto (tgt := 92) hx hb dX9_findOnwardFrom_47 (by decide) ?_
              exact J92 x1 x2 x3 x4 x5 t_onward t_onwardHard _ _ _ hP hD hS (lv_sub hl [1, 2, 3, 4, 5, 6] rfl) h
  unfold m_Water_findOnwardFrom at h
  refine lv_iconst (v := (-1)) hx hb dX9_findOnwardFrom_0 (by decide) ?_
  refine lv_istore_n (lv' := [(3, .int (-1)), (0, .ref (a_t 0)), (1, .int y1), (2, .int y2)]) hx hb dX9_findOnwardFrom_1 rfl hl (by decide) rfl (fun ls hl => ?_)
  refine lv_sipush (v := 1000) hx hb dX9_findOnwardFrom_2 (by decide) ?_
  refine lv_istore (lv' := [(4, .int 1000), (3, .int (-1)), (0, .ref (a_t 0)), (1, .int y1), (2, .int y2)]) hx hb dX9_findOnwardFrom_5 hl (by decide) rfl (fun ls hl => ?_)
  refine lv_iconst (v := 0) hx hb dX9_findOnwardFrom_7 (by decide) ?_
  refine lv_istore (lv' := [(5, .int 0), (4, .int 1000), (3, .int (-1)), (0, .ref (a_t 0)), (1, .int y1), (2, .int y2)]) hx hb dX9_findOnwardFrom_8 hl (by decide) rfl (fun ls hl => ?_)
  exact L10 FU y1 y2 (-1) 1000 0 i_t_onward i_t_onwardHard _ _ _ hP hD hS (lv_sub hl [3, 4, 5, 2, 1, 0] rfl) h
set_option maxHeartbeats 4000000 in
set_option maxRecDepth 100000 in
theorem c_Water_findOnward (l : Launch) (dC : Nat → ClassId) (dI : Nat → Nat → Nat) (cI cZ : ClassId) (a_t : Nat → Nat) (t_junctions : Int32) (t_cuts : Int32) (t_boats : Int32) (t_cutA : Nat → Int32) (t_cutB : Nat → Int32) (t_cutHard : Nat → Int32) (t_boatAt : Nat → Int32) (t_boatPull : Nat → Int32) (t_boatWear : Nat → Int32) (i_t_onward : Nat → Int32) (i_t_onwardHard : Nat → Int32)  (o_t_onward : Nat → Int32) (o_t_onwardHard : Nat → Int32) (h : m_Water_findOnward t_cuts t_cutA t_cutB t_cutHard i_t_onward i_t_onwardHard = some (o_t_onward, o_t_onwardHard)) : (MV l yX9_findOnward wsX9_findOnward ({ frames := 3, cells := 0, slots := 0, locals := 69 }) (dC, dI) [(cI, .int), (cZ, .boolean)] (wd_tWater cI cZ a_t t_junctions t_cuts t_boats t_cutA t_cutB t_cutHard t_boatAt t_boatPull t_boatWear i_t_onward i_t_onwardHard) (wd_tWater cI cZ a_t t_junctions t_cuts t_boats t_cutA t_cutB t_cutHard t_boatAt t_boatPull t_boatWear o_t_onward o_t_onwardHard) [.ref (a_t 0)]) := by
  intro sz
  refine Met.ofW (cc := cX9_findOnward) (maxL := 3) (ret := none) (by decide) rfl ?_
  intro p e s m args below meth c s₁ B hml hv
  obtain ⟨rfl, hsz, hP, hK, hD0⟩ := hv
  have hx := B.exec
  have hb := B.bytes
  have hr := B.returns
  have hts := atoms_spec (ws := wsX9_findOnward) B.pre
  have hown : s.vm.findClass RX9 = some m.cls := findClass_of_methodNamed B.named
  have hlocks := B.notSynchronized
  subst hsz
  have hD := hD0.self (sz := s.heap.size)
  have hA : ∀ q : Nat, s.heap.size ≤ q → va_A (wd_tWater cI cZ a_t t_junctions t_cuts t_boats t_cutA t_cutB t_cutHard t_boatAt t_boatPull t_boatWear i_t_onward i_t_onwardHard) s.heap.size q := fun q h => Or.inr h
  have hS : va_S (va_A (wd_tWater cI cZ a_t t_junctions t_cuts t_boats t_cutA t_cutB t_cutHard t_boatAt t_boatPull t_boatWear i_t_onward i_t_onwardHard) s.heap.size) s.heap s.heap [] := va_S.rf
  have hl := lv_entry ([.ref (a_t 0)]) (n := 3) (Nat.le_of_ble_eq_true rfl)
  rw [lg_entry_eq]
  generalize (lg_sl ([.ref (a_t 0)]) ++ List.replicate (3 - (lg_sl ([.ref (a_t 0)])).length) Slot.unset).toArray = ls at hl ⊢
  have hl : lv_has ls 3 [(0, .ref (a_t 0))] := hl
  have L2 : ∀ (n2 : Nat) (x1 : Int32) (t_onward : Nat → Int32) (t_onwardHard : Nat → Int32) (H : Heap) (locs : List Loc) (ls : Array Slot), va_P (dC, dI) vwCl (wd_tWater cI cZ a_t t_junctions t_cuts t_boats t_cutA t_cutB t_cutHard t_boatAt t_boatPull t_boatWear t_onward t_onwardHard) H → va_D (va_A (wd_tWater cI cZ a_t t_junctions t_cuts t_boats t_cutA t_cutB t_cutHard t_boatAt t_boatPull t_boatWear i_t_onward i_t_onwardHard) s.heap.size) (wd_tWater cI cZ a_t t_junctions t_cuts t_boats t_cutA t_cutB t_cutHard t_boatAt t_boatPull t_boatWear t_onward t_onwardHard) → va_S (va_A (wd_tWater cI cZ a_t t_junctions t_cuts t_boats t_cutA t_cutB t_cutHard t_boatAt t_boatPull t_boatWear i_t_onward i_t_onwardHard) s.heap.size) s.heap H locs → lv_has ls 3 [(0, .ref (a_t 0)), (1, .int x1)] → m_Water_findOnward_L2  n2 x1 t_cuts t_cutA t_cutB t_cutHard t_onward t_onwardHard = some (o_t_onward, o_t_onwardHard) → W p l e (headSpec wsX9_findOnward ({ frames := 3, cells := 0, slots := 0, locals := 69 })).room s m ([.ref (a_t 0)] : List Value).toArray below meth c H locs 0 0 (MQ below (cQv (dC, dI) (wd_tWater cI cZ a_t t_junctions t_cuts t_boats t_cutA t_cutB t_cutHard t_boatAt t_boatPull t_boatWear i_t_onward i_t_onwardHard) (wd_tWater cI cZ a_t t_junctions t_cuts t_boats t_cutA t_cutB t_cutHard t_boatAt t_boatPull t_boatWear o_t_onward o_t_onwardHard) s.heap.size) ([.ref (a_t 0)] : List Value).toArray s 0 0 (va_A (wd_tWater cI cZ a_t t_junctions t_cuts t_boats t_cutA t_cutB t_cutHard t_boatAt t_boatPull t_boatWear i_t_onward i_t_onwardHard) s.heap.size)) (F0 m 2 ls []) := by
    intro n2
    induction n2 with
    | zero => intro x1 t_onward t_onwardHard H locs ls hP hD hS hl h; have h : none = some (o_t_onward, o_t_onwardHard) := h; cases h
    | succ n2 ih2 =>
      intro x1 t_onward t_onwardHard H locs ls hP hD hS hl h
      have h : m_Water_findOnward_B2  (m_Water_findOnward_L2  n2) x1 t_cuts t_cutA t_cutB t_cutHard t_onward t_onwardHard = some (o_t_onward, o_t_onwardHard) := h
      have J28 : ∀ (x1 : Int32) (t_onward : Nat → Int32) (t_onwardHard : Nat → Int32) (H : Heap) (locs : List Loc) (ls : Array Slot), va_P (dC, dI) vwCl (wd_tWater cI cZ a_t t_junctions t_cuts t_boats t_cutA t_cutB t_cutHard t_boatAt t_boatPull t_boatWear t_onward t_onwardHard) H → va_D (va_A (wd_tWater cI cZ a_t t_junctions t_cuts t_boats t_cutA t_cutB t_cutHard t_boatAt t_boatPull t_boatWear i_t_onward i_t_onwardHard) s.heap.size) (wd_tWater cI cZ a_t t_junctions t_cuts t_boats t_cutA t_cutB t_cutHard t_boatAt t_boatPull t_boatWear t_onward t_onwardHard) → va_S (va_A (wd_tWater cI cZ a_t t_junctions t_cuts t_boats t_cutA t_cutB t_cutHard t_boatAt t_boatPull t_boatWear i_t_onward i_t_onwardHard) s.heap.size) s.heap H locs → lv_has ls 3 [(0, .ref (a_t 0)), (1, .int x1)] → m_Water_findOnward_B28 (m_Water_findOnward_L2  n2) x1 t_cuts t_cutA t_cutB t_cutHard t_onward t_onwardHard = some (o_t_onward, o_t_onwardHard) → W p l e (headSpec wsX9_findOnward ({ frames := 3, cells := 0, slots := 0, locals := 69 })).room s m ([.ref (a_t 0)] : List Value).toArray below meth c H locs 0 0 (MQ below (cQv (dC, dI) (wd_tWater cI cZ a_t t_junctions t_cuts t_boats t_cutA t_cutB t_cutHard t_boatAt t_boatPull t_boatWear i_t_onward i_t_onwardHard) (wd_tWater cI cZ a_t t_junctions t_cuts t_boats t_cutA t_cutB t_cutHard t_boatAt t_boatPull t_boatWear o_t_onward o_t_onwardHard) s.heap.size) ([.ref (a_t 0)] : List Value).toArray s 0 0 (va_A (wd_tWater cI cZ a_t t_junctions t_cuts t_boats t_cutA t_cutB t_cutHard t_boatAt t_boatPull t_boatWear i_t_onward i_t_onwardHard) s.heap.size)) (F0 m 28 ls []) := by
        intro x1 t_onward t_onwardHard H locs ls hP hD hS hl h
        unfold m_Water_findOnward_B28 at h
        refine lv_iinc (v := (x1 + 1)) (lv' := [(1, .int (x1 + 1)), (0, .ref (a_t 0))]) hx hb dX9_findOnward_28 hl (k := 1) rfl rfl (by decide) rfl (fun ls hl => ?_)
        refine lv_goto (tgt := 2) hx hb dX9_findOnward_31 (by decide) ?_
        exact ih2 (x1 + 1) t_onward t_onwardHard _ _ _ hP hD hS (lv_sub hl [1, 0] rfl) h
      have L10 : ∀ (n10 : Nat) (x1 : Int32) (x2 : Int32) (t_onward : Nat → Int32) (t_onwardHard : Nat → Int32) (H : Heap) (locs : List Loc) (ls : Array Slot), va_P (dC, dI) vwCl (wd_tWater cI cZ a_t t_junctions t_cuts t_boats t_cutA t_cutB t_cutHard t_boatAt t_boatPull t_boatWear t_onward t_onwardHard) H → va_D (va_A (wd_tWater cI cZ a_t t_junctions t_cuts t_boats t_cutA t_cutB t_cutHard t_boatAt t_boatPull t_boatWear i_t_onward i_t_onwardHard) s.heap.size) (wd_tWater cI cZ a_t t_junctions t_cuts t_boats t_cutA t_cutB t_cutHard t_boatAt t_boatPull t_boatWear t_onward t_onwardHard) → va_S (va_A (wd_tWater cI cZ a_t t_junctions t_cuts t_boats t_cutA t_cutB t_cutHard t_boatAt t_boatPull t_boatWear i_t_onward i_t_onwardHard) s.heap.size) s.heap H locs → lv_has ls 3 [(0, .ref (a_t 0)), (1, .int x1), (2, .int x2)] → m_Water_findOnward_L10 (m_Water_findOnward_L2  n2) n10 x1 x2 t_cuts t_cutA t_cutB t_cutHard t_onward t_onwardHard = some (o_t_onward, o_t_onwardHard) → W p l e (headSpec wsX9_findOnward ({ frames := 3, cells := 0, slots := 0, locals := 69 })).room s m ([.ref (a_t 0)] : List Value).toArray below meth c H locs 0 0 (MQ below (cQv (dC, dI) (wd_tWater cI cZ a_t t_junctions t_cuts t_boats t_cutA t_cutB t_cutHard t_boatAt t_boatPull t_boatWear i_t_onward i_t_onwardHard) (wd_tWater cI cZ a_t t_junctions t_cuts t_boats t_cutA t_cutB t_cutHard t_boatAt t_boatPull t_boatWear o_t_onward o_t_onwardHard) s.heap.size) ([.ref (a_t 0)] : List Value).toArray s 0 0 (va_A (wd_tWater cI cZ a_t t_junctions t_cuts t_boats t_cutA t_cutB t_cutHard t_boatAt t_boatPull t_boatWear i_t_onward i_t_onwardHard) s.heap.size)) (F0 m 10 ls []) := by
        intro n10
        induction n10 with
        | zero => intro x1 x2 t_onward t_onwardHard H locs ls hP hD hS hl h; have h : none = some (o_t_onward, o_t_onwardHard) := h; cases h
        | succ n10 ih10 =>
          intro x1 x2 t_onward t_onwardHard H locs ls hP hD hS hl h
          have h : m_Water_findOnward_B10 (m_Water_findOnward_L2  n2) (m_Water_findOnward_L10 (m_Water_findOnward_L2  n2) n10) x1 x2 t_cuts t_cutA t_cutB t_cutHard t_onward t_onwardHard = some (o_t_onward, o_t_onwardHard) := h
          unfold m_Water_findOnward_B10 at h
          refine lv_iload_n hx hb dX9_findOnward_10 rfl (lv_at hl 2 rfl) ?_
          refine lv_bipush (v := 9) hx hb dX9_findOnward_11 (by decide) ?_
          refine lv_icmp_ge (tgt := 28) hx hb dX9_findOnward_13 (by decide) (fun hc => ?_) (fun hc => ?_)
          · have h := k_pos hc h
            exact J28 x1 t_onward t_onwardHard _ _ _ hP hD hS (lv_sub hl [0, 1] rfl) h
          · have h := k_neg hc h
            refine lv_aload_n hx hb dX9_findOnward_16 rfl (lv_at hl 0 rfl) ?_
            refine lv_iload_n hx hb dX9_findOnward_17 rfl (lv_at hl 1 rfl) ?_
            refine lv_iload_n hx hb dX9_findOnward_18 rfl (lv_at hl 2 rfl) ?_
            obtain ⟨t_onward_1, t_onwardHard_1, hc1, h⟩ := kb2_some h
            refine k_FVv (rest := []) (As := [.int x1, .int x2]) ⟨hx, hb, hml, hown, hts⟩ (c_Water_findOnwardFrom l dC dI cI cZ a_t t_junctions t_cuts t_boats t_cutA t_cutB t_cutHard t_boatAt t_boatPull t_boatWear t_onward t_onwardHard x1 x2 t_onward_1 t_onwardHard_1 hc1) (cwV 2 hts gX9_findOnward_X9_findOnwardFrom rfl rfl rfl hd_9_findOnwardFrom ⟨Nat.le_of_ble_eq_true rfl, Nat.le_of_ble_eq_true rfl⟩) hK hP hD hS hA 0 9 rfl rfl rfl (wd_tWater_f.trans wd_tWater_f.symm) rfl hl.1 rfl (Nat.le_of_ble_eq_true rfl) dX9_findOnward_19 ⟨Nat.zero_le _, Nat.zero_le _⟩ (fun H locs hP hD hS => ?_)
            refine lv_iinc (v := (x2 + 1)) (lv' := [(2, .int (x2 + 1)), (0, .ref (a_t 0)), (1, .int x1)]) hx hb dX9_findOnward_22 hl (k := 2) rfl rfl (by decide) rfl (fun ls hl => ?_)
            refine lv_goto (tgt := 10) hx hb dX9_findOnward_25 (by decide) ?_
            exact ih10 x1 (x2 + 1) t_onward_1 t_onwardHard_1 _ _ _ hP hD hS (lv_sub hl [1, 2, 0] rfl) h
      unfold m_Water_findOnward_B2 at h
      refine lv_iload_n hx hb dX9_findOnward_2 rfl (lv_at hl 1 rfl) ?_
      refine lv_bipush (v := 9) hx hb dX9_findOnward_3 (by decide) ?_
      refine lv_icmp_ge (tgt := 34) hx hb dX9_findOnward_5 (by decide) (fun hc => ?_) (fun hc => ?_)
      · have h := k_pos hc h
        obtain ⟨rfl, rfl⟩ := k_in2 h
        exact k_rv hx hb hr hlocks hP hS dX9_findOnward_34
      · have h := k_neg hc h
        refine lv_iconst (v := (-1)) hx hb dX9_findOnward_8 (by decide) ?_
        refine lv_istore_n (lv' := [(2, .int (-1)), (0, .ref (a_t 0)), (1, .int x1)]) hx hb dX9_findOnward_9 rfl hl (by decide) rfl (fun ls hl => ?_)
        exact L10 FU x1 (-1) t_onward t_onwardHard _ _ _ hP hD hS (lv_sub hl [1, 2, 0] rfl) h
  unfold m_Water_findOnward at h
  refine lv_iconst (v := 0) hx hb dX9_findOnward_0 (by decide) ?_
  refine lv_istore_n (lv' := [(1, .int 0), (0, .ref (a_t 0))]) hx hb dX9_findOnward_1 rfl hl (by decide) rfl (fun ls hl => ?_)
  exact L2 FU 0 i_t_onward i_t_onwardHard _ _ _ hP hD hS (lv_sub hl [1, 0] rfl) h
set_option maxHeartbeats 4000000 in
set_option maxRecDepth 100000 in
theorem c_Water_goesTo (l : Launch) (dC : Nat → ClassId) (dI : Nat → Nat → Nat) (cI cZ : ClassId) (a_t : Nat → Nat) (t_junctions : Int32) (t_cuts : Int32) (t_boats : Int32) (t_cutA : Nat → Int32) (t_cutB : Nat → Int32) (t_cutHard : Nat → Int32) (t_boatAt : Nat → Int32) (t_boatPull : Nat → Int32) (t_boatWear : Nat → Int32) (t_onward : Nat → Int32) (t_onwardHard : Nat → Int32) (y1 : Int32) (y2 : Int32) (r0 : Int32) (h : m_Water_goesTo y1 y2 t_onward = some r0) : (MI l yX9_goesTo wsX9_goesTo ({ frames := 1, cells := 0, slots := 0, locals := 22 }) (dC, dI) [(cI, .int), (cZ, .boolean)] (wd_tWater cI cZ a_t t_junctions t_cuts t_boats t_cutA t_cutB t_cutHard t_boatAt t_boatPull t_boatWear t_onward t_onwardHard) (wd_tWater cI cZ a_t t_junctions t_cuts t_boats t_cutA t_cutB t_cutHard t_boatAt t_boatPull t_boatWear t_onward t_onwardHard) [.ref (a_t 0), .int y1, .int y2] r0) := by
  intro sz
  refine Met.ofW (cc := cX9_goesTo) (maxL := 4) (ret := (some .int)) (by decide) rfl ?_
  intro p e s m args below meth c s₁ B hml hv
  obtain ⟨rfl, hsz, hP, hK, hD0⟩ := hv
  have hx := B.exec
  have hb := B.bytes
  have hr := B.returns
  have hts := atoms_spec (ws := wsX9_goesTo) B.pre
  have hown : s.vm.findClass RX9 = some m.cls := findClass_of_methodNamed B.named
  have hlocks := B.notSynchronized
  subst hsz
  have hD := hD0.self (sz := s.heap.size)
  have hA : ∀ q : Nat, s.heap.size ≤ q → va_A (wd_tWater cI cZ a_t t_junctions t_cuts t_boats t_cutA t_cutB t_cutHard t_boatAt t_boatPull t_boatWear t_onward t_onwardHard) s.heap.size q := fun q h => Or.inr h
  have hS : va_S (va_A (wd_tWater cI cZ a_t t_junctions t_cuts t_boats t_cutA t_cutB t_cutHard t_boatAt t_boatPull t_boatWear t_onward t_onwardHard) s.heap.size) s.heap s.heap [] := va_S.rf
  have hin9 : ∀ w ∈ u_ws RX9 TX9 11, w ∈ wsX9_goesTo := fun w h => List.mem_cons_of_mem _ (List.mem_append_right _ h)
  have hl := lv_entry ([.ref (a_t 0), .int y1, .int y2]) (n := 4) (Nat.le_of_ble_eq_true rfl)
  rw [lg_entry_eq]
  generalize (lg_sl ([.ref (a_t 0), .int y1, .int y2]) ++ List.replicate (4 - (lg_sl ([.ref (a_t 0), .int y1, .int y2])).length) Slot.unset).toArray = ls at hl ⊢
  have hl : lv_has ls 4 [(0, .ref (a_t 0)), (1, .int y1), (2, .int y2)] := hl
  unfold m_Water_goesTo at h
  refine lv_aload_n hx hb dX9_goesTo_0 rfl (lv_at hl 0 rfl) ?_
  refine lv_iload_n hx hb dX9_goesTo_1 rfl (lv_at hl 1 rfl) ?_
  refine lv_iload_n hx hb dX9_goesTo_2 rfl (lv_at hl 2 rfl) ?_
  obtain ⟨r1, hc1, h⟩ := kb1_some h
  refine k_FVi (rest := []) (As := [.int y1, .int y2]) ⟨hx, hb, hml, hown, hts⟩ (c_Water_slotOf l dC dI cI cZ a_t t_junctions t_cuts t_boats t_cutA t_cutB t_cutHard t_boatAt t_boatPull t_boatWear t_onward t_onwardHard y1 y2 r1 hc1) (cwV 2 hts gX9_goesTo_X9_slotOf rfl rfl rfl hd_9_slotOf ⟨Nat.le_of_ble_eq_true rfl, Nat.le_of_ble_eq_true rfl⟩) hK hP hD hS hA 0 9 rfl rfl rfl (wd_tWater_f.trans wd_tWater_f.symm) rfl hl.1 rfl (Nat.le_of_ble_eq_true rfl) dX9_goesTo_3 ⟨Nat.zero_le _, Nat.zero_le _⟩ (fun H locs hP hD hS => ?_)
  refine lv_istore_n (lv' := [(3, .int r1), (0, .ref (a_t 0)), (1, .int y1), (2, .int y2)]) hx hb dX9_goesTo_6 rfl hl (by decide) rfl (fun ls hl => ?_)
  refine lv_iload_n hx hb dX9_goesTo_7 rfl (lv_at hl 0 rfl) ?_
  refine lv_iconst (v := (-1)) hx hb dX9_goesTo_8 (by decide) ?_
  refine lv_icmp_ne (tgt := 16) hx hb dX9_goesTo_9 (by decide) (fun hc => ?_) (fun hc => ?_)
  · have h := k_neg hc h
    refine lv_aload_n hx hb dX9_goesTo_16 rfl (lv_at hl 1 rfl) ?_
    refine va_get (D := (dC, dI)) (ci := 9) (v := .ref (a_t 7)) (C := RX9) (T := TX9) (N := 11) hx hb hts hin9 hown hK hP 0 rfl rfl 9 (by decide) (hts (.fieldLink RX9 40 "TowedBack$Water" "onward" "[I") (List.mem_of_getElem? (i := 1) rfl)) (fun _ h9 => h9) rfl dX9_goesTo_17 ?_
    refine lv_iload_n hx hb dX9_goesTo_20 rfl (lv_at hl 0 rfl) ?_
    obtain ⟨hi2, h⟩ := kg_some h
    refine va_iald hx hb hK hP 7 0 rfl rfl hi2 dX9_goesTo_21 ?_
    obtain rfl := k_in1 h
    exact k_ri hx hb hr hlocks hP hS dX9_goesTo_22
  · have h := k_pos hc h
    refine lv_iconst (v := (-1)) hx hb dX9_goesTo_12 (by decide) ?_
    refine lv_goto (tgt := 22) hx hb dX9_goesTo_13 (by decide) ?_
    obtain rfl := k_in1 h
    exact k_ri hx hb hr hlocks hP hS dX9_goesTo_22
set_option maxHeartbeats 4000000 in
set_option maxRecDepth 100000 in
theorem c_Water_hardOn (l : Launch) (dC : Nat → ClassId) (dI : Nat → Nat → Nat) (cI cZ : ClassId) (a_t : Nat → Nat) (t_junctions : Int32) (t_cuts : Int32) (t_boats : Int32) (t_cutA : Nat → Int32) (t_cutB : Nat → Int32) (t_cutHard : Nat → Int32) (t_boatAt : Nat → Int32) (t_boatPull : Nat → Int32) (t_boatWear : Nat → Int32) (t_onward : Nat → Int32) (t_onwardHard : Nat → Int32) (y1 : Int32) (y2 : Int32) (r0 : Int32) (h : m_Water_hardOn y1 y2 t_onwardHard = some r0) : (MI l yX9_hardOn wsX9_hardOn ({ frames := 1, cells := 0, slots := 0, locals := 22 }) (dC, dI) [(cI, .int), (cZ, .boolean)] (wd_tWater cI cZ a_t t_junctions t_cuts t_boats t_cutA t_cutB t_cutHard t_boatAt t_boatPull t_boatWear t_onward t_onwardHard) (wd_tWater cI cZ a_t t_junctions t_cuts t_boats t_cutA t_cutB t_cutHard t_boatAt t_boatPull t_boatWear t_onward t_onwardHard) [.ref (a_t 0), .int y1, .int y2] r0) := by
  intro sz
  refine Met.ofW (cc := cX9_hardOn) (maxL := 4) (ret := (some .int)) (by decide) rfl ?_
  intro p e s m args below meth c s₁ B hml hv
  obtain ⟨rfl, hsz, hP, hK, hD0⟩ := hv
  have hx := B.exec
  have hb := B.bytes
  have hr := B.returns
  have hts := atoms_spec (ws := wsX9_hardOn) B.pre
  have hown : s.vm.findClass RX9 = some m.cls := findClass_of_methodNamed B.named
  have hlocks := B.notSynchronized
  subst hsz
  have hD := hD0.self (sz := s.heap.size)
  have hA : ∀ q : Nat, s.heap.size ≤ q → va_A (wd_tWater cI cZ a_t t_junctions t_cuts t_boats t_cutA t_cutB t_cutHard t_boatAt t_boatPull t_boatWear t_onward t_onwardHard) s.heap.size q := fun q h => Or.inr h
  have hS : va_S (va_A (wd_tWater cI cZ a_t t_junctions t_cuts t_boats t_cutA t_cutB t_cutHard t_boatAt t_boatPull t_boatWear t_onward t_onwardHard) s.heap.size) s.heap s.heap [] := va_S.rf
  have hin9 : ∀ w ∈ u_ws RX9 TX9 11, w ∈ wsX9_hardOn := fun w h => List.mem_cons_of_mem _ (List.mem_append_right _ h)
  have hl := lv_entry ([.ref (a_t 0), .int y1, .int y2]) (n := 4) (Nat.le_of_ble_eq_true rfl)
  rw [lg_entry_eq]
  generalize (lg_sl ([.ref (a_t 0), .int y1, .int y2]) ++ List.replicate (4 - (lg_sl ([.ref (a_t 0), .int y1, .int y2])).length) Slot.unset).toArray = ls at hl ⊢
  have hl : lv_has ls 4 [(0, .ref (a_t 0)), (1, .int y1), (2, .int y2)] := hl
  unfold m_Water_hardOn at h
  refine lv_aload_n hx hb dX9_hardOn_0 rfl (lv_at hl 0 rfl) ?_
  refine lv_iload_n hx hb dX9_hardOn_1 rfl (lv_at hl 1 rfl) ?_
  refine lv_iload_n hx hb dX9_hardOn_2 rfl (lv_at hl 2 rfl) ?_
  obtain ⟨r1, hc1, h⟩ := kb1_some h
  refine k_FVi (rest := []) (As := [.int y1, .int y2]) ⟨hx, hb, hml, hown, hts⟩ (c_Water_slotOf l dC dI cI cZ a_t t_junctions t_cuts t_boats t_cutA t_cutB t_cutHard t_boatAt t_boatPull t_boatWear t_onward t_onwardHard y1 y2 r1 hc1) (cwV 2 hts gX9_hardOn_X9_slotOf rfl rfl rfl hd_9_slotOf ⟨Nat.le_of_ble_eq_true rfl, Nat.le_of_ble_eq_true rfl⟩) hK hP hD hS hA 0 9 rfl rfl rfl (wd_tWater_f.trans wd_tWater_f.symm) rfl hl.1 rfl (Nat.le_of_ble_eq_true rfl) dX9_hardOn_3 ⟨Nat.zero_le _, Nat.zero_le _⟩ (fun H locs hP hD hS => ?_)
  refine lv_istore_n (lv' := [(3, .int r1), (0, .ref (a_t 0)), (1, .int y1), (2, .int y2)]) hx hb dX9_hardOn_6 rfl hl (by decide) rfl (fun ls hl => ?_)
  refine lv_iload_n hx hb dX9_hardOn_7 rfl (lv_at hl 0 rfl) ?_
  refine lv_iconst (v := (-1)) hx hb dX9_hardOn_8 (by decide) ?_
  refine lv_icmp_ne (tgt := 18) hx hb dX9_hardOn_9 (by decide) (fun hc => ?_) (fun hc => ?_)
  · have h := k_neg hc h
    refine lv_aload_n hx hb dX9_hardOn_18 rfl (lv_at hl 1 rfl) ?_
    refine va_get (D := (dC, dI)) (ci := 9) (v := .ref (a_t 8)) (C := RX9) (T := TX9) (N := 11) hx hb hts hin9 hown hK hP 0 rfl rfl 10 (by decide) (hts (.fieldLink RX9 43 "TowedBack$Water" "onwardHard" "[I") (List.mem_of_getElem? (i := 1) rfl)) (fun _ h9 => h9) rfl dX9_hardOn_19 ?_
    refine lv_iload_n hx hb dX9_hardOn_22 rfl (lv_at hl 0 rfl) ?_
    obtain ⟨hi2, h⟩ := kg_some h
    refine va_iald hx hb hK hP 8 0 rfl rfl hi2 dX9_hardOn_23 ?_
    obtain rfl := k_in1 h
    exact k_ri hx hb hr hlocks hP hS dX9_hardOn_24
  · have h := k_pos hc h
    refine lv_sipush (v := 1000) hx hb dX9_hardOn_12 (by decide) ?_
    refine lv_goto (tgt := 24) hx hb dX9_hardOn_15 (by decide) ?_
    obtain rfl := k_in1 h
    exact k_ri hx hb hr hlocks hP hS dX9_hardOn_24
