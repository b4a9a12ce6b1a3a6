set_option maxHeartbeats 4000000 in
set_option maxRecDepth 100000 in
theorem c_Draws_next (l : Launch) (dC : Nat → ClassId) (dI : Nat → Nat → Nat) (cI cZ : ClassId) (a_t : Nat → Nat) (i_t_value : Int32) (y1 : Int32) (r0 : Int32) (o_t_value : Int32) (h : m_Draws_next y1 i_t_value = some (r0, o_t_value)) : (MI l yX1_next wsX1_next ({ frames := 0, cells := 0, slots := 0, locals := 0 }) (dC, dI) [(cI, .int), (cZ, .boolean)] (wd_tDraws cI cZ a_t i_t_value) (wd_tDraws cI cZ a_t o_t_value) [.ref (a_t 0), .int y1] r0) := by
  intro sz
  refine Met.ofW (cc := cX1_next) (maxL := 2) (ret := (some .int)) (by decide) rfl ?_
  intro p e s m args below meth c s₁ B hml hv
  obtain ⟨rfl, hsz, hP, hK, hD0⟩ := hv
  have hx := B.exec
  have hb := B.bytes
  have hr := B.returns
  have hts := atoms_spec (ws := wsX1_next) B.pre
  have hown : s.vm.findClass RX1 = some m.cls := findClass_of_methodNamed B.named
  have hlocks := B.notSynchronized
  subst hsz
  have hD := hD0.self (sz := s.heap.size)
  have hA : ∀ q : Nat, s.heap.size ≤ q → va_A (wd_tDraws cI cZ a_t i_t_value) s.heap.size q := fun q h => Or.inr h
  have hS : va_S (va_A (wd_tDraws cI cZ a_t i_t_value) s.heap.size) s.heap s.heap [] := va_S.rf
  have hin1 : ∀ w ∈ u_ws RX1 TX1 1, w ∈ wsX1_next := fun w h => List.mem_cons_of_mem _ (List.mem_append_right _ h)
  have hl := lv_entry ([.ref (a_t 0), .int y1]) (n := 2) (Nat.le_of_ble_eq_true rfl)
  rw [lg_entry_eq]
  generalize (lg_sl ([.ref (a_t 0), .int y1]) ++ List.replicate (2 - (lg_sl ([.ref (a_t 0), .int y1])).length) Slot.unset).toArray = ls at hl ⊢
  have hl : lv_has ls 2 [(0, .ref (a_t 0)), (1, .int y1)] := hl
  unfold m_Draws_next at h
  refine lv_aload_n hx hb dX1_next_0 rfl (lv_at hl 0 rfl) ?_
  refine lv_aload_n hx hb dX1_next_1 rfl (lv_at hl 0 rfl) ?_
  refine va_get (D := (dC, dI)) (ci := 1) (v := .int i_t_value) (C := RX1) (T := TX1) (N := 1) hx hb hts hin1 hown hK hP 0 rfl rfl 0 (by decide) (hts (.fieldLink RX1 7 "TowedBack$Draws" "value" "I") (List.mem_of_getElem? (i := 1) rfl)) (fun _ h9 => h9) rfl dX1_next_2 ?_
  refine lv_i2l (v := i_t_value.toInt64) hx hb dX1_next_5 rfl ?_
  refine lv_ldc2 (v := 1103515245) hx hb hown (hts (.constantLong RX1 13 (1103515245)) (List.mem_of_getElem? (i := 2) rfl)) dX1_next_6 ?_
  refine lv_lmul hx hb dX1_next_9 ?_
  refine lv_ldc2 (v := 12345) hx hb hown (hts (.constantLong RX1 15 (12345)) (List.mem_of_getElem? (i := 3) rfl)) dX1_next_10 ?_
  refine lv_ladd hx hb dX1_next_13 ?_
  refine lv_ldc2 (v := 2147483647) hx hb hown (hts (.constantLong RX1 17 (2147483647)) (List.mem_of_getElem? (i := 4) rfl)) dX1_next_14 ?_
  refine lv_land hx hb dX1_next_17 ?_
  refine lv_l2i (v := ((((i_t_value.toInt64) * 1103515245) + 12345) &&& 2147483647).toInt32) hx hb dX1_next_18 rfl ?_
  refine va_put (D := (dC, dI)) (ci := 1) (v := .int (((((i_t_value.toInt64) * 1103515245) + 12345) &&& 2147483647).toInt32)) (ty := tyX1 0) (C := RX1) (T := TX1) (N := 1) hx hb hts hin1 tyX1 tyX1_ok nmX1 hown hK hP hD hS 0 rfl rfl 0 (by decide) (hts (.fieldLink RX1 7 "TowedBack$Draws" "value" "I") (List.mem_of_getElem? (i := 1) rfl)) (fun _ h9 => h9) rfl (tyX1_ok 0 (by decide)) rfl rfl (Nat.le_of_ble_eq_true rfl) dX1_next_19 (fun H locs hP hD hS => ?_)
  have hP : va_P (dC, dI) vwCl (wd_tDraws cI cZ a_t (((((i_t_value.toInt64) * 1103515245) + 12345) &&& 2147483647).toInt32)) H := hP
  have hD : va_D (va_A (wd_tDraws cI cZ a_t i_t_value) s.heap.size) (wd_tDraws cI cZ a_t (((((i_t_value.toInt64) * 1103515245) + 12345) &&& 2147483647).toInt32)) := hD
  refine lv_iload_n hx hb dX1_next_22 rfl (lv_at hl 1 rfl) ?_
  refine lv_iconst (v := 1) hx hb dX1_next_23 (by decide) ?_
  refine lv_icmp_ge (tgt := 31) hx hb dX1_next_24 (by decide) (fun hc => ?_) (fun hc => ?_)
  · have h := k_pos hc h
    refine lv_aload_n hx hb dX1_next_31 rfl (lv_at hl 0 rfl) ?_
    refine va_get (D := (dC, dI)) (ci := 1) (v := .int (((((i_t_value.toInt64) * 1103515245) + 12345) &&& 2147483647).toInt32)) (C := RX1) (T := TX1) (N := 1) hx hb hts hin1 hown hK hP 0 rfl rfl 0 (by decide) (hts (.fieldLink RX1 7 "TowedBack$Draws" "value" "I") (List.mem_of_getElem? (i := 1) rfl)) (fun _ h9 => h9) rfl dX1_next_32 ?_
    refine lv_ldc (v := 65536) hx hb hown (hts (.constant RX1 19 (65536)) (List.mem_of_getElem? (i := 5) rfl)) dX1_next_35 ?_
    obtain ⟨hz1, h⟩ := kz_some h
    refine lv_idiv hx hb dX1_next_37 hz1 ?_
    refine lv_iload_n hx hb dX1_next_38 rfl (lv_at hl 1 rfl) ?_
    obtain ⟨hz2, h⟩ := kz_some h
    refine lv_irem hx hb dX1_next_39 hz2 ?_
    obtain ⟨rfl, rfl⟩ := k_in2 h
    exact k_ri hx hb hr hlocks hP hS dX1_next_40
  · have h := k_neg hc h
    refine lv_iconst (v := 0) hx hb dX1_next_27 (by decide) ?_
    refine lv_goto (tgt := 40) hx hb dX1_next_28 (by decide) ?_
    obtain ⟨rfl, rfl⟩ := k_in2 h
    exact k_ri hx hb hr hlocks hP hS dX1_next_40
