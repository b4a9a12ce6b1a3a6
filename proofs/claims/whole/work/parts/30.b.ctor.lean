set_option maxHeartbeats 4000000 in
set_option maxRecDepth 100000 in
theorem c_Draws_init (l : Launch) (dC : Nat → ClassId) (dI : Nat → Nat → Nat) (cI cZ : ClassId) (h0 : Nat) : MN l yX1_init wsX1_init ({ frames := 1, cells := 0, slots := 0, locals := 12 }) (dC, dI) [(cI, .int), (cZ, .boolean)] (h0, .inr (1, [.int 0])) [] (fun u : (Nat → Nat → Nat) × Nat => (wd_tDraws cI cZ (u.1 0) 0)) (fun u : (Nat → Nat → Nat) × Nat => h0 = u.1 0 0) 0 0 := by
  intro sz
  refine Met.ofW (cc := cX1_init) (maxL := 1) (ret := none) (by decide) rfl ?_
  intro p e s m args below meth c s₁ B hml hv
  obtain ⟨rfl, hsz, hP, hK, hD0⟩ := hv
  have hx := B.exec
  have hb := B.bytes
  have hr := B.returns
  have hts := atoms_spec (ws := wsX1_init) B.pre
  have hown : s.vm.findClass RX1 = some m.cls := findClass_of_methodNamed B.named
  have hlocks := B.notSynchronized
  have hin : meth.name = "<init>" := (name_of_methodNamed B.named B.method).1
  subst hsz
  have hD := hD0.self (sz := s.heap.size)
  have hA : ∀ q : Nat, s.heap.size ≤ q → va_A [(h0, .inr (1, [.int 0]))] s.heap.size q := fun q h => Or.inr h
  have hS : va_S (va_A [(h0, .inr (1, [.int 0]))] s.heap.size) s.heap s.heap [] := va_S.rf
  have hP : va_P (dC, dI) vwCl ([(h0, .inr (1, [.int 0]))] : va_W) s.heap := hP
  have hin1 : ∀ w ∈ u_ws RX1 TX1 1, w ∈ wsX1_init := fun w h => List.mem_cons_of_mem _ (List.mem_append_right _ h)
  have hl := lv_entry ([.ref h0]) (n := 1) (Nat.le_of_ble_eq_true rfl)
  rw [lg_entry_eq]
  generalize (lg_sl ([.ref h0]) ++ List.replicate (1 - (lg_sl ([.ref h0])).length) Slot.unset).toArray = ls at hl ⊢
  have hl : lv_has ls 1 [(0, .ref h0)] := hl
  refine lv_aload_n hx hb dX1_init_0 rfl (lv_at hl 0 rfl) ?_
  refine W.objInit hx hb hown (hts (.methodLink RX1 1 objectInit) (List.mem_of_getElem? (i := 1) rfl)) (hts (.instanceMethod objectInit) (List.mem_of_getElem? (i := 2) rfl)) (hts (.code objectInit ⟨#[0xb1]⟩ 1 none) (List.mem_of_getElem? (i := 3) rfl)) rfl (by rw [hml]; exact hl.1) rfl dX1_init_1 (Nat.le_of_ble_eq_true rfl) (Nat.le_of_ble_eq_true rfl) ?_
  refine W.eq (g2 := F0 m 4 ls []) rfl ?_
  refine lv_aload_n hx hb dX1_init_4 rfl (lv_at hl 0 rfl) ?_
  refine lv_iconst (v := 0) hx hb dX1_init_5 (by decide) ?_
  refine va_put (D := (dC, dI)) (ci := 1) (v := .int 0) (ty := tyX1 0) (C := RX1) (T := TX1) (N := 1) hx hb hts hin1 tyX1 tyX1_ok nmX1 hown hK hP hD hS 0 rfl rfl 0 (by decide) (hts (.fieldLink RX1 7 "TowedBack$Draws" "value" "I") (List.mem_of_getElem? (i := 4) rfl)) (fun _ h9 => h9) rfl (tyX1_ok 0 (by decide)) rfl rfl (Nat.le_of_ble_eq_true rfl) dX1_init_6 (fun H locs hP hD hS => ?_)
  have hP : va_P (dC, dI) vwCl ([(h0, .inr (1, [.int 0]))] : va_W) H := hP
  have hD : va_D (va_A [(h0, .inr (1, [.int 0]))] s.heap.size) ([(h0, .inr (1, [.int 0]))] : va_W) := hD
  have hP9 := hP.sub (ws' := (wd_tDraws cI cZ ((((fun _ => (fun _ => h0)), 0) : (Nat → Nat → Nat) × Nat).1 0) 0)) [0] rfl
  have hD9 := hD.sub (ws' := (wd_tDraws cI cZ ((((fun _ => (fun _ => h0)), 0) : (Nat → Nat → Nat) × Nat).1 0) 0)) [0] (by decide +kernel) rfl
  refine W.widen (k := 0) (n := 0) (Nat.le_of_ble_eq_true rfl) (Nat.le_of_ble_eq_true rfl) ?_
  exact W.vret hx hb hr (fun t ht hW => ⟨⟨(((fun _ => (fun _ => h0)), 0) : (Nat → Nat → Nat) × Nat), rfl, rfl, by rw [ht]; exact hP9, hD9⟩, hS.F ht⟩) hS.2.2 dX1_init_9
set_option maxHeartbeats 4000000 in
set_option maxRecDepth 100000 in
theorem c_Entries_init6 (l : Launch) (dC : Nat → ClassId) (dI : Nat → Nat → Nat) (cI cZ : ClassId) (h0 : Nat) : MN l yX2_init wsX2_init ({ frames := 1, cells := 3, slots := 18, locals := 21 }) (dC, dI) [(cI, .int), (cZ, .boolean)] (h0, .inr (2, [.int 0, .null, .null, .null, .int 0])) [.int 6] (fun u : (Nat → Nat → Nat) × Nat => (wd_tEntries cI cZ (u.1 0) 6 6 (fun _ => 0) (fun _ => 0) (fun _ => 0) 0)) (fun u : (Nat → Nat → Nat) × Nat => h0 = u.1 0 0) 3 18 := by
  intro sz
  refine Met.ofW (cc := cX2_init) (maxL := 2) (ret := none) (by decide) rfl ?_
  intro p e s m args below meth c s₁ B hml hv
  obtain ⟨rfl, hsz, hP, hK, hD0⟩ := hv
  have hx := B.exec
  have hb := B.bytes
  have hr := B.returns
  have hts := atoms_spec (ws := wsX2_init) B.pre
  have hown : s.vm.findClass RX2 = some m.cls := findClass_of_methodNamed B.named
  have hlocks := B.notSynchronized
  have hin : meth.name = "<init>" := (name_of_methodNamed B.named B.method).1
  subst hsz
  have hD := hD0.self (sz := s.heap.size)
  have hA : ∀ q : Nat, s.heap.size ≤ q → va_A [(h0, .inr (2, [.int 0, .null, .null, .null, .int 0]))] s.heap.size q := fun q h => Or.inr h
  have hS : va_S (va_A [(h0, .inr (2, [.int 0, .null, .null, .null, .int 0]))] s.heap.size) s.heap s.heap [] := va_S.rf
  have hP : va_P (dC, dI) vwCl ([(h0, .inr (2, [.int 0, .null, .null, .null, .int 0]))] : va_W) s.heap := hP
  have hin2 : ∀ w ∈ u_ws RX2 TX2 5, w ∈ wsX2_init := fun w h => List.mem_cons_of_mem _ (List.mem_append_right _ h)
  have hl := lv_entry ([.ref h0, .int 6]) (n := 2) (Nat.le_of_ble_eq_true rfl)
  rw [lg_entry_eq]
  generalize (lg_sl ([.ref h0, .int 6]) ++ List.replicate (2 - (lg_sl ([.ref h0, .int 6])).length) Slot.unset).toArray = ls at hl ⊢
  have hl : lv_has ls 2 [(0, .ref h0), (1, .int 6)] := hl
  refine lv_aload_n hx hb dX2_init_0 rfl (lv_at hl 0 rfl) ?_
  refine W.objInit hx hb hown (hts (.methodLink RX2 3 objectInit) (List.mem_of_getElem? (i := 1) rfl)) (hts (.instanceMethod objectInit) (List.mem_of_getElem? (i := 2) rfl)) (hts (.code objectInit ⟨#[0xb1]⟩ 1 none) (List.mem_of_getElem? (i := 3) rfl)) rfl (by rw [hml]; exact hl.1) rfl dX2_init_1 (Nat.le_of_ble_eq_true rfl) (Nat.le_of_ble_eq_true rfl) ?_
  refine W.eq (g2 := F0 m 4 ls []) rfl ?_
  refine lv_aload_n hx hb dX2_init_4 rfl (lv_at hl 0 rfl) ?_
  refine lv_iconst (v := 0) hx hb dX2_init_5 (by decide) ?_
  refine va_put (D := (dC, dI)) (ci := 2) (v := .int 0) (ty := tyX2 4) (C := RX2) (T := TX2) (N := 5) hx hb hts hin2 tyX2 tyX2_ok nmX2 hown hK hP hD hS 0 rfl rfl 4 (by decide) (hts (.fieldLink RX2 9 "TowedBack$Entries" "count" "I") (List.mem_of_getElem? (i := 4) rfl)) (fun _ h9 => h9) rfl (tyX2_ok 4 (by decide)) rfl rfl (Nat.le_of_ble_eq_true rfl) dX2_init_6 (fun H locs hP hD hS => ?_)
  have hP : va_P (dC, dI) vwCl ([(h0, .inr (2, [.int 0, .null, .null, .null, .int 0]))] : va_W) H := hP
  have hD : va_D (va_A [(h0, .inr (2, [.int 0, .null, .null, .null, .int 0]))] s.heap.size) ([(h0, .inr (2, [.int 0, .null, .null, .null, .int 0]))] : va_W) := hD
  refine lv_aload_n hx hb dX2_init_9 rfl (lv_at hl 0 rfl) ?_
  refine lv_iconst (v := 0) hx hb dX2_init_10 (by decide) ?_
  refine lv_iload_n hx hb dX2_init_11 rfl (lv_at hl 1 rfl) ?_
  refine va_mmax hx hb (hml.trans hl.1.symm) hown (hts (.methodLink RX2 15 Lib.Math.max.name) (List.mem_of_getElem? (i := 5) rfl)) (hts (.static Lib.Math.max.name) (List.mem_of_getElem? (i := 6) rfl)) (hts (.initialized "java/lang/Math") (List.mem_of_getElem? (i := 7) rfl)) (hts (.code Lib.Math.max.name Lib.Math.max.code 2 (some .int)) (List.mem_of_getElem? (i := 8) rfl)) (Nat.le_of_ble_eq_true rfl) (Nat.le_of_ble_eq_true rfl) (Nat.le_of_ble_eq_true rfl) (Nat.le_of_ble_eq_true rfl) dX2_init_12 ?_
  refine lv_topi (fun v1 ev1 => ?_)
  obtain rfl : v1 = 6 := ev1.trans (by decide)
  refine va_putF (D := (dC, dI)) (ci := 2) (v := .int 6) (ty := tyX2 0) (C := RX2) (T := TX2) (N := 5) hx hb hts hin2 tyX2 tyX2_ok nmX2 hown hK hP hD hS 0 rfl rfl 0 (by decide) (hts (.fieldLink RX2 21 "TowedBack$Entries" "most" "I") (List.mem_of_getElem? (i := 9) rfl)) (fun _ h9 => h9) rfl hin rfl (tyX2_ok 0 (by decide)) rfl rfl (Nat.le_of_ble_eq_true rfl) dX2_init_15 (fun H locs hP hD hS => ?_)
  have hP : va_P (dC, dI) vwCl ([(h0, .inr (2, [.int 6, .null, .null, .null, .int 0]))] : va_W) H := hP
  have hD : va_D (va_A [(h0, .inr (2, [.int 0, .null, .null, .null, .int 0]))] s.heap.size) ([(h0, .inr (2, [.int 6, .null, .null, .null, .int 0]))] : va_W) := hD
  refine lv_aload_n hx hb dX2_init_18 rfl (lv_at hl 0 rfl) ?_
  refine lv_aload_n hx hb dX2_init_19 rfl (lv_at hl 0 rfl) ?_
  refine va_get (D := (dC, dI)) (ci := 2) (v := .int 6) (C := RX2) (T := TX2) (N := 5) hx hb hts hin2 hown hK hP 0 rfl rfl 0 (by decide) (hts (.fieldLink RX2 21 "TowedBack$Entries" "most" "I") (List.mem_of_getElem? (i := 9) rfl)) (fun _ h9 => h9) rfl dX2_init_20 ?_
  refine k_newI hx hb (hts (.arrayClass .int) (List.mem_of_getElem? (i := 10) rfl)) hK hP hD hS hA 6 (by decide) (by decide) (by decide) (Nat.le_of_ble_eq_true rfl) (Nat.le_of_ble_eq_true rfl) dX2_init_23 (fun q2 H hP hD hS => ?_)
  have hP : va_P (dC, dI) vwCl ([(h0, .inr (2, [.int 6, .null, .null, .null, .int 0])), (q2, .inl (cI, 6, .inl (fun _ => 0)))] : va_W) H := hP
  have hD : va_D (va_A [(h0, .inr (2, [.int 0, .null, .null, .null, .int 0]))] s.heap.size) ([(h0, .inr (2, [.int 6, .null, .null, .null, .int 0])), (q2, .inl (cI, 6, .inl (fun _ => 0)))] : va_W) := hD
  refine va_putF (D := (dC, dI)) (ci := 2) (v := .ref q2) (ty := tyX2 1) (C := RX2) (T := TX2) (N := 5) hx hb hts hin2 tyX2 tyX2_ok nmX2 hown hK hP hD hS 0 rfl rfl 1 (by decide) (hts (.fieldLink RX2 24 "TowedBack$Entries" "boats" "[I") (List.mem_of_getElem? (i := 11) rfl)) (fun _ h9 => h9) rfl hin rfl (tyX2_ok 1 (by decide)) rfl rfl (Nat.le_of_ble_eq_true rfl) dX2_init_25 (fun H locs hP hD hS => ?_)
  have hP : va_P (dC, dI) vwCl ([(h0, .inr (2, [.int 6, .ref q2, .null, .null, .int 0])), (q2, .inl (cI, 6, .inl (fun _ => 0)))] : va_W) H := hP
  have hD : va_D (va_A [(h0, .inr (2, [.int 0, .null, .null, .null, .int 0]))] s.heap.size) ([(h0, .inr (2, [.int 6, .ref q2, .null, .null, .int 0])), (q2, .inl (cI, 6, .inl (fun _ => 0)))] : va_W) := hD
  refine lv_aload_n hx hb dX2_init_28 rfl (lv_at hl 0 rfl) ?_
  refine lv_aload_n hx hb dX2_init_29 rfl (lv_at hl 0 rfl) ?_
  refine va_get (D := (dC, dI)) (ci := 2) (v := .int 6) (C := RX2) (T := TX2) (N := 5) hx hb hts hin2 hown hK hP 0 rfl rfl 0 (by decide) (hts (.fieldLink RX2 21 "TowedBack$Entries" "most" "I") (List.mem_of_getElem? (i := 9) rfl)) (fun _ h9 => h9) rfl dX2_init_30 ?_
  refine k_newI hx hb (hts (.arrayClass .int) (List.mem_of_getElem? (i := 10) rfl)) hK hP hD hS hA 6 (by decide) (by decide) (by decide) (Nat.le_of_ble_eq_true rfl) (Nat.le_of_ble_eq_true rfl) dX2_init_33 (fun q3 H hP hD hS => ?_)
  have hP : va_P (dC, dI) vwCl ([(h0, .inr (2, [.int 6, .ref q2, .null, .null, .int 0])), (q2, .inl (cI, 6, .inl (fun _ => 0))), (q3, .inl (cI, 6, .inl (fun _ => 0)))] : va_W) H := hP
  have hD : va_D (va_A [(h0, .inr (2, [.int 0, .null, .null, .null, .int 0]))] s.heap.size) ([(h0, .inr (2, [.int 6, .ref q2, .null, .null, .int 0])), (q2, .inl (cI, 6, .inl (fun _ => 0))), (q3, .inl (cI, 6, .inl (fun _ => 0)))] : va_W) := hD
  refine va_putF (D := (dC, dI)) (ci := 2) (v := .ref q3) (ty := tyX2 2) (C := RX2) (T := TX2) (N := 5) hx hb hts hin2 tyX2 tyX2_ok nmX2 hown hK hP hD hS 0 rfl rfl 2 (by decide) (hts (.fieldLink RX2 28 "TowedBack$Entries" "steps" "[I") (List.mem_of_getElem? (i := 12) rfl)) (fun _ h9 => h9) rfl hin rfl (tyX2_ok 2 (by decide)) rfl rfl (Nat.le_of_ble_eq_true rfl) dX2_init_35 (fun H locs hP hD hS => ?_)
  have hP : va_P (dC, dI) vwCl ([(h0, .inr (2, [.int 6, .ref q2, .ref q3, .null, .int 0])), (q2, .inl (cI, 6, .inl (fun _ => 0))), (q3, .inl (cI, 6, .inl (fun _ => 0)))] : va_W) H := hP
  have hD : va_D (va_A [(h0, .inr (2, [.int 0, .null, .null, .null, .int 0]))] s.heap.size) ([(h0, .inr (2, [.int 6, .ref q2, .ref q3, .null, .int 0])), (q2, .inl (cI, 6, .inl (fun _ => 0))), (q3, .inl (cI, 6, .inl (fun _ => 0)))] : va_W) := hD
  refine lv_aload_n hx hb dX2_init_38 rfl (lv_at hl 0 rfl) ?_
  refine lv_aload_n hx hb dX2_init_39 rfl (lv_at hl 0 rfl) ?_
  refine va_get (D := (dC, dI)) (ci := 2) (v := .int 6) (C := RX2) (T := TX2) (N := 5) hx hb hts hin2 hown hK hP 0 rfl rfl 0 (by decide) (hts (.fieldLink RX2 21 "TowedBack$Entries" "most" "I") (List.mem_of_getElem? (i := 9) rfl)) (fun _ h9 => h9) rfl dX2_init_40 ?_
  refine k_newI hx hb (hts (.arrayClass .int) (List.mem_of_getElem? (i := 10) rfl)) hK hP hD hS hA 6 (by decide) (by decide) (by decide) (Nat.le_of_ble_eq_true rfl) (Nat.le_of_ble_eq_true rfl) dX2_init_43 (fun q4 H hP hD hS => ?_)
  have hP : va_P (dC, dI) vwCl ([(h0, .inr (2, [.int 6, .ref q2, .ref q3, .null, .int 0])), (q2, .inl (cI, 6, .inl (fun _ => 0))), (q3, .inl (cI, 6, .inl (fun _ => 0))), (q4, .inl (cI, 6, .inl (fun _ => 0)))] : va_W) H := hP
  have hD : va_D (va_A [(h0, .inr (2, [.int 0, .null, .null, .null, .int 0]))] s.heap.size) ([(h0, .inr (2, [.int 6, .ref q2, .ref q3, .null, .int 0])), (q2, .inl (cI, 6, .inl (fun _ => 0))), (q3, .inl (cI, 6, .inl (fun _ => 0))), (q4, .inl (cI, 6, .inl (fun _ => 0)))] : va_W) := hD
  refine va_putF (D := (dC, dI)) (ci := 2) (v := .ref q4) (ty := tyX2 3) (C := RX2) (T := TX2) (N := 5) hx hb hts hin2 tyX2 tyX2_ok nmX2 hown hK hP hD hS 0 rfl rfl 3 (by decide) (hts (.fieldLink RX2 31 "TowedBack$Entries" "junctions" "[I") (List.mem_of_getElem? (i := 13) rfl)) (fun _ h9 => h9) rfl hin rfl (tyX2_ok 3 (by decide)) rfl rfl (Nat.le_of_ble_eq_true rfl) dX2_init_45 (fun H locs hP hD hS => ?_)
  have hP : va_P (dC, dI) vwCl ([(h0, .inr (2, [.int 6, .ref q2, .ref q3, .ref q4, .int 0])), (q2, .inl (cI, 6, .inl (fun _ => 0))), (q3, .inl (cI, 6, .inl (fun _ => 0))), (q4, .inl (cI, 6, .inl (fun _ => 0)))] : va_W) H := hP
  have hD : va_D (va_A [(h0, .inr (2, [.int 0, .null, .null, .null, .int 0]))] s.heap.size) ([(h0, .inr (2, [.int 6, .ref q2, .ref q3, .ref q4, .int 0])), (q2, .inl (cI, 6, .inl (fun _ => 0))), (q3, .inl (cI, 6, .inl (fun _ => 0))), (q4, .inl (cI, 6, .inl (fun _ => 0)))] : va_W) := hD
  have hP9 := hP.sub (ws' := (wd_tEntries cI cZ ((((fun _ => (fun k => match k with | 0 => h0 | 1 => q2 | 2 => q3 | _ => q4)), 0) : (Nat → Nat → Nat) × Nat).1 0) 6 6 (fun _ => 0) (fun _ => 0) (fun _ => 0) 0)) [0, 1, 2, 3] rfl
  have hD9 := hD.sub (ws' := (wd_tEntries cI cZ ((((fun _ => (fun k => match k with | 0 => h0 | 1 => q2 | 2 => q3 | _ => q4)), 0) : (Nat → Nat → Nat) × Nat).1 0) 6 6 (fun _ => 0) (fun _ => 0) (fun _ => 0) 0)) [0, 1, 2, 3] (by decide +kernel) rfl
  refine W.widen (k := 3) (n := 18) (Nat.le_of_ble_eq_true rfl) (Nat.le_of_ble_eq_true rfl) ?_
  exact W.vret hx hb hr (fun t ht hW => ⟨⟨(((fun _ => (fun k => match k with | 0 => h0 | 1 => q2 | 2 => q3 | _ => q4)), 0) : (Nat → Nat → Nat) × Nat), rfl, rfl, by rw [ht]; exact hP9, hD9⟩, hS.F ht⟩) hS.2.2 dX2_init_48
set_option maxHeartbeats 4000000 in
set_option maxRecDepth 100000 in
theorem c_Entries_init15 (l : Launch) (dC : Nat → ClassId) (dI : Nat → Nat → Nat) (cI cZ : ClassId) (h0 : Nat) : MN l yX2_init wsX2_init ({ frames := 1, cells := 3, slots := 45, locals := 21 }) (dC, dI) [(cI, .int), (cZ, .boolean)] (h0, .inr (2, [.int 0, .null, .null, .null, .int 0])) [.int 15] (fun u : (Nat → Nat → Nat) × Nat => (wd_tEntries cI cZ (u.1 0) 15 15 (fun _ => 0) (fun _ => 0) (fun _ => 0) 0)) (fun u : (Nat → Nat → Nat) × Nat => h0 = u.1 0 0) 3 45 := by
  intro sz
  refine Met.ofW (cc := cX2_init) (maxL := 2) (ret := none) (by decide) rfl ?_
  intro p e s m args below meth c s₁ B hml hv
  obtain ⟨rfl, hsz, hP, hK, hD0⟩ := hv
  have hx := B.exec
  have hb := B.bytes
  have hr := B.returns
  have hts := atoms_spec (ws := wsX2_init) B.pre
  have hown : s.vm.findClass RX2 = some m.cls := findClass_of_methodNamed B.named
  have hlocks := B.notSynchronized
  have hin : meth.name = "<init>" := (name_of_methodNamed B.named B.method).1
  subst hsz
  have hD := hD0.self (sz := s.heap.size)
  have hA : ∀ q : Nat, s.heap.size ≤ q → va_A [(h0, .inr (2, [.int 0, .null, .null, .null, .int 0]))] s.heap.size q := fun q h => Or.inr h
  have hS : va_S (va_A [(h0, .inr (2, [.int 0, .null, .null, .null, .int 0]))] s.heap.size) s.heap s.heap [] := va_S.rf
  have hP : va_P (dC, dI) vwCl ([(h0, .inr (2, [.int 0, .null, .null, .null, .int 0]))] : va_W) s.heap := hP
  have hin2 : ∀ w ∈ u_ws RX2 TX2 5, w ∈ wsX2_init := fun w h => List.mem_cons_of_mem _ (List.mem_append_right _ h)
  have hl := lv_entry ([.ref h0, .int 15]) (n := 2) (Nat.le_of_ble_eq_true rfl)
  rw [lg_entry_eq]
  generalize (lg_sl ([.ref h0, .int 15]) ++ List.replicate (2 - (lg_sl ([.ref h0, .int 15])).length) Slot.unset).toArray = ls at hl ⊢
  have hl : lv_has ls 2 [(0, .ref h0), (1, .int 15)] := hl
  refine lv_aload_n hx hb dX2_init_0 rfl (lv_at hl 0 rfl) ?_
  refine W.objInit hx hb hown (hts (.methodLink RX2 3 objectInit) (List.mem_of_getElem? (i := 1) rfl)) (hts (.instanceMethod objectInit) (List.mem_of_getElem? (i := 2) rfl)) (hts (.code objectInit ⟨#[0xb1]⟩ 1 none) (List.mem_of_getElem? (i := 3) rfl)) rfl (by rw [hml]; exact hl.1) rfl dX2_init_1 (Nat.le_of_ble_eq_true rfl) (Nat.le_of_ble_eq_true rfl) ?_
  refine W.eq (g2 := F0 m 4 ls []) rfl ?_
  refine lv_aload_n hx hb dX2_init_4 rfl (lv_at hl 0 rfl) ?_
  refine lv_iconst (v := 0) hx hb dX2_init_5 (by decide) ?_
  refine va_put (D := (dC, dI)) (ci := 2) (v := .int 0) (ty := tyX2 4) (C := RX2) (T := TX2) (N := 5) hx hb hts hin2 tyX2 tyX2_ok nmX2 hown hK hP hD hS 0 rfl rfl 4 (by decide) (hts (.fieldLink RX2 9 "TowedBack$Entries" "count" "I") (List.mem_of_getElem? (i := 4) rfl)) (fun _ h9 => h9) rfl (tyX2_ok 4 (by decide)) rfl rfl (Nat.le_of_ble_eq_true rfl) dX2_init_6 (fun H locs hP hD hS => ?_)
  have hP : va_P (dC, dI) vwCl ([(h0, .inr (2, [.int 0, .null, .null, .null, .int 0]))] : va_W) H := hP
  have hD : va_D (va_A [(h0, .inr (2, [.int 0, .null, .null, .null, .int 0]))] s.heap.size) ([(h0, .inr (2, [.int 0, .null, .null, .null, .int 0]))] : va_W) := hD
  refine lv_aload_n hx hb dX2_init_9 rfl (lv_at hl 0 rfl) ?_
  refine lv_iconst (v := 0) hx hb dX2_init_10 (by decide) ?_
  refine lv_iload_n hx hb dX2_init_11 rfl (lv_at hl 1 rfl) ?_
  refine va_mmax hx hb (hml.trans hl.1.symm) hown (hts (.methodLink RX2 15 Lib.Math.max.name) (List.mem_of_getElem? (i := 5) rfl)) (hts (.static Lib.Math.max.name) (List.mem_of_getElem? (i := 6) rfl)) (hts (.initialized "java/lang/Math") (List.mem_of_getElem? (i := 7) rfl)) (hts (.code Lib.Math.max.name Lib.Math.max.code 2 (some .int)) (List.mem_of_getElem? (i := 8) rfl)) (Nat.le_of_ble_eq_true rfl) (Nat.le_of_ble_eq_true rfl) (Nat.le_of_ble_eq_true rfl) (Nat.le_of_ble_eq_true rfl) dX2_init_12 ?_
  refine lv_topi (fun v1 ev1 => ?_)
  obtain rfl : v1 = 15 := ev1.trans (by decide)
  refine va_putF (D := (dC, dI)) (ci := 2) (v := .int 15) (ty := tyX2 0) (C := RX2) (T := TX2) (N := 5) hx hb hts hin2 tyX2 tyX2_ok nmX2 hown hK hP hD hS 0 rfl rfl 0 (by decide) (hts (.fieldLink RX2 21 "TowedBack$Entries" "most" "I") (List.mem_of_getElem? (i := 9) rfl)) (fun _ h9 => h9) rfl hin rfl (tyX2_ok 0 (by decide)) rfl rfl (Nat.le_of_ble_eq_true rfl) dX2_init_15 (fun H locs hP hD hS => ?_)
  have hP : va_P (dC, dI) vwCl ([(h0, .inr (2, [.int 15, .null, .null, .null, .int 0]))] : va_W) H := hP
  have hD : va_D (va_A [(h0, .inr (2, [.int 0, .null, .null, .null, .int 0]))] s.heap.size) ([(h0, .inr (2, [.int 15, .null, .null, .null, .int 0]))] : va_W) := hD
  refine lv_aload_n hx hb dX2_init_18 rfl (lv_at hl 0 rfl) ?_
  refine lv_aload_n hx hb dX2_init_19 rfl (lv_at hl 0 rfl) ?_
  refine va_get (D := (dC, dI)) (ci := 2) (v := .int 15) (C := RX2) (T := TX2) (N := 5) hx hb hts hin2 hown hK hP 0 rfl rfl 0 (by decide) (hts (.fieldLink RX2 21 "TowedBack$Entries" "most" "I") (List.mem_of_getElem? (i := 9) rfl)) (fun _ h9 => h9) rfl dX2_init_20 ?_
  refine k_newI hx hb (hts (.arrayClass .int) (List.mem_of_getElem? (i := 10) rfl)) hK hP hD hS hA 15 (by decide) (by decide) (by decide) (Nat.le_of_ble_eq_true rfl) (Nat.le_of_ble_eq_true rfl) dX2_init_23 (fun q2 H hP hD hS => ?_)
  have hP : va_P (dC, dI) vwCl ([(h0, .inr (2, [.int 15, .null, .null, .null, .int 0])), (q2, .inl (cI, 15, .inl (fun _ => 0)))] : va_W) H := hP
  have hD : va_D (va_A [(h0, .inr (2, [.int 0, .null, .null, .null, .int 0]))] s.heap.size) ([(h0, .inr (2, [.int 15, .null, .null, .null, .int 0])), (q2, .inl (cI, 15, .inl (fun _ => 0)))] : va_W) := hD
  refine va_putF (D := (dC, dI)) (ci := 2) (v := .ref q2) (ty := tyX2 1) (C := RX2) (T := TX2) (N := 5) hx hb hts hin2 tyX2 tyX2_ok nmX2 hown hK hP hD hS 0 rfl rfl 1 (by decide) (hts (.fieldLink RX2 24 "TowedBack$Entries" "boats" "[I") (List.mem_of_getElem? (i := 11) rfl)) (fun _ h9 => h9) rfl hin rfl (tyX2_ok 1 (by decide)) rfl rfl (Nat.le_of_ble_eq_true rfl) dX2_init_25 (fun H locs hP hD hS => ?_)
  have hP : va_P (dC, dI) vwCl ([(h0, .inr (2, [.int 15, .ref q2, .null, .null, .int 0])), (q2, .inl (cI, 15, .inl (fun _ => 0)))] : va_W) H := hP
  have hD : va_D (va_A [(h0, .inr (2, [.int 0, .null, .null, .null, .int 0]))] s.heap.size) ([(h0, .inr (2, [.int 15, .ref q2, .null, .null, .int 0])), (q2, .inl (cI, 15, .inl (fun _ => 0)))] : va_W) := hD
  refine lv_aload_n hx hb dX2_init_28 rfl (lv_at hl 0 rfl) ?_
  refine lv_aload_n hx hb dX2_init_29 rfl (lv_at hl 0 rfl) ?_
  refine va_get (D := (dC, dI)) (ci := 2) (v := .int 15) (C := RX2) (T := TX2) (N := 5) hx hb hts hin2 hown hK hP 0 rfl rfl 0 (by decide) (hts (.fieldLink RX2 21 "TowedBack$Entries" "most" "I") (List.mem_of_getElem? (i := 9) rfl)) (fun _ h9 => h9) rfl dX2_init_30 ?_
  refine k_newI hx hb (hts (.arrayClass .int) (List.mem_of_getElem? (i := 10) rfl)) hK hP hD hS hA 15 (by decide) (by decide) (by decide) (Nat.le_of_ble_eq_true rfl) (Nat.le_of_ble_eq_true rfl) dX2_init_33 (fun q3 H hP hD hS => ?_)
  have hP : va_P (dC, dI) vwCl ([(h0, .inr (2, [.int 15, .ref q2, .null, .null, .int 0])), (q2, .inl (cI, 15, .inl (fun _ => 0))), (q3, .inl (cI, 15, .inl (fun _ => 0)))] : va_W) H := hP
  have hD : va_D (va_A [(h0, .inr (2, [.int 0, .null, .null, .null, .int 0]))] s.heap.size) ([(h0, .inr (2, [.int 15, .ref q2, .null, .null, .int 0])), (q2, .inl (cI, 15, .inl (fun _ => 0))), (q3, .inl (cI, 15, .inl (fun _ => 0)))] : va_W) := hD
  refine va_putF (D := (dC, dI)) (ci := 2) (v := .ref q3) (ty := tyX2 2) (C := RX2) (T := TX2) (N := 5) hx hb hts hin2 tyX2 tyX2_ok nmX2 hown hK hP hD hS 0 rfl rfl 2 (by decide) (hts (.fieldLink RX2 28 "TowedBack$Entries" "steps" "[I") (List.mem_of_getElem? (i := 12) rfl)) (fun _ h9 => h9) rfl hin rfl (tyX2_ok 2 (by decide)) rfl rfl (Nat.le_of_ble_eq_true rfl) dX2_init_35 (fun H locs hP hD hS => ?_)
  have hP : va_P (dC, dI) vwCl ([(h0, .inr (2, [.int 15, .ref q2, .ref q3, .null, .int 0])), (q2, .inl (cI, 15, .inl (fun _ => 0))), (q3, .inl (cI, 15, .inl (fun _ => 0)))] : va_W) H := hP
  have hD : va_D (va_A [(h0, .inr (2, [.int 0, .null, .null, .null, .int 0]))] s.heap.size) ([(h0, .inr (2, [.int 15, .ref q2, .ref q3, .null, .int 0])), (q2, .inl (cI, 15, .inl (fun _ => 0))), (q3, .inl (cI, 15, .inl (fun _ => 0)))] : va_W) := hD
  refine lv_aload_n hx hb dX2_init_38 rfl (lv_at hl 0 rfl) ?_
  refine lv_aload_n hx hb dX2_init_39 rfl (lv_at hl 0 rfl) ?_
  refine va_get (D := (dC, dI)) (ci := 2) (v := .int 15) (C := RX2) (T := TX2) (N := 5) hx hb hts hin2 hown hK hP 0 rfl rfl 0 (by decide) (hts (.fieldLink RX2 21 "TowedBack$Entries" "most" "I") (List.mem_of_getElem? (i := 9) rfl)) (fun _ h9 => h9) rfl dX2_init_40 ?_
  refine k_newI hx hb (hts (.arrayClass .int) (List.mem_of_getElem? (i := 10) rfl)) hK hP hD hS hA 15 (by decide) (by decide) (by decide) (Nat.le_of_ble_eq_true rfl) (Nat.le_of_ble_eq_true rfl) dX2_init_43 (fun q4 H hP hD hS => ?_)
  have hP : va_P (dC, dI) vwCl ([(h0, .inr (2, [.int 15, .ref q2, .ref q3, .null, .int 0])), (q2, .inl (cI, 15, .inl (fun _ => 0))), (q3, .inl (cI, 15, .inl (fun _ => 0))), (q4, .inl (cI, 15, .inl (fun _ => 0)))] : va_W) H := hP
  have hD : va_D (va_A [(h0, .inr (2, [.int 0, .null, .null, .null, .int 0]))] s.heap.size) ([(h0, .inr (2, [.int 15, .ref q2, .ref q3, .null, .int 0])), (q2, .inl (cI, 15, .inl (fun _ => 0))), (q3, .inl (cI, 15, .inl (fun _ => 0))), (q4, .inl (cI, 15, .inl (fun _ => 0)))] : va_W) := hD
  refine va_putF (D := (dC, dI)) (ci := 2) (v := .ref q4) (ty := tyX2 3) (C := RX2) (T := TX2) (N := 5) hx hb hts hin2 tyX2 tyX2_ok nmX2 hown hK hP hD hS 0 rfl rfl 3 (by decide) (hts (.fieldLink RX2 31 "TowedBack$Entries" "junctions" "[I") (List.mem_of_getElem? (i := 13) rfl)) (fun _ h9 => h9) rfl hin rfl (tyX2_ok 3 (by decide)) rfl rfl (Nat.le_of_ble_eq_true rfl) dX2_init_45 (fun H locs hP hD hS => ?_)
  have hP : va_P (dC, dI) vwCl ([(h0, .inr (2, [.int 15, .ref q2, .ref q3, .ref q4, .int 0])), (q2, .inl (cI, 15, .inl (fun _ => 0))), (q3, .inl (cI, 15, .inl (fun _ => 0))), (q4, .inl (cI, 15, .inl (fun _ => 0)))] : va_W) H := hP
  have hD : va_D (va_A [(h0, .inr (2, [.int 0, .null, .null, .null, .int 0]))] s.heap.size) ([(h0, .inr (2, [.int 15, .ref q2, .ref q3, .ref q4, .int 0])), (q2, .inl (cI, 15, .inl (fun _ => 0))), (q3, .inl (cI, 15, .inl (fun _ => 0))), (q4, .inl (cI, 15, .inl (fun _ => 0)))] : va_W) := hD
  have hP9 := hP.sub (ws' := (wd_tEntries cI cZ ((((fun _ => (fun k => match k with | 0 => h0 | 1 => q2 | 2 => q3 | _ => q4)), 0) : (Nat → Nat → Nat) × Nat).1 0) 15 15 (fun _ => 0) (fun _ => 0) (fun _ => 0) 0)) [0, 1, 2, 3] rfl
  have hD9 := hD.sub (ws' := (wd_tEntries cI cZ ((((fun _ => (fun k => match k with | 0 => h0 | 1 => q2 | 2 => q3 | _ => q4)), 0) : (Nat → Nat → Nat) × Nat).1 0) 15 15 (fun _ => 0) (fun _ => 0) (fun _ => 0) 0)) [0, 1, 2, 3] (by decide +kernel) rfl
  refine W.widen (k := 3) (n := 45) (Nat.le_of_ble_eq_true rfl) (Nat.le_of_ble_eq_true rfl) ?_
  exact W.vret hx hb hr (fun t ht hW => ⟨⟨(((fun _ => (fun k => match k with | 0 => h0 | 1 => q2 | 2 => q3 | _ => q4)), 0) : (Nat → Nat → Nat) × Nat), rfl, rfl, by rw [ht]; exact hP9, hD9⟩, hS.F ht⟩) hS.2.2 dX2_init_48
set_option maxHeartbeats 4000000 in
set_option maxRecDepth 100000 in
theorem c_Exch_init (l : Launch) (dC : Nat → ClassId) (dI : Nat → Nat → Nat) (cI cZ : ClassId) (h0 : Nat) : MN l yX3_init wsX3_init ({ frames := 1, cells := 3, slots := 15, locals := 12 }) (dC, dI) [(cI, .int), (cZ, .boolean)] (h0, .inr (3, [.int 0, .null, .null, .null, .int 0])) [] (fun u : (Nat → Nat → Nat) × Nat => (wd_tExch cI cZ (u.1 0) 0 (fun _ => 0) (fun _ => 0) (fun _ => 0) (-1))) (fun u : (Nat → Nat → Nat) × Nat => h0 = u.1 0 0) 3 15 := by
  intro sz
  refine Met.ofW (cc := cX3_init) (maxL := 1) (ret := none) (by decide) rfl ?_
  intro p e s m args below meth c s₁ B hml hv
  obtain ⟨rfl, hsz, hP, hK, hD0⟩ := hv
  have hx := B.exec
  have hb := B.bytes
  have hr := B.returns
  have hts := atoms_spec (ws := wsX3_init) B.pre
  have hown : s.vm.findClass RX3 = some m.cls := findClass_of_methodNamed B.named
  have hlocks := B.notSynchronized
  have hin : meth.name = "<init>" := (name_of_methodNamed B.named B.method).1
  subst hsz
  have hD := hD0.self (sz := s.heap.size)
  have hA : ∀ q : Nat, s.heap.size ≤ q → va_A [(h0, .inr (3, [.int 0, .null, .null, .null, .int 0]))] s.heap.size q := fun q h => Or.inr h
  have hS : va_S (va_A [(h0, .inr (3, [.int 0, .null, .null, .null, .int 0]))] s.heap.size) s.heap s.heap [] := va_S.rf
  have hP : va_P (dC, dI) vwCl ([(h0, .inr (3, [.int 0, .null, .null, .null, .int 0]))] : va_W) s.heap := hP
  have hin3 : ∀ w ∈ u_ws RX3 TX3 5, w ∈ wsX3_init := fun w h => List.mem_cons_of_mem _ (List.mem_append_right _ h)
  have hl := lv_entry ([.ref h0]) (n := 1) (Nat.le_of_ble_eq_true rfl)
  rw [lg_entry_eq]
  generalize (lg_sl ([.ref h0]) ++ List.replicate (1 - (lg_sl ([.ref h0])).length) Slot.unset).toArray = ls at hl ⊢
  have hl : lv_has ls 1 [(0, .ref h0)] := hl
  refine lv_aload_n hx hb dX3_init_0 rfl (lv_at hl 0 rfl) ?_
  refine W.objInit hx hb hown (hts (.methodLink RX3 3 objectInit) (List.mem_of_getElem? (i := 1) rfl)) (hts (.instanceMethod objectInit) (List.mem_of_getElem? (i := 2) rfl)) (hts (.code objectInit ⟨#[0xb1]⟩ 1 none) (List.mem_of_getElem? (i := 3) rfl)) rfl (by rw [hml]; exact hl.1) rfl dX3_init_1 (Nat.le_of_ble_eq_true rfl) (Nat.le_of_ble_eq_true rfl) ?_
  refine W.eq (g2 := F0 m 4 ls []) rfl ?_
  refine lv_aload_n hx hb dX3_init_4 rfl (lv_at hl 0 rfl) ?_
  refine lv_iconst (v := 0) hx hb dX3_init_5 (by decide) ?_
  refine va_put (D := (dC, dI)) (ci := 3) (v := .int 0) (ty := tyX3 0) (C := RX3) (T := TX3) (N := 5) hx hb hts hin3 tyX3 tyX3_ok nmX3 hown hK hP hD hS 0 rfl rfl 0 (by decide) (hts (.fieldLink RX3 9 "TowedBack$Exchange" "boats" "I") (List.mem_of_getElem? (i := 4) rfl)) (fun _ h9 => h9) rfl (tyX3_ok 0 (by decide)) rfl rfl (Nat.le_of_ble_eq_true rfl) dX3_init_6 (fun H locs hP hD hS => ?_)
  have hP : va_P (dC, dI) vwCl ([(h0, .inr (3, [.int 0, .null, .null, .null, .int 0]))] : va_W) H := hP
  have hD : va_D (va_A [(h0, .inr (3, [.int 0, .null, .null, .null, .int 0]))] s.heap.size) ([(h0, .inr (3, [.int 0, .null, .null, .null, .int 0]))] : va_W) := hD
  refine lv_aload_n hx hb dX3_init_9 rfl (lv_at hl 0 rfl) ?_
  refine lv_iconst (v := 5) hx hb dX3_init_10 (by decide) ?_
  refine k_newI hx hb (hts (.arrayClass .int) (List.mem_of_getElem? (i := 5) rfl)) hK hP hD hS hA 5 (by decide) (by decide) (by decide) (Nat.le_of_ble_eq_true rfl) (Nat.le_of_ble_eq_true rfl) dX3_init_11 (fun q1 H hP hD hS => ?_)
  have hP : va_P (dC, dI) vwCl ([(h0, .inr (3, [.int 0, .null, .null, .null, .int 0])), (q1, .inl (cI, 5, .inl (fun _ => 0)))] : va_W) H := hP
  have hD : va_D (va_A [(h0, .inr (3, [.int 0, .null, .null, .null, .int 0]))] s.heap.size) ([(h0, .inr (3, [.int 0, .null, .null, .null, .int 0])), (q1, .inl (cI, 5, .inl (fun _ => 0)))] : va_W) := hD
  refine va_putF (D := (dC, dI)) (ci := 3) (v := .ref q1) (ty := tyX3 1) (C := RX3) (T := TX3) (N := 5) hx hb hts hin3 tyX3 tyX3_ok nmX3 hown hK hP hD hS 0 rfl rfl 1 (by decide) (hts (.fieldLink RX3 15 "TowedBack$Exchange" "allowed" "[I") (List.mem_of_getElem? (i := 6) rfl)) (fun _ h9 => h9) rfl hin rfl (tyX3_ok 1 (by decide)) rfl rfl (Nat.le_of_ble_eq_true rfl) dX3_init_13 (fun H locs hP hD hS => ?_)
  have hP : va_P (dC, dI) vwCl ([(h0, .inr (3, [.int 0, .ref q1, .null, .null, .int 0])), (q1, .inl (cI, 5, .inl (fun _ => 0)))] : va_W) H := hP
  have hD : va_D (va_A [(h0, .inr (3, [.int 0, .null, .null, .null, .int 0]))] s.heap.size) ([(h0, .inr (3, [.int 0, .ref q1, .null, .null, .int 0])), (q1, .inl (cI, 5, .inl (fun _ => 0)))] : va_W) := hD
  refine lv_aload_n hx hb dX3_init_16 rfl (lv_at hl 0 rfl) ?_
  refine lv_iconst (v := 5) hx hb dX3_init_17 (by decide) ?_
  refine k_newI hx hb (hts (.arrayClass .int) (List.mem_of_getElem? (i := 5) rfl)) hK hP hD hS hA 5 (by decide) (by decide) (by decide) (Nat.le_of_ble_eq_true rfl) (Nat.le_of_ble_eq_true rfl) dX3_init_18 (fun q2 H hP hD hS => ?_)
  have hP : va_P (dC, dI) vwCl ([(h0, .inr (3, [.int 0, .ref q1, .null, .null, .int 0])), (q1, .inl (cI, 5, .inl (fun _ => 0))), (q2, .inl (cI, 5, .inl (fun _ => 0)))] : va_W) H := hP
  have hD : va_D (va_A [(h0, .inr (3, [.int 0, .null, .null, .null, .int 0]))] s.heap.size) ([(h0, .inr (3, [.int 0, .ref q1, .null, .null, .int 0])), (q1, .inl (cI, 5, .inl (fun _ => 0))), (q2, .inl (cI, 5, .inl (fun _ => 0)))] : va_W) := hD
  refine va_putF (D := (dC, dI)) (ci := 3) (v := .ref q2) (ty := tyX3 2) (C := RX3) (T := TX3) (N := 5) hx hb hts hin3 tyX3 tyX3_ok nmX3 hown hK hP hD hS 0 rfl rfl 2 (by decide) (hts (.fieldLink RX3 19 "TowedBack$Exchange" "order" "[I") (List.mem_of_getElem? (i := 7) rfl)) (fun _ h9 => h9) rfl hin rfl (tyX3_ok 2 (by decide)) rfl rfl (Nat.le_of_ble_eq_true rfl) dX3_init_20 (fun H locs hP hD hS => ?_)
  have hP : va_P (dC, dI) vwCl ([(h0, .inr (3, [.int 0, .ref q1, .ref q2, .null, .int 0])), (q1, .inl (cI, 5, .inl (fun _ => 0))), (q2, .inl (cI, 5, .inl (fun _ => 0)))] : va_W) H := hP
  have hD : va_D (va_A [(h0, .inr (3, [.int 0, .null, .null, .null, .int 0]))] s.heap.size) ([(h0, .inr (3, [.int 0, .ref q1, .ref q2, .null, .int 0])), (q1, .inl (cI, 5, .inl (fun _ => 0))), (q2, .inl (cI, 5, .inl (fun _ => 0)))] : va_W) := hD
  refine lv_aload_n hx hb dX3_init_23 rfl (lv_at hl 0 rfl) ?_
  refine lv_iconst (v := 5) hx hb dX3_init_24 (by decide) ?_
  refine k_newI hx hb (hts (.arrayClass .int) (List.mem_of_getElem? (i := 5) rfl)) hK hP hD hS hA 5 (by decide) (by decide) (by decide) (Nat.le_of_ble_eq_true rfl) (Nat.le_of_ble_eq_true rfl) dX3_init_25 (fun q3 H hP hD hS => ?_)
  have hP : va_P (dC, dI) vwCl ([(h0, .inr (3, [.int 0, .ref q1, .ref q2, .null, .int 0])), (q1, .inl (cI, 5, .inl (fun _ => 0))), (q2, .inl (cI, 5, .inl (fun _ => 0))), (q3, .inl (cI, 5, .inl (fun _ => 0)))] : va_W) H := hP
  have hD : va_D (va_A [(h0, .inr (3, [.int 0, .null, .null, .null, .int 0]))] s.heap.size) ([(h0, .inr (3, [.int 0, .ref q1, .ref q2, .null, .int 0])), (q1, .inl (cI, 5, .inl (fun _ => 0))), (q2, .inl (cI, 5, .inl (fun _ => 0))), (q3, .inl (cI, 5, .inl (fun _ => 0)))] : va_W) := hD
  refine va_putF (D := (dC, dI)) (ci := 3) (v := .ref q3) (ty := tyX3 3) (C := RX3) (T := TX3) (N := 5) hx hb hts hin3 tyX3 tyX3_ok nmX3 hown hK hP hD hS 0 rfl rfl 3 (by decide) (hts (.fieldLink RX3 22 "TowedBack$Exchange" "best" "[I") (List.mem_of_getElem? (i := 8) rfl)) (fun _ h9 => h9) rfl hin rfl (tyX3_ok 3 (by decide)) rfl rfl (Nat.le_of_ble_eq_true rfl) dX3_init_27 (fun H locs hP hD hS => ?_)
  have hP : va_P (dC, dI) vwCl ([(h0, .inr (3, [.int 0, .ref q1, .ref q2, .ref q3, .int 0])), (q1, .inl (cI, 5, .inl (fun _ => 0))), (q2, .inl (cI, 5, .inl (fun _ => 0))), (q3, .inl (cI, 5, .inl (fun _ => 0)))] : va_W) H := hP
  have hD : va_D (va_A [(h0, .inr (3, [.int 0, .null, .null, .null, .int 0]))] s.heap.size) ([(h0, .inr (3, [.int 0, .ref q1, .ref q2, .ref q3, .int 0])), (q1, .inl (cI, 5, .inl (fun _ => 0))), (q2, .inl (cI, 5, .inl (fun _ => 0))), (q3, .inl (cI, 5, .inl (fun _ => 0)))] : va_W) := hD
  refine lv_aload_n hx hb dX3_init_30 rfl (lv_at hl 0 rfl) ?_
  refine lv_iconst (v := (-1)) hx hb dX3_init_31 (by decide) ?_
  refine va_put (D := (dC, dI)) (ci := 3) (v := .int (-1)) (ty := tyX3 4) (C := RX3) (T := TX3) (N := 5) hx hb hts hin3 tyX3 tyX3_ok nmX3 hown hK hP hD hS 0 rfl rfl 4 (by decide) (hts (.fieldLink RX3 25 "TowedBack$Exchange" "fewest" "I") (List.mem_of_getElem? (i := 9) rfl)) (fun _ h9 => h9) rfl (tyX3_ok 4 (by decide)) rfl rfl (Nat.le_of_ble_eq_true rfl) dX3_init_32 (fun H locs hP hD hS => ?_)
  have hP : va_P (dC, dI) vwCl ([(h0, .inr (3, [.int 0, .ref q1, .ref q2, .ref q3, .int (-1)])), (q1, .inl (cI, 5, .inl (fun _ => 0))), (q2, .inl (cI, 5, .inl (fun _ => 0))), (q3, .inl (cI, 5, .inl (fun _ => 0)))] : va_W) H := hP
  have hD : va_D (va_A [(h0, .inr (3, [.int 0, .null, .null, .null, .int 0]))] s.heap.size) ([(h0, .inr (3, [.int 0, .ref q1, .ref q2, .ref q3, .int (-1)])), (q1, .inl (cI, 5, .inl (fun _ => 0))), (q2, .inl (cI, 5, .inl (fun _ => 0))), (q3, .inl (cI, 5, .inl (fun _ => 0)))] : va_W) := hD
  have hP9 := hP.sub (ws' := (wd_tExch cI cZ ((((fun _ => (fun k => match k with | 0 => h0 | 1 => q1 | 2 => q2 | _ => q3)), 0) : (Nat → Nat → Nat) × Nat).1 0) 0 (fun _ => 0) (fun _ => 0) (fun _ => 0) (-1))) [0, 1, 2, 3] rfl
  have hD9 := hD.sub (ws' := (wd_tExch cI cZ ((((fun _ => (fun k => match k with | 0 => h0 | 1 => q1 | 2 => q2 | _ => q3)), 0) : (Nat → Nat → Nat) × Nat).1 0) 0 (fun _ => 0) (fun _ => 0) (fun _ => 0) (-1))) [0, 1, 2, 3] (by decide +kernel) rfl
  refine W.widen (k := 3) (n := 15) (Nat.le_of_ble_eq_true rfl) (Nat.le_of_ble_eq_true rfl) ?_
  exact W.vret hx hb hr (fun t ht hW => ⟨⟨(((fun _ => (fun k => match k with | 0 => h0 | 1 => q1 | 2 => q2 | _ => q3)), 0) : (Nat → Nat → Nat) × Nat), rfl, rfl, by rw [ht]; exact hP9, hD9⟩, hS.F ht⟩) hS.2.2 dX3_init_35
set_option maxHeartbeats 4000000 in
set_option maxRecDepth 100000 in
theorem c_Fleet_init (l : Launch) (dC : Nat → ClassId) (dI : Nat → Nat → Nat) (cI cZ : ClassId) (h0 : Nat) : MN l yX4_init wsX4_init ({ frames := 1, cells := 1, slots := 21, locals := 12 }) (dC, dI) [(cI, .int), (cZ, .boolean)] (h0, .inr (4, [.null])) [] (fun u : (Nat → Nat → Nat) × Nat => (wd_tFleet cI cZ (u.1 0) (fun _ => 0))) (fun u : (Nat → Nat → Nat) × Nat => h0 = u.1 0 0) 1 21 := by
  intro sz
  refine Met.ofW (cc := cX4_init) (maxL := 1) (ret := none) (by decide) rfl ?_
  intro p e s m args below meth c s₁ B hml hv
  obtain ⟨rfl, hsz, hP, hK, hD0⟩ := hv
  have hx := B.exec
  have hb := B.bytes
  have hr := B.returns
  have hts := atoms_spec (ws := wsX4_init) B.pre
  have hown : s.vm.findClass RX4 = some m.cls := findClass_of_methodNamed B.named
  have hlocks := B.notSynchronized
  have hin : meth.name = "<init>" := (name_of_methodNamed B.named B.method).1
  subst hsz
  have hD := hD0.self (sz := s.heap.size)
  have hA : ∀ q : Nat, s.heap.size ≤ q → va_A [(h0, .inr (4, [.null]))] s.heap.size q := fun q h => Or.inr h
  have hS : va_S (va_A [(h0, .inr (4, [.null]))] s.heap.size) s.heap s.heap [] := va_S.rf
  have hP : va_P (dC, dI) vwCl ([(h0, .inr (4, [.null]))] : va_W) s.heap := hP
  have hin4 : ∀ w ∈ u_ws RX4 TX4 1, w ∈ wsX4_init := fun w h => List.mem_cons_of_mem _ (List.mem_append_right _ h)
  have hl := lv_entry ([.ref h0]) (n := 1) (Nat.le_of_ble_eq_true rfl)
  rw [lg_entry_eq]
  generalize (lg_sl ([.ref h0]) ++ List.replicate (1 - (lg_sl ([.ref h0])).length) Slot.unset).toArray = ls at hl ⊢
  have hl : lv_has ls 1 [(0, .ref h0)] := hl
  refine lv_aload_n hx hb dX4_init_0 rfl (lv_at hl 0 rfl) ?_
  refine W.objInit hx hb hown (hts (.methodLink RX4 5 objectInit) (List.mem_of_getElem? (i := 1) rfl)) (hts (.instanceMethod objectInit) (List.mem_of_getElem? (i := 2) rfl)) (hts (.code objectInit ⟨#[0xb1]⟩ 1 none) (List.mem_of_getElem? (i := 3) rfl)) rfl (by rw [hml]; exact hl.1) rfl dX4_init_1 (Nat.le_of_ble_eq_true rfl) (Nat.le_of_ble_eq_true rfl) ?_
  refine W.eq (g2 := F0 m 4 ls []) rfl ?_
  refine lv_aload_n hx hb dX4_init_4 rfl (lv_at hl 0 rfl) ?_
  refine lv_bipush (v := 21) hx hb dX4_init_5 (by decide) ?_
  refine k_newI hx hb (hts (.arrayClass .int) (List.mem_of_getElem? (i := 4) rfl)) hK hP hD hS hA 21 (by decide) (by decide) (by decide) (Nat.le_of_ble_eq_true rfl) (Nat.le_of_ble_eq_true rfl) dX4_init_7 (fun q1 H hP hD hS => ?_)
  have hP : va_P (dC, dI) vwCl ([(h0, .inr (4, [.null])), (q1, .inl (cI, 21, .inl (fun _ => 0)))] : va_W) H := hP
  have hD : va_D (va_A [(h0, .inr (4, [.null]))] s.heap.size) ([(h0, .inr (4, [.null])), (q1, .inl (cI, 21, .inl (fun _ => 0)))] : va_W) := hD
  refine va_putF (D := (dC, dI)) (ci := 4) (v := .ref q1) (ty := tyX4 0) (C := RX4) (T := TX4) (N := 1) hx hb hts hin4 tyX4 tyX4_ok nmX4 hown hK hP hD hS 0 rfl rfl 0 (by decide) (hts (.fieldLink RX4 11 "TowedBack$Fleet" "row" "[I") (List.mem_of_getElem? (i := 5) rfl)) (fun _ h9 => h9) rfl hin rfl (tyX4_ok 0 (by decide)) rfl rfl (Nat.le_of_ble_eq_true rfl) dX4_init_9 (fun H locs hP hD hS => ?_)
  have hP : va_P (dC, dI) vwCl ([(h0, .inr (4, [.ref q1])), (q1, .inl (cI, 21, .inl (fun _ => 0)))] : va_W) H := hP
  have hD : va_D (va_A [(h0, .inr (4, [.null]))] s.heap.size) ([(h0, .inr (4, [.ref q1])), (q1, .inl (cI, 21, .inl (fun _ => 0)))] : va_W) := hD
  have hP9 := hP.sub (ws' := (wd_tFleet cI cZ ((((fun _ => (fun k => match k with | 0 => h0 | _ => q1)), 0) : (Nat → Nat → Nat) × Nat).1 0) (fun _ => 0))) [0, 1] rfl
  have hD9 := hD.sub (ws' := (wd_tFleet cI cZ ((((fun _ => (fun k => match k with | 0 => h0 | _ => q1)), 0) : (Nat → Nat → Nat) × Nat).1 0) (fun _ => 0))) [0, 1] (by decide +kernel) rfl
  refine W.widen (k := 1) (n := 21) (Nat.le_of_ble_eq_true rfl) (Nat.le_of_ble_eq_true rfl) ?_
  exact W.vret hx hb hr (fun t ht hW => ⟨⟨(((fun _ => (fun k => match k with | 0 => h0 | _ => q1)), 0) : (Nat → Nat → Nat) × Nat), rfl, rfl, by rw [ht]; exact hP9, hD9⟩, hS.F ht⟩) hS.2.2 dX4_init_12
set_option maxHeartbeats 4000000 in
set_option maxRecDepth 100000 in
theorem c_Shelf_init20 (l : Launch) (dC : Nat → ClassId) (dI : Nat → Nat → Nat) (cI cZ : ClassId) (h0 : Nat) : MN l yX8_init wsX8_init ({ frames := 1, cells := 1, slots := 420, locals := 21 }) (dC, dI) [(cI, .int), (cZ, .boolean)] (h0, .inr (8, [.int 0, .null])) [.int 20] (fun u : (Nat → Nat → Nat) × Nat => (wd_tShelf cI cZ (u.1 0) 420 20 (fun _ => 0))) (fun u : (Nat → Nat → Nat) × Nat => h0 = u.1 0 0) 1 420 := by
  intro sz
  refine Met.ofW (cc := cX8_init) (maxL := 2) (ret := none) (by decide) rfl ?_
  intro p e s m args below meth c s₁ B hml hv
  obtain ⟨rfl, hsz, hP, hK, hD0⟩ := hv
  have hx := B.exec
  have hb := B.bytes
  have hr := B.returns
  have hts := atoms_spec (ws := wsX8_init) B.pre
  have hown : s.vm.findClass RX8 = some m.cls := findClass_of_methodNamed B.named
  have hlocks := B.notSynchronized
  have hin : meth.name = "<init>" := (name_of_methodNamed B.named B.method).1
  subst hsz
  have hD := hD0.self (sz := s.heap.size)
  have hA : ∀ q : Nat, s.heap.size ≤ q → va_A [(h0, .inr (8, [.int 0, .null]))] s.heap.size q := fun q h => Or.inr h
  have hS : va_S (va_A [(h0, .inr (8, [.int 0, .null]))] s.heap.size) s.heap s.heap [] := va_S.rf
  have hP : va_P (dC, dI) vwCl ([(h0, .inr (8, [.int 0, .null]))] : va_W) s.heap := hP
  have hin8 : ∀ w ∈ u_ws RX8 TX8 2, w ∈ wsX8_init := fun w h => List.mem_cons_of_mem _ (List.mem_append_right _ h)
  have hl := lv_entry ([.ref h0, .int 20]) (n := 2) (Nat.le_of_ble_eq_true rfl)
  rw [lg_entry_eq]
  generalize (lg_sl ([.ref h0, .int 20]) ++ List.replicate (2 - (lg_sl ([.ref h0, .int 20])).length) Slot.unset).toArray = ls at hl ⊢
  have hl : lv_has ls 2 [(0, .ref h0), (1, .int 20)] := hl
  refine lv_aload_n hx hb dX8_init_0 rfl (lv_at hl 0 rfl) ?_
  refine W.objInit hx hb hown (hts (.methodLink RX8 1 objectInit) (List.mem_of_getElem? (i := 1) rfl)) (hts (.instanceMethod objectInit) (List.mem_of_getElem? (i := 2) rfl)) (hts (.code objectInit ⟨#[0xb1]⟩ 1 none) (List.mem_of_getElem? (i := 3) rfl)) rfl (by rw [hml]; exact hl.1) rfl dX8_init_1 (Nat.le_of_ble_eq_true rfl) (Nat.le_of_ble_eq_true rfl) ?_
  refine W.eq (g2 := F0 m 4 ls []) rfl ?_
  refine lv_aload_n hx hb dX8_init_4 rfl (lv_at hl 0 rfl) ?_
  refine lv_iconst (v := 0) hx hb dX8_init_5 (by decide) ?_
  refine lv_iload_n hx hb dX8_init_6 rfl (lv_at hl 1 rfl) ?_
  refine va_mmax hx hb (hml.trans hl.1.symm) hown (hts (.methodLink RX8 7 Lib.Math.max.name) (List.mem_of_getElem? (i := 4) rfl)) (hts (.static Lib.Math.max.name) (List.mem_of_getElem? (i := 5) rfl)) (hts (.initialized "java/lang/Math") (List.mem_of_getElem? (i := 6) rfl)) (hts (.code Lib.Math.max.name Lib.Math.max.code 2 (some .int)) (List.mem_of_getElem? (i := 7) rfl)) (Nat.le_of_ble_eq_true rfl) (Nat.le_of_ble_eq_true rfl) (Nat.le_of_ble_eq_true rfl) (Nat.le_of_ble_eq_true rfl) dX8_init_7 ?_
  refine lv_topi (fun v1 ev1 => ?_)
  obtain rfl : v1 = 20 := ev1.trans (by decide)
  refine va_putF (D := (dC, dI)) (ci := 8) (v := .int 20) (ty := tyX8 0) (C := RX8) (T := TX8) (N := 2) hx hb hts hin8 tyX8 tyX8_ok nmX8 hown hK hP hD hS 0 rfl rfl 0 (by decide) (hts (.fieldLink RX8 13 "TowedBack$Shelf" "slots" "I") (List.mem_of_getElem? (i := 8) rfl)) (fun _ h9 => h9) rfl hin rfl (tyX8_ok 0 (by decide)) rfl rfl (Nat.le_of_ble_eq_true rfl) dX8_init_10 (fun H locs hP hD hS => ?_)
  have hP : va_P (dC, dI) vwCl ([(h0, .inr (8, [.int 20, .null]))] : va_W) H := hP
  have hD : va_D (va_A [(h0, .inr (8, [.int 0, .null]))] s.heap.size) ([(h0, .inr (8, [.int 20, .null]))] : va_W) := hD
  refine lv_aload_n hx hb dX8_init_13 rfl (lv_at hl 0 rfl) ?_
  refine lv_aload_n hx hb dX8_init_14 rfl (lv_at hl 0 rfl) ?_
  refine va_get (D := (dC, dI)) (ci := 8) (v := .int 20) (C := RX8) (T := TX8) (N := 2) hx hb hts hin8 hown hK hP 0 rfl rfl 0 (by decide) (hts (.fieldLink RX8 13 "TowedBack$Shelf" "slots" "I") (List.mem_of_getElem? (i := 8) rfl)) (fun _ h9 => h9) rfl dX8_init_15 ?_
  refine lv_bipush (v := 21) hx hb dX8_init_18 (by decide) ?_
  refine lv_imul hx hb dX8_init_20 ?_
  refine lv_topi (fun v2 ev2 => ?_)
  obtain rfl : v2 = 420 := ev2.trans (by decide)
  refine k_newI hx hb (hts (.arrayClass .int) (List.mem_of_getElem? (i := 9) rfl)) hK hP hD hS hA 420 (by decide) (by decide) (by decide) (Nat.le_of_ble_eq_true rfl) (Nat.le_of_ble_eq_true rfl) dX8_init_21 (fun q3 H hP hD hS => ?_)
  have hP : va_P (dC, dI) vwCl ([(h0, .inr (8, [.int 20, .null])), (q3, .inl (cI, 420, .inl (fun _ => 0)))] : va_W) H := hP
  have hD : va_D (va_A [(h0, .inr (8, [.int 0, .null]))] s.heap.size) ([(h0, .inr (8, [.int 20, .null])), (q3, .inl (cI, 420, .inl (fun _ => 0)))] : va_W) := hD
  refine va_putF (D := (dC, dI)) (ci := 8) (v := .ref q3) (ty := tyX8 1) (C := RX8) (T := TX8) (N := 2) hx hb hts hin8 tyX8 tyX8_ok nmX8 hown hK hP hD hS 0 rfl rfl 1 (by decide) (hts (.fieldLink RX8 21 "TowedBack$Shelf" "rows" "[I") (List.mem_of_getElem? (i := 10) rfl)) (fun _ h9 => h9) rfl hin rfl (tyX8_ok 1 (by decide)) rfl rfl (Nat.le_of_ble_eq_true rfl) dX8_init_23 (fun H locs hP hD hS => ?_)
  have hP : va_P (dC, dI) vwCl ([(h0, .inr (8, [.int 20, .ref q3])), (q3, .inl (cI, 420, .inl (fun _ => 0)))] : va_W) H := hP
  have hD : va_D (va_A [(h0, .inr (8, [.int 0, .null]))] s.heap.size) ([(h0, .inr (8, [.int 20, .ref q3])), (q3, .inl (cI, 420, .inl (fun _ => 0)))] : va_W) := hD
  have hP9 := hP.sub (ws' := (wd_tShelf cI cZ ((((fun _ => (fun k => match k with | 0 => h0 | _ => q3)), 0) : (Nat → Nat → Nat) × Nat).1 0) 420 20 (fun _ => 0))) [0, 1] rfl
  have hD9 := hD.sub (ws' := (wd_tShelf cI cZ ((((fun _ => (fun k => match k with | 0 => h0 | _ => q3)), 0) : (Nat → Nat → Nat) × Nat).1 0) 420 20 (fun _ => 0))) [0, 1] (by decide +kernel) rfl
  refine W.widen (k := 1) (n := 420) (Nat.le_of_ble_eq_true rfl) (Nat.le_of_ble_eq_true rfl) ?_
  exact W.vret hx hb hr (fun t ht hW => ⟨⟨(((fun _ => (fun k => match k with | 0 => h0 | _ => q3)), 0) : (Nat → Nat → Nat) × Nat), rfl, rfl, by rw [ht]; exact hP9, hD9⟩, hS.F ht⟩) hS.2.2 dX8_init_26
set_option maxHeartbeats 4000000 in
set_option maxRecDepth 100000 in
theorem c_Shelf_init2 (l : Launch) (dC : Nat → ClassId) (dI : Nat → Nat → Nat) (cI cZ : ClassId) (h0 : Nat) : MN l yX8_init wsX8_init ({ frames := 1, cells := 1, slots := 42, locals := 21 }) (dC, dI) [(cI, .int), (cZ, .boolean)] (h0, .inr (8, [.int 0, .null])) [.int 2] (fun u : (Nat → Nat → Nat) × Nat => (wd_tShelf cI cZ (u.1 0) 42 2 (fun _ => 0))) (fun u : (Nat → Nat → Nat) × Nat => h0 = u.1 0 0) 1 42 := by
  intro sz
  refine Met.ofW (cc := cX8_init) (maxL := 2) (ret := none) (by decide) rfl ?_
  intro p e s m args below meth c s₁ B hml hv
  obtain ⟨rfl, hsz, hP, hK, hD0⟩ := hv
  have hx := B.exec
  have hb := B.bytes
  have hr := B.returns
  have hts := atoms_spec (ws := wsX8_init) B.pre
  have hown : s.vm.findClass RX8 = some m.cls := findClass_of_methodNamed B.named
  have hlocks := B.notSynchronized
  have hin : meth.name = "<init>" := (name_of_methodNamed B.named B.method).1
  subst hsz
  have hD := hD0.self (sz := s.heap.size)
  have hA : ∀ q : Nat, s.heap.size ≤ q → va_A [(h0, .inr (8, [.int 0, .null]))] s.heap.size q := fun q h => Or.inr h
  have hS : va_S (va_A [(h0, .inr (8, [.int 0, .null]))] s.heap.size) s.heap s.heap [] := va_S.rf
  have hP : va_P (dC, dI) vwCl ([(h0, .inr (8, [.int 0, .null]))] : va_W) s.heap := hP
  have hin8 : ∀ w ∈ u_ws RX8 TX8 2, w ∈ wsX8_init := fun w h => List.mem_cons_of_mem _ (List.mem_append_right _ h)
  have hl := lv_entry ([.ref h0, .int 2]) (n := 2) (Nat.le_of_ble_eq_true rfl)
  rw [lg_entry_eq]
  generalize (lg_sl ([.ref h0, .int 2]) ++ List.replicate (2 - (lg_sl ([.ref h0, .int 2])).length) Slot.unset).toArray = ls at hl ⊢
  have hl : lv_has ls 2 [(0, .ref h0), (1, .int 2)] := hl
  refine lv_aload_n hx hb dX8_init_0 rfl (lv_at hl 0 rfl) ?_
  refine W.objInit hx hb hown (hts (.methodLink RX8 1 objectInit) (List.mem_of_getElem? (i := 1) rfl)) (hts (.instanceMethod objectInit) (List.mem_of_getElem? (i := 2) rfl)) (hts (.code objectInit ⟨#[0xb1]⟩ 1 none) (List.mem_of_getElem? (i := 3) rfl)) rfl (by rw [hml]; exact hl.1) rfl dX8_init_1 (Nat.le_of_ble_eq_true rfl) (Nat.le_of_ble_eq_true rfl) ?_
  refine W.eq (g2 := F0 m 4 ls []) rfl ?_
  refine lv_aload_n hx hb dX8_init_4 rfl (lv_at hl 0 rfl) ?_
  refine lv_iconst (v := 0) hx hb dX8_init_5 (by decide) ?_
  refine lv_iload_n hx hb dX8_init_6 rfl (lv_at hl 1 rfl) ?_
  refine va_mmax hx hb (hml.trans hl.1.symm) hown (hts (.methodLink RX8 7 Lib.Math.max.name) (List.mem_of_getElem? (i := 4) rfl)) (hts (.static Lib.Math.max.name) (List.mem_of_getElem? (i := 5) rfl)) (hts (.initialized "java/lang/Math") (List.mem_of_getElem? (i := 6) rfl)) (hts (.code Lib.Math.max.name Lib.Math.max.code 2 (some .int)) (List.mem_of_getElem? (i := 7) rfl)) (Nat.le_of_ble_eq_true rfl) (Nat.le_of_ble_eq_true rfl) (Nat.le_of_ble_eq_true rfl) (Nat.le_of_ble_eq_true rfl) dX8_init_7 ?_
  refine lv_topi (fun v1 ev1 => ?_)
  obtain rfl : v1 = 2 := ev1.trans (by decide)
  refine va_putF (D := (dC, dI)) (ci := 8) (v := .int 2) (ty := tyX8 0) (C := RX8) (T := TX8) (N := 2) hx hb hts hin8 tyX8 tyX8_ok nmX8 hown hK hP hD hS 0 rfl rfl 0 (by decide) (hts (.fieldLink RX8 13 "TowedBack$Shelf" "slots" "I") (List.mem_of_getElem? (i := 8) rfl)) (fun _ h9 => h9) rfl hin rfl (tyX8_ok 0 (by decide)) rfl rfl (Nat.le_of_ble_eq_true rfl) dX8_init_10 (fun H locs hP hD hS => ?_)
  have hP : va_P (dC, dI) vwCl ([(h0, .inr (8, [.int 2, .null]))] : va_W) H := hP
  have hD : va_D (va_A [(h0, .inr (8, [.int 0, .null]))] s.heap.size) ([(h0, .inr (8, [.int 2, .null]))] : va_W) := hD
  refine lv_aload_n hx hb dX8_init_13 rfl (lv_at hl 0 rfl) ?_
  refine lv_aload_n hx hb dX8_init_14 rfl (lv_at hl 0 rfl) ?_
  refine va_get (D := (dC, dI)) (ci := 8) (v := .int 2) (C := RX8) (T := TX8) (N := 2) hx hb hts hin8 hown hK hP 0 rfl rfl 0 (by decide) (hts (.fieldLink RX8 13 "TowedBack$Shelf" "slots" "I") (List.mem_of_getElem? (i := 8) rfl)) (fun _ h9 => h9) rfl dX8_init_15 ?_
  refine lv_bipush (v := 21) hx hb dX8_init_18 (by decide) ?_
  refine lv_imul hx hb dX8_init_20 ?_
  refine lv_topi (fun v2 ev2 => ?_)
  obtain rfl : v2 = 42 := ev2.trans (by decide)
  refine k_newI hx hb (hts (.arrayClass .int) (List.mem_of_getElem? (i := 9) rfl)) hK hP hD hS hA 42 (by decide) (by decide) (by decide) (Nat.le_of_ble_eq_true rfl) (Nat.le_of_ble_eq_true rfl) dX8_init_21 (fun q3 H hP hD hS => ?_)
  have hP : va_P (dC, dI) vwCl ([(h0, .inr (8, [.int 2, .null])), (q3, .inl (cI, 42, .inl (fun _ => 0)))] : va_W) H := hP
  have hD : va_D (va_A [(h0, .inr (8, [.int 0, .null]))] s.heap.size) ([(h0, .inr (8, [.int 2, .null])), (q3, .inl (cI, 42, .inl (fun _ => 0)))] : va_W) := hD
  refine va_putF (D := (dC, dI)) (ci := 8) (v := .ref q3) (ty := tyX8 1) (C := RX8) (T := TX8) (N := 2) hx hb hts hin8 tyX8 tyX8_ok nmX8 hown hK hP hD hS 0 rfl rfl 1 (by decide) (hts (.fieldLink RX8 21 "TowedBack$Shelf" "rows" "[I") (List.mem_of_getElem? (i := 10) rfl)) (fun _ h9 => h9) rfl hin rfl (tyX8_ok 1 (by decide)) rfl rfl (Nat.le_of_ble_eq_true rfl) dX8_init_23 (fun H locs hP hD hS => ?_)
  have hP : va_P (dC, dI) vwCl ([(h0, .inr (8, [.int 2, .ref q3])), (q3, .inl (cI, 42, .inl (fun _ => 0)))] : va_W) H := hP
  have hD : va_D (va_A [(h0, .inr (8, [.int 0, .null]))] s.heap.size) ([(h0, .inr (8, [.int 2, .ref q3])), (q3, .inl (cI, 42, .inl (fun _ => 0)))] : va_W) := hD
  have hP9 := hP.sub (ws' := (wd_tShelf cI cZ ((((fun _ => (fun k => match k with | 0 => h0 | _ => q3)), 0) : (Nat → Nat → Nat) × Nat).1 0) 42 2 (fun _ => 0))) [0, 1] rfl
  have hD9 := hD.sub (ws' := (wd_tShelf cI cZ ((((fun _ => (fun k => match k with | 0 => h0 | _ => q3)), 0) : (Nat → Nat → Nat) × Nat).1 0) 42 2 (fun _ => 0))) [0, 1] (by decide +kernel) rfl
  refine W.widen (k := 1) (n := 42) (Nat.le_of_ble_eq_true rfl) (Nat.le_of_ble_eq_true rfl) ?_
  exact W.vret hx hb hr (fun t ht hW => ⟨⟨(((fun _ => (fun k => match k with | 0 => h0 | _ => q3)), 0) : (Nat → Nat → Nat) × Nat), rfl, rfl, by rw [ht]; exact hP9, hD9⟩, hS.F ht⟩) hS.2.2 dX8_init_26
set_option maxHeartbeats 4000000 in
set_option maxRecDepth 100000 in
theorem c_Past_init (l : Launch) (dC : Nat → ClassId) (dI : Nat → Nat → Nat) (cI cZ : ClassId) (h0 : Nat) : MN l yX6_init wsX6_init ({ frames := 2, cells := 2, slots := 422, locals := 42 }) (dC, dI) [(cI, .int), (cZ, .boolean)] (h0, .inr (6, [.null, .int 0, .int 0])) [] (fun u : (Nat → Nat → Nat) × Nat => (wd_tPast cI cZ (u.1 0) (u.1 1) 0 0 420 20 (fun _ => 0))) (fun u : (Nat → Nat → Nat) × Nat => h0 = u.1 0 0) 2 422 := by
  intro sz
  refine Met.ofW (cc := cX6_init) (maxL := 1) (ret := none) (by decide) rfl ?_
  intro p e s m args below meth c s₁ B hml hv
  obtain ⟨rfl, hsz, hP, hK, hD0⟩ := hv
  have hx := B.exec
  have hb := B.bytes
  have hr := B.returns
  have hts := atoms_spec (ws := wsX6_init) B.pre
  have hown : s.vm.findClass RX6 = some m.cls := findClass_of_methodNamed B.named
  have hlocks := B.notSynchronized
  have hin : meth.name = "<init>" := (name_of_methodNamed B.named B.method).1
  subst hsz
  have hD := hD0.self (sz := s.heap.size)
  have hA : ∀ q : Nat, s.heap.size ≤ q → va_A [(h0, .inr (6, [.null, .int 0, .int 0]))] s.heap.size q := fun q h => Or.inr h
  have hS : va_S (va_A [(h0, .inr (6, [.null, .int 0, .int 0]))] s.heap.size) s.heap s.heap [] := va_S.rf
  have hP : va_P (dC, dI) vwCl ([(h0, .inr (6, [.null, .int 0, .int 0]))] : va_W) s.heap := hP
  have hin6 : ∀ w ∈ u_ws RX6 TX6 3, w ∈ wsX6_init := fun w h => List.mem_cons_of_mem _ (List.mem_append_right _ h)
  have hin8 : ∀ w ∈ u_ws RX8 TX8 2, w ∈ wsX6_init := fun w h => List.mem_cons_of_mem _ (List.mem_append_left _ (List.mem_append_right _ h))
  have hl := lv_entry ([.ref h0]) (n := 1) (Nat.le_of_ble_eq_true rfl)
  rw [lg_entry_eq]
  generalize (lg_sl ([.ref h0]) ++ List.replicate (1 - (lg_sl ([.ref h0])).length) Slot.unset).toArray = ls at hl ⊢
  have hl : lv_has ls 1 [(0, .ref h0)] := hl
  refine lv_aload_n hx hb dX6_init_0 rfl (lv_at hl 0 rfl) ?_
  refine W.objInit hx hb hown (hts (.methodLink RX6 3 objectInit) (List.mem_of_getElem? (i := 1) rfl)) (hts (.instanceMethod objectInit) (List.mem_of_getElem? (i := 2) rfl)) (hts (.code objectInit ⟨#[0xb1]⟩ 1 none) (List.mem_of_getElem? (i := 3) rfl)) rfl (by rw [hml]; exact hl.1) rfl dX6_init_1 (Nat.le_of_ble_eq_true rfl) (Nat.le_of_ble_eq_true rfl) ?_
  refine W.eq (g2 := F0 m 4 ls []) rfl ?_
  refine lv_aload_n hx hb dX6_init_4 rfl (lv_at hl 0 rfl) ?_
  refine va_new (ci := 8) (fs := [.int 0, .null]) (C := RX8) (T := TX8) (N := 2) hx hb hts hin8 tyX8 tyX8_ok hown (hts (.classLink RX6 9 RX8) (List.mem_of_getElem? (i := 4) rfl)) (hts (.instantiable RX8 2) (List.mem_of_getElem? (i := 5) rfl)) (hts (.initialized RX8) (List.mem_of_getElem? (i := 6) rfl)) hK hP hD hS hA rfl (fun j hj => by match j, hj with | 0, _ => rfl | 1, _ => rfl | j + 2, hj => exact absurd hj (by omega)) (Nat.le_of_ble_eq_true rfl) (Nat.le_of_ble_eq_true rfl) dX6_init_5 (fun q1 H hP hD hS => ?_)
  refine lv_dup hx hb dX6_init_8 rfl ?_
  refine lv_bipush (v := 20) hx hb dX6_init_9 (by decide) ?_
  refine k_I (L := ([(h0, .inr (6, [.null, .int 0, .int 0]))] : va_W)) (rest := [.ref q1, .ref h0]) (As := [.int 20]) ⟨hx, hb, hml, hown, hts⟩ (c_Shelf_init20 l dC dI cI cZ q1) (cwI 1 hts gX6_init_X8_init rfl rfl rfl (hts (.initialized RX8) (List.mem_of_getElem? (i := 6) rfl)) (hts (.methodLink RX6 11 yX8_init) (List.mem_of_getElem? (i := 10) rfl)) (hts (.instanceMethod yX8_init) (List.mem_of_getElem? (i := 11) rfl)) rfl hd_8_init ⟨Nat.le_of_ble_eq_true rfl, Nat.le_of_ble_eq_true rfl⟩) hK hP hD hS hA rfl hl.1 rfl (Nat.le_of_ble_eq_true rfl) dX6_init_11 ⟨Nat.le_of_ble_eq_true rfl, Nat.le_of_ble_eq_true rfl⟩ (fun u2 H2 locs2 hok hP2 hD2 hS2 => ?_)
  subst hok
  have hP : va_P (dC, dI) vwCl ([(h0, .inr (6, [.null, .int 0, .int 0])), ((u2.1 0 0), .inr (8, [.int 20, .ref (u2.1 0 1)])), ((u2.1 0 1), .inl (cI, 420, .inl (fun _ => 0)))] : va_W) H2 := hP2
  have hD : va_D (va_A [(h0, .inr (6, [.null, .int 0, .int 0]))] s.heap.size) ([(h0, .inr (6, [.null, .int 0, .int 0])), ((u2.1 0 0), .inr (8, [.int 20, .ref (u2.1 0 1)])), ((u2.1 0 1), .inl (cI, 420, .inl (fun _ => 0)))] : va_W) := hD2
  have hS := hS2
  refine va_putF (D := (dC, dI)) (ci := 6) (v := .ref (u2.1 0 0)) (ty := tyX6 0) (C := RX6) (T := TX6) (N := 3) hx hb hts hin6 tyX6 tyX6_ok nmX6 hown hK hP hD hS 0 rfl rfl 0 (by decide) (hts (.fieldLink RX6 14 "TowedBack$Past" "shelf" "LTowedBack$Shelf;") (List.mem_of_getElem? (i := 7) rfl)) (fun _ h9 => h9) rfl hin rfl (tyX6_ok 0 (by decide)) rfl rfl (Nat.le_of_ble_eq_true rfl) dX6_init_14 (fun H locs hP hD hS => ?_)
  have hP : va_P (dC, dI) vwCl ([(h0, .inr (6, [.ref (u2.1 0 0), .int 0, .int 0])), ((u2.1 0 0), .inr (8, [.int 20, .ref (u2.1 0 1)])), ((u2.1 0 1), .inl (cI, 420, .inl (fun _ => 0)))] : va_W) H := hP
  have hD : va_D (va_A [(h0, .inr (6, [.null, .int 0, .int 0]))] s.heap.size) ([(h0, .inr (6, [.ref (u2.1 0 0), .int 0, .int 0])), ((u2.1 0 0), .inr (8, [.int 20, .ref (u2.1 0 1)])), ((u2.1 0 1), .inl (cI, 420, .inl (fun _ => 0)))] : va_W) := hD
  refine lv_aload_n hx hb dX6_init_17 rfl (lv_at hl 0 rfl) ?_
  refine lv_iconst (v := 0) hx hb dX6_init_18 (by decide) ?_
  refine va_put (D := (dC, dI)) (ci := 6) (v := .int 0) (ty := tyX6 1) (C := RX6) (T := TX6) (N := 3) hx hb hts hin6 tyX6 tyX6_ok nmX6 hown hK hP hD hS 0 rfl rfl 1 (by decide) (hts (.fieldLink RX6 20 "TowedBack$Past" "next" "I") (List.mem_of_getElem? (i := 8) rfl)) (fun _ h9 => h9) rfl (tyX6_ok 1 (by decide)) rfl rfl (Nat.le_of_ble_eq_true rfl) dX6_init_19 (fun H locs hP hD hS => ?_)
  have hP : va_P (dC, dI) vwCl ([(h0, .inr (6, [.ref (u2.1 0 0), .int 0, .int 0])), ((u2.1 0 0), .inr (8, [.int 20, .ref (u2.1 0 1)])), ((u2.1 0 1), .inl (cI, 420, .inl (fun _ => 0)))] : va_W) H := hP
  have hD : va_D (va_A [(h0, .inr (6, [.null, .int 0, .int 0]))] s.heap.size) ([(h0, .inr (6, [.ref (u2.1 0 0), .int 0, .int 0])), ((u2.1 0 0), .inr (8, [.int 20, .ref (u2.1 0 1)])), ((u2.1 0 1), .inl (cI, 420, .inl (fun _ => 0)))] : va_W) := hD
  refine lv_aload_n hx hb dX6_init_22 rfl (lv_at hl 0 rfl) ?_
  refine lv_iconst (v := 0) hx hb dX6_init_23 (by decide) ?_
  refine va_put (D := (dC, dI)) (ci := 6) (v := .int 0) (ty := tyX6 2) (C := RX6) (T := TX6) (N := 3) hx hb hts hin6 tyX6 tyX6_ok nmX6 hown hK hP hD hS 0 rfl rfl 2 (by decide) (hts (.fieldLink RX6 24 "TowedBack$Past" "count" "I") (List.mem_of_getElem? (i := 9) rfl)) (fun _ h9 => h9) rfl (tyX6_ok 2 (by decide)) rfl rfl (Nat.le_of_ble_eq_true rfl) dX6_init_24 (fun H locs hP hD hS => ?_)
  have hP : va_P (dC, dI) vwCl ([(h0, .inr (6, [.ref (u2.1 0 0), .int 0, .int 0])), ((u2.1 0 0), .inr (8, [.int 20, .ref (u2.1 0 1)])), ((u2.1 0 1), .inl (cI, 420, .inl (fun _ => 0)))] : va_W) H := hP
  have hD : va_D (va_A [(h0, .inr (6, [.null, .int 0, .int 0]))] s.heap.size) ([(h0, .inr (6, [.ref (u2.1 0 0), .int 0, .int 0])), ((u2.1 0 0), .inr (8, [.int 20, .ref (u2.1 0 1)])), ((u2.1 0 1), .inl (cI, 420, .inl (fun _ => 0)))] : va_W) := hD
  have hP9 := hP.sub (ws' := (wd_tPast cI cZ ((((fun k => match k with | 0 => (fun _ => h0) | _ => (u2.1 0)), 0) : (Nat → Nat → Nat) × Nat).1 0) ((((fun k => match k with | 0 => (fun _ => h0) | _ => (u2.1 0)), 0) : (Nat → Nat → Nat) × Nat).1 1) 0 0 420 20 (fun _ => 0))) [0, 1, 2] rfl
  have hD9 := hD.sub (ws' := (wd_tPast cI cZ ((((fun k => match k with | 0 => (fun _ => h0) | _ => (u2.1 0)), 0) : (Nat → Nat → Nat) × Nat).1 0) ((((fun k => match k with | 0 => (fun _ => h0) | _ => (u2.1 0)), 0) : (Nat → Nat → Nat) × Nat).1 1) 0 0 420 20 (fun _ => 0))) [0, 1, 2] (by decide +kernel) rfl
  refine W.widen (k := 2) (n := 422) (Nat.le_of_ble_eq_true rfl) (Nat.le_of_ble_eq_true rfl) ?_
  exact W.vret hx hb hr (fun t ht hW => ⟨⟨(((fun k => match k with | 0 => (fun _ => h0) | _ => (u2.1 0)), 0) : (Nat → Nat → Nat) × Nat), rfl, rfl, by rw [ht]; exact hP9, hD9⟩, hS.F ht⟩) hS.2.2 dX6_init_27
set_option maxHeartbeats 4000000 in
set_option maxRecDepth 100000 in
theorem c_Images_init (l : Launch) (dC : Nat → ClassId) (dI : Nat → Nat → Nat) (cI cZ : ClassId) (h0 : Nat) : MN l yX5_init wsX5_init ({ frames := 2, cells := 4, slots := 48, locals := 42 }) (dC, dI) [(cI, .int), (cZ, .boolean)] (h0, .inr (5, [.null, .null, .null])) [] (fun u : (Nat → Nat → Nat) × Nat => (wd_tImages cI cZ (u.1 0) (u.1 1) (fun _ => 0) (fun _ => 0) 42 2 (fun _ => 0))) (fun u : (Nat → Nat → Nat) × Nat => h0 = u.1 0 0) 4 48 := by
  intro sz
  refine Met.ofW (cc := cX5_init) (maxL := 1) (ret := none) (by decide) rfl ?_
  intro p e s m args below meth c s₁ B hml hv
  obtain ⟨rfl, hsz, hP, hK, hD0⟩ := hv
  have hx := B.exec
  have hb := B.bytes
  have hr := B.returns
  have hts := atoms_spec (ws := wsX5_init) B.pre
  have hown : s.vm.findClass RX5 = some m.cls := findClass_of_methodNamed B.named
  have hlocks := B.notSynchronized
  have hin : meth.name = "<init>" := (name_of_methodNamed B.named B.method).1
  subst hsz
  have hD := hD0.self (sz := s.heap.size)
  have hA : ∀ q : Nat, s.heap.size ≤ q → va_A [(h0, .inr (5, [.null, .null, .null]))] s.heap.size q := fun q h => Or.inr h
  have hS : va_S (va_A [(h0, .inr (5, [.null, .null, .null]))] s.heap.size) s.heap s.heap [] := va_S.rf
  have hP : va_P (dC, dI) vwCl ([(h0, .inr (5, [.null, .null, .null]))] : va_W) s.heap := hP
  have hin5 : ∀ w ∈ u_ws RX5 TX5 3, w ∈ wsX5_init := fun w h => List.mem_cons_of_mem _ (List.mem_append_right _ h)
  have hin8 : ∀ w ∈ u_ws RX8 TX8 2, w ∈ wsX5_init := fun w h => List.mem_cons_of_mem _ (List.mem_append_left _ (List.mem_append_right _ h))
  have hl := lv_entry ([.ref h0]) (n := 1) (Nat.le_of_ble_eq_true rfl)
  rw [lg_entry_eq]
  generalize (lg_sl ([.ref h0]) ++ List.replicate (1 - (lg_sl ([.ref h0])).length) Slot.unset).toArray = ls at hl ⊢
  have hl : lv_has ls 1 [(0, .ref h0)] := hl
  refine lv_aload_n hx hb dX5_init_0 rfl (lv_at hl 0 rfl) ?_
  refine W.objInit hx hb hown (hts (.methodLink RX5 3 objectInit) (List.mem_of_getElem? (i := 1) rfl)) (hts (.instanceMethod objectInit) (List.mem_of_getElem? (i := 2) rfl)) (hts (.code objectInit ⟨#[0xb1]⟩ 1 none) (List.mem_of_getElem? (i := 3) rfl)) rfl (by rw [hml]; exact hl.1) rfl dX5_init_1 (Nat.le_of_ble_eq_true rfl) (Nat.le_of_ble_eq_true rfl) ?_
  refine W.eq (g2 := F0 m 4 ls []) rfl ?_
  refine lv_aload_n hx hb dX5_init_4 rfl (lv_at hl 0 rfl) ?_
  refine va_new (ci := 8) (fs := [.int 0, .null]) (C := RX8) (T := TX8) (N := 2) hx hb hts hin8 tyX8 tyX8_ok hown (hts (.classLink RX5 9 RX8) (List.mem_of_getElem? (i := 4) rfl)) (hts (.instantiable RX8 2) (List.mem_of_getElem? (i := 5) rfl)) (hts (.initialized RX8) (List.mem_of_getElem? (i := 6) rfl)) hK hP hD hS hA rfl (fun j hj => by match j, hj with | 0, _ => rfl | 1, _ => rfl | j + 2, hj => exact absurd hj (by omega)) (Nat.le_of_ble_eq_true rfl) (Nat.le_of_ble_eq_true rfl) dX5_init_5 (fun q1 H hP hD hS => ?_)
  refine lv_dup hx hb dX5_init_8 rfl ?_
  refine lv_iconst (v := 2) hx hb dX5_init_9 (by decide) ?_
  refine k_I (L := ([(h0, .inr (5, [.null, .null, .null]))] : va_W)) (rest := [.ref q1, .ref h0]) (As := [.int 2]) ⟨hx, hb, hml, hown, hts⟩ (c_Shelf_init2 l dC dI cI cZ q1) (cwI 1 hts gX5_init_X8_init rfl rfl rfl (hts (.initialized RX8) (List.mem_of_getElem? (i := 6) rfl)) (hts (.methodLink RX5 11 yX8_init) (List.mem_of_getElem? (i := 12) rfl)) (hts (.instanceMethod yX8_init) (List.mem_of_getElem? (i := 13) rfl)) rfl hd_8_init ⟨Nat.le_of_ble_eq_true rfl, Nat.le_of_ble_eq_true rfl⟩) hK hP hD hS hA rfl hl.1 rfl (Nat.le_of_ble_eq_true rfl) dX5_init_10 ⟨Nat.le_of_ble_eq_true rfl, Nat.le_of_ble_eq_true rfl⟩ (fun u2 H2 locs2 hok hP2 hD2 hS2 => ?_)
  subst hok
  have hP : va_P (dC, dI) vwCl ([(h0, .inr (5, [.null, .null, .null])), ((u2.1 0 0), .inr (8, [.int 2, .ref (u2.1 0 1)])), ((u2.1 0 1), .inl (cI, 42, .inl (fun _ => 0)))] : va_W) H2 := hP2
  have hD : va_D (va_A [(h0, .inr (5, [.null, .null, .null]))] s.heap.size) ([(h0, .inr (5, [.null, .null, .null])), ((u2.1 0 0), .inr (8, [.int 2, .ref (u2.1 0 1)])), ((u2.1 0 1), .inl (cI, 42, .inl (fun _ => 0)))] : va_W) := hD2
  have hS := hS2
  refine va_putF (D := (dC, dI)) (ci := 5) (v := .ref (u2.1 0 0)) (ty := tyX5 0) (C := RX5) (T := TX5) (N := 3) hx hb hts hin5 tyX5 tyX5_ok nmX5 hown hK hP hD hS 0 rfl rfl 0 (by decide) (hts (.fieldLink RX5 14 "TowedBack$Images" "shelf" "LTowedBack$Shelf;") (List.mem_of_getElem? (i := 7) rfl)) (fun _ h9 => h9) rfl hin rfl (tyX5_ok 0 (by decide)) rfl rfl (Nat.le_of_ble_eq_true rfl) dX5_init_13 (fun H locs hP hD hS => ?_)
  have hP : va_P (dC, dI) vwCl ([(h0, .inr (5, [.ref (u2.1 0 0), .null, .null])), ((u2.1 0 0), .inr (8, [.int 2, .ref (u2.1 0 1)])), ((u2.1 0 1), .inl (cI, 42, .inl (fun _ => 0)))] : va_W) H := hP
  have hD : va_D (va_A [(h0, .inr (5, [.null, .null, .null]))] s.heap.size) ([(h0, .inr (5, [.ref (u2.1 0 0), .null, .null])), ((u2.1 0 0), .inr (8, [.int 2, .ref (u2.1 0 1)])), ((u2.1 0 1), .inl (cI, 42, .inl (fun _ => 0)))] : va_W) := hD
  refine lv_aload_n hx hb dX5_init_16 rfl (lv_at hl 0 rfl) ?_
  refine lv_iconst (v := 2) hx hb dX5_init_17 (by decide) ?_
  refine k_newI hx hb (hts (.arrayClass .int) (List.mem_of_getElem? (i := 8) rfl)) hK hP hD hS hA 2 (by decide) (by decide) (by decide) (Nat.le_of_ble_eq_true rfl) (Nat.le_of_ble_eq_true rfl) dX5_init_18 (fun q3 H hP hD hS => ?_)
  have hP : va_P (dC, dI) vwCl ([(h0, .inr (5, [.ref (u2.1 0 0), .null, .null])), ((u2.1 0 0), .inr (8, [.int 2, .ref (u2.1 0 1)])), ((u2.1 0 1), .inl (cI, 42, .inl (fun _ => 0))), (q3, .inl (cI, 2, .inl (fun _ => 0)))] : va_W) H := hP
  have hD : va_D (va_A [(h0, .inr (5, [.null, .null, .null]))] s.heap.size) ([(h0, .inr (5, [.ref (u2.1 0 0), .null, .null])), ((u2.1 0 0), .inr (8, [.int 2, .ref (u2.1 0 1)])), ((u2.1 0 1), .inl (cI, 42, .inl (fun _ => 0))), (q3, .inl (cI, 2, .inl (fun _ => 0)))] : va_W) := hD
  refine va_putF (D := (dC, dI)) (ci := 5) (v := .ref q3) (ty := tyX5 1) (C := RX5) (T := TX5) (N := 3) hx hb hts hin5 tyX5 tyX5_ok nmX5 hown hK hP hD hS 0 rfl rfl 1 (by decide) (hts (.fieldLink RX5 20 "TowedBack$Images" "seeds" "[I") (List.mem_of_getElem? (i := 9) rfl)) (fun _ h9 => h9) rfl hin rfl (tyX5_ok 1 (by decide)) rfl rfl (Nat.le_of_ble_eq_true rfl) dX5_init_20 (fun H locs hP hD hS => ?_)
  have hP : va_P (dC, dI) vwCl ([(h0, .inr (5, [.ref (u2.1 0 0), .ref q3, .null])), ((u2.1 0 0), .inr (8, [.int 2, .ref (u2.1 0 1)])), ((u2.1 0 1), .inl (cI, 42, .inl (fun _ => 0))), (q3, .inl (cI, 2, .inl (fun _ => 0)))] : va_W) H := hP
  have hD : va_D (va_A [(h0, .inr (5, [.null, .null, .null]))] s.heap.size) ([(h0, .inr (5, [.ref (u2.1 0 0), .ref q3, .null])), ((u2.1 0 0), .inr (8, [.int 2, .ref (u2.1 0 1)])), ((u2.1 0 1), .inl (cI, 42, .inl (fun _ => 0))), (q3, .inl (cI, 2, .inl (fun _ => 0)))] : va_W) := hD
  refine lv_aload_n hx hb dX5_init_23 rfl (lv_at hl 0 rfl) ?_
  refine lv_iconst (v := 2) hx hb dX5_init_24 (by decide) ?_
  refine k_newZ hx hb (hts (.arrayClass .boolean) (List.mem_of_getElem? (i := 10) rfl)) hK hP hD hS hA 2 (by decide) (by decide) (by decide) (Nat.le_of_ble_eq_true rfl) (Nat.le_of_ble_eq_true rfl) dX5_init_25 (fun q4 H hP hD hS => ?_)
  have hP : va_P (dC, dI) vwCl ([(h0, .inr (5, [.ref (u2.1 0 0), .ref q3, .null])), ((u2.1 0 0), .inr (8, [.int 2, .ref (u2.1 0 1)])), ((u2.1 0 1), .inl (cI, 42, .inl (fun _ => 0))), (q3, .inl (cI, 2, .inl (fun _ => 0))), (q4, .inl (cZ, 2, .inl (fun _ => 0)))] : va_W) H := hP
  have hD : va_D (va_A [(h0, .inr (5, [.null, .null, .null]))] s.heap.size) ([(h0, .inr (5, [.ref (u2.1 0 0), .ref q3, .null])), ((u2.1 0 0), .inr (8, [.int 2, .ref (u2.1 0 1)])), ((u2.1 0 1), .inl (cI, 42, .inl (fun _ => 0))), (q3, .inl (cI, 2, .inl (fun _ => 0))), (q4, .inl (cZ, 2, .inl (fun _ => 0)))] : va_W) := hD
  refine va_putF (D := (dC, dI)) (ci := 5) (v := .ref q4) (ty := tyX5 2) (C := RX5) (T := TX5) (N := 3) hx hb hts hin5 tyX5 tyX5_ok nmX5 hown hK hP hD hS 0 rfl rfl 2 (by decide) (hts (.fieldLink RX5 24 "TowedBack$Images" "kept" "[Z") (List.mem_of_getElem? (i := 11) rfl)) (fun _ h9 => h9) rfl hin rfl (tyX5_ok 2 (by decide)) rfl rfl (Nat.le_of_ble_eq_true rfl) dX5_init_27 (fun H locs hP hD hS => ?_)
  have hP : va_P (dC, dI) vwCl ([(h0, .inr (5, [.ref (u2.1 0 0), .ref q3, .ref q4])), ((u2.1 0 0), .inr (8, [.int 2, .ref (u2.1 0 1)])), ((u2.1 0 1), .inl (cI, 42, .inl (fun _ => 0))), (q3, .inl (cI, 2, .inl (fun _ => 0))), (q4, .inl (cZ, 2, .inl (fun _ => 0)))] : va_W) H := hP
  have hD : va_D (va_A [(h0, .inr (5, [.null, .null, .null]))] s.heap.size) ([(h0, .inr (5, [.ref (u2.1 0 0), .ref q3, .ref q4])), ((u2.1 0 0), .inr (8, [.int 2, .ref (u2.1 0 1)])), ((u2.1 0 1), .inl (cI, 42, .inl (fun _ => 0))), (q3, .inl (cI, 2, .inl (fun _ => 0))), (q4, .inl (cZ, 2, .inl (fun _ => 0)))] : va_W) := hD
  have hP9 := hP.sub (ws' := (wd_tImages cI cZ ((((fun k => match k with | 0 => (fun k => match k with | 0 => h0 | 1 => q3 | _ => q4) | _ => (u2.1 0)), 0) : (Nat → Nat → Nat) × Nat).1 0) ((((fun k => match k with | 0 => (fun k => match k with | 0 => h0 | 1 => q3 | _ => q4) | _ => (u2.1 0)), 0) : (Nat → Nat → Nat) × Nat).1 1) (fun _ => 0) (fun _ => 0) 42 2 (fun _ => 0))) [0, 3, 4, 1, 2] rfl
  have hD9 := hD.sub (ws' := (wd_tImages cI cZ ((((fun k => match k with | 0 => (fun k => match k with | 0 => h0 | 1 => q3 | _ => q4) | _ => (u2.1 0)), 0) : (Nat → Nat → Nat) × Nat).1 0) ((((fun k => match k with | 0 => (fun k => match k with | 0 => h0 | 1 => q3 | _ => q4) | _ => (u2.1 0)), 0) : (Nat → Nat → Nat) × Nat).1 1) (fun _ => 0) (fun _ => 0) 42 2 (fun _ => 0))) [0, 3, 4, 1, 2] (by decide +kernel) rfl
  refine W.widen (k := 4) (n := 48) (Nat.le_of_ble_eq_true rfl) (Nat.le_of_ble_eq_true rfl) ?_
  exact W.vret hx hb hr (fun t ht hW => ⟨⟨(((fun k => match k with | 0 => (fun k => match k with | 0 => h0 | 1 => q3 | _ => q4) | _ => (u2.1 0)), 0) : (Nat → Nat → Nat) × Nat), rfl, rfl, by rw [ht]; exact hP9, hD9⟩, hS.F ht⟩) hS.2.2 dX5_init_30
set_option maxHeartbeats 4000000 in
set_option maxRecDepth 100000 in
theorem c_Reader_init (l : Launch) (dC : Nat → ClassId) (dI : Nat → Nat → Nat) (cI cZ : ClassId) (h0 : Nat) : MN l yX7_init wsX7_init ({ frames := 1, cells := 1, slots := 0, locals := 12 }) (dC, dI) [(cI, .int), (cZ, .boolean)] (h0, .inr (7, [.null, .int 0, .int 0, .int 0, .int 0, .int 0])) [] (fun u : (Nat → Nat → Nat) × Nat => (wd_tReader cI cZ (u.1 0) u.2 0 0 0 0 (-1))) (fun u : (Nat → Nat → Nat) × Nat => h0 = u.1 0 0) 1 0 := by
  intro sz
  refine Met.ofW (cc := cX7_init) (maxL := 1) (ret := none) (by decide) rfl ?_
  intro p e s m args below meth c s₁ B hml hv
  obtain ⟨rfl, hsz, hP, hK, hD0⟩ := hv
  have hx := B.exec
  have hb := B.bytes
  have hr := B.returns
  have hts := atoms_spec (ws := wsX7_init) B.pre
  have hown : s.vm.findClass RX7 = some m.cls := findClass_of_methodNamed B.named
  have hlocks := B.notSynchronized
  have hin : meth.name = "<init>" := (name_of_methodNamed B.named B.method).1
  subst hsz
  have hD := hD0.self (sz := s.heap.size)
  have hA : ∀ q : Nat, s.heap.size ≤ q → va_A [(h0, .inr (7, [.null, .int 0, .int 0, .int 0, .int 0, .int 0]))] s.heap.size q := fun q h => Or.inr h
  have hS : va_S (va_A [(h0, .inr (7, [.null, .int 0, .int 0, .int 0, .int 0, .int 0]))] s.heap.size) s.heap s.heap [] := va_S.rf
  have hP : va_P (dC, dI) vwCl ([(h0, .inr (7, [.null, .int 0, .int 0, .int 0, .int 0, .int 0]))] : va_W) s.heap := hP
  have hin7 : ∀ w ∈ u_ws RX7 TX7 6, w ∈ wsX7_init := fun w h => List.mem_cons_of_mem _ (List.mem_append_right _ h)
  have hl := lv_entry ([.ref h0]) (n := 1) (Nat.le_of_ble_eq_true rfl)
  rw [lg_entry_eq]
  generalize (lg_sl ([.ref h0]) ++ List.replicate (1 - (lg_sl ([.ref h0])).length) Slot.unset).toArray = ls at hl ⊢
  have hl : lv_has ls 1 [(0, .ref h0)] := hl
  refine lv_aload_n hx hb dX7_init_0 rfl (lv_at hl 0 rfl) ?_
  refine W.objInit hx hb hown (hts (.methodLink RX7 3 objectInit) (List.mem_of_getElem? (i := 1) rfl)) (hts (.instanceMethod objectInit) (List.mem_of_getElem? (i := 2) rfl)) (hts (.code objectInit ⟨#[0xb1]⟩ 1 none) (List.mem_of_getElem? (i := 3) rfl)) rfl (by rw [hml]; exact hl.1) rfl dX7_init_1 (Nat.le_of_ble_eq_true rfl) (Nat.le_of_ble_eq_true rfl) ?_
  refine W.eq (g2 := F0 m 4 ls []) rfl ?_
  refine lv_aload_n hx hb dX7_init_4 rfl (lv_at hl 0 rfl) ?_
  refine lv_iconst (v := 0) hx hb dX7_init_5 (by decide) ?_
  refine k_newI hx hb (hts (.arrayClass .int) (List.mem_of_getElem? (i := 4) rfl)) hK hP hD hS hA 0 (by decide) (by decide) (by decide) (Nat.le_of_ble_eq_true rfl) (Nat.le_of_ble_eq_true rfl) dX7_init_6 (fun q1 H hP hD hS => ?_)
  have hP : va_P (dC, dI) vwCl ([(h0, .inr (7, [.null, .int 0, .int 0, .int 0, .int 0, .int 0])), (q1, .inl (cI, 0, .inl (fun _ => 0)))] : va_W) H := hP
  have hD : va_D (va_A [(h0, .inr (7, [.null, .int 0, .int 0, .int 0, .int 0, .int 0]))] s.heap.size) ([(h0, .inr (7, [.null, .int 0, .int 0, .int 0, .int 0, .int 0])), (q1, .inl (cI, 0, .inl (fun _ => 0)))] : va_W) := hD
  refine va_put (D := (dC, dI)) (ci := 7) (v := .ref q1) (ty := tyX7 0) (C := RX7) (T := TX7) (N := 6) hx hb hts hin7 tyX7 tyX7_ok nmX7 hown hK hP hD hS 0 rfl rfl 0 (by decide) (hts (.fieldLink RX7 9 "TowedBack$Reader" "text" "[I") (List.mem_of_getElem? (i := 5) rfl)) (fun _ h9 => h9) rfl (tyX7_ok 0 (by decide)) rfl rfl (Nat.le_of_ble_eq_true rfl) dX7_init_8 (fun H locs hP hD hS => ?_)
  have hP : va_P (dC, dI) vwCl ([(h0, .inr (7, [.ref q1, .int 0, .int 0, .int 0, .int 0, .int 0])), (q1, .inl (cI, 0, .inl (fun _ => 0)))] : va_W) H := hP
  have hD : va_D (va_A [(h0, .inr (7, [.null, .int 0, .int 0, .int 0, .int 0, .int 0]))] s.heap.size) ([(h0, .inr (7, [.ref q1, .int 0, .int 0, .int 0, .int 0, .int 0])), (q1, .inl (cI, 0, .inl (fun _ => 0)))] : va_W) := hD
  refine lv_aload_n hx hb dX7_init_11 rfl (lv_at hl 0 rfl) ?_
  refine lv_iconst (v := 0) hx hb dX7_init_12 (by decide) ?_
  refine va_put (D := (dC, dI)) (ci := 7) (v := .int 0) (ty := tyX7 1) (C := RX7) (T := TX7) (N := 6) hx hb hts hin7 tyX7 tyX7_ok nmX7 hown hK hP hD hS 0 rfl rfl 1 (by decide) (hts (.fieldLink RX7 15 "TowedBack$Reader" "length" "I") (List.mem_of_getElem? (i := 6) rfl)) (fun _ h9 => h9) rfl (tyX7_ok 1 (by decide)) rfl rfl (Nat.le_of_ble_eq_true rfl) dX7_init_13 (fun H locs hP hD hS => ?_)
  have hP : va_P (dC, dI) vwCl ([(h0, .inr (7, [.ref q1, .int 0, .int 0, .int 0, .int 0, .int 0])), (q1, .inl (cI, 0, .inl (fun _ => 0)))] : va_W) H := hP
  have hD : va_D (va_A [(h0, .inr (7, [.null, .int 0, .int 0, .int 0, .int 0, .int 0]))] s.heap.size) ([(h0, .inr (7, [.ref q1, .int 0, .int 0, .int 0, .int 0, .int 0])), (q1, .inl (cI, 0, .inl (fun _ => 0)))] : va_W) := hD
  refine lv_aload_n hx hb dX7_init_16 rfl (lv_at hl 0 rfl) ?_
  refine lv_iconst (v := 0) hx hb dX7_init_17 (by decide) ?_
  refine va_put (D := (dC, dI)) (ci := 7) (v := .int 0) (ty := tyX7 2) (C := RX7) (T := TX7) (N := 6) hx hb hts hin7 tyX7 tyX7_ok nmX7 hown hK hP hD hS 0 rfl rfl 2 (by decide) (hts (.fieldLink RX7 19 "TowedBack$Reader" "place" "I") (List.mem_of_getElem? (i := 7) rfl)) (fun _ h9 => h9) rfl (tyX7_ok 2 (by decide)) rfl rfl (Nat.le_of_ble_eq_true rfl) dX7_init_18 (fun H locs hP hD hS => ?_)
  have hP : va_P (dC, dI) vwCl ([(h0, .inr (7, [.ref q1, .int 0, .int 0, .int 0, .int 0, .int 0])), (q1, .inl (cI, 0, .inl (fun _ => 0)))] : va_W) H := hP
  have hD : va_D (va_A [(h0, .inr (7, [.null, .int 0, .int 0, .int 0, .int 0, .int 0]))] s.heap.size) ([(h0, .inr (7, [.ref q1, .int 0, .int 0, .int 0, .int 0, .int 0])), (q1, .inl (cI, 0, .inl (fun _ => 0)))] : va_W) := hD
  refine lv_aload_n hx hb dX7_init_21 rfl (lv_at hl 0 rfl) ?_
  refine lv_iconst (v := 0) hx hb dX7_init_22 (by decide) ?_
  refine va_put (D := (dC, dI)) (ci := 7) (v := .int 0) (ty := tyX7 3) (C := RX7) (T := TX7) (N := 6) hx hb hts hin7 tyX7 tyX7_ok nmX7 hown hK hP hD hS 0 rfl rfl 3 (by decide) (hts (.fieldLink RX7 22 "TowedBack$Reader" "numberAt" "I") (List.mem_of_getElem? (i := 8) rfl)) (fun _ h9 => h9) rfl (tyX7_ok 3 (by decide)) rfl rfl (Nat.le_of_ble_eq_true rfl) dX7_init_23 (fun H locs hP hD hS => ?_)
  have hP : va_P (dC, dI) vwCl ([(h0, .inr (7, [.ref q1, .int 0, .int 0, .int 0, .int 0, .int 0])), (q1, .inl (cI, 0, .inl (fun _ => 0)))] : va_W) H := hP
  have hD : va_D (va_A [(h0, .inr (7, [.null, .int 0, .int 0, .int 0, .int 0, .int 0]))] s.heap.size) ([(h0, .inr (7, [.ref q1, .int 0, .int 0, .int 0, .int 0, .int 0])), (q1, .inl (cI, 0, .inl (fun _ => 0)))] : va_W) := hD
  refine lv_aload_n hx hb dX7_init_26 rfl (lv_at hl 0 rfl) ?_
  refine lv_iconst (v := 0) hx hb dX7_init_27 (by decide) ?_
  refine va_put (D := (dC, dI)) (ci := 7) (v := .int 0) (ty := tyX7 4) (C := RX7) (T := TX7) (N := 6) hx hb hts hin7 tyX7 tyX7_ok nmX7 hown hK hP hD hS 0 rfl rfl 4 (by decide) (hts (.fieldLink RX7 25 "TowedBack$Reader" "faultKind" "I") (List.mem_of_getElem? (i := 9) rfl)) (fun _ h9 => h9) rfl (tyX7_ok 4 (by decide)) rfl rfl (Nat.le_of_ble_eq_true rfl) dX7_init_28 (fun H locs hP hD hS => ?_)
  have hP : va_P (dC, dI) vwCl ([(h0, .inr (7, [.ref q1, .int 0, .int 0, .int 0, .int 0, .int 0])), (q1, .inl (cI, 0, .inl (fun _ => 0)))] : va_W) H := hP
  have hD : va_D (va_A [(h0, .inr (7, [.null, .int 0, .int 0, .int 0, .int 0, .int 0]))] s.heap.size) ([(h0, .inr (7, [.ref q1, .int 0, .int 0, .int 0, .int 0, .int 0])), (q1, .inl (cI, 0, .inl (fun _ => 0)))] : va_W) := hD
  refine lv_aload_n hx hb dX7_init_31 rfl (lv_at hl 0 rfl) ?_
  refine lv_iconst (v := (-1)) hx hb dX7_init_32 (by decide) ?_
  refine va_put (D := (dC, dI)) (ci := 7) (v := .int (-1)) (ty := tyX7 5) (C := RX7) (T := TX7) (N := 6) hx hb hts hin7 tyX7 tyX7_ok nmX7 hown hK hP hD hS 0 rfl rfl 5 (by decide) (hts (.fieldLink RX7 28 "TowedBack$Reader" "faultAt" "I") (List.mem_of_getElem? (i := 10) rfl)) (fun _ h9 => h9) rfl (tyX7_ok 5 (by decide)) rfl rfl (Nat.le_of_ble_eq_true rfl) dX7_init_33 (fun H locs hP hD hS => ?_)
  have hP : va_P (dC, dI) vwCl ([(h0, .inr (7, [.ref q1, .int 0, .int 0, .int 0, .int 0, .int (-1)])), (q1, .inl (cI, 0, .inl (fun _ => 0)))] : va_W) H := hP
  have hD : va_D (va_A [(h0, .inr (7, [.null, .int 0, .int 0, .int 0, .int 0, .int 0]))] s.heap.size) ([(h0, .inr (7, [.ref q1, .int 0, .int 0, .int 0, .int 0, .int (-1)])), (q1, .inl (cI, 0, .inl (fun _ => 0)))] : va_W) := hD
  have hP9 := hP.sub (ws' := (wd_tReader cI cZ ((((fun _ => (fun _ => h0)), q1) : (Nat → Nat → Nat) × Nat).1 0) (((fun _ => (fun _ => h0)), q1) : (Nat → Nat → Nat) × Nat).2 0 0 0 0 (-1))) [0] rfl
  have hD9 := hD.sub (ws' := (wd_tReader cI cZ ((((fun _ => (fun _ => h0)), q1) : (Nat → Nat → Nat) × Nat).1 0) (((fun _ => (fun _ => h0)), q1) : (Nat → Nat → Nat) × Nat).2 0 0 0 0 (-1))) [0] (by decide +kernel) rfl
  refine W.widen (k := 1) (n := 0) (Nat.le_of_ble_eq_true rfl) (Nat.le_of_ble_eq_true rfl) ?_
  exact W.vret hx hb hr (fun t ht hW => ⟨⟨(((fun _ => (fun _ => h0)), q1) : (Nat → Nat → Nat) × Nat), rfl, rfl, by rw [ht]; exact hP9, hD9⟩, hS.F ht⟩) hS.2.2 dX7_init_36
set_option maxHeartbeats 4000000 in
set_option maxRecDepth 100000 in
theorem c_Water_init (l : Launch) (dC : Nat → ClassId) (dI : Nat → Nat → Nat) (cI cZ : ClassId) (h0 : Nat) : MN l yX9_init wsX9_init ({ frames := 1, cells := 8, slots := 237, locals := 12 }) (dC, dI) [(cI, .int), (cZ, .boolean)] (h0, .inr (9, [.int 0, .int 0, .int 0, .null, .null, .null, .null, .null, .null, .null, .null])) [] (fun u : (Nat → Nat → Nat) × Nat => (wd_tWater cI cZ (u.1 0) 0 0 0 (fun _ => 0) (fun _ => 0) (fun _ => 0) (fun _ => 0) (fun _ => 0) (fun _ => 0) (fun _ => 0) (fun _ => 0))) (fun u : (Nat → Nat → Nat) × Nat => h0 = u.1 0 0) 8 237 := by
  intro sz
  refine Met.ofW (cc := cX9_init) (maxL := 1) (ret := none) (by decide) rfl ?_
  intro p e s m args below meth c s₁ B hml hv
  obtain ⟨rfl, hsz, hP, hK, hD0⟩ := hv
  have hx := B.exec
  have hb := B.bytes
  have hr := B.returns
  have hts := atoms_spec (ws := wsX9_init) B.pre
  have hown : s.vm.findClass RX9 = some m.cls := findClass_of_methodNamed B.named
  have hlocks := B.notSynchronized
  have hin : meth.name = "<init>" := (name_of_methodNamed B.named B.method).1
  subst hsz
  have hD := hD0.self (sz := s.heap.size)
  have hA : ∀ q : Nat, s.heap.size ≤ q → va_A [(h0, .inr (9, [.int 0, .int 0, .int 0, .null, .null, .null, .null, .null, .null, .null, .null]))] s.heap.size q := fun q h => Or.inr h
  have hS : va_S (va_A [(h0, .inr (9, [.int 0, .int 0, .int 0, .null, .null, .null, .null, .null, .null, .null, .null]))] s.heap.size) s.heap s.heap [] := va_S.rf
  have hP : va_P (dC, dI) vwCl ([(h0, .inr (9, [.int 0, .int 0, .int 0, .null, .null, .null, .null, .null, .null, .null, .null]))] : va_W) s.heap := hP
  have hin9 : ∀ w ∈ u_ws RX9 TX9 11, w ∈ wsX9_init := fun w h => List.mem_cons_of_mem _ (List.mem_append_right _ h)
  have hl := lv_entry ([.ref h0]) (n := 1) (Nat.le_of_ble_eq_true rfl)
  rw [lg_entry_eq]
  generalize (lg_sl ([.ref h0]) ++ List.replicate (1 - (lg_sl ([.ref h0])).length) Slot.unset).toArray = ls at hl ⊢
  have hl : lv_has ls 1 [(0, .ref h0)] := hl
  refine lv_aload_n hx hb dX9_init_0 rfl (lv_at hl 0 rfl) ?_
  refine W.objInit hx hb hown (hts (.methodLink RX9 3 objectInit) (List.mem_of_getElem? (i := 1) rfl)) (hts (.instanceMethod objectInit) (List.mem_of_getElem? (i := 2) rfl)) (hts (.code objectInit ⟨#[0xb1]⟩ 1 none) (List.mem_of_getElem? (i := 3) rfl)) rfl (by rw [hml]; exact hl.1) rfl dX9_init_1 (Nat.le_of_ble_eq_true rfl) (Nat.le_of_ble_eq_true rfl) ?_
  refine W.eq (g2 := F0 m 4 ls []) rfl ?_
  refine lv_aload_n hx hb dX9_init_4 rfl (lv_at hl 0 rfl) ?_
  refine lv_iconst (v := 0) hx hb dX9_init_5 (by decide) ?_
  refine va_put (D := (dC, dI)) (ci := 9) (v := .int 0) (ty := tyX9 0) (C := RX9) (T := TX9) (N := 11) hx hb hts hin9 tyX9 tyX9_ok nmX9 hown hK hP hD hS 0 rfl rfl 0 (by decide) (hts (.fieldLink RX9 9 "TowedBack$Water" "junctions" "I") (List.mem_of_getElem? (i := 4) rfl)) (fun _ h9 => h9) rfl (tyX9_ok 0 (by decide)) rfl rfl (Nat.le_of_ble_eq_true rfl) dX9_init_6 (fun H locs hP hD hS => ?_)
  have hP : va_P (dC, dI) vwCl ([(h0, .inr (9, [.int 0, .int 0, .int 0, .null, .null, .null, .null, .null, .null, .null, .null]))] : va_W) H := hP
  have hD : va_D (va_A [(h0, .inr (9, [.int 0, .int 0, .int 0, .null, .null, .null, .null, .null, .null, .null, .null]))] s.heap.size) ([(h0, .inr (9, [.int 0, .int 0, .int 0, .null, .null, .null, .null, .null, .null, .null, .null]))] : va_W) := hD
  refine lv_aload_n hx hb dX9_init_9 rfl (lv_at hl 0 rfl) ?_
  refine lv_iconst (v := 0) hx hb dX9_init_10 (by decide) ?_
  refine va_put (D := (dC, dI)) (ci := 9) (v := .int 0) (ty := tyX9 1) (C := RX9) (T := TX9) (N := 11) hx hb hts hin9 tyX9 tyX9_ok nmX9 hown hK hP hD hS 0 rfl rfl 1 (by decide) (hts (.fieldLink RX9 15 "TowedBack$Water" "cuts" "I") (List.mem_of_getElem? (i := 5) rfl)) (fun _ h9 => h9) rfl (tyX9_ok 1 (by decide)) rfl rfl (Nat.le_of_ble_eq_true rfl) dX9_init_11 (fun H locs hP hD hS => ?_)
  have hP : va_P (dC, dI) vwCl ([(h0, .inr (9, [.int 0, .int 0, .int 0, .null, .null, .null, .null, .null, .null, .null, .null]))] : va_W) H := hP
  have hD : va_D (va_A [(h0, .inr (9, [.int 0, .int 0, .int 0, .null, .null, .null, .null, .null, .null, .null, .null]))] s.heap.size) ([(h0, .inr (9, [.int 0, .int 0, .int 0, .null, .null, .null, .null, .null, .null, .null, .null]))] : va_W) := hD
  refine lv_aload_n hx hb dX9_init_14 rfl (lv_at hl 0 rfl) ?_
  refine lv_iconst (v := 0) hx hb dX9_init_15 (by decide) ?_
  refine va_put (D := (dC, dI)) (ci := 9) (v := .int 0) (ty := tyX9 2) (C := RX9) (T := TX9) (N := 11) hx hb hts hin9 tyX9 tyX9_ok nmX9 hown hK hP hD hS 0 rfl rfl 2 (by decide) (hts (.fieldLink RX9 18 "TowedBack$Water" "boats" "I") (List.mem_of_getElem? (i := 6) rfl)) (fun _ h9 => h9) rfl (tyX9_ok 2 (by decide)) rfl rfl (Nat.le_of_ble_eq_true rfl) dX9_init_16 (fun H locs hP hD hS => ?_)
  have hP : va_P (dC, dI) vwCl ([(h0, .inr (9, [.int 0, .int 0, .int 0, .null, .null, .null, .null, .null, .null, .null, .null]))] : va_W) H := hP
  have hD : va_D (va_A [(h0, .inr (9, [.int 0, .int 0, .int 0, .null, .null, .null, .null, .null, .null, .null, .null]))] s.heap.size) ([(h0, .inr (9, [.int 0, .int 0, .int 0, .null, .null, .null, .null, .null, .null, .null, .null]))] : va_W) := hD
  refine lv_aload_n hx hb dX9_init_19 rfl (lv_at hl 0 rfl) ?_
  refine lv_bipush (v := 14) hx hb dX9_init_20 (by decide) ?_
  refine k_newI hx hb (hts (.arrayClass .int) (List.mem_of_getElem? (i := 7) rfl)) hK hP hD hS hA 14 (by decide) (by decide) (by decide) (Nat.le_of_ble_eq_true rfl) (Nat.le_of_ble_eq_true rfl) dX9_init_22 (fun q1 H hP hD hS => ?_)
  have hP : va_P (dC, dI) vwCl ([(h0, .inr (9, [.int 0, .int 0, .int 0, .null, .null, .null, .null, .null, .null, .null, .null])), (q1, .inl (cI, 14, .inl (fun _ => 0)))] : va_W) H := hP
  have hD : va_D (va_A [(h0, .inr (9, [.int 0, .int 0, .int 0, .null, .null, .null, .null, .null, .null, .null, .null]))] s.heap.size) ([(h0, .inr (9, [.int 0, .int 0, .int 0, .null, .null, .null, .null, .null, .null, .null, .null])), (q1, .inl (cI, 14, .inl (fun _ => 0)))] : va_W) := hD
  refine va_putF (D := (dC, dI)) (ci := 9) (v := .ref q1) (ty := tyX9 3) (C := RX9) (T := TX9) (N := 11) hx hb hts hin9 tyX9 tyX9_ok nmX9 hown hK hP hD hS 0 rfl rfl 3 (by decide) (hts (.fieldLink RX9 21 "TowedBack$Water" "cutA" "[I") (List.mem_of_getElem? (i := 8) rfl)) (fun _ h9 => h9) rfl hin rfl (tyX9_ok 3 (by decide)) rfl rfl (Nat.le_of_ble_eq_true rfl) dX9_init_24 (fun H locs hP hD hS => ?_)
  have hP : va_P (dC, dI) vwCl ([(h0, .inr (9, [.int 0, .int 0, .int 0, .ref q1, .null, .null, .null, .null, .null, .null, .null])), (q1, .inl (cI, 14, .inl (fun _ => 0)))] : va_W) H := hP
  have hD : va_D (va_A [(h0, .inr (9, [.int 0, .int 0, .int 0, .null, .null, .null, .null, .null, .null, .null, .null]))] s.heap.size) ([(h0, .inr (9, [.int 0, .int 0, .int 0, .ref q1, .null, .null, .null, .null, .null, .null, .null])), (q1, .inl (cI, 14, .inl (fun _ => 0)))] : va_W) := hD
  refine lv_aload_n hx hb dX9_init_27 rfl (lv_at hl 0 rfl) ?_
  refine lv_bipush (v := 14) hx hb dX9_init_28 (by decide) ?_
  refine k_newI hx hb (hts (.arrayClass .int) (List.mem_of_getElem? (i := 7) rfl)) hK hP hD hS hA 14 (by decide) (by decide) (by decide) (Nat.le_of_ble_eq_true rfl) (Nat.le_of_ble_eq_true rfl) dX9_init_30 (fun q2 H hP hD hS => ?_)
  have hP : va_P (dC, dI) vwCl ([(h0, .inr (9, [.int 0, .int 0, .int 0, .ref q1, .null, .null, .null, .null, .null, .null, .null])), (q1, .inl (cI, 14, .inl (fun _ => 0))), (q2, .inl (cI, 14, .inl (fun _ => 0)))] : va_W) H := hP
  have hD : va_D (va_A [(h0, .inr (9, [.int 0, .int 0, .int 0, .null, .null, .null, .null, .null, .null, .null, .null]))] s.heap.size) ([(h0, .inr (9, [.int 0, .int 0, .int 0, .ref q1, .null, .null, .null, .null, .null, .null, .null])), (q1, .inl (cI, 14, .inl (fun _ => 0))), (q2, .inl (cI, 14, .inl (fun _ => 0)))] : va_W) := hD
  refine va_putF (D := (dC, dI)) (ci := 9) (v := .ref q2) (ty := tyX9 4) (C := RX9) (T := TX9) (N := 11) hx hb hts hin9 tyX9 tyX9_ok nmX9 hown hK hP hD hS 0 rfl rfl 4 (by decide) (hts (.fieldLink RX9 25 "TowedBack$Water" "cutB" "[I") (List.mem_of_getElem? (i := 9) rfl)) (fun _ h9 => h9) rfl hin rfl (tyX9_ok 4 (by decide)) rfl rfl (Nat.le_of_ble_eq_true rfl) dX9_init_32 (fun H locs hP hD hS => ?_)
  have hP : va_P (dC, dI) vwCl ([(h0, .inr (9, [.int 0, .int 0, .int 0, .ref q1, .ref q2, .null, .null, .null, .null, .null, .null])), (q1, .inl (cI, 14, .inl (fun _ => 0))), (q2, .inl (cI, 14, .inl (fun _ => 0)))] : va_W) H := hP
  have hD : va_D (va_A [(h0, .inr (9, [.int 0, .int 0, .int 0, .null, .null, .null, .null, .null, .null, .null, .null]))] s.heap.size) ([(h0, .inr (9, [.int 0, .int 0, .int 0, .ref q1, .ref q2, .null, .null, .null, .null, .null, .null])), (q1, .inl (cI, 14, .inl (fun _ => 0))), (q2, .inl (cI, 14, .inl (fun _ => 0)))] : va_W) := hD
  refine lv_aload_n hx hb dX9_init_35 rfl (lv_at hl 0 rfl) ?_
  refine lv_bipush (v := 14) hx hb dX9_init_36 (by decide) ?_
  refine k_newI hx hb (hts (.arrayClass .int) (List.mem_of_getElem? (i := 7) rfl)) hK hP hD hS hA 14 (by decide) (by decide) (by decide) (Nat.le_of_ble_eq_true rfl) (Nat.le_of_ble_eq_true rfl) dX9_init_38 (fun q3 H hP hD hS => ?_)
  have hP : va_P (dC, dI) vwCl ([(h0, .inr (9, [.int 0, .int 0, .int 0, .ref q1, .ref q2, .null, .null, .null, .null, .null, .null])), (q1, .inl (cI, 14, .inl (fun _ => 0))), (q2, .inl (cI, 14, .inl (fun _ => 0))), (q3, .inl (cI, 14, .inl (fun _ => 0)))] : va_W) H := hP
  have hD : va_D (va_A [(h0, .inr (9, [.int 0, .int 0, .int 0, .null, .null, .null, .null, .null, .null, .null, .null]))] s.heap.size) ([(h0, .inr (9, [.int 0, .int 0, .int 0, .ref q1, .ref q2, .null, .null, .null, .null, .null, .null])), (q1, .inl (cI, 14, .inl (fun _ => 0))), (q2, .inl (cI, 14, .inl (fun _ => 0))), (q3, .inl (cI, 14, .inl (fun _ => 0)))] : va_W) := hD
  refine va_putF (D := (dC, dI)) (ci := 9) (v := .ref q3) (ty := tyX9 5) (C := RX9) (T := TX9) (N := 11) hx hb hts hin9 tyX9 tyX9_ok nmX9 hown hK hP hD hS 0 rfl rfl 5 (by decide) (hts (.fieldLink RX9 28 "TowedBack$Water" "cutHard" "[I") (List.mem_of_getElem? (i := 10) rfl)) (fun _ h9 => h9) rfl hin rfl (tyX9_ok 5 (by decide)) rfl rfl (Nat.le_of_ble_eq_true rfl) dX9_init_40 (fun H locs hP hD hS => ?_)
  have hP : va_P (dC, dI) vwCl ([(h0, .inr (9, [.int 0, .int 0, .int 0, .ref q1, .ref q2, .ref q3, .null, .null, .null, .null, .null])), (q1, .inl (cI, 14, .inl (fun _ => 0))), (q2, .inl (cI, 14, .inl (fun _ => 0))), (q3, .inl (cI, 14, .inl (fun _ => 0)))] : va_W) H := hP
  have hD : va_D (va_A [(h0, .inr (9, [.int 0, .int 0, .int 0, .null, .null, .null, .null, .null, .null, .null, .null]))] s.heap.size) ([(h0, .inr (9, [.int 0, .int 0, .int 0, .ref q1, .ref q2, .ref q3, .null, .null, .null, .null, .null])), (q1, .inl (cI, 14, .inl (fun _ => 0))), (q2, .inl (cI, 14, .inl (fun _ => 0))), (q3, .inl (cI, 14, .inl (fun _ => 0)))] : va_W) := hD
  refine lv_aload_n hx hb dX9_init_43 rfl (lv_at hl 0 rfl) ?_
  refine lv_iconst (v := 5) hx hb dX9_init_44 (by decide) ?_
  refine k_newI hx hb (hts (.arrayClass .int) (List.mem_of_getElem? (i := 7) rfl)) hK hP hD hS hA 5 (by decide) (by decide) (by decide) (Nat.le_of_ble_eq_true rfl) (Nat.le_of_ble_eq_true rfl) dX9_init_45 (fun q4 H hP hD hS => ?_)
  have hP : va_P (dC, dI) vwCl ([(h0, .inr (9, [.int 0, .int 0, .int 0, .ref q1, .ref q2, .ref q3, .null, .null, .null, .null, .null])), (q1, .inl (cI, 14, .inl (fun _ => 0))), (q2, .inl (cI, 14, .inl (fun _ => 0))), (q3, .inl (cI, 14, .inl (fun _ => 0))), (q4, .inl (cI, 5, .inl (fun _ => 0)))] : va_W) H := hP
  have hD : va_D (va_A [(h0, .inr (9, [.int 0, .int 0, .int 0, .null, .null, .null, .null, .null, .null, .null, .null]))] s.heap.size) ([(h0, .inr (9, [.int 0, .int 0, .int 0, .ref q1, .ref q2, .ref q3, .null, .null, .null, .null, .null])), (q1, .inl (cI, 14, .inl (fun _ => 0))), (q2, .inl (cI, 14, .inl (fun _ => 0))), (q3, .inl (cI, 14, .inl (fun _ => 0))), (q4, .inl (cI, 5, .inl (fun _ => 0)))] : va_W) := hD
  refine va_putF (D := (dC, dI)) (ci := 9) (v := .ref q4) (ty := tyX9 6) (C := RX9) (T := TX9) (N := 11) hx hb hts hin9 tyX9 tyX9_ok nmX9 hown hK hP hD hS 0 rfl rfl 6 (by decide) (hts (.fieldLink RX9 31 "TowedBack$Water" "boatAt" "[I") (List.mem_of_getElem? (i := 11) rfl)) (fun _ h9 => h9) rfl hin rfl (tyX9_ok 6 (by decide)) rfl rfl (Nat.le_of_ble_eq_true rfl) dX9_init_47 (fun H locs hP hD hS => ?_)
  have hP : va_P (dC, dI) vwCl ([(h0, .inr (9, [.int 0, .int 0, .int 0, .ref q1, .ref q2, .ref q3, .ref q4, .null, .null, .null, .null])), (q1, .inl (cI, 14, .inl (fun _ => 0))), (q2, .inl (cI, 14, .inl (fun _ => 0))), (q3, .inl (cI, 14, .inl (fun _ => 0))), (q4, .inl (cI, 5, .inl (fun _ => 0)))] : va_W) H := hP
  have hD : va_D (va_A [(h0, .inr (9, [.int 0, .int 0, .int 0, .null, .null, .null, .null, .null, .null, .null, .null]))] s.heap.size) ([(h0, .inr (9, [.int 0, .int 0, .int 0, .ref q1, .ref q2, .ref q3, .ref q4, .null, .null, .null, .null])), (q1, .inl (cI, 14, .inl (fun _ => 0))), (q2, .inl (cI, 14, .inl (fun _ => 0))), (q3, .inl (cI, 14, .inl (fun _ => 0))), (q4, .inl (cI, 5, .inl (fun _ => 0)))] : va_W) := hD
  refine lv_aload_n hx hb dX9_init_50 rfl (lv_at hl 0 rfl) ?_
  refine lv_iconst (v := 5) hx hb dX9_init_51 (by decide) ?_
  refine k_newI hx hb (hts (.arrayClass .int) (List.mem_of_getElem? (i := 7) rfl)) hK hP hD hS hA 5 (by decide) (by decide) (by decide) (Nat.le_of_ble_eq_true rfl) (Nat.le_of_ble_eq_true rfl) dX9_init_52 (fun q5 H hP hD hS => ?_)
  have hP : va_P (dC, dI) vwCl ([(h0, .inr (9, [.int 0, .int 0, .int 0, .ref q1, .ref q2, .ref q3, .ref q4, .null, .null, .null, .null])), (q1, .inl (cI, 14, .inl (fun _ => 0))), (q2, .inl (cI, 14, .inl (fun _ => 0))), (q3, .inl (cI, 14, .inl (fun _ => 0))), (q4, .inl (cI, 5, .inl (fun _ => 0))), (q5, .inl (cI, 5, .inl (fun _ => 0)))] : va_W) H := hP
  have hD : va_D (va_A [(h0, .inr (9, [.int 0, .int 0, .int 0, .null, .null, .null, .null, .null, .null, .null, .null]))] s.heap.size) ([(h0, .inr (9, [.int 0, .int 0, .int 0, .ref q1, .ref q2, .ref q3, .ref q4, .null, .null, .null, .null])), (q1, .inl (cI, 14, .inl (fun _ => 0))), (q2, .inl (cI, 14, .inl (fun _ => 0))), (q3, .inl (cI, 14, .inl (fun _ => 0))), (q4, .inl (cI, 5, .inl (fun _ => 0))), (q5, .inl (cI, 5, .inl (fun _ => 0)))] : va_W) := hD
  refine va_putF (D := (dC, dI)) (ci := 9) (v := .ref q5) (ty := tyX9 7) (C := RX9) (T := TX9) (N := 11) hx hb hts hin9 tyX9 tyX9_ok nmX9 hown hK hP hD hS 0 rfl rfl 7 (by decide) (hts (.fieldLink RX9 34 "TowedBack$Water" "boatPull" "[I") (List.mem_of_getElem? (i := 12) rfl)) (fun _ h9 => h9) rfl hin rfl (tyX9_ok 7 (by decide)) rfl rfl (Nat.le_of_ble_eq_true rfl) dX9_init_54 (fun H locs hP hD hS => ?_)
  have hP : va_P (dC, dI) vwCl ([(h0, .inr (9, [.int 0, .int 0, .int 0, .ref q1, .ref q2, .ref q3, .ref q4, .ref q5, .null, .null, .null])), (q1, .inl (cI, 14, .inl (fun _ => 0))), (q2, .inl (cI, 14, .inl (fun _ => 0))), (q3, .inl (cI, 14, .inl (fun _ => 0))), (q4, .inl (cI, 5, .inl (fun _ => 0))), (q5, .inl (cI, 5, .inl (fun _ => 0)))] : va_W) H := hP
  have hD : va_D (va_A [(h0, .inr (9, [.int 0, .int 0, .int 0, .null, .null, .null, .null, .null, .null, .null, .null]))] s.heap.size) ([(h0, .inr (9, [.int 0, .int 0, .int 0, .ref q1, .ref q2, .ref q3, .ref q4, .ref q5, .null, .null, .null])), (q1, .inl (cI, 14, .inl (fun _ => 0))), (q2, .inl (cI, 14, .inl (fun _ => 0))), (q3, .inl (cI, 14, .inl (fun _ => 0))), (q4, .inl (cI, 5, .inl (fun _ => 0))), (q5, .inl (cI, 5, .inl (fun _ => 0)))] : va_W) := hD
  refine lv_aload_n hx hb dX9_init_57 rfl (lv_at hl 0 rfl) ?_
  refine lv_iconst (v := 5) hx hb dX9_init_58 (by decide) ?_
  refine k_newI hx hb (hts (.arrayClass .int) (List.mem_of_getElem? (i := 7) rfl)) hK hP hD hS hA 5 (by decide) (by decide) (by decide) (Nat.le_of_ble_eq_true rfl) (Nat.le_of_ble_eq_true rfl) dX9_init_59 (fun q6 H hP hD hS => ?_)
  have hP : va_P (dC, dI) vwCl ([(h0, .inr (9, [.int 0, .int 0, .int 0, .ref q1, .ref q2, .ref q3, .ref q4, .ref q5, .null, .null, .null])), (q1, .inl (cI, 14, .inl (fun _ => 0))), (q2, .inl (cI, 14, .inl (fun _ => 0))), (q3, .inl (cI, 14, .inl (fun _ => 0))), (q4, .inl (cI, 5, .inl (fun _ => 0))), (q5, .inl (cI, 5, .inl (fun _ => 0))), (q6, .inl (cI, 5, .inl (fun _ => 0)))] : va_W) H := hP
  have hD : va_D (va_A [(h0, .inr (9, [.int 0, .int 0, .int 0, .null, .null, .null, .null, .null, .null, .null, .null]))] s.heap.size) ([(h0, .inr (9, [.int 0, .int 0, .int 0, .ref q1, .ref q2, .ref q3, .ref q4, .ref q5, .null, .null, .null])), (q1, .inl (cI, 14, .inl (fun _ => 0))), (q2, .inl (cI, 14, .inl (fun _ => 0))), (q3, .inl (cI, 14, .inl (fun _ => 0))), (q4, .inl (cI, 5, .inl (fun _ => 0))), (q5, .inl (cI, 5, .inl (fun _ => 0))), (q6, .inl (cI, 5, .inl (fun _ => 0)))] : va_W) := hD
  refine va_putF (D := (dC, dI)) (ci := 9) (v := .ref q6) (ty := tyX9 8) (C := RX9) (T := TX9) (N := 11) hx hb hts hin9 tyX9 tyX9_ok nmX9 hown hK hP hD hS 0 rfl rfl 8 (by decide) (hts (.fieldLink RX9 37 "TowedBack$Water" "boatWear" "[I") (List.mem_of_getElem? (i := 13) rfl)) (fun _ h9 => h9) rfl hin rfl (tyX9_ok 8 (by decide)) rfl rfl (Nat.le_of_ble_eq_true rfl) dX9_init_61 (fun H locs hP hD hS => ?_)
  have hP : va_P (dC, dI) vwCl ([(h0, .inr (9, [.int 0, .int 0, .int 0, .ref q1, .ref q2, .ref q3, .ref q4, .ref q5, .ref q6, .null, .null])), (q1, .inl (cI, 14, .inl (fun _ => 0))), (q2, .inl (cI, 14, .inl (fun _ => 0))), (q3, .inl (cI, 14, .inl (fun _ => 0))), (q4, .inl (cI, 5, .inl (fun _ => 0))), (q5, .inl (cI, 5, .inl (fun _ => 0))), (q6, .inl (cI, 5, .inl (fun _ => 0)))] : va_W) H := hP
  have hD : va_D (va_A [(h0, .inr (9, [.int 0, .int 0, .int 0, .null, .null, .null, .null, .null, .null, .null, .null]))] s.heap.size) ([(h0, .inr (9, [.int 0, .int 0, .int 0, .ref q1, .ref q2, .ref q3, .ref q4, .ref q5, .ref q6, .null, .null])), (q1, .inl (cI, 14, .inl (fun _ => 0))), (q2, .inl (cI, 14, .inl (fun _ => 0))), (q3, .inl (cI, 14, .inl (fun _ => 0))), (q4, .inl (cI, 5, .inl (fun _ => 0))), (q5, .inl (cI, 5, .inl (fun _ => 0))), (q6, .inl (cI, 5, .inl (fun _ => 0)))] : va_W) := hD
  refine lv_aload_n hx hb dX9_init_64 rfl (lv_at hl 0 rfl) ?_
  refine lv_bipush (v := 90) hx hb dX9_init_65 (by decide) ?_
  refine k_newI hx hb (hts (.arrayClass .int) (List.mem_of_getElem? (i := 7) rfl)) hK hP hD hS hA 90 (by decide) (by decide) (by decide) (Nat.le_of_ble_eq_true rfl) (Nat.le_of_ble_eq_true rfl) dX9_init_67 (fun q7 H hP hD hS => ?_)
  have hP : va_P (dC, dI) vwCl ([(h0, .inr (9, [.int 0, .int 0, .int 0, .ref q1, .ref q2, .ref q3, .ref q4, .ref q5, .ref q6, .null, .null])), (q1, .inl (cI, 14, .inl (fun _ => 0))), (q2, .inl (cI, 14, .inl (fun _ => 0))), (q3, .inl (cI, 14, .inl (fun _ => 0))), (q4, .inl (cI, 5, .inl (fun _ => 0))), (q5, .inl (cI, 5, .inl (fun _ => 0))), (q6, .inl (cI, 5, .inl (fun _ => 0))), (q7, .inl (cI, 90, .inl (fun _ => 0)))] : va_W) H := hP
  have hD : va_D (va_A [(h0, .inr (9, [.int 0, .int 0, .int 0, .null, .null, .null, .null, .null, .null, .null, .null]))] s.heap.size) ([(h0, .inr (9, [.int 0, .int 0, .int 0, .ref q1, .ref q2, .ref q3, .ref q4, .ref q5, .ref q6, .null, .null])), (q1, .inl (cI, 14, .inl (fun _ => 0))), (q2, .inl (cI, 14, .inl (fun _ => 0))), (q3, .inl (cI, 14, .inl (fun _ => 0))), (q4, .inl (cI, 5, .inl (fun _ => 0))), (q5, .inl (cI, 5, .inl (fun _ => 0))), (q6, .inl (cI, 5, .inl (fun _ => 0))), (q7, .inl (cI, 90, .inl (fun _ => 0)))] : va_W) := hD
  refine va_putF (D := (dC, dI)) (ci := 9) (v := .ref q7) (ty := tyX9 9) (C := RX9) (T := TX9) (N := 11) hx hb hts hin9 tyX9 tyX9_ok nmX9 hown hK hP hD hS 0 rfl rfl 9 (by decide) (hts (.fieldLink RX9 40 "TowedBack$Water" "onward" "[I") (List.mem_of_getElem? (i := 14) rfl)) (fun _ h9 => h9) rfl hin rfl (tyX9_ok 9 (by decide)) rfl rfl (Nat.le_of_ble_eq_true rfl) dX9_init_69 (fun H locs hP hD hS => ?_)
  have hP : va_P (dC, dI) vwCl ([(h0, .inr (9, [.int 0, .int 0, .int 0, .ref q1, .ref q2, .ref q3, .ref q4, .ref q5, .ref q6, .ref q7, .null])), (q1, .inl (cI, 14, .inl (fun _ => 0))), (q2, .inl (cI, 14, .inl (fun _ => 0))), (q3, .inl (cI, 14, .inl (fun _ => 0))), (q4, .inl (cI, 5, .inl (fun _ => 0))), (q5, .inl (cI, 5, .inl (fun _ => 0))), (q6, .inl (cI, 5, .inl (fun _ => 0))), (q7, .inl (cI, 90, .inl (fun _ => 0)))] : va_W) H := hP
  have hD : va_D (va_A [(h0, .inr (9, [.int 0, .int 0, .int 0, .null, .null, .null, .null, .null, .null, .null, .null]))] s.heap.size) ([(h0, .inr (9, [.int 0, .int 0, .int 0, .ref q1, .ref q2, .ref q3, .ref q4, .ref q5, .ref q6, .ref q7, .null])), (q1, .inl (cI, 14, .inl (fun _ => 0))), (q2, .inl (cI, 14, .inl (fun _ => 0))), (q3, .inl (cI, 14, .inl (fun _ => 0))), (q4, .inl (cI, 5, .inl (fun _ => 0))), (q5, .inl (cI, 5, .inl (fun _ => 0))), (q6, .inl (cI, 5, .inl (fun _ => 0))), (q7, .inl (cI, 90, .inl (fun _ => 0)))] : va_W) := hD
  refine lv_aload_n hx hb dX9_init_72 rfl (lv_at hl 0 rfl) ?_
  refine lv_bipush (v := 90) hx hb dX9_init_73 (by decide) ?_
  refine k_newI hx hb (hts (.arrayClass .int) (List.mem_of_getElem? (i := 7) rfl)) hK hP hD hS hA 90 (by decide) (by decide) (by decide) (Nat.le_of_ble_eq_true rfl) (Nat.le_of_ble_eq_true rfl) dX9_init_75 (fun q8 H hP hD hS => ?_)
  have hP : va_P (dC, dI) vwCl ([(h0, .inr (9, [.int 0, .int 0, .int 0, .ref q1, .ref q2, .ref q3, .ref q4, .ref q5, .ref q6, .ref q7, .null])), (q1, .inl (cI, 14, .inl (fun _ => 0))), (q2, .inl (cI, 14, .inl (fun _ => 0))), (q3, .inl (cI, 14, .inl (fun _ => 0))), (q4, .inl (cI, 5, .inl (fun _ => 0))), (q5, .inl (cI, 5, .inl (fun _ => 0))), (q6, .inl (cI, 5, .inl (fun _ => 0))), (q7, .inl (cI, 90, .inl (fun _ => 0))), (q8, .inl (cI, 90, .inl (fun _ => 0)))] : va_W) H := hP
  have hD : va_D (va_A [(h0, .inr (9, [.int 0, .int 0, .int 0, .null, .null, .null, .null, .null, .null, .null, .null]))] s.heap.size) ([(h0, .inr (9, [.int 0, .int 0, .int 0, .ref q1, .ref q2, .ref q3, .ref q4, .ref q5, .ref q6, .ref q7, .null])), (q1, .inl (cI, 14, .inl (fun _ => 0))), (q2, .inl (cI, 14, .inl (fun _ => 0))), (q3, .inl (cI, 14, .inl (fun _ => 0))), (q4, .inl (cI, 5, .inl (fun _ => 0))), (q5, .inl (cI, 5, .inl (fun _ => 0))), (q6, .inl (cI, 5, .inl (fun _ => 0))), (q7, .inl (cI, 90, .inl (fun _ => 0))), (q8, .inl (cI, 90, .inl (fun _ => 0)))] : va_W) := hD
  refine va_putF (D := (dC, dI)) (ci := 9) (v := .ref q8) (ty := tyX9 10) (C := RX9) (T := TX9) (N := 11) hx hb hts hin9 tyX9 tyX9_ok nmX9 hown hK hP hD hS 0 rfl rfl 10 (by decide) (hts (.fieldLink RX9 43 "TowedBack$Water" "onwardHard" "[I") (List.mem_of_getElem? (i := 15) rfl)) (fun _ h9 => h9) rfl hin rfl (tyX9_ok 10 (by decide)) rfl rfl (Nat.le_of_ble_eq_true rfl) dX9_init_77 (fun H locs hP hD hS => ?_)
  have hP : va_P (dC, dI) vwCl ([(h0, .inr (9, [.int 0, .int 0, .int 0, .ref q1, .ref q2, .ref q3, .ref q4, .ref q5, .ref q6, .ref q7, .ref q8])), (q1, .inl (cI, 14, .inl (fun _ => 0))), (q2, .inl (cI, 14, .inl (fun _ => 0))), (q3, .inl (cI, 14, .inl (fun _ => 0))), (q4, .inl (cI, 5, .inl (fun _ => 0))), (q5, .inl (cI, 5, .inl (fun _ => 0))), (q6, .inl (cI, 5, .inl (fun _ => 0))), (q7, .inl (cI, 90, .inl (fun _ => 0))), (q8, .inl (cI, 90, .inl (fun _ => 0)))] : va_W) H := hP
  have hD : va_D (va_A [(h0, .inr (9, [.int 0, .int 0, .int 0, .null, .null, .null, .null, .null, .null, .null, .null]))] s.heap.size) ([(h0, .inr (9, [.int 0, .int 0, .int 0, .ref q1, .ref q2, .ref q3, .ref q4, .ref q5, .ref q6, .ref q7, .ref q8])), (q1, .inl (cI, 14, .inl (fun _ => 0))), (q2, .inl (cI, 14, .inl (fun _ => 0))), (q3, .inl (cI, 14, .inl (fun _ => 0))), (q4, .inl (cI, 5, .inl (fun _ => 0))), (q5, .inl (cI, 5, .inl (fun _ => 0))), (q6, .inl (cI, 5, .inl (fun _ => 0))), (q7, .inl (cI, 90, .inl (fun _ => 0))), (q8, .inl (cI, 90, .inl (fun _ => 0)))] : va_W) := hD
  have hP9 := hP.sub (ws' := (wd_tWater cI cZ ((((fun _ => (fun k => match k with | 0 => h0 | 1 => q1 | 2 => q2 | 3 => q3 | 4 => q4 | 5 => q5 | 6 => q6 | 7 => q7 | _ => q8)), 0) : (Nat → Nat → Nat) × Nat).1 0) 0 0 0 (fun _ => 0) (fun _ => 0) (fun _ => 0) (fun _ => 0) (fun _ => 0) (fun _ => 0) (fun _ => 0) (fun _ => 0))) [0, 1, 2, 3, 4, 5, 6, 7, 8] rfl
  have hD9 := hD.sub (ws' := (wd_tWater cI cZ ((((fun _ => (fun k => match k with | 0 => h0 | 1 => q1 | 2 => q2 | 3 => q3 | 4 => q4 | 5 => q5 | 6 => q6 | 7 => q7 | _ => q8)), 0) : (Nat → Nat → Nat) × Nat).1 0) 0 0 0 (fun _ => 0) (fun _ => 0) (fun _ => 0) (fun _ => 0) (fun _ => 0) (fun _ => 0) (fun _ => 0) (fun _ => 0))) [0, 1, 2, 3, 4, 5, 6, 7, 8] (by decide +kernel) rfl
  refine W.widen (k := 8) (n := 237) (Nat.le_of_ble_eq_true rfl) (Nat.le_of_ble_eq_true rfl) ?_
  exact W.vret hx hb hr (fun t ht hW => ⟨⟨(((fun _ => (fun k => match k with | 0 => h0 | 1 => q1 | 2 => q2 | 3 => q3 | 4 => q4 | 5 => q5 | 6 => q6 | 7 => q7 | _ => q8)), 0) : (Nat → Nat → Nat) × Nat), rfl, rfl, by rw [ht]; exact hP9, hD9⟩, hS.F ht⟩) hS.2.2 dX9_init_80
set_option maxHeartbeats 4000000 in
set_option maxRecDepth 100000 in
theorem c_Way_init (l : Launch) (dC : Nat → ClassId) (dI : Nat → Nat → Nat) (cI cZ : ClassId) (h0 : Nat) : MN l yX10_init wsX10_init ({ frames := 1, cells := 2, slots := 404, locals := 12 }) (dC, dI) [(cI, .int), (cZ, .boolean)] (h0, .inr (10, [.null, .null, .int 0])) [] (fun u : (Nat → Nat → Nat) × Nat => (wd_tWay cI cZ (u.1 0) (fun _ => 0) (fun _ => 0) 0)) (fun u : (Nat → Nat → Nat) × Nat => h0 = u.1 0 0) 2 404 := by
  intro sz
  refine Met.ofW (cc := cX10_init) (maxL := 1) (ret := none) (by decide) rfl ?_
  intro p e s m args below meth c s₁ B hml hv
  obtain ⟨rfl, hsz, hP, hK, hD0⟩ := hv
  have hx := B.exec
  have hb := B.bytes
  have hr := B.returns
  have hts := atoms_spec (ws := wsX10_init) B.pre
  have hown : s.vm.findClass RX10 = some m.cls := findClass_of_methodNamed B.named
  have hlocks := B.notSynchronized
  have hin : meth.name = "<init>" := (name_of_methodNamed B.named B.method).1
  subst hsz
  have hD := hD0.self (sz := s.heap.size)
  have hA : ∀ q : Nat, s.heap.size ≤ q → va_A [(h0, .inr (10, [.null, .null, .int 0]))] s.heap.size q := fun q h => Or.inr h
  have hS : va_S (va_A [(h0, .inr (10, [.null, .null, .int 0]))] s.heap.size) s.heap s.heap [] := va_S.rf
  have hP : va_P (dC, dI) vwCl ([(h0, .inr (10, [.null, .null, .int 0]))] : va_W) s.heap := hP
  have hin10 : ∀ w ∈ u_ws RX10 TX10 3, w ∈ wsX10_init := fun w h => List.mem_cons_of_mem _ (List.mem_append_right _ h)
  have hl := lv_entry ([.ref h0]) (n := 1) (Nat.le_of_ble_eq_true rfl)
  rw [lg_entry_eq]
  generalize (lg_sl ([.ref h0]) ++ List.replicate (1 - (lg_sl ([.ref h0])).length) Slot.unset).toArray = ls at hl ⊢
  have hl : lv_has ls 1 [(0, .ref h0)] := hl
  refine lv_aload_n hx hb dX10_init_0 rfl (lv_at hl 0 rfl) ?_
  refine W.objInit hx hb hown (hts (.methodLink RX10 3 objectInit) (List.mem_of_getElem? (i := 1) rfl)) (hts (.instanceMethod objectInit) (List.mem_of_getElem? (i := 2) rfl)) (hts (.code objectInit ⟨#[0xb1]⟩ 1 none) (List.mem_of_getElem? (i := 3) rfl)) rfl (by rw [hml]; exact hl.1) rfl dX10_init_1 (Nat.le_of_ble_eq_true rfl) (Nat.le_of_ble_eq_true rfl) ?_
  refine W.eq (g2 := F0 m 4 ls []) rfl ?_
  refine lv_aload_n hx hb dX10_init_4 rfl (lv_at hl 0 rfl) ?_
  refine lv_sipush (v := 202) hx hb dX10_init_5 (by decide) ?_
  refine k_newI hx hb (hts (.arrayClass .int) (List.mem_of_getElem? (i := 4) rfl)) hK hP hD hS hA 202 (by decide) (by decide) (by decide) (Nat.le_of_ble_eq_true rfl) (Nat.le_of_ble_eq_true rfl) dX10_init_8 (fun q1 H hP hD hS => ?_)
  have hP : va_P (dC, dI) vwCl ([(h0, .inr (10, [.null, .null, .int 0])), (q1, .inl (cI, 202, .inl (fun _ => 0)))] : va_W) H := hP
  have hD : va_D (va_A [(h0, .inr (10, [.null, .null, .int 0]))] s.heap.size) ([(h0, .inr (10, [.null, .null, .int 0])), (q1, .inl (cI, 202, .inl (fun _ => 0)))] : va_W) := hD
  refine va_putF (D := (dC, dI)) (ci := 10) (v := .ref q1) (ty := tyX10 0) (C := RX10) (T := TX10) (N := 3) hx hb hts hin10 tyX10 tyX10_ok nmX10 hown hK hP hD hS 0 rfl rfl 0 (by decide) (hts (.fieldLink RX10 11 "TowedBack$Way" "places" "[I") (List.mem_of_getElem? (i := 5) rfl)) (fun _ h9 => h9) rfl hin rfl (tyX10_ok 0 (by decide)) rfl rfl (Nat.le_of_ble_eq_true rfl) dX10_init_10 (fun H locs hP hD hS => ?_)
  have hP : va_P (dC, dI) vwCl ([(h0, .inr (10, [.ref q1, .null, .int 0])), (q1, .inl (cI, 202, .inl (fun _ => 0)))] : va_W) H := hP
  have hD : va_D (va_A [(h0, .inr (10, [.null, .null, .int 0]))] s.heap.size) ([(h0, .inr (10, [.ref q1, .null, .int 0])), (q1, .inl (cI, 202, .inl (fun _ => 0)))] : va_W) := hD
  refine lv_aload_n hx hb dX10_init_13 rfl (lv_at hl 0 rfl) ?_
  refine lv_sipush (v := 202) hx hb dX10_init_14 (by decide) ?_
  refine k_newI hx hb (hts (.arrayClass .int) (List.mem_of_getElem? (i := 4) rfl)) hK hP hD hS hA 202 (by decide) (by decide) (by decide) (Nat.le_of_ble_eq_true rfl) (Nat.le_of_ble_eq_true rfl) dX10_init_17 (fun q2 H hP hD hS => ?_)
  have hP : va_P (dC, dI) vwCl ([(h0, .inr (10, [.ref q1, .null, .int 0])), (q1, .inl (cI, 202, .inl (fun _ => 0))), (q2, .inl (cI, 202, .inl (fun _ => 0)))] : va_W) H := hP
  have hD : va_D (va_A [(h0, .inr (10, [.null, .null, .int 0]))] s.heap.size) ([(h0, .inr (10, [.ref q1, .null, .int 0])), (q1, .inl (cI, 202, .inl (fun _ => 0))), (q2, .inl (cI, 202, .inl (fun _ => 0)))] : va_W) := hD
  refine va_putF (D := (dC, dI)) (ci := 10) (v := .ref q2) (ty := tyX10 1) (C := RX10) (T := TX10) (N := 3) hx hb hts hin10 tyX10 tyX10_ok nmX10 hown hK hP hD hS 0 rfl rfl 1 (by decide) (hts (.fieldLink RX10 15 "TowedBack$Way" "needs" "[I") (List.mem_of_getElem? (i := 6) rfl)) (fun _ h9 => h9) rfl hin rfl (tyX10_ok 1 (by decide)) rfl rfl (Nat.le_of_ble_eq_true rfl) dX10_init_19 (fun H locs hP hD hS => ?_)
  have hP : va_P (dC, dI) vwCl ([(h0, .inr (10, [.ref q1, .ref q2, .int 0])), (q1, .inl (cI, 202, .inl (fun _ => 0))), (q2, .inl (cI, 202, .inl (fun _ => 0)))] : va_W) H := hP
  have hD : va_D (va_A [(h0, .inr (10, [.null, .null, .int 0]))] s.heap.size) ([(h0, .inr (10, [.ref q1, .ref q2, .int 0])), (q1, .inl (cI, 202, .inl (fun _ => 0))), (q2, .inl (cI, 202, .inl (fun _ => 0)))] : va_W) := hD
  refine lv_aload_n hx hb dX10_init_22 rfl (lv_at hl 0 rfl) ?_
  refine lv_iconst (v := 0) hx hb dX10_init_23 (by decide) ?_
  refine va_put (D := (dC, dI)) (ci := 10) (v := .int 0) (ty := tyX10 2) (C := RX10) (T := TX10) (N := 3) hx hb hts hin10 tyX10 tyX10_ok nmX10 hown hK hP hD hS 0 rfl rfl 2 (by decide) (hts (.fieldLink RX10 18 "TowedBack$Way" "last" "I") (List.mem_of_getElem? (i := 7) rfl)) (fun _ h9 => h9) rfl (tyX10_ok 2 (by decide)) rfl rfl (Nat.le_of_ble_eq_true rfl) dX10_init_24 (fun H locs hP hD hS => ?_)
  have hP : va_P (dC, dI) vwCl ([(h0, .inr (10, [.ref q1, .ref q2, .int 0])), (q1, .inl (cI, 202, .inl (fun _ => 0))), (q2, .inl (cI, 202, .inl (fun _ => 0)))] : va_W) H := hP
  have hD : va_D (va_A [(h0, .inr (10, [.null, .null, .int 0]))] s.heap.size) ([(h0, .inr (10, [.ref q1, .ref q2, .int 0])), (q1, .inl (cI, 202, .inl (fun _ => 0))), (q2, .inl (cI, 202, .inl (fun _ => 0)))] : va_W) := hD
  have hP9 := hP.sub (ws' := (wd_tWay cI cZ ((((fun _ => (fun k => match k with | 0 => h0 | 1 => q1 | _ => q2)), 0) : (Nat → Nat → Nat) × Nat).1 0) (fun _ => 0) (fun _ => 0) 0)) [0, 1, 2] rfl
  have hD9 := hD.sub (ws' := (wd_tWay cI cZ ((((fun _ => (fun k => match k with | 0 => h0 | 1 => q1 | _ => q2)), 0) : (Nat → Nat → Nat) × Nat).1 0) (fun _ => 0) (fun _ => 0) 0)) [0, 1, 2] (by decide +kernel) rfl
  refine W.widen (k := 2) (n := 404) (Nat.le_of_ble_eq_true rfl) (Nat.le_of_ble_eq_true rfl) ?_
  exact W.vret hx hb hr (fun t ht hW => ⟨⟨(((fun _ => (fun k => match k with | 0 => h0 | 1 => q1 | _ => q2)), 0) : (Nat → Nat → Nat) × Nat), rfl, rfl, by rw [ht]; exact hP9, hD9⟩, hS.F ht⟩) hS.2.2 dX10_init_27
set_option maxHeartbeats 4000000 in
set_option maxRecDepth 100000 in
theorem c_Bands_init (l : Launch) (dC : Nat → ClassId) (dI : Nat → Nat → Nat) (cI cZ : ClassId) (h0 : Nat) : MN l yX0_init wsX0_init ({ frames := 1, cells := 3, slots := 71, locals := 12 }) (dC, dI) [(cI, .int), (cZ, .boolean)] (h0, .inr (0, [.null, .null, .null])) [] (fun u : (Nat → Nat → Nat) × Nat => (wd_tBands cI cZ (u.1 0) (fun _ => 0) (fun _ => 0) (fun _ => 0))) (fun u : (Nat → Nat → Nat) × Nat => h0 = u.1 0 0) 3 71 := by
  intro sz
  refine Met.ofW (cc := cX0_init) (maxL := 1) (ret := none) (by decide) rfl ?_
  intro p e s m args below meth c s₁ B hml hv
  obtain ⟨rfl, hsz, hP, hK, hD0⟩ := hv
  have hx := B.exec
  have hb := B.bytes
  have hr := B.returns
  have hts := atoms_spec (ws := wsX0_init) B.pre
  have hown : s.vm.findClass RX0 = some m.cls := findClass_of_methodNamed B.named
  have hlocks := B.notSynchronized
  have hin : meth.name = "<init>" := (name_of_methodNamed B.named B.method).1
  subst hsz
  have hD := hD0.self (sz := s.heap.size)
  have hA : ∀ q : Nat, s.heap.size ≤ q → va_A [(h0, .inr (0, [.null, .null, .null]))] s.heap.size q := fun q h => Or.inr h
  have hS : va_S (va_A [(h0, .inr (0, [.null, .null, .null]))] s.heap.size) s.heap s.heap [] := va_S.rf
  have hP : va_P (dC, dI) vwCl ([(h0, .inr (0, [.null, .null, .null]))] : va_W) s.heap := hP
  have hin0 : ∀ w ∈ u_ws RX0 TX0 3, w ∈ wsX0_init := fun w h => List.mem_cons_of_mem _ (List.mem_append_right _ h)
  have hl := lv_entry ([.ref h0]) (n := 1) (Nat.le_of_ble_eq_true rfl)
  rw [lg_entry_eq]
  generalize (lg_sl ([.ref h0]) ++ List.replicate (1 - (lg_sl ([.ref h0])).length) Slot.unset).toArray = ls at hl ⊢
  have hl : lv_has ls 1 [(0, .ref h0)] := hl
  refine lv_aload_n hx hb dX0_init_0 rfl (lv_at hl 0 rfl) ?_
  refine W.objInit hx hb hown (hts (.methodLink RX0 3 objectInit) (List.mem_of_getElem? (i := 1) rfl)) (hts (.instanceMethod objectInit) (List.mem_of_getElem? (i := 2) rfl)) (hts (.code objectInit ⟨#[0xb1]⟩ 1 none) (List.mem_of_getElem? (i := 3) rfl)) rfl (by rw [hml]; exact hl.1) rfl dX0_init_1 (Nat.le_of_ble_eq_true rfl) (Nat.le_of_ble_eq_true rfl) ?_
  refine W.eq (g2 := F0 m 4 ls []) rfl ?_
  refine lv_aload_n hx hb dX0_init_4 rfl (lv_at hl 0 rfl) ?_
  refine lv_bipush (v := 31) hx hb dX0_init_5 (by decide) ?_
  refine k_newI hx hb (hts (.arrayClass .int) (List.mem_of_getElem? (i := 4) rfl)) hK hP hD hS hA 31 (by decide) (by decide) (by decide) (Nat.le_of_ble_eq_true rfl) (Nat.le_of_ble_eq_true rfl) dX0_init_7 (fun q1 H hP hD hS => ?_)
  have hP : va_P (dC, dI) vwCl ([(h0, .inr (0, [.null, .null, .null])), (q1, .inl (cI, 31, .inl (fun _ => 0)))] : va_W) H := hP
  have hD : va_D (va_A [(h0, .inr (0, [.null, .null, .null]))] s.heap.size) ([(h0, .inr (0, [.null, .null, .null])), (q1, .inl (cI, 31, .inl (fun _ => 0)))] : va_W) := hD
  refine va_putF (D := (dC, dI)) (ci := 0) (v := .ref q1) (ty := tyX0 0) (C := RX0) (T := TX0) (N := 3) hx hb hts hin0 tyX0 tyX0_ok nmX0 hown hK hP hD hS 0 rfl rfl 0 (by decide) (hts (.fieldLink RX0 11 "TowedBack$Bands" "lows" "[I") (List.mem_of_getElem? (i := 5) rfl)) (fun _ h9 => h9) rfl hin rfl (tyX0_ok 0 (by decide)) rfl rfl (Nat.le_of_ble_eq_true rfl) dX0_init_9 (fun H locs hP hD hS => ?_)
  have hP : va_P (dC, dI) vwCl ([(h0, .inr (0, [.ref q1, .null, .null])), (q1, .inl (cI, 31, .inl (fun _ => 0)))] : va_W) H := hP
  have hD : va_D (va_A [(h0, .inr (0, [.null, .null, .null]))] s.heap.size) ([(h0, .inr (0, [.ref q1, .null, .null])), (q1, .inl (cI, 31, .inl (fun _ => 0)))] : va_W) := hD
  refine lv_aload_n hx hb dX0_init_12 rfl (lv_at hl 0 rfl) ?_
  refine lv_bipush (v := 31) hx hb dX0_init_13 (by decide) ?_
  refine k_newI hx hb (hts (.arrayClass .int) (List.mem_of_getElem? (i := 4) rfl)) hK hP hD hS hA 31 (by decide) (by decide) (by decide) (Nat.le_of_ble_eq_true rfl) (Nat.le_of_ble_eq_true rfl) dX0_init_15 (fun q2 H hP hD hS => ?_)
  have hP : va_P (dC, dI) vwCl ([(h0, .inr (0, [.ref q1, .null, .null])), (q1, .inl (cI, 31, .inl (fun _ => 0))), (q2, .inl (cI, 31, .inl (fun _ => 0)))] : va_W) H := hP
  have hD : va_D (va_A [(h0, .inr (0, [.null, .null, .null]))] s.heap.size) ([(h0, .inr (0, [.ref q1, .null, .null])), (q1, .inl (cI, 31, .inl (fun _ => 0))), (q2, .inl (cI, 31, .inl (fun _ => 0)))] : va_W) := hD
  refine va_putF (D := (dC, dI)) (ci := 0) (v := .ref q2) (ty := tyX0 1) (C := RX0) (T := TX0) (N := 3) hx hb hts hin0 tyX0 tyX0_ok nmX0 hown hK hP hD hS 0 rfl rfl 1 (by decide) (hts (.fieldLink RX0 15 "TowedBack$Bands" "sizes" "[I") (List.mem_of_getElem? (i := 6) rfl)) (fun _ h9 => h9) rfl hin rfl (tyX0_ok 1 (by decide)) rfl rfl (Nat.le_of_ble_eq_true rfl) dX0_init_17 (fun H locs hP hD hS => ?_)
  have hP : va_P (dC, dI) vwCl ([(h0, .inr (0, [.ref q1, .ref q2, .null])), (q1, .inl (cI, 31, .inl (fun _ => 0))), (q2, .inl (cI, 31, .inl (fun _ => 0)))] : va_W) H := hP
  have hD : va_D (va_A [(h0, .inr (0, [.null, .null, .null]))] s.heap.size) ([(h0, .inr (0, [.ref q1, .ref q2, .null])), (q1, .inl (cI, 31, .inl (fun _ => 0))), (q2, .inl (cI, 31, .inl (fun _ => 0)))] : va_W) := hD
  refine lv_aload_n hx hb dX0_init_20 rfl (lv_at hl 0 rfl) ?_
  refine lv_bipush (v := 9) hx hb dX0_init_21 (by decide) ?_
  refine k_newI hx hb (hts (.arrayClass .int) (List.mem_of_getElem? (i := 4) rfl)) hK hP hD hS hA 9 (by decide) (by decide) (by decide) (Nat.le_of_ble_eq_true rfl) (Nat.le_of_ble_eq_true rfl) dX0_init_23 (fun q3 H hP hD hS => ?_)
  have hP : va_P (dC, dI) vwCl ([(h0, .inr (0, [.ref q1, .ref q2, .null])), (q1, .inl (cI, 31, .inl (fun _ => 0))), (q2, .inl (cI, 31, .inl (fun _ => 0))), (q3, .inl (cI, 9, .inl (fun _ => 0)))] : va_W) H := hP
  have hD : va_D (va_A [(h0, .inr (0, [.null, .null, .null]))] s.heap.size) ([(h0, .inr (0, [.ref q1, .ref q2, .null])), (q1, .inl (cI, 31, .inl (fun _ => 0))), (q2, .inl (cI, 31, .inl (fun _ => 0))), (q3, .inl (cI, 9, .inl (fun _ => 0)))] : va_W) := hD
  refine va_putF (D := (dC, dI)) (ci := 0) (v := .ref q3) (ty := tyX0 2) (C := RX0) (T := TX0) (N := 3) hx hb hts hin0 tyX0 tyX0_ok nmX0 hown hK hP hD hS 0 rfl rfl 2 (by decide) (hts (.fieldLink RX0 18 "TowedBack$Bands" "parts" "[I") (List.mem_of_getElem? (i := 7) rfl)) (fun _ h9 => h9) rfl hin rfl (tyX0_ok 2 (by decide)) rfl rfl (Nat.le_of_ble_eq_true rfl) dX0_init_25 (fun H locs hP hD hS => ?_)
  have hP : va_P (dC, dI) vwCl ([(h0, .inr (0, [.ref q1, .ref q2, .ref q3])), (q1, .inl (cI, 31, .inl (fun _ => 0))), (q2, .inl (cI, 31, .inl (fun _ => 0))), (q3, .inl (cI, 9, .inl (fun _ => 0)))] : va_W) H := hP
  have hD : va_D (va_A [(h0, .inr (0, [.null, .null, .null]))] s.heap.size) ([(h0, .inr (0, [.ref q1, .ref q2, .ref q3])), (q1, .inl (cI, 31, .inl (fun _ => 0))), (q2, .inl (cI, 31, .inl (fun _ => 0))), (q3, .inl (cI, 9, .inl (fun _ => 0)))] : va_W) := hD
  have hP9 := hP.sub (ws' := (wd_tBands cI cZ ((((fun _ => (fun k => match k with | 0 => h0 | 1 => q1 | 2 => q2 | _ => q3)), 0) : (Nat → Nat → Nat) × Nat).1 0) (fun _ => 0) (fun _ => 0) (fun _ => 0))) [0, 1, 2, 3] rfl
  have hD9 := hD.sub (ws' := (wd_tBands cI cZ ((((fun _ => (fun k => match k with | 0 => h0 | 1 => q1 | 2 => q2 | _ => q3)), 0) : (Nat → Nat → Nat) × Nat).1 0) (fun _ => 0) (fun _ => 0) (fun _ => 0))) [0, 1, 2, 3] (by decide +kernel) rfl
  refine W.widen (k := 3) (n := 71) (Nat.le_of_ble_eq_true rfl) (Nat.le_of_ble_eq_true rfl) ?_
  exact W.vret hx hb hr (fun t ht hW => ⟨⟨(((fun _ => (fun k => match k with | 0 => h0 | 1 => q1 | 2 => q2 | _ => q3)), 0) : (Nat → Nat → Nat) × Nat), rfl, rfl, by rw [ht]; exact hP9, hD9⟩, hS.F ht⟩) hS.2.2 dX0_init_28
