set_option maxHeartbeats 4000000 in
set_option maxRecDepth 100000 in
theorem c_Fleet_advanceAll (l : Launch) (dC : Nat → ClassId) (dI : Nat → Nat → Nat) (cI cZ : ClassId) (a_t a_on : Nat → Nat) (i_t_row : Nat → Int32) (on_junctions : Int32) (on_cuts : Int32) (on_boats : Int32) (on_cutA : Nat → Int32) (on_cutB : Nat → Int32) (on_cutHard : Nat → Int32) (on_boatAt : Nat → Int32) (on_boatPull : Nat → Int32) (on_boatWear : Nat → Int32) (on_onward : Nat → Int32) (on_onwardHard : Nat → Int32)  (o_t_row : Nat → Int32) (h : m_Fleet_advanceAll i_t_row on_boats on_boatWear on_onward on_onwardHard = some o_t_row) : (MV l yX4_advanceAll wsX4_advanceAll ({ frames := 4, cells := 0, slots := 0, locals := 90 }) (dC, dI) [(cI, .int), (cZ, .boolean)] (wd_tFleet_onWater cI cZ a_t a_on i_t_row on_junctions on_cuts on_boats on_cutA on_cutB on_cutHard on_boatAt on_boatPull on_boatWear on_onward on_onwardHard) (wd_tFleet_onWater cI cZ a_t a_on o_t_row on_junctions on_cuts on_boats on_cutA on_cutB on_cutHard on_boatAt on_boatPull on_boatWear on_onward on_onwardHard) [.ref (a_t 0), .ref (a_on 0)]) := by
  intro sz
  refine Met.ofW (cc := cX4_advanceAll) (maxL := 3) (ret := none) (by decide) rfl ?_
  intro p e s m args below meth c s₁ B hml hv
  obtain ⟨rfl, hsz, hP, hK, hD0⟩ := hv
  have hx := B.exec
  have hb := B.bytes
  have hr := B.returns
  have hts := atoms_spec (ws := wsX4_advanceAll) B.pre
  have hown : s.vm.findClass RX4 = some m.cls := findClass_of_methodNamed B.named
  have hlocks := B.notSynchronized
  subst hsz
  have hD := hD0.self (sz := s.heap.size)
  have hA : ∀ q : Nat, s.heap.size ≤ q → va_A (wd_tFleet_onWater cI cZ a_t a_on i_t_row on_junctions on_cuts on_boats on_cutA on_cutB on_cutHard on_boatAt on_boatPull on_boatWear on_onward on_onwardHard) s.heap.size q := fun q h => Or.inr h
  have hS : va_S (va_A (wd_tFleet_onWater cI cZ a_t a_on i_t_row on_junctions on_cuts on_boats on_cutA on_cutB on_cutHard on_boatAt on_boatPull on_boatWear on_onward on_onwardHard) s.heap.size) s.heap s.heap [] := va_S.rf
  have hin4 : ∀ w ∈ u_ws RX4 TX4 1, w ∈ wsX4_advanceAll := fun w h => List.mem_cons_of_mem _ (List.mem_append_right _ h)
  have hin9 : ∀ w ∈ u_ws RX9 TX9 11, w ∈ wsX4_advanceAll := fun w h => List.mem_cons_of_mem _ (List.mem_append_left _ (List.mem_append_right _ h))
  have hl := lv_entry ([.ref (a_t 0), .ref (a_on 0)]) (n := 3) (Nat.le_of_ble_eq_true rfl)
  rw [lg_entry_eq]
  generalize (lg_sl ([.ref (a_t 0), .ref (a_on 0)]) ++ List.replicate (3 - (lg_sl ([.ref (a_t 0), .ref (a_on 0)])).length) Slot.unset).toArray = ls at hl ⊢
  have hl : lv_has ls 3 [(0, .ref (a_t 0)), (1, .ref (a_on 0))] := hl
  have J22 : ∀  (t_row : Nat → Int32) (H : Heap) (locs : List Loc) (ls : Array Slot), va_P (dC, dI) vwCl (wd_tFleet_onWater cI cZ a_t a_on t_row on_junctions on_cuts on_boats on_cutA on_cutB on_cutHard on_boatAt on_boatPull on_boatWear on_onward on_onwardHard) H → va_D (va_A (wd_tFleet_onWater cI cZ a_t a_on i_t_row on_junctions on_cuts on_boats on_cutA on_cutB on_cutHard on_boatAt on_boatPull on_boatWear on_onward on_onwardHard) s.heap.size) (wd_tFleet_onWater cI cZ a_t a_on t_row on_junctions on_cuts on_boats on_cutA on_cutB on_cutHard on_boatAt on_boatPull on_boatWear on_onward on_onwardHard) → va_S (va_A (wd_tFleet_onWater cI cZ a_t a_on i_t_row on_junctions on_cuts on_boats on_cutA on_cutB on_cutHard on_boatAt on_boatPull on_boatWear on_onward on_onwardHard) s.heap.size) s.heap H locs → lv_has ls 3 [(0, .ref (a_t 0))] → m_Fleet_advanceAll_B22  t_row on_boats on_boatWear on_onward on_onwardHard = some o_t_row → W p l e (headSpec wsX4_advanceAll ({ frames := 4, cells := 0, slots := 0, locals := 90 })).room s m ([.ref (a_t 0), .ref (a_on 0)] : List Value).toArray below meth c H locs 0 0 (MQ below (cQv (dC, dI) (wd_tFleet_onWater cI cZ a_t a_on i_t_row on_junctions on_cuts on_boats on_cutA on_cutB on_cutHard on_boatAt on_boatPull on_boatWear on_onward on_onwardHard) (wd_tFleet_onWater cI cZ a_t a_on o_t_row on_junctions on_cuts on_boats on_cutA on_cutB on_cutHard on_boatAt on_boatPull on_boatWear on_onward on_onwardHard) s.heap.size) ([.ref (a_t 0), .ref (a_on 0)] : List Value).toArray s 0 0 (va_A (wd_tFleet_onWater cI cZ a_t a_on i_t_row on_junctions on_cuts on_boats on_cutA on_cutB on_cutHard on_boatAt on_boatPull on_boatWear on_onward on_onwardHard) s.heap.size)) (F0 m 22 ls []) := by
    intro t_row H locs ls hP hD hS hl h
    unfold m_Fleet_advanceAll_B22 at h
    refine lv_aload_n hx hb dX4_advanceAll_22 rfl (lv_at hl 0 rfl) ?_
    refine va_get (D := (dC, dI)) (ci := 4) (v := .ref (a_t 1)) (C := RX4) (T := TX4) (N := 1) hx hb hts hin4 hown hK hP 0 rfl rfl 0 (by decide) (hts (.fieldLink RX4 11 "TowedBack$Fleet" "row" "[I") (List.mem_of_getElem? (i := 2) rfl)) (fun _ h9 => h9) rfl dX4_advanceAll_23 ?_
    refine lv_bipush (v := 20) hx hb dX4_advanceAll_26 (by decide) ?_
    refine lv_dup2_11 hx hb dX4_advanceAll_28 rfl rfl ?_
    obtain ⟨hi1, h⟩ := kg_some h
    refine va_iald hx hb hK hP 1 0 rfl rfl hi1 dX4_advanceAll_29 ?_
    refine lv_iconst (v := 1) hx hb dX4_advanceAll_30 (by decide) ?_
    refine lv_iadd hx hb dX4_advanceAll_31 ?_
    obtain ⟨hi2, h⟩ := kg_some h
    refine va_iast hx hb hK hP hD hS 1 0 rfl rfl hi2 dX4_advanceAll_32 (fun H locs hP hD hS => ?_)
    have hP : va_P (dC, dI) vwCl (wd_tFleet_onWater cI cZ a_t a_on (upd t_row (20 : Int32).toNatClampNeg ((t_row (20 : Int32).toNatClampNeg) + 1)) on_junctions on_cuts on_boats on_cutA on_cutB on_cutHard on_boatAt on_boatPull on_boatWear on_onward on_onwardHard) H := hP
    have hD : va_D (va_A (wd_tFleet_onWater cI cZ a_t a_on i_t_row on_junctions on_cuts on_boats on_cutA on_cutB on_cutHard on_boatAt on_boatPull on_boatWear on_onward on_onwardHard) s.heap.size) (wd_tFleet_onWater cI cZ a_t a_on (upd t_row (20 : Int32).toNatClampNeg ((t_row (20 : Int32).toNatClampNeg) + 1)) on_junctions on_cuts on_boats on_cutA on_cutB on_cutHard on_boatAt on_boatPull on_boatWear on_onward on_onwardHard) := hD
    obtain rfl := k_in1 h
    exact k_rv hx hb hr hlocks hP hS dX4_advanceAll_33
  have L2 : ∀ (n2 : Nat) (x2 : Int32) (t_row : Nat → Int32) (H : Heap) (locs : List Loc) (ls : Array Slot), va_P (dC, dI) vwCl (wd_tFleet_onWater cI cZ a_t a_on t_row on_junctions on_cuts on_boats on_cutA on_cutB on_cutHard on_boatAt on_boatPull on_boatWear on_onward on_onwardHard) H → va_D (va_A (wd_tFleet_onWater cI cZ a_t a_on i_t_row on_junctions on_cuts on_boats on_cutA on_cutB on_cutHard on_boatAt on_boatPull on_boatWear on_onward on_onwardHard) s.heap.size) (wd_tFleet_onWater cI cZ a_t a_on t_row on_junctions on_cuts on_boats on_cutA on_cutB on_cutHard on_boatAt on_boatPull on_boatWear on_onward on_onwardHard) → va_S (va_A (wd_tFleet_onWater cI cZ a_t a_on i_t_row on_junctions on_cuts on_boats on_cutA on_cutB on_cutHard on_boatAt on_boatPull on_boatWear on_onward on_onwardHard) s.heap.size) s.heap H locs → lv_has ls 3 [(0, .ref (a_t 0)), (1, .ref (a_on 0)), (2, .int x2)] → m_Fleet_advanceAll_L2  n2 x2 t_row on_boats on_boatWear on_onward on_onwardHard = some o_t_row → W p l e (headSpec wsX4_advanceAll ({ frames := 4, cells := 0, slots := 0, locals := 90 })).room s m ([.ref (a_t 0), .ref (a_on 0)] : List Value).toArray below meth c H locs 0 0 (MQ below (cQv (dC, dI) (wd_tFleet_onWater cI cZ a_t a_on i_t_row on_junctions on_cuts on_boats on_cutA on_cutB on_cutHard on_boatAt on_boatPull on_boatWear on_onward on_onwardHard) (wd_tFleet_onWater cI cZ a_t a_on o_t_row on_junctions on_cuts on_boats on_cutA on_cutB on_cutHard on_boatAt on_boatPull on_boatWear on_onward on_onwardHard) s.heap.size) ([.ref (a_t 0), .ref (a_on 0)] : List Value).toArray s 0 0 (va_A (wd_tFleet_onWater cI cZ a_t a_on i_t_row on_junctions on_cuts on_boats on_cutA on_cutB on_cutHard on_boatAt on_boatPull on_boatWear on_onward on_onwardHard) s.heap.size)) (F0 m 2 ls []) := by
    intro n2
    induction n2 with
    | zero => intro x2 t_row H locs ls hP hD hS hl h; have h : none = some o_t_row := h; cases h
    | succ n2 ih2 =>
      intro x2 t_row H locs ls hP hD hS hl h
      have h : m_Fleet_advanceAll_B2  (m_Fleet_advanceAll_L2  n2) x2 t_row on_boats on_boatWear on_onward on_onwardHard = some o_t_row := h
      unfold m_Fleet_advanceAll_B2 at h
      refine lv_iload_n hx hb dX4_advanceAll_2 rfl (lv_at hl 2 rfl) ?_
      refine lv_aload_n hx hb dX4_advanceAll_3 rfl (lv_at hl 1 rfl) ?_
      refine va_get (D := (dC, dI)) (ci := 9) (v := .int on_boats) (C := RX9) (T := TX9) (N := 11) hx hb hts hin9 hown hK hP 2 rfl rfl 2 (by decide) (hts (.fieldLink RX4 32 "TowedBack$Water" "boats" "I") (List.mem_of_getElem? (i := 1) rfl)) (fun _ h9 => h9) rfl dX4_advanceAll_4 ?_
      refine lv_icmp_ge (tgt := 22) hx hb dX4_advanceAll_7 (by decide) (fun hc => ?_) (fun hc => ?_)
      · have h := k_pos hc h
        exact J22 t_row _ _ _ hP hD hS (lv_sub hl [0] rfl) h
      · have h := k_neg hc h
        refine lv_aload_n hx hb dX4_advanceAll_10 rfl (lv_at hl 0 rfl) ?_
        refine lv_aload_n hx hb dX4_advanceAll_11 rfl (lv_at hl 1 rfl) ?_
        refine lv_iload_n hx hb dX4_advanceAll_12 rfl (lv_at hl 2 rfl) ?_
        obtain ⟨t_row_3, hc3, h⟩ := kb1_some h
        refine k_FVv (rest := []) (As := [.ref (a_on 0), .int x2]) ⟨hx, hb, hml, hown, hts⟩ (c_Fleet_advance l dC dI cI cZ a_t a_on t_row on_junctions on_cuts on_boats on_cutA on_cutB on_cutHard on_boatAt on_boatPull on_boatWear on_onward on_onwardHard x2 t_row_3 hc3) (cwV 2 hts gX4_advanceAll_X4_advance rfl rfl rfl hd_4_advance ⟨Nat.le_of_ble_eq_true rfl, Nat.le_of_ble_eq_true rfl⟩) hK hP hD hS hA 0 4 rfl rfl rfl (wd_tFleet_onWater_f.trans wd_tFleet_onWater_f.symm) rfl hl.1 rfl (Nat.le_of_ble_eq_true rfl) dX4_advanceAll_13 ⟨Nat.zero_le _, Nat.zero_le _⟩ (fun H locs hP hD hS => ?_)
        refine lv_iinc (v := (x2 + 1)) (lv' := [(2, .int (x2 + 1)), (0, .ref (a_t 0)), (1, .ref (a_on 0))]) hx hb dX4_advanceAll_16 hl (k := 2) rfl rfl (by decide) rfl (fun ls hl => ?_)
        refine lv_goto (tgt := 2) hx hb dX4_advanceAll_19 (by decide) ?_
        exact ih2 (x2 + 1) t_row_3 _ _ _ hP hD hS (lv_sub hl [1, 2, 0] rfl) h
  unfold m_Fleet_advanceAll at h
  refine lv_iconst (v := 0) hx hb dX4_advanceAll_0 (by decide) ?_
  refine lv_istore_n (lv' := [(2, .int 0), (0, .ref (a_t 0)), (1, .ref (a_on 0))]) hx hb dX4_advanceAll_1 rfl hl (by decide) rfl (fun ls hl => ?_)
  exact L2 FU 0 i_t_row _ _ _ hP hD hS (lv_sub hl [1, 2, 0] rfl) h
set_option maxHeartbeats 4000000 in
set_option maxRecDepth 100000 in
theorem c_Fleet_sitting (l : Launch) (dC : Nat → ClassId) (dI : Nat → Nat → Nat) (cI cZ : ClassId) (a_t a_on : Nat → Nat) (t_row : Nat → Int32) (on_junctions : Int32) (on_cuts : Int32) (on_boats : Int32) (on_cutA : Nat → Int32) (on_cutB : Nat → Int32) (on_cutHard : Nat → Int32) (on_boatAt : Nat → Int32) (on_boatPull : Nat → Int32) (on_boatWear : Nat → Int32) (on_onward : Nat → Int32) (on_onwardHard : Nat → Int32)  (r0 : Int32) (h : m_Fleet_sitting t_row on_boats on_onwardHard = some r0) : (MI l yX4_sitting wsX4_sitting ({ frames := 3, cells := 0, slots := 0, locals := 67 }) (dC, dI) [(cI, .int), (cZ, .boolean)] (wd_tFleet_onWater cI cZ a_t a_on t_row on_junctions on_cuts on_boats on_cutA on_cutB on_cutHard on_boatAt on_boatPull on_boatWear on_onward on_onwardHard) (wd_tFleet_onWater cI cZ a_t a_on t_row on_junctions on_cuts on_boats on_cutA on_cutB on_cutHard on_boatAt on_boatPull on_boatWear on_onward on_onwardHard) [.ref (a_t 0), .ref (a_on 0)] r0) := by
  intro sz
  refine Met.ofW (cc := cX4_sitting) (maxL := 4) (ret := (some .int)) (by decide) rfl ?_
  intro p e s m args below meth c s₁ B hml hv
  obtain ⟨rfl, hsz, hP, hK, hD0⟩ := hv
  have hx := B.exec
  have hb := B.bytes
  have hr := B.returns
  have hts := atoms_spec (ws := wsX4_sitting) B.pre
  have hown : s.vm.findClass RX4 = some m.cls := findClass_of_methodNamed B.named
  have hlocks := B.notSynchronized
  subst hsz
  have hD := hD0.self (sz := s.heap.size)
  have hA : ∀ q : Nat, s.heap.size ≤ q → va_A (wd_tFleet_onWater cI cZ a_t a_on t_row on_junctions on_cuts on_boats on_cutA on_cutB on_cutHard on_boatAt on_boatPull on_boatWear on_onward on_onwardHard) s.heap.size q := fun q h => Or.inr h
  have hS : va_S (va_A (wd_tFleet_onWater cI cZ a_t a_on t_row on_junctions on_cuts on_boats on_cutA on_cutB on_cutHard on_boatAt on_boatPull on_boatWear on_onward on_onwardHard) s.heap.size) s.heap s.heap [] := va_S.rf
  have hin9 : ∀ w ∈ u_ws RX9 TX9 11, w ∈ wsX4_sitting := fun w h => List.mem_cons_of_mem _ (List.mem_append_left _ (List.mem_append_right _ h))
  have hl := lv_entry ([.ref (a_t 0), .ref (a_on 0)]) (n := 4) (Nat.le_of_ble_eq_true rfl)
  rw [lg_entry_eq]
  generalize (lg_sl ([.ref (a_t 0), .ref (a_on 0)]) ++ List.replicate (4 - (lg_sl ([.ref (a_t 0), .ref (a_on 0)])).length) Slot.unset).toArray = ls at hl ⊢
  have hl : lv_has ls 4 [(0, .ref (a_t 0)), (1, .ref (a_on 0))] := hl
  have L4 : ∀ (n4 : Nat) (x2 : Int32) (x3 : Int32)  (H : Heap) (locs : List Loc) (ls : Array Slot), va_P (dC, dI) vwCl (wd_tFleet_onWater cI cZ a_t a_on t_row on_junctions on_cuts on_boats on_cutA on_cutB on_cutHard on_boatAt on_boatPull on_boatWear on_onward on_onwardHard) H → va_D (va_A (wd_tFleet_onWater cI cZ a_t a_on t_row on_junctions on_cuts on_boats on_cutA on_cutB on_cutHard on_boatAt on_boatPull on_boatWear on_onward on_onwardHard) s.heap.size) (wd_tFleet_onWater cI cZ a_t a_on t_row on_junctions on_cuts on_boats on_cutA on_cutB on_cutHard on_boatAt on_boatPull on_boatWear on_onward on_onwardHard) → va_S (va_A (wd_tFleet_onWater cI cZ a_t a_on t_row on_junctions on_cuts on_boats on_cutA on_cutB on_cutHard on_boatAt on_boatPull on_boatWear on_onward on_onwardHard) s.heap.size) s.heap H locs → lv_has ls 4 [(0, .ref (a_t 0)), (1, .ref (a_on 0)), (2, .int x2), (3, .int x3)] → m_Fleet_sitting_L4  n4 x2 x3 t_row on_boats on_onwardHard = some r0 → W p l e (headSpec wsX4_sitting ({ frames := 3, cells := 0, slots := 0, locals := 67 })).room s m ([.ref (a_t 0), .ref (a_on 0)] : List Value).toArray below meth c H locs 0 0 (MQ below (cQi (dC, dI) (wd_tFleet_onWater cI cZ a_t a_on t_row on_junctions on_cuts on_boats on_cutA on_cutB on_cutHard on_boatAt on_boatPull on_boatWear on_onward on_onwardHard) (wd_tFleet_onWater cI cZ a_t a_on t_row on_junctions on_cuts on_boats on_cutA on_cutB on_cutHard on_boatAt on_boatPull on_boatWear on_onward on_onwardHard) s.heap.size r0) ([.ref (a_t 0), .ref (a_on 0)] : List Value).toArray s 0 0 (va_A (wd_tFleet_onWater cI cZ a_t a_on t_row on_junctions on_cuts on_boats on_cutA on_cutB on_cutHard on_boatAt on_boatPull on_boatWear on_onward on_onwardHard) s.heap.size)) (F0 m 4 ls []) := by
    intro n4
    induction n4 with
    | zero => intro x2 x3 H locs ls hP hD hS hl h; have h : none = some r0 := h; cases h
    | succ n4 ih4 =>
      intro x2 x3 H locs ls hP hD hS hl h
      have h : m_Fleet_sitting_B4  (m_Fleet_sitting_L4  n4) x2 x3 t_row on_boats on_onwardHard = some r0 := h
      have J27 : ∀ (x2 : Int32) (x3 : Int32)  (H : Heap) (locs : List Loc) (ls : Array Slot), va_P (dC, dI) vwCl (wd_tFleet_onWater cI cZ a_t a_on t_row on_junctions on_cuts on_boats on_cutA on_cutB on_cutHard on_boatAt on_boatPull on_boatWear on_onward on_onwardHard) H → va_D (va_A (wd_tFleet_onWater cI cZ a_t a_on t_row on_junctions on_cuts on_boats on_cutA on_cutB on_cutHard on_boatAt on_boatPull on_boatWear on_onward on_onwardHard) s.heap.size) (wd_tFleet_onWater cI cZ a_t a_on t_row on_junctions on_cuts on_boats on_cutA on_cutB on_cutHard on_boatAt on_boatPull on_boatWear on_onward on_onwardHard) → va_S (va_A (wd_tFleet_onWater cI cZ a_t a_on t_row on_junctions on_cuts on_boats on_cutA on_cutB on_cutHard on_boatAt on_boatPull on_boatWear on_onward on_onwardHard) s.heap.size) s.heap H locs → lv_has ls 4 [(0, .ref (a_t 0)), (1, .ref (a_on 0)), (2, .int x2), (3, .int x3)] → m_Fleet_sitting_B27 (m_Fleet_sitting_L4  n4) x2 x3 t_row on_boats on_onwardHard = some r0 → W p l e (headSpec wsX4_sitting ({ frames := 3, cells := 0, slots := 0, locals := 67 })).room s m ([.ref (a_t 0), .ref (a_on 0)] : List Value).toArray below meth c H locs 0 0 (MQ below (cQi (dC, dI) (wd_tFleet_onWater cI cZ a_t a_on t_row on_junctions on_cuts on_boats on_cutA on_cutB on_cutHard on_boatAt on_boatPull on_boatWear on_onward on_onwardHard) (wd_tFleet_onWater cI cZ a_t a_on t_row on_junctions on_cuts on_boats on_cutA on_cutB on_cutHard on_boatAt on_boatPull on_boatWear on_onward on_onwardHard) s.heap.size r0) ([.ref (a_t 0), .ref (a_on 0)] : List Value).toArray s 0 0 (va_A (wd_tFleet_onWater cI cZ a_t a_on t_row on_junctions on_cuts on_boats on_cutA on_cutB on_cutHard on_boatAt on_boatPull on_boatWear on_onward on_onwardHard) s.heap.size)) (F0 m 27 ls []) := by
        intro x2 x3 H locs ls hP hD hS hl h
        unfold m_Fleet_sitting_B27 at h
        refine lv_iinc (v := (x3 + 1)) (lv' := [(3, .int (x3 + 1)), (0, .ref (a_t 0)), (1, .ref (a_on 0)), (2, .int x2)]) hx hb dX4_sitting_27 hl (k := 3) rfl rfl (by decide) rfl (fun ls hl => ?_)
        refine lv_goto (tgt := 4) hx hb dX4_sitting_30 (by decide) ?_
        exact ih4 x2 (x3 + 1) _ _ _ hP hD hS (lv_sub hl [1, 2, 3, 0] rfl) h
      unfold m_Fleet_sitting_B4 at h
      refine lv_iload_n hx hb dX4_sitting_4 rfl (lv_at hl 3 rfl) ?_
      refine lv_aload_n hx hb dX4_sitting_5 rfl (lv_at hl 1 rfl) ?_
      refine va_get (D := (dC, dI)) (ci := 9) (v := .int on_boats) (C := RX9) (T := TX9) (N := 11) hx hb hts hin9 hown hK hP 2 rfl rfl 2 (by decide) (hts (.fieldLink RX4 32 "TowedBack$Water" "boats" "I") (List.mem_of_getElem? (i := 1) rfl)) (fun _ h9 => h9) rfl dX4_sitting_6 ?_
      refine lv_icmp_ge (tgt := 33) hx hb dX4_sitting_9 (by decide) (fun hc => ?_) (fun hc => ?_)
      · have h := k_pos hc h
        refine lv_iload_n hx hb dX4_sitting_33 rfl (lv_at hl 2 rfl) ?_
        obtain rfl := k_in1 h
        exact k_ri hx hb hr hlocks hP hS dX4_sitting_34
      · have h := k_neg hc h
        refine lv_aload_n hx hb dX4_sitting_12 rfl (lv_at hl 0 rfl) ?_
        refine lv_aload_n hx hb dX4_sitting_13 rfl (lv_at hl 1 rfl) ?_
        refine lv_iload_n hx hb dX4_sitting_14 rfl (lv_at hl 3 rfl) ?_
        obtain ⟨r1, hc1, h⟩ := kb1_some h
        refine k_FVi (rest := []) (As := [.ref (a_on 0), .int x3]) ⟨hx, hb, hml, hown, hts⟩ (c_Fleet_isSitting l dC dI cI cZ a_t a_on t_row on_junctions on_cuts on_boats on_cutA on_cutB on_cutHard on_boatAt on_boatPull on_boatWear on_onward on_onwardHard x3 r1 hc1) (cwV 2 hts gX4_sitting_X4_isSitting rfl rfl rfl hd_4_isSitting ⟨Nat.le_of_ble_eq_true rfl, Nat.le_of_ble_eq_true rfl⟩) hK hP hD hS hA 0 4 rfl rfl rfl (wd_tFleet_onWater_f.trans wd_tFleet_onWater_f.symm) rfl hl.1 rfl (Nat.le_of_ble_eq_true rfl) dX4_sitting_15 ⟨Nat.zero_le _, Nat.zero_le _⟩ (fun H locs hP hD hS => ?_)
        refine lv_if_eq (tgt := 27) hx hb dX4_sitting_18 (by decide) (fun hc => ?_) (fun hc => ?_)
        · have h := k_pos hc h
          exact J27 x2 x3 _ _ _ hP hD hS (lv_sub hl [0, 1, 2, 3] rfl) h
        · have h := k_neg hc h
          refine lv_iload_n hx hb dX4_sitting_21 rfl (lv_at hl 2 rfl) ?_
          refine lv_iconst (v := 1) hx hb dX4_sitting_22 (by decide) ?_
          refine lv_iload_n hx hb dX4_sitting_23 rfl (lv_at hl 3 rfl) ?_
          refine lv_ishl hx hb dX4_sitting_24 ?_
          refine lv_ior hx hb dX4_sitting_25 ?_
          refine lv_istore_n (lv' := [(2, .int (x2 ||| (1 <<< (x3 &&& 31)))), (0, .ref (a_t 0)), (1, .ref (a_on 0)), (3, .int x3)]) hx hb dX4_sitting_26 rfl hl (by decide) rfl (fun ls hl => ?_)
          exact J27 (x2 ||| (1 <<< (x3 &&& 31))) x3 _ _ _ hP hD hS (lv_sub hl [1, 2, 0, 3] rfl) h
  unfold m_Fleet_sitting at h
  refine lv_iconst (v := 0) hx hb dX4_sitting_0 (by decide) ?_
  refine lv_istore_n (lv' := [(2, .int 0), (0, .ref (a_t 0)), (1, .ref (a_on 0))]) hx hb dX4_sitting_1 rfl hl (by decide) rfl (fun ls hl => ?_)
  refine lv_iconst (v := 0) hx hb dX4_sitting_2 (by decide) ?_
  refine lv_istore_n (lv' := [(3, .int 0), (2, .int 0), (0, .ref (a_t 0)), (1, .ref (a_on 0))]) hx hb dX4_sitting_3 rfl hl (by decide) rfl (fun ls hl => ?_)
  exact L4 FU 0 0 _ _ _ hP hD hS (lv_sub hl [2, 3, 1, 0] rfl) h
set_option maxHeartbeats 4000000 in
set_option maxRecDepth 100000 in
theorem c_Fleet_places (l : Launch) (dC : Nat → ClassId) (dI : Nat → Nat → Nat) (cI cZ : ClassId) (a_t a_on : Nat → Nat) (t_row : Nat → Int32) (on_junctions : Int32) (on_cuts : Int32) (on_boats : Int32) (on_cutA : Nat → Int32) (on_cutB : Nat → Int32) (on_cutHard : Nat → Int32) (on_boatAt : Nat → Int32) (on_boatPull : Nat → Int32) (on_boatWear : Nat → Int32) (on_onward : Nat → Int32) (on_onwardHard : Nat → Int32)  (r0 : Int32) (h : m_Fleet_places t_row on_boats = some r0) : (MI l yX4_places wsX4_places ({ frames := 2, cells := 0, slots := 0, locals := 43 }) (dC, dI) [(cI, .int), (cZ, .boolean)] (wd_tFleet_onWater cI cZ a_t a_on t_row on_junctions on_cuts on_boats on_cutA on_cutB on_cutHard on_boatAt on_boatPull on_boatWear on_onward on_onwardHard) (wd_tFleet_onWater cI cZ a_t a_on t_row on_junctions on_cuts on_boats on_cutA on_cutB on_cutHard on_boatAt on_boatPull on_boatWear on_onward on_onwardHard) [.ref (a_t 0), .ref (a_on 0)] r0) := by
  intro sz
  refine Met.ofW (cc := cX4_places) (maxL := 4) (ret := (some .int)) (by decide) rfl ?_
  intro p e s m args below meth c s₁ B hml hv
  obtain ⟨rfl, hsz, hP, hK, hD0⟩ := hv
  have hx := B.exec
  have hb := B.bytes
  have hr := B.returns
  have hts := atoms_spec (ws := wsX4_places) B.pre
  have hown : s.vm.findClass RX4 = some m.cls := findClass_of_methodNamed B.named
  have hlocks := B.notSynchronized
  subst hsz
  have hD := hD0.self (sz := s.heap.size)
  have hA : ∀ q : Nat, s.heap.size ≤ q → va_A (wd_tFleet_onWater cI cZ a_t a_on t_row on_junctions on_cuts on_boats on_cutA on_cutB on_cutHard on_boatAt on_boatPull on_boatWear on_onward on_onwardHard) s.heap.size q := fun q h => Or.inr h
  have hS : va_S (va_A (wd_tFleet_onWater cI cZ a_t a_on t_row on_junctions on_cuts on_boats on_cutA on_cutB on_cutHard on_boatAt on_boatPull on_boatWear on_onward on_onwardHard) s.heap.size) s.heap s.heap [] := va_S.rf
  have hin9 : ∀ w ∈ u_ws RX9 TX9 11, w ∈ wsX4_places := fun w h => List.mem_cons_of_mem _ (List.mem_append_left _ (List.mem_append_right _ h))
  have hl := lv_entry ([.ref (a_t 0), .ref (a_on 0)]) (n := 4) (Nat.le_of_ble_eq_true rfl)
  rw [lg_entry_eq]
  generalize (lg_sl ([.ref (a_t 0), .ref (a_on 0)]) ++ List.replicate (4 - (lg_sl ([.ref (a_t 0), .ref (a_on 0)])).length) Slot.unset).toArray = ls at hl ⊢
  have hl : lv_has ls 4 [(0, .ref (a_t 0)), (1, .ref (a_on 0))] := hl
  have L4 : ∀ (n4 : Nat) (x2 : Int32) (x3 : Int32)  (H : Heap) (locs : List Loc) (ls : Array Slot), va_P (dC, dI) vwCl (wd_tFleet_onWater cI cZ a_t a_on t_row on_junctions on_cuts on_boats on_cutA on_cutB on_cutHard on_boatAt on_boatPull on_boatWear on_onward on_onwardHard) H → va_D (va_A (wd_tFleet_onWater cI cZ a_t a_on t_row on_junctions on_cuts on_boats on_cutA on_cutB on_cutHard on_boatAt on_boatPull on_boatWear on_onward on_onwardHard) s.heap.size) (wd_tFleet_onWater cI cZ a_t a_on t_row on_junctions on_cuts on_boats on_cutA on_cutB on_cutHard on_boatAt on_boatPull on_boatWear on_onward on_onwardHard) → va_S (va_A (wd_tFleet_onWater cI cZ a_t a_on t_row on_junctions on_cuts on_boats on_cutA on_cutB on_cutHard on_boatAt on_boatPull on_boatWear on_onward on_onwardHard) s.heap.size) s.heap H locs → lv_has ls 4 [(0, .ref (a_t 0)), (1, .ref (a_on 0)), (2, .int x2), (3, .int x3)] → m_Fleet_places_L4  n4 x2 x3 t_row on_boats = some r0 → W p l e (headSpec wsX4_places ({ frames := 2, cells := 0, slots := 0, locals := 43 })).room s m ([.ref (a_t 0), .ref (a_on 0)] : List Value).toArray below meth c H locs 0 0 (MQ below (cQi (dC, dI) (wd_tFleet_onWater cI cZ a_t a_on t_row on_junctions on_cuts on_boats on_cutA on_cutB on_cutHard on_boatAt on_boatPull on_boatWear on_onward on_onwardHard) (wd_tFleet_onWater cI cZ a_t a_on t_row on_junctions on_cuts on_boats on_cutA on_cutB on_cutHard on_boatAt on_boatPull on_boatWear on_onward on_onwardHard) s.heap.size r0) ([.ref (a_t 0), .ref (a_on 0)] : List Value).toArray s 0 0 (va_A (wd_tFleet_onWater cI cZ a_t a_on t_row on_junctions on_cuts on_boats on_cutA on_cutB on_cutHard on_boatAt on_boatPull on_boatWear on_onward on_onwardHard) s.heap.size)) (F0 m 4 ls []) := by
    intro n4
    induction n4 with
    | zero => intro x2 x3 H locs ls hP hD hS hl h; have h : none = some r0 := h; cases h
    | succ n4 ih4 =>
      intro x2 x3 H locs ls hP hD hS hl h
      have h : m_Fleet_places_B4  (m_Fleet_places_L4  n4) x2 x3 t_row on_boats = some r0 := h
      unfold m_Fleet_places_B4 at h
      refine lv_iload_n hx hb dX4_places_4 rfl (lv_at hl 3 rfl) ?_
      refine lv_aload_n hx hb dX4_places_5 rfl (lv_at hl 1 rfl) ?_
      refine va_get (D := (dC, dI)) (ci := 9) (v := .int on_boats) (C := RX9) (T := TX9) (N := 11) hx hb hts hin9 hown hK hP 2 rfl rfl 2 (by decide) (hts (.fieldLink RX4 32 "TowedBack$Water" "boats" "I") (List.mem_of_getElem? (i := 1) rfl)) (fun _ h9 => h9) rfl dX4_places_6 ?_
      refine lv_icmp_ge (tgt := 28) hx hb dX4_places_9 (by decide) (fun hc => ?_) (fun hc => ?_)
      · have h := k_pos hc h
        refine lv_iload_n hx hb dX4_places_28 rfl (lv_at hl 2 rfl) ?_
        obtain rfl := k_in1 h
        exact k_ri hx hb hr hlocks hP hS dX4_places_29
      · have h := k_neg hc h
        refine lv_iload_n hx hb dX4_places_12 rfl (lv_at hl 2 rfl) ?_
        refine lv_iconst (v := 1) hx hb dX4_places_13 (by decide) ?_
        refine lv_aload_n hx hb dX4_places_14 rfl (lv_at hl 0 rfl) ?_
        refine lv_iload_n hx hb dX4_places_15 rfl (lv_at hl 3 rfl) ?_
        obtain ⟨r1, hc1, h⟩ := kb1_some h
        refine k_RVi (rest := [.int 1, .int x2]) (As := [.int x3]) ⟨hx, hb, hml, hown, hts⟩ (c_Fleet_at l dC dI cI cZ a_t t_row x3 r1 hc1) (cwV 1 hts gX4_places_X4_at rfl rfl rfl hd_4_at ⟨Nat.le_of_ble_eq_true rfl, Nat.le_of_ble_eq_true rfl⟩) hK hP hD hS hA [0, 1] rfl (by decide +kernel) 0 4 rfl rfl rfl rfl hl.1 rfl (Nat.le_of_ble_eq_true rfl) dX4_places_16 ⟨Nat.zero_le _, Nat.zero_le _⟩ (fun H locs hP hD hS => ?_)
        refine lv_ishl hx hb dX4_places_19 ?_
        refine lv_ior hx hb dX4_places_20 ?_
        refine lv_istore_n (lv' := [(2, .int (x2 ||| (1 <<< (r1 &&& 31)))), (0, .ref (a_t 0)), (1, .ref (a_on 0)), (3, .int x3)]) hx hb dX4_places_21 rfl hl (by decide) rfl (fun ls hl => ?_)
        refine lv_iinc (v := (x3 + 1)) (lv' := [(3, .int (x3 + 1)), (2, .int (x2 ||| (1 <<< (r1 &&& 31)))), (0, .ref (a_t 0)), (1, .ref (a_on 0))]) hx hb dX4_places_22 hl (k := 3) rfl rfl (by decide) rfl (fun ls hl => ?_)
        refine lv_goto (tgt := 4) hx hb dX4_places_25 (by decide) ?_
        exact ih4 (x2 ||| (1 <<< (r1 &&& 31))) (x3 + 1) _ _ _ hP hD hS (lv_sub hl [2, 3, 1, 0] rfl) h
  unfold m_Fleet_places at h
  refine lv_iconst (v := 0) hx hb dX4_places_0 (by decide) ?_
  refine lv_istore_n (lv' := [(2, .int 0), (0, .ref (a_t 0)), (1, .ref (a_on 0))]) hx hb dX4_places_1 rfl hl (by decide) rfl (fun ls hl => ?_)
  refine lv_iconst (v := 0) hx hb dX4_places_2 (by decide) ?_
  refine lv_istore_n (lv' := [(3, .int 0), (2, .int 0), (0, .ref (a_t 0)), (1, .ref (a_on 0))]) hx hb dX4_places_3 rfl hl (by decide) rfl (fun ls hl => ?_)
  exact L4 FU 0 0 _ _ _ hP hD hS (lv_sub hl [2, 3, 1, 0] rfl) h
set_option maxHeartbeats 4000000 in
set_option maxRecDepth 100000 in
theorem c_Fleet_load (l : Launch) (dC : Nat → ClassId) (dI : Nat → Nat → Nat) (cI cZ : ClassId) (a_t : Nat → Nat) (i_t_row : Nat → Int32) (y1 : Int32) (y2 : Int32) (o_t_row : Nat → Int32) (h : m_Fleet_load y1 y2 i_t_row = some o_t_row) : (MV l yX4_load wsX4_load ({ frames := 2, cells := 0, slots := 0, locals := 43 }) (dC, dI) [(cI, .int), (cZ, .boolean)] (wd_tFleet cI cZ a_t i_t_row) (wd_tFleet cI cZ a_t o_t_row) [.ref (a_t 0), .int y1, .int y2]) := by
  intro sz
  refine Met.ofW (cc := cX4_load) (maxL := 3) (ret := none) (by decide) rfl ?_
  intro p e s m args below meth c s₁ B hml hv
  obtain ⟨rfl, hsz, hP, hK, hD0⟩ := hv
  have hx := B.exec
  have hb := B.bytes
  have hr := B.returns
  have hts := atoms_spec (ws := wsX4_load) B.pre
  have hown : s.vm.findClass RX4 = some m.cls := findClass_of_methodNamed B.named
  have hlocks := B.notSynchronized
  subst hsz
  have hD := hD0.self (sz := s.heap.size)
  have hA : ∀ q : Nat, s.heap.size ≤ q → va_A (wd_tFleet cI cZ a_t i_t_row) s.heap.size q := fun q h => Or.inr h
  have hS : va_S (va_A (wd_tFleet cI cZ a_t i_t_row) s.heap.size) s.heap s.heap [] := va_S.rf
  have hl := lv_entry ([.ref (a_t 0), .int y1, .int y2]) (n := 3) (Nat.le_of_ble_eq_true rfl)
  rw [lg_entry_eq]
  generalize (lg_sl ([.ref (a_t 0), .int y1, .int y2]) ++ List.replicate (3 - (lg_sl ([.ref (a_t 0), .int y1, .int y2])).length) Slot.unset).toArray = ls at hl ⊢
  have hl : lv_has ls 3 [(0, .ref (a_t 0)), (1, .int y1), (2, .int y2)] := hl
  unfold m_Fleet_load at h
  refine lv_aload_n hx hb dX4_load_0 rfl (lv_at hl 0 rfl) ?_
  refine lv_bipush (v := 10) hx hb dX4_load_1 (by decide) ?_
  refine lv_iload_n hx hb dX4_load_3 rfl (lv_at hl 1 rfl) ?_
  refine lv_sipush (v := 999) hx hb dX4_load_4 (by decide) ?_
  refine lv_aload_n hx hb dX4_load_7 rfl (lv_at hl 0 rfl) ?_
  refine lv_iload_n hx hb dX4_load_8 rfl (lv_at hl 1 rfl) ?_
  obtain ⟨r1, hc1, h⟩ := kb1_some h
  refine k_FVi (rest := [.int 999, .int y1, .int 10, .ref (a_t 0)]) (As := [.int y1]) ⟨hx, hb, hml, hown, hts⟩ (c_Fleet_pull l dC dI cI cZ a_t i_t_row y1 r1 hc1) (cwV 1 hts gX4_load_X4_pull rfl rfl rfl hd_4_pull ⟨Nat.le_of_ble_eq_true rfl, Nat.le_of_ble_eq_true rfl⟩) hK hP hD hS hA 0 4 rfl rfl rfl (wd_tFleet_f.trans wd_tFleet_f.symm) rfl hl.1 rfl (Nat.le_of_ble_eq_true rfl) dX4_load_9 ⟨Nat.zero_le _, Nat.zero_le _⟩ (fun H locs hP hD hS => ?_)
  refine lv_iload_n hx hb dX4_load_12 rfl (lv_at hl 2 rfl) ?_
  refine lv_iadd hx hb dX4_load_13 ?_
  refine va_mmin hx hb (hml.trans hl.1.symm) hown (hts (.methodLink RX4 74 Lib.Math.min.name) (List.mem_of_getElem? (i := 1) rfl)) (hts (.static Lib.Math.min.name) (List.mem_of_getElem? (i := 2) rfl)) (hts (.initialized "java/lang/Math") (List.mem_of_getElem? (i := 3) rfl)) (hts (.code Lib.Math.min.name Lib.Math.min.code 2 (some .int)) (List.mem_of_getElem? (i := 4) rfl)) (Nat.le_of_ble_eq_true rfl) (Nat.le_of_ble_eq_true rfl) (Nat.zero_le _) (Nat.zero_le _) dX4_load_14 ?_
  obtain ⟨t_row_2, hc2, h⟩ := kb1_some h
  refine k_FVv (rest := []) (As := [.int 10, .int y1, .int (if (r1 + y2) < 999 then (r1 + y2) else 999)]) ⟨hx, hb, hml, hown, hts⟩ (c_Fleet_put l dC dI cI cZ a_t i_t_row 10 y1 (if (r1 + y2) < 999 then (r1 + y2) else 999) t_row_2 hc2) (cwV 3 hts gX4_load_X4_put rfl rfl rfl hd_4_put ⟨Nat.le_of_ble_eq_true rfl, Nat.le_of_ble_eq_true rfl⟩) hK hP hD hS hA 0 4 rfl rfl rfl (wd_tFleet_f.trans wd_tFleet_f.symm) rfl hl.1 rfl (Nat.le_of_ble_eq_true rfl) dX4_load_17 ⟨Nat.zero_le _, Nat.zero_le _⟩ (fun H locs hP hD hS => ?_)
  obtain rfl := k_in1 h
  exact k_rv hx hb hr hlocks hP hS dX4_load_20
set_option maxHeartbeats 4000000 in
set_option maxRecDepth 100000 in
theorem c_Fleet_swapPulls (l : Launch) (dC : Nat → ClassId) (dI : Nat → Nat → Nat) (cI cZ : ClassId) (a_t : Nat → Nat) (i_t_row : Nat → Int32) (y1 : Int32) (y2 : Int32) (o_t_row : Nat → Int32) (h : m_Fleet_swapPulls y1 y2 i_t_row = some o_t_row) : (MV l yX4_swapPulls wsX4_swapPulls ({ frames := 2, cells := 0, slots := 0, locals := 43 }) (dC, dI) [(cI, .int), (cZ, .boolean)] (wd_tFleet cI cZ a_t i_t_row) (wd_tFleet cI cZ a_t o_t_row) [.ref (a_t 0), .int y1, .int y2]) := by
  intro sz
  refine Met.ofW (cc := cX4_swapPulls) (maxL := 4) (ret := none) (by decide) rfl ?_
  intro p e s m args below meth c s₁ B hml hv
  obtain ⟨rfl, hsz, hP, hK, hD0⟩ := hv
  have hx := B.exec
  have hb := B.bytes
  have hr := B.returns
  have hts := atoms_spec (ws := wsX4_swapPulls) B.pre
  have hown : s.vm.findClass RX4 = some m.cls := findClass_of_methodNamed B.named
  have hlocks := B.notSynchronized
  subst hsz
  have hD := hD0.self (sz := s.heap.size)
  have hA : ∀ q : Nat, s.heap.size ≤ q → va_A (wd_tFleet cI cZ a_t i_t_row) s.heap.size q := fun q h => Or.inr h
  have hS : va_S (va_A (wd_tFleet cI cZ a_t i_t_row) s.heap.size) s.heap s.heap [] := va_S.rf
  have hl := lv_entry ([.ref (a_t 0), .int y1, .int y2]) (n := 4) (Nat.le_of_ble_eq_true rfl)
  rw [lg_entry_eq]
  generalize (lg_sl ([.ref (a_t 0), .int y1, .int y2]) ++ List.replicate (4 - (lg_sl ([.ref (a_t 0), .int y1, .int y2])).length) Slot.unset).toArray = ls at hl ⊢
  have hl : lv_has ls 4 [(0, .ref (a_t 0)), (1, .int y1), (2, .int y2)] := hl
  unfold m_Fleet_swapPulls at h
  refine lv_aload_n hx hb dX4_swapPulls_0 rfl (lv_at hl 0 rfl) ?_
  refine lv_iload_n hx hb dX4_swapPulls_1 rfl (lv_at hl 1 rfl) ?_
  obtain ⟨r1, hc1, h⟩ := kb1_some h
  refine k_FVi (rest := []) (As := [.int y1]) ⟨hx, hb, hml, hown, hts⟩ (c_Fleet_pull l dC dI cI cZ a_t i_t_row y1 r1 hc1) (cwV 1 hts gX4_swapPulls_X4_pull rfl rfl rfl hd_4_pull ⟨Nat.le_of_ble_eq_true rfl, Nat.le_of_ble_eq_true rfl⟩) hK hP hD hS hA 0 4 rfl rfl rfl (wd_tFleet_f.trans wd_tFleet_f.symm) rfl hl.1 rfl (Nat.le_of_ble_eq_true rfl) dX4_swapPulls_2 ⟨Nat.zero_le _, Nat.zero_le _⟩ (fun H locs hP hD hS => ?_)
  refine lv_istore_n (lv' := [(3, .int r1), (0, .ref (a_t 0)), (1, .int y1), (2, .int y2)]) hx hb dX4_swapPulls_5 rfl hl (by decide) rfl (fun ls hl => ?_)
  refine lv_aload_n hx hb dX4_swapPulls_6 rfl (lv_at hl 1 rfl) ?_
  refine lv_bipush (v := 10) hx hb dX4_swapPulls_7 (by decide) ?_
  refine lv_iload_n hx hb dX4_swapPulls_9 rfl (lv_at hl 2 rfl) ?_
  refine lv_aload_n hx hb dX4_swapPulls_10 rfl (lv_at hl 1 rfl) ?_
  refine lv_iload_n hx hb dX4_swapPulls_11 rfl (lv_at hl 3 rfl) ?_
  obtain ⟨r2, hc2, h⟩ := kb1_some h
  refine k_FVi (rest := [.int y1, .int 10, .ref (a_t 0)]) (As := [.int y2]) ⟨hx, hb, hml, hown, hts⟩ (c_Fleet_pull l dC dI cI cZ a_t i_t_row y2 r2 hc2) (cwV 1 hts gX4_swapPulls_X4_pull rfl rfl rfl hd_4_pull ⟨Nat.le_of_ble_eq_true rfl, Nat.le_of_ble_eq_true rfl⟩) hK hP hD hS hA 0 4 rfl rfl rfl (wd_tFleet_f.trans wd_tFleet_f.symm) rfl hl.1 rfl (Nat.le_of_ble_eq_true rfl) dX4_swapPulls_12 ⟨Nat.zero_le _, Nat.zero_le _⟩ (fun H locs hP hD hS => ?_)
  obtain ⟨t_row_3, hc3, h⟩ := kb1_some h
  refine k_FVv (rest := []) (As := [.int 10, .int y1, .int r2]) ⟨hx, hb, hml, hown, hts⟩ (c_Fleet_put l dC dI cI cZ a_t i_t_row 10 y1 r2 t_row_3 hc3) (cwV 3 hts gX4_swapPulls_X4_put rfl rfl rfl hd_4_put ⟨Nat.le_of_ble_eq_true rfl, Nat.le_of_ble_eq_true rfl⟩) hK hP hD hS hA 0 4 rfl rfl rfl (wd_tFleet_f.trans wd_tFleet_f.symm) rfl hl.1 rfl (Nat.le_of_ble_eq_true rfl) dX4_swapPulls_15 ⟨Nat.zero_le _, Nat.zero_le _⟩ (fun H locs hP hD hS => ?_)
  refine lv_aload_n hx hb dX4_swapPulls_18 rfl (lv_at hl 1 rfl) ?_
  refine lv_bipush (v := 10) hx hb dX4_swapPulls_19 (by decide) ?_
  refine lv_iload_n hx hb dX4_swapPulls_21 rfl (lv_at hl 3 rfl) ?_
  refine lv_iload_n hx hb dX4_swapPulls_22 rfl (lv_at hl 0 rfl) ?_
  obtain ⟨t_row_4, hc4, h⟩ := kb1_some h
  refine k_FVv (rest := []) (As := [.int 10, .int y2, .int r1]) ⟨hx, hb, hml, hown, hts⟩ (c_Fleet_put l dC dI cI cZ a_t t_row_3 10 y2 r1 t_row_4 hc4) (cwV 3 hts gX4_swapPulls_X4_put rfl rfl rfl hd_4_put ⟨Nat.le_of_ble_eq_true rfl, Nat.le_of_ble_eq_true rfl⟩) hK hP hD hS hA 0 4 rfl rfl rfl (wd_tFleet_f.trans wd_tFleet_f.symm) rfl hl.1 rfl (Nat.le_of_ble_eq_true rfl) dX4_swapPulls_23 ⟨Nat.zero_le _, Nat.zero_le _⟩ (fun H locs hP hD hS => ?_)
  obtain rfl := k_in1 h
  exact k_rv hx hb hr hlocks hP hS dX4_swapPulls_26
set_option maxHeartbeats 4000000 in
set_option maxRecDepth 100000 in
theorem c_Fleet_comeFromNowhere (l : Launch) (dC : Nat → ClassId) (dI : Nat → Nat → Nat) (cI cZ : ClassId) (a_t : Nat → Nat) (i_t_row : Nat → Int32) (y1 : Int32) (o_t_row : Nat → Int32) (h : m_Fleet_comeFromNowhere y1 i_t_row = some o_t_row) : (MV l yX4_comeFromNowhere wsX4_comeFromNowhere ({ frames := 1, cells := 0, slots := 0, locals := 23 }) (dC, dI) [(cI, .int), (cZ, .boolean)] (wd_tFleet cI cZ a_t i_t_row) (wd_tFleet cI cZ a_t o_t_row) [.ref (a_t 0), .int y1]) := by
  intro sz
  refine Met.ofW (cc := cX4_comeFromNowhere) (maxL := 2) (ret := none) (by decide) rfl ?_
  intro p e s m args below meth c s₁ B hml hv
  obtain ⟨rfl, hsz, hP, hK, hD0⟩ := hv
  have hx := B.exec
  have hb := B.bytes
  have hr := B.returns
  have hts := atoms_spec (ws := wsX4_comeFromNowhere) B.pre
  have hown : s.vm.findClass RX4 = some m.cls := findClass_of_methodNamed B.named
  have hlocks := B.notSynchronized
  subst hsz
  have hD := hD0.self (sz := s.heap.size)
  have hA : ∀ q : Nat, s.heap.size ≤ q → va_A (wd_tFleet cI cZ a_t i_t_row) s.heap.size q := fun q h => Or.inr h
  have hS : va_S (va_A (wd_tFleet cI cZ a_t i_t_row) s.heap.size) s.heap s.heap [] := va_S.rf
  have hl := lv_entry ([.ref (a_t 0), .int y1]) (n := 2) (Nat.le_of_ble_eq_true rfl)
  rw [lg_entry_eq]
  generalize (lg_sl ([.ref (a_t 0), .int y1]) ++ List.replicate (2 - (lg_sl ([.ref (a_t 0), .int y1])).length) Slot.unset).toArray = ls at hl ⊢
  have hl : lv_has ls 2 [(0, .ref (a_t 0)), (1, .int y1)] := hl
  unfold m_Fleet_comeFromNowhere at h
  refine lv_aload_n hx hb dX4_comeFromNowhere_0 rfl (lv_at hl 0 rfl) ?_
  refine lv_iconst (v := 5) hx hb dX4_comeFromNowhere_1 (by decide) ?_
  refine lv_iload_n hx hb dX4_comeFromNowhere_2 rfl (lv_at hl 1 rfl) ?_
  refine lv_iconst (v := (-1)) hx hb dX4_comeFromNowhere_3 (by decide) ?_
  obtain ⟨t_row_1, hc1, h⟩ := kb1_some h
  refine k_FVv (rest := []) (As := [.int 5, .int y1, .int (-1)]) ⟨hx, hb, hml, hown, hts⟩ (c_Fleet_put l dC dI cI cZ a_t i_t_row 5 y1 (-1) t_row_1 hc1) (cwV 3 hts gX4_comeFromNowhere_X4_put rfl rfl rfl hd_4_put ⟨Nat.le_of_ble_eq_true rfl, Nat.le_of_ble_eq_true rfl⟩) hK hP hD hS hA 0 4 rfl rfl rfl (wd_tFleet_f.trans wd_tFleet_f.symm) rfl hl.1 rfl (Nat.le_of_ble_eq_true rfl) dX4_comeFromNowhere_4 ⟨Nat.zero_le _, Nat.zero_le _⟩ (fun H locs hP hD hS => ?_)
  obtain rfl := k_in1 h
  exact k_rv hx hb hr hlocks hP hS dX4_comeFromNowhere_7
