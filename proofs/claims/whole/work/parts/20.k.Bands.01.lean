set_option maxHeartbeats 4000000 in
set_option maxRecDepth 100000 in
theorem c_Bands_bestParting (l : Launch) (dC : Nat → ClassId) (dI : Nat → Nat → Nat) (cI cZ : ClassId) (a_t a_wy : Nat → Nat) (t_lows : Nat → Int32) (t_sizes : Nat → Int32) (i_t_parts : Nat → Int32) (wy_places : Nat → Int32) (wy_needs : Nat → Int32) (wy_last : Int32)  (r0 : Int32) (o_t_parts : Nat → Int32) (h : m_Bands_bestParting t_sizes i_t_parts wy_places wy_last = some (r0, o_t_parts)) : (MI l yX0_bestParting wsX0_bestParting ({ frames := 2, cells := 0, slots := 0, locals := 46 }) (dC, dI) [(cI, .int), (cZ, .boolean)] (wd_tBands_wyWay cI cZ a_t a_wy t_lows t_sizes i_t_parts wy_places wy_needs wy_last) (wd_tBands_wyWay cI cZ a_t a_wy t_lows t_sizes o_t_parts wy_places wy_needs wy_last) [.ref (a_t 0), .ref (a_wy 0)] r0) := by
  intro sz
  refine Met.ofW (cc := cX0_bestParting) (maxL := 6) (ret := (some .int)) (by decide) rfl ?_
  intro p e s m args below meth c s₁ B hml hv
  obtain ⟨rfl, hsz, hP, hK, hD0⟩ := hv
  have hx := B.exec
  have hb := B.bytes
  have hr := B.returns
  have hts := atoms_spec (ws := wsX0_bestParting) B.pre
  have hown : s.vm.findClass RX0 = some m.cls := findClass_of_methodNamed B.named
  have hlocks := B.notSynchronized
  subst hsz
  have hD := hD0.self (sz := s.heap.size)
  have hA : ∀ q : Nat, s.heap.size ≤ q → va_A (wd_tBands_wyWay cI cZ a_t a_wy t_lows t_sizes i_t_parts wy_places wy_needs wy_last) s.heap.size q := fun q h => Or.inr h
  have hS : va_S (va_A (wd_tBands_wyWay cI cZ a_t a_wy t_lows t_sizes i_t_parts wy_places wy_needs wy_last) s.heap.size) s.heap s.heap [] := va_S.rf
  have hl := lv_entry ([.ref (a_t 0), .ref (a_wy 0)]) (n := 6) (Nat.le_of_ble_eq_true rfl)
  rw [lg_entry_eq]
  generalize (lg_sl ([.ref (a_t 0), .ref (a_wy 0)]) ++ List.replicate (6 - (lg_sl ([.ref (a_t 0), .ref (a_wy 0)])).length) Slot.unset).toArray = ls at hl ⊢
  have hl : lv_has ls 6 [(0, .ref (a_t 0)), (1, .ref (a_wy 0))] := hl
  have L10 : ∀ (n10 : Nat) (x2 : Int32) (x3 : Int32) (x4 : Int32) (t_parts : Nat → Int32) (H : Heap) (locs : List Loc) (ls : Array Slot), va_P (dC, dI) vwCl (wd_tBands_wyWay cI cZ a_t a_wy t_lows t_sizes t_parts wy_places wy_needs wy_last) H → va_D (va_A (wd_tBands_wyWay cI cZ a_t a_wy t_lows t_sizes i_t_parts wy_places wy_needs wy_last) s.heap.size) (wd_tBands_wyWay cI cZ a_t a_wy t_lows t_sizes t_parts wy_places wy_needs wy_last) → va_S (va_A (wd_tBands_wyWay cI cZ a_t a_wy t_lows t_sizes i_t_parts wy_places wy_needs wy_last) s.heap.size) s.heap H locs → lv_has ls 6 [(0, .ref (a_t 0)), (1, .ref (a_wy 0)), (2, .int x2), (3, .int x3), (4, .int x4)] → m_Bands_bestParting_L10  n10 x2 x3 x4 t_sizes t_parts wy_places wy_last = some (r0, o_t_parts) → W p l e (headSpec wsX0_bestParting ({ frames := 2, cells := 0, slots := 0, locals := 46 })).room s m ([.ref (a_t 0), .ref (a_wy 0)] : List Value).toArray below meth c H locs 0 0 (MQ below (cQi (dC, dI) (wd_tBands_wyWay cI cZ a_t a_wy t_lows t_sizes i_t_parts wy_places wy_needs wy_last) (wd_tBands_wyWay cI cZ a_t a_wy t_lows t_sizes o_t_parts wy_places wy_needs wy_last) s.heap.size r0) ([.ref (a_t 0), .ref (a_wy 0)] : List Value).toArray s 0 0 (va_A (wd_tBands_wyWay cI cZ a_t a_wy t_lows t_sizes i_t_parts wy_places wy_needs wy_last) s.heap.size)) (F0 m 10 ls []) := by
    intro n10
    induction n10 with
    | zero => intro x2 x3 x4 t_parts H locs ls hP hD hS hl h; have h : none = some (r0, o_t_parts) := h; cases h
    | succ n10 ih10 =>
      intro x2 x3 x4 t_parts H locs ls hP hD hS hl h
      have h : m_Bands_bestParting_B10  (m_Bands_bestParting_L10  n10) x2 x3 x4 t_sizes t_parts wy_places wy_last = some (r0, o_t_parts) := h
      have J38 : ∀ (x2 : Int32) (x3 : Int32) (x4 : Int32) (t_parts : Nat → Int32) (H : Heap) (locs : List Loc) (ls : Array Slot), va_P (dC, dI) vwCl (wd_tBands_wyWay cI cZ a_t a_wy t_lows t_sizes t_parts wy_places wy_needs wy_last) H → va_D (va_A (wd_tBands_wyWay cI cZ a_t a_wy t_lows t_sizes i_t_parts wy_places wy_needs wy_last) s.heap.size) (wd_tBands_wyWay cI cZ a_t a_wy t_lows t_sizes t_parts wy_places wy_needs wy_last) → va_S (va_A (wd_tBands_wyWay cI cZ a_t a_wy t_lows t_sizes i_t_parts wy_places wy_needs wy_last) s.heap.size) s.heap H locs → lv_has ls 6 [(0, .ref (a_t 0)), (1, .ref (a_wy 0)), (2, .int x2), (3, .int x3), (4, .int x4)] → m_Bands_bestParting_B38 (m_Bands_bestParting_L10  n10) x2 x3 x4 t_sizes t_parts wy_places wy_last = some (r0, o_t_parts) → W p l e (headSpec wsX0_bestParting ({ frames := 2, cells := 0, slots := 0, locals := 46 })).room s m ([.ref (a_t 0), .ref (a_wy 0)] : List Value).toArray below meth c H locs 0 0 (MQ below (cQi (dC, dI) (wd_tBands_wyWay cI cZ a_t a_wy t_lows t_sizes i_t_parts wy_places wy_needs wy_last) (wd_tBands_wyWay cI cZ a_t a_wy t_lows t_sizes o_t_parts wy_places wy_needs wy_last) s.heap.size r0) ([.ref (a_t 0), .ref (a_wy 0)] : List Value).toArray s 0 0 (va_A (wd_tBands_wyWay cI cZ a_t a_wy t_lows t_sizes i_t_parts wy_places wy_needs wy_last) s.heap.size)) (F0 m 38 ls []) := by
        intro x2 x3 x4 t_parts H locs ls hP hD hS hl h
        unfold m_Bands_bestParting_B38 at h
        refine lv_iinc (v := (x4 + 1)) (lv' := [(4, .int (x4 + 1)), (0, .ref (a_t 0)), (1, .ref (a_wy 0)), (2, .int x2), (3, .int x3)]) hx hb dX0_bestParting_38 hl (k := 4) rfl rfl (by decide) rfl (fun ls hl => ?_)
        refine lv_goto (tgt := 10) hx hb dX0_bestParting_41 (by decide) ?_
        exact ih10 x2 x3 (x4 + 1) t_parts _ _ _ hP hD hS (lv_sub hl [1, 2, 3, 4, 0] rfl) h
      unfold m_Bands_bestParting_B10 at h
      refine lv_iload hx hb dX0_bestParting_10 (lv_at hl 4 rfl) ?_
      refine lv_bipush (v := 30) hx hb dX0_bestParting_12 (by decide) ?_
      refine lv_icmp_gt (tgt := 44) hx hb dX0_bestParting_14 (by decide) (fun hc => ?_) (fun hc => ?_)
      · have h := k_pos hc h
        refine lv_iload_n hx hb dX0_bestParting_44 rfl (lv_at hl 2 rfl) ?_
        obtain ⟨rfl, rfl⟩ := k_in2 h
        exact k_ri hx hb hr hlocks hP hS dX0_bestParting_45
      · have h := k_neg hc h
        refine lv_aload_n hx hb dX0_bestParting_17 rfl (lv_at hl 0 rfl) ?_
        refine lv_aload_n hx hb dX0_bestParting_18 rfl (lv_at hl 1 rfl) ?_
        refine lv_iload hx hb dX0_bestParting_19 (lv_at hl 4 rfl) ?_
        obtain ⟨r1, t_parts_1, hc1, h⟩ := kb2_some h
        refine k_FVi (rest := []) (As := [.ref (a_wy 0), .int x4]) ⟨hx, hb, hml, hown, hts⟩ (c_Bands_greatestPart l dC dI cI cZ a_t a_wy t_lows t_sizes t_parts wy_places wy_needs wy_last x4 r1 t_parts_1 hc1) (cwV 2 hts gX0_bestParting_X0_greatestPart rfl rfl rfl hd_0_greatestPart ⟨Nat.le_of_ble_eq_true rfl, Nat.le_of_ble_eq_true rfl⟩) hK hP hD hS hA 0 0 rfl rfl rfl (wd_tBands_wyWay_f.trans wd_tBands_wyWay_f.symm) rfl hl.1 rfl (Nat.le_of_ble_eq_true rfl) dX0_bestParting_21 ⟨Nat.zero_le _, Nat.zero_le _⟩ (fun H locs hP hD hS => ?_)
        refine lv_istore (lv' := [(5, .int r1), (0, .ref (a_t 0)), (1, .ref (a_wy 0)), (2, .int x2), (3, .int x3), (4, .int x4)]) hx hb dX0_bestParting_24 hl (by decide) rfl (fun ls hl => ?_)
        refine lv_iload hx hb dX0_bestParting_26 (lv_at hl 0 rfl) ?_
        refine lv_iload_n hx hb dX0_bestParting_28 rfl (lv_at hl 4 rfl) ?_
        refine lv_icmp_ge (tgt := 38) hx hb dX0_bestParting_29 (by decide) (fun hc => ?_) (fun hc => ?_)
        · have h := k_pos hc h
          exact J38 x2 x3 x4 t_parts_1 _ _ _ hP hD hS (lv_sub hl [1, 2, 3, 4, 5] rfl) h
        · have h := k_neg hc h
          refine lv_iload hx hb dX0_bestParting_32 (lv_at hl 0 rfl) ?_
          refine lv_istore_n (lv' := [(3, .int r1), (5, .int r1), (0, .ref (a_t 0)), (1, .ref (a_wy 0)), (2, .int x2), (4, .int x4)]) hx hb dX0_bestParting_34 rfl hl (by decide) rfl (fun ls hl => ?_)
          refine lv_iload hx hb dX0_bestParting_35 (lv_at hl 5 rfl) ?_
          refine lv_istore_n (lv' := [(2, .int x4), (3, .int r1), (5, .int r1), (0, .ref (a_t 0)), (1, .ref (a_wy 0)), (4, .int x4)]) hx hb dX0_bestParting_37 rfl hl (by decide) rfl (fun ls hl => ?_)
          exact J38 x4 r1 x4 t_parts_1 _ _ _ hP hD hS (lv_sub hl [3, 4, 0, 1, 5] rfl) h
  unfold m_Bands_bestParting at h
  refine lv_iconst (v := (-1)) hx hb dX0_bestParting_0 (by decide) ?_
  refine lv_istore_n (lv' := [(2, .int (-1)), (0, .ref (a_t 0)), (1, .ref (a_wy 0))]) hx hb dX0_bestParting_1 rfl hl (by decide) rfl (fun ls hl => ?_)
  refine lv_aload_n hx hb dX0_bestParting_2 rfl (lv_at hl 1 rfl) ?_
  obtain ⟨r2, hc2, h⟩ := kb1_some h
  refine k_RVi (rest := []) (As := []) ⟨hx, hb, hml, hown, hts⟩ (c_Bands_total l dC dI cI cZ a_t t_lows t_sizes i_t_parts r2 hc2) (cwV 0 hts gX0_bestParting_X0_total rfl rfl rfl hd_0_total ⟨Nat.le_of_ble_eq_true rfl, Nat.le_of_ble_eq_true rfl⟩) hK hP hD hS hA [0, 1, 2, 3] rfl (by decide +kernel) 0 0 rfl rfl rfl rfl hl.1 rfl (Nat.le_of_ble_eq_true rfl) dX0_bestParting_3 ⟨Nat.zero_le _, Nat.zero_le _⟩ (fun H locs hP hD hS => ?_)
  refine lv_istore_n (lv' := [(3, .int r2), (2, .int (-1)), (0, .ref (a_t 0)), (1, .ref (a_wy 0))]) hx hb dX0_bestParting_6 rfl hl (by decide) rfl (fun ls hl => ?_)
  refine lv_iconst (v := 1) hx hb dX0_bestParting_7 (by decide) ?_
  refine lv_istore (lv' := [(4, .int 1), (3, .int r2), (2, .int (-1)), (0, .ref (a_t 0)), (1, .ref (a_wy 0))]) hx hb dX0_bestParting_8 hl (by decide) rfl (fun ls hl => ?_)
  exact L10 FU (-1) r2 1 i_t_parts _ _ _ hP hD hS (lv_sub hl [3, 4, 2, 1, 0] rfl) h
