set_option maxHeartbeats 4000000 in
set_option maxRecDepth 100000 in
theorem c_Way_leastLess (l : Launch) (dC : Nat → ClassId) (dI : Nat → Nat → Nat) (cI cZ : ClassId) (a_t : Nat → Nat) (t_places : Nat → Int32) (t_needs : Nat → Int32) (t_last : Int32) (y1 : Int32) (y2 : Int32) (r0 : Int32) (h : m_Way_leastLess y1 y2 t_places t_needs t_last = some r0) : (MI l yX10_leastLess wsX10_leastLess ({ frames := 2, cells := 0, slots := 0, locals := 43 }) (dC, dI) [(cI, .int), (cZ, .boolean)] (wd_tWay cI cZ a_t t_places t_needs t_last) (wd_tWay cI cZ a_t t_places t_needs t_last) [.ref (a_t 0), .int y1, .int y2] r0) := by
  intro sz
  refine Met.ofW (cc := cX10_leastLess) (maxL := 6) (ret := (some .int)) (by decide) rfl ?_
  intro p e s m args below meth c s₁ B hml hv
  obtain ⟨rfl, hsz, hP, hK, hD0⟩ := hv
  have hx := B.exec
  have hb := B.bytes
  have hr := B.returns
  have hts := atoms_spec (ws := wsX10_leastLess) B.pre
  have hown : s.vm.findClass RX10 = some m.cls := findClass_of_methodNamed B.named
  have hlocks := B.notSynchronized
  subst hsz
  have hD := hD0.self (sz := s.heap.size)
  have hA : ∀ q : Nat, s.heap.size ≤ q → va_A (wd_tWay cI cZ a_t t_places t_needs t_last) s.heap.size q := fun q h => Or.inr h
  have hS : va_S (va_A (wd_tWay cI cZ a_t t_places t_needs t_last) s.heap.size) s.heap s.heap [] := va_S.rf
  have hin10 : ∀ w ∈ u_ws RX10 TX10 3, w ∈ wsX10_leastLess := fun w h => List.mem_cons_of_mem _ (List.mem_append_right _ h)
  have hl := lv_entry ([.ref (a_t 0), .int y1, .int y2]) (n := 6) (Nat.le_of_ble_eq_true rfl)
  rw [lg_entry_eq]
  generalize (lg_sl ([.ref (a_t 0), .int y1, .int y2]) ++ List.replicate (6 - (lg_sl ([.ref (a_t 0), .int y1, .int y2])).length) Slot.unset).toArray = ls at hl ⊢
  have hl : lv_has ls 6 [(0, .ref (a_t 0)), (1, .int y1), (2, .int y2)] := hl
  have L5 : ∀ (n5 : Nat) (x1 : Int32) (x2 : Int32) (x3 : Int32) (x4 : Int32)  (H : Heap) (locs : List Loc) (ls : Array Slot), va_P (dC, dI) vwCl (wd_tWay cI cZ a_t t_places t_needs t_last) H → va_D (va_A (wd_tWay cI cZ a_t t_places t_needs t_last) s.heap.size) (wd_tWay cI cZ a_t t_places t_needs t_last) → va_S (va_A (wd_tWay cI cZ a_t t_places t_needs t_last) s.heap.size) s.heap H locs → lv_has ls 6 [(0, .ref (a_t 0)), (1, .int x1), (2, .int x2), (3, .int x3), (4, .int x4)] → m_Way_leastLess_L5  n5 x1 x2 x3 x4 t_places t_needs t_last = some r0 → W p l e (headSpec wsX10_leastLess ({ frames := 2, cells := 0, slots := 0, locals := 43 })).room s m ([.ref (a_t 0), .int y1, .int y2] : List Value).toArray below meth c H locs 0 0 (MQ below (cQi (dC, dI) (wd_tWay cI cZ a_t t_places t_needs t_last) (wd_tWay cI cZ a_t t_places t_needs t_last) s.heap.size r0) ([.ref (a_t 0), .int y1, .int y2] : List Value).toArray s 0 0 (va_A (wd_tWay cI cZ a_t t_places t_needs t_last) s.heap.size)) (F0 m 5 ls []) := by
    intro n5
    induction n5 with
    | zero => intro x1 x2 x3 x4 H locs ls hP hD hS hl h; have h : none = some r0 := h; cases h
    | succ n5 ih5 =>
      intro x1 x2 x3 x4 H locs ls hP hD hS hl h
      have h : m_Way_leastLess_B5  (m_Way_leastLess_L5  n5) x1 x2 x3 x4 t_places t_needs t_last = some r0 := h
      have J69 : ∀ (x1 : Int32) (x2 : Int32) (x3 : Int32) (x4 : Int32)  (H : Heap) (locs : List Loc) (ls : Array Slot), va_P (dC, dI) vwCl (wd_tWay cI cZ a_t t_places t_needs t_last) H → va_D (va_A (wd_tWay cI cZ a_t t_places t_needs t_last) s.heap.size) (wd_tWay cI cZ a_t t_places t_needs t_last) → va_S (va_A (wd_tWay cI cZ a_t t_places t_needs t_last) s.heap.size) s.heap H locs → lv_has ls 6 [(0, .ref (a_t 0)), (1, .int x1), (2, .int x2), (3, .int x3), (4, .int x4)] → m_Way_leastLess_B69 (m_Way_leastLess_L5  n5) x1 x2 x3 x4 t_places t_needs t_last = some r0 → W p l e (headSpec wsX10_leastLess ({ frames := 2, cells := 0, slots := 0, locals := 43 })).room s m ([.ref (a_t 0), .int y1, .int y2] : List Value).toArray below meth c H locs 0 0 (MQ below (cQi (dC, dI) (wd_tWay cI cZ a_t t_places t_needs t_last) (wd_tWay cI cZ a_t t_places t_needs t_last) s.heap.size r0) ([.ref (a_t 0), .int y1, .int y2] : List Value).toArray s 0 0 (va_A (wd_tWay cI cZ a_t t_places t_needs t_last) s.heap.size)) (F0 m 69 ls []) := by
        intro x1 x2 x3 x4 H locs ls hP hD hS hl h
        unfold m_Way_leastLess_B69 at h
        refine lv_iinc (v := (x4 + 1)) (lv' := [(4, .int (x4 + 1)), (0, .ref (a_t 0)), (1, .int x1), (2, .int x2), (3, .int x3)]) hx hb dX10_leastLess_69 hl (k := 4) rfl rfl (by decide) rfl (fun ls hl => ?_)
        refine lv_goto (tgt := 5) hx hb dX10_leastLess_72 (by decide) ?_
        exact ih5 x1 x2 x3 (x4 + 1) _ _ _ hP hD hS (lv_sub hl [1, 2, 3, 4, 0] rfl) h
      have J66 : ∀ (x1 : Int32) (x2 : Int32) (x4 : Int32) (x5 : Int32)  (H : Heap) (locs : List Loc) (ls : Array Slot), va_P (dC, dI) vwCl (wd_tWay cI cZ a_t t_places t_needs t_last) H → va_D (va_A (wd_tWay cI cZ a_t t_places t_needs t_last) s.heap.size) (wd_tWay cI cZ a_t t_places t_needs t_last) → va_S (va_A (wd_tWay cI cZ a_t t_places t_needs t_last) s.heap.size) s.heap H locs → lv_has ls 6 [(0, .ref (a_t 0)), (1, .int x1), (2, .int x2), (4, .int x4), (5, .int x5)] → m_Way_leastLess_B66 (m_Way_leastLess_L5  n5) x1 x2 x4 x5 t_places t_needs t_last = some r0 → W p l e (headSpec wsX10_leastLess ({ frames := 2, cells := 0, slots := 0, locals := 43 })).room s m ([.ref (a_t 0), .int y1, .int y2] : List Value).toArray below meth c H locs 0 0 (MQ below (cQi (dC, dI) (wd_tWay cI cZ a_t t_places t_needs t_last) (wd_tWay cI cZ a_t t_places t_needs t_last) s.heap.size r0) ([.ref (a_t 0), .int y1, .int y2] : List Value).toArray s 0 0 (va_A (wd_tWay cI cZ a_t t_places t_needs t_last) s.heap.size)) (F0 m 66 ls []) := by
        intro x1 x2 x4 x5 H locs ls hP hD hS hl h
        unfold m_Way_leastLess_B66 at h
        refine lv_iload hx hb dX10_leastLess_66 (lv_at hl 4 rfl) ?_
        refine lv_istore_n (lv' := [(3, .int x5), (0, .ref (a_t 0)), (1, .int x1), (2, .int x2), (4, .int x4), (5, .int x5)]) hx hb dX10_leastLess_68 rfl hl (by decide) rfl (fun ls hl => ?_)
        exact J69 x1 x2 x5 x4 _ _ _ hP hD hS (lv_sub hl [1, 2, 3, 0, 4] rfl) h
      unfold m_Way_leastLess_B5 at h
      refine lv_iload hx hb dX10_leastLess_5 (lv_at hl 4 rfl) ?_
      refine lv_aload_n hx hb dX10_leastLess_7 rfl (lv_at hl 0 rfl) ?_
      refine va_get (D := (dC, dI)) (ci := 10) (v := .int t_last) (C := RX10) (T := TX10) (N := 3) hx hb hts hin10 hown hK hP 0 rfl rfl 2 (by decide) (hts (.fieldLink RX10 18 "TowedBack$Way" "last" "I") (List.mem_of_getElem? (i := 1) rfl)) (fun _ h9 => h9) rfl dX10_leastLess_8 ?_
      refine lv_icmp_ge (tgt := 75) hx hb dX10_leastLess_11 (by decide) (fun hc => ?_) (fun hc => ?_)
      · have h := k_pos hc h
        refine lv_iload_n hx hb dX10_leastLess_75 rfl (lv_at hl 3 rfl) ?_
        obtain rfl := k_in1 h
        exact k_ri hx hb hr hlocks hP hS dX10_leastLess_76
      · have h := k_neg hc h
        refine lv_aload_n hx hb dX10_leastLess_14 rfl (lv_at hl 0 rfl) ?_
        refine lv_iload hx hb dX10_leastLess_15 (lv_at hl 4 rfl) ?_
        refine lv_iload_n hx hb dX10_leastLess_17 rfl (lv_at hl 2 rfl) ?_
        obtain ⟨r1, hc1, h⟩ := kb1_some h
        refine k_FVi (rest := []) (As := [.int x4, .int x2]) ⟨hx, hb, hml, hown, hts⟩ (c_Way_endsAt l dC dI cI cZ a_t t_places t_needs t_last x4 x2 r1 hc1) (cwV 2 hts gX10_leastLess_X10_endsAt rfl rfl rfl hd_10_endsAt ⟨Nat.le_of_ble_eq_true rfl, Nat.le_of_ble_eq_true rfl⟩) hK hP hD hS hA 0 10 rfl rfl rfl (wd_tWay_f.trans wd_tWay_f.symm) rfl hl.1 rfl (Nat.le_of_ble_eq_true rfl) dX10_leastLess_18 ⟨Nat.zero_le _, Nat.zero_le _⟩ (fun H locs hP hD hS => ?_)
        refine lv_if_eq (tgt := 69) hx hb dX10_leastLess_21 (by decide) (fun hc => ?_) (fun hc => ?_)
        · have h := k_pos hc h
          exact J69 x1 x2 x3 x4 _ _ _ hP hD hS (lv_sub hl [0, 1, 2, 3, 4] rfl) h
        · have h := k_neg hc h
          refine lv_aload_n hx hb dX10_leastLess_24 rfl (lv_at hl 0 rfl) ?_
          refine lv_iload hx hb dX10_leastLess_25 (lv_at hl 4 rfl) ?_
          obtain ⟨r2, hc2, h⟩ := kb1_some h
          refine k_FVi (rest := []) (As := [.int x4]) ⟨hx, hb, hml, hown, hts⟩ (c_Way_need l dC dI cI cZ a_t t_places t_needs t_last x4 r2 hc2) (cwV 1 hts gX10_leastLess_X10_need rfl rfl rfl hd_10_need ⟨Nat.le_of_ble_eq_true rfl, Nat.le_of_ble_eq_true rfl⟩) hK hP hD hS hA 0 10 rfl rfl rfl (wd_tWay_f.trans wd_tWay_f.symm) rfl hl.1 rfl (Nat.le_of_ble_eq_true rfl) dX10_leastLess_27 ⟨Nat.zero_le _, Nat.zero_le _⟩ (fun H locs hP hD hS => ?_)
          refine lv_iload_n hx hb dX10_leastLess_30 rfl (lv_at hl 1 rfl) ?_
          refine lv_icmp_le (tgt := 37) hx hb dX10_leastLess_31 (by decide) (fun hc => ?_) (fun hc => ?_)
          · have h := k_pos hc h
            refine lv_iconst (v := 0) hx hb dX10_leastLess_37 (by decide) ?_
            refine lv_iload_n hx hb dX10_leastLess_38 rfl (lv_at hl 1 rfl) ?_
            refine lv_aload_n hx hb dX10_leastLess_39 rfl (lv_at hl 0 rfl) ?_
            refine lv_iload hx hb dX10_leastLess_40 (lv_at hl 4 rfl) ?_
            refine lv_iconst (v := 1) hx hb dX10_leastLess_42 (by decide) ?_
            refine lv_iadd hx hb dX10_leastLess_43 ?_
            obtain ⟨r3, hc3, h⟩ := kb1_some h
            refine k_FVi (rest := [.int x1, .int 0]) (As := [.int (x4 + 1)]) ⟨hx, hb, hml, hown, hts⟩ (c_Way_need l dC dI cI cZ a_t t_places t_needs t_last (x4 + 1) r3 hc3) (cwV 1 hts gX10_leastLess_X10_need rfl rfl rfl hd_10_need ⟨Nat.le_of_ble_eq_true rfl, Nat.le_of_ble_eq_true rfl⟩) hK hP hD hS hA 0 10 rfl rfl rfl (wd_tWay_f.trans wd_tWay_f.symm) rfl hl.1 rfl (Nat.le_of_ble_eq_true rfl) dX10_leastLess_44 ⟨Nat.zero_le _, Nat.zero_le _⟩ (fun H locs hP hD hS => ?_)
            refine lv_isub hx hb dX10_leastLess_47 ?_
            refine lv_iconst (v := 1) hx hb dX10_leastLess_48 (by decide) ?_
            refine lv_iadd hx hb dX10_leastLess_49 ?_
            refine va_mmax hx hb (hml.trans hl.1.symm) hown (hts (.methodLink RX10 28 Lib.Math.max.name) (List.mem_of_getElem? (i := 2) rfl)) (hts (.static Lib.Math.max.name) (List.mem_of_getElem? (i := 3) rfl)) (hts (.initialized "java/lang/Math") (List.mem_of_getElem? (i := 4) rfl)) (hts (.code Lib.Math.max.name Lib.Math.max.code 2 (some .int)) (List.mem_of_getElem? (i := 5) rfl)) (Nat.le_of_ble_eq_true rfl) (Nat.le_of_ble_eq_true rfl) (Nat.zero_le _) (Nat.zero_le _) dX10_leastLess_50 ?_
            refine lv_istore (lv' := [(5, .int (if 0 < ((x1 - r3) + 1) then ((x1 - r3) + 1) else 0)), (0, .ref (a_t 0)), (1, .int x1), (2, .int x2), (3, .int x3), (4, .int x4)]) hx hb dX10_leastLess_53 hl (by decide) rfl (fun ls hl => ?_)
            refine lv_iload_n hx hb dX10_leastLess_55 rfl (lv_at hl 4 rfl) ?_
            refine lv_iconst (v := (-1)) hx hb dX10_leastLess_56 (by decide) ?_
            refine lv_icmp_eq (tgt := 66) hx hb dX10_leastLess_57 (by decide) (fun hc => ?_) (fun hc => ?_)
            · have h := k_pos hc h
              exact J66 x1 x2 x4 (if 0 < ((x1 - r3) + 1) then ((x1 - r3) + 1) else 0) _ _ _ hP hD hS (lv_sub hl [1, 2, 3, 5, 0] rfl) h
            · have h := k_neg hc h
              refine lv_iload hx hb dX10_leastLess_60 (lv_at hl 0 rfl) ?_
              refine lv_iload_n hx hb dX10_leastLess_62 rfl (lv_at hl 4 rfl) ?_
              refine lv_icmp_ge (tgt := 69) hx hb dX10_leastLess_63 (by decide) (fun hc => ?_) (fun hc => ?_)
              · have h := k_pos hc h
                exact J69 x1 x2 x3 x4 _ _ _ hP hD hS (lv_sub hl [1, 2, 3, 4, 5] rfl) h
              · have h := k_neg hc h
                exact J66 x1 x2 x4 (if 0 < ((x1 - r3) + 1) then ((x1 - r3) + 1) else 0) _ _ _ hP hD hS (lv_sub hl [1, 2, 3, 5, 0] rfl) h
          · have h := k_neg hc h
            refine lv_goto (tgt := 69) hx hb dX10_leastLess_34 (by decide) ?_
            exact J69 x1 x2 x3 x4 _ _ _ hP hD hS (lv_sub hl [0, 1, 2, 3, 4] rfl) h
  unfold m_Way_leastLess at h
  refine lv_iconst (v := (-1)) hx hb dX10_leastLess_0 (by decide) ?_
  refine lv_istore_n (lv' := [(3, .int (-1)), (0, .ref (a_t 0)), (1, .int y1), (2, .int y2)]) hx hb dX10_leastLess_1 rfl hl (by decide) rfl (fun ls hl => ?_)
  refine lv_iconst (v := 0) hx hb dX10_leastLess_2 (by decide) ?_
  refine lv_istore (lv' := [(4, .int 0), (3, .int (-1)), (0, .ref (a_t 0)), (1, .int y1), (2, .int y2)]) hx hb dX10_leastLess_3 hl (by decide) rfl (fun ls hl => ?_)
  exact L5 FU y1 y2 (-1) 0 _ _ _ hP hD hS (lv_sub hl [2, 3, 4, 1, 0] rfl) h
set_option maxHeartbeats 4000000 in
set_option maxRecDepth 100000 in
theorem c_Way_leastMore (l : Launch) (dC : Nat → ClassId) (dI : Nat → Nat → Nat) (cI cZ : ClassId) (a_t : Nat → Nat) (t_places : Nat → Int32) (t_needs : Nat → Int32) (t_last : Int32) (y1 : Int32) (y2 : Int32) (r0 : Int32) (h : m_Way_leastMore y1 y2 t_places t_needs t_last = some r0) : (MI l yX10_leastMore wsX10_leastMore ({ frames := 2, cells := 0, slots := 0, locals := 43 }) (dC, dI) [(cI, .int), (cZ, .boolean)] (wd_tWay cI cZ a_t t_places t_needs t_last) (wd_tWay cI cZ a_t t_places t_needs t_last) [.ref (a_t 0), .int y1, .int y2] r0) := by
  intro sz
  refine Met.ofW (cc := cX10_leastMore) (maxL := 6) (ret := (some .int)) (by decide) rfl ?_
  intro p e s m args below meth c s₁ B hml hv
  obtain ⟨rfl, hsz, hP, hK, hD0⟩ := hv
  have hx := B.exec
  have hb := B.bytes
  have hr := B.returns
  have hts := atoms_spec (ws := wsX10_leastMore) B.pre
  have hown : s.vm.findClass RX10 = some m.cls := findClass_of_methodNamed B.named
  have hlocks := B.notSynchronized
  subst hsz
  have hD := hD0.self (sz := s.heap.size)
  have hA : ∀ q : Nat, s.heap.size ≤ q → va_A (wd_tWay cI cZ a_t t_places t_needs t_last) s.heap.size q := fun q h => Or.inr h
  have hS : va_S (va_A (wd_tWay cI cZ a_t t_places t_needs t_last) s.heap.size) s.heap s.heap [] := va_S.rf
  have hin10 : ∀ w ∈ u_ws RX10 TX10 3, w ∈ wsX10_leastMore := fun w h => List.mem_cons_of_mem _ (List.mem_append_right _ h)
  have hl := lv_entry ([.ref (a_t 0), .int y1, .int y2]) (n := 6) (Nat.le_of_ble_eq_true rfl)
  rw [lg_entry_eq]
  generalize (lg_sl ([.ref (a_t 0), .int y1, .int y2]) ++ List.replicate (6 - (lg_sl ([.ref (a_t 0), .int y1, .int y2])).length) Slot.unset).toArray = ls at hl ⊢
  have hl : lv_has ls 6 [(0, .ref (a_t 0)), (1, .int y1), (2, .int y2)] := hl
  have L5 : ∀ (n5 : Nat) (x1 : Int32) (x2 : Int32) (x3 : Int32) (x4 : Int32)  (H : Heap) (locs : List Loc) (ls : Array Slot), va_P (dC, dI) vwCl (wd_tWay cI cZ a_t t_places t_needs t_last) H → va_D (va_A (wd_tWay cI cZ a_t t_places t_needs t_last) s.heap.size) (wd_tWay cI cZ a_t t_places t_needs t_last) → va_S (va_A (wd_tWay cI cZ a_t t_places t_needs t_last) s.heap.size) s.heap H locs → lv_has ls 6 [(0, .ref (a_t 0)), (1, .int x1), (2, .int x2), (3, .int x3), (4, .int x4)] → m_Way_leastMore_L5  n5 x1 x2 x3 x4 t_places t_needs t_last = some r0 → W p l e (headSpec wsX10_leastMore ({ frames := 2, cells := 0, slots := 0, locals := 43 })).room s m ([.ref (a_t 0), .int y1, .int y2] : List Value).toArray below meth c H locs 0 0 (MQ below (cQi (dC, dI) (wd_tWay cI cZ a_t t_places t_needs t_last) (wd_tWay cI cZ a_t t_places t_needs t_last) s.heap.size r0) ([.ref (a_t 0), .int y1, .int y2] : List Value).toArray s 0 0 (va_A (wd_tWay cI cZ a_t t_places t_needs t_last) s.heap.size)) (F0 m 5 ls []) := by
    intro n5
    induction n5 with
    | zero => intro x1 x2 x3 x4 H locs ls hP hD hS hl h; have h : none = some r0 := h; cases h
    | succ n5 ih5 =>
      intro x1 x2 x3 x4 H locs ls hP hD hS hl h
      have h : m_Way_leastMore_B5  (m_Way_leastMore_L5  n5) x1 x2 x3 x4 t_places t_needs t_last = some r0 := h
      have J67 : ∀ (x1 : Int32) (x2 : Int32) (x3 : Int32) (x4 : Int32)  (H : Heap) (locs : List Loc) (ls : Array Slot), va_P (dC, dI) vwCl (wd_tWay cI cZ a_t t_places t_needs t_last) H → va_D (va_A (wd_tWay cI cZ a_t t_places t_needs t_last) s.heap.size) (wd_tWay cI cZ a_t t_places t_needs t_last) → va_S (va_A (wd_tWay cI cZ a_t t_places t_needs t_last) s.heap.size) s.heap H locs → lv_has ls 6 [(0, .ref (a_t 0)), (1, .int x1), (2, .int x2), (3, .int x3), (4, .int x4)] → m_Way_leastMore_B67 (m_Way_leastMore_L5  n5) x1 x2 x3 x4 t_places t_needs t_last = some r0 → W p l e (headSpec wsX10_leastMore ({ frames := 2, cells := 0, slots := 0, locals := 43 })).room s m ([.ref (a_t 0), .int y1, .int y2] : List Value).toArray below meth c H locs 0 0 (MQ below (cQi (dC, dI) (wd_tWay cI cZ a_t t_places t_needs t_last) (wd_tWay cI cZ a_t t_places t_needs t_last) s.heap.size r0) ([.ref (a_t 0), .int y1, .int y2] : List Value).toArray s 0 0 (va_A (wd_tWay cI cZ a_t t_places t_needs t_last) s.heap.size)) (F0 m 67 ls []) := by
        intro x1 x2 x3 x4 H locs ls hP hD hS hl h
        unfold m_Way_leastMore_B67 at h
        refine lv_iinc (v := (x4 + 1)) (lv' := [(4, .int (x4 + 1)), (0, .ref (a_t 0)), (1, .int x1), (2, .int x2), (3, .int x3)]) hx hb dX10_leastMore_67 hl (k := 4) rfl rfl (by decide) rfl (fun ls hl => ?_)
        refine lv_goto (tgt := 5) hx hb dX10_leastMore_70 (by decide) ?_
        exact ih5 x1 x2 x3 (x4 + 1) _ _ _ hP hD hS (lv_sub hl [1, 2, 3, 4, 0] rfl) h
      have J64 : ∀ (x1 : Int32) (x2 : Int32) (x4 : Int32) (x5 : Int32)  (H : Heap) (locs : List Loc) (ls : Array Slot), va_P (dC, dI) vwCl (wd_tWay cI cZ a_t t_places t_needs t_last) H → va_D (va_A (wd_tWay cI cZ a_t t_places t_needs t_last) s.heap.size) (wd_tWay cI cZ a_t t_places t_needs t_last) → va_S (va_A (wd_tWay cI cZ a_t t_places t_needs t_last) s.heap.size) s.heap H locs → lv_has ls 6 [(0, .ref (a_t 0)), (1, .int x1), (2, .int x2), (4, .int x4), (5, .int x5)] → m_Way_leastMore_B64 (m_Way_leastMore_L5  n5) x1 x2 x4 x5 t_places t_needs t_last = some r0 → W p l e (headSpec wsX10_leastMore ({ frames := 2, cells := 0, slots := 0, locals := 43 })).room s m ([.ref (a_t 0), .int y1, .int y2] : List Value).toArray below meth c H locs 0 0 (MQ below (cQi (dC, dI) (wd_tWay cI cZ a_t t_places t_needs t_last) (wd_tWay cI cZ a_t t_places t_needs t_last) s.heap.size r0) ([.ref (a_t 0), .int y1, .int y2] : List Value).toArray s 0 0 (va_A (wd_tWay cI cZ a_t t_places t_needs t_last) s.heap.size)) (F0 m 64 ls []) := by
        intro x1 x2 x4 x5 H locs ls hP hD hS hl h
        unfold m_Way_leastMore_B64 at h
        refine lv_iload hx hb dX10_leastMore_64 (lv_at hl 4 rfl) ?_
        refine lv_istore_n (lv' := [(3, .int x5), (0, .ref (a_t 0)), (1, .int x1), (2, .int x2), (4, .int x4), (5, .int x5)]) hx hb dX10_leastMore_66 rfl hl (by decide) rfl (fun ls hl => ?_)
        exact J67 x1 x2 x5 x4 _ _ _ hP hD hS (lv_sub hl [1, 2, 3, 0, 4] rfl) h
      unfold m_Way_leastMore_B5 at h
      refine lv_iload hx hb dX10_leastMore_5 (lv_at hl 4 rfl) ?_
      refine lv_aload_n hx hb dX10_leastMore_7 rfl (lv_at hl 0 rfl) ?_
      refine va_get (D := (dC, dI)) (ci := 10) (v := .int t_last) (C := RX10) (T := TX10) (N := 3) hx hb hts hin10 hown hK hP 0 rfl rfl 2 (by decide) (hts (.fieldLink RX10 18 "TowedBack$Way" "last" "I") (List.mem_of_getElem? (i := 1) rfl)) (fun _ h9 => h9) rfl dX10_leastMore_8 ?_
      refine lv_icmp_ge (tgt := 73) hx hb dX10_leastMore_11 (by decide) (fun hc => ?_) (fun hc => ?_)
      · have h := k_pos hc h
        refine lv_iload_n hx hb dX10_leastMore_73 rfl (lv_at hl 3 rfl) ?_
        obtain rfl := k_in1 h
        exact k_ri hx hb hr hlocks hP hS dX10_leastMore_74
      · have h := k_neg hc h
        refine lv_aload_n hx hb dX10_leastMore_14 rfl (lv_at hl 0 rfl) ?_
        refine lv_iload hx hb dX10_leastMore_15 (lv_at hl 4 rfl) ?_
        refine lv_iload_n hx hb dX10_leastMore_17 rfl (lv_at hl 2 rfl) ?_
        obtain ⟨r1, hc1, h⟩ := kb1_some h
        refine k_FVi (rest := []) (As := [.int x4, .int x2]) ⟨hx, hb, hml, hown, hts⟩ (c_Way_endsAt l dC dI cI cZ a_t t_places t_needs t_last x4 x2 r1 hc1) (cwV 2 hts gX10_leastMore_X10_endsAt rfl rfl rfl hd_10_endsAt ⟨Nat.le_of_ble_eq_true rfl, Nat.le_of_ble_eq_true rfl⟩) hK hP hD hS hA 0 10 rfl rfl rfl (wd_tWay_f.trans wd_tWay_f.symm) rfl hl.1 rfl (Nat.le_of_ble_eq_true rfl) dX10_leastMore_18 ⟨Nat.zero_le _, Nat.zero_le _⟩ (fun H locs hP hD hS => ?_)
        refine lv_if_eq (tgt := 67) hx hb dX10_leastMore_21 (by decide) (fun hc => ?_) (fun hc => ?_)
        · have h := k_pos hc h
          exact J67 x1 x2 x3 x4 _ _ _ hP hD hS (lv_sub hl [0, 1, 2, 3, 4] rfl) h
        · have h := k_neg hc h
          refine lv_aload_n hx hb dX10_leastMore_24 rfl (lv_at hl 0 rfl) ?_
          refine lv_iload hx hb dX10_leastMore_25 (lv_at hl 4 rfl) ?_
          refine lv_iconst (v := 1) hx hb dX10_leastMore_27 (by decide) ?_
          refine lv_iadd hx hb dX10_leastMore_28 ?_
          obtain ⟨r2, hc2, h⟩ := kb1_some h
          refine k_FVi (rest := []) (As := [.int (x4 + 1)]) ⟨hx, hb, hml, hown, hts⟩ (c_Way_need l dC dI cI cZ a_t t_places t_needs t_last (x4 + 1) r2 hc2) (cwV 1 hts gX10_leastMore_X10_need rfl rfl rfl hd_10_need ⟨Nat.le_of_ble_eq_true rfl, Nat.le_of_ble_eq_true rfl⟩) hK hP hD hS hA 0 10 rfl rfl rfl (wd_tWay_f.trans wd_tWay_f.symm) rfl hl.1 rfl (Nat.le_of_ble_eq_true rfl) dX10_leastMore_29 ⟨Nat.zero_le _, Nat.zero_le _⟩ (fun H locs hP hD hS => ?_)
          refine lv_iload_n hx hb dX10_leastMore_32 rfl (lv_at hl 1 rfl) ?_
          refine lv_icmp_gt (tgt := 39) hx hb dX10_leastMore_33 (by decide) (fun hc => ?_) (fun hc => ?_)
          · have h := k_pos hc h
            refine lv_iconst (v := 0) hx hb dX10_leastMore_39 (by decide) ?_
            refine lv_aload_n hx hb dX10_leastMore_40 rfl (lv_at hl 0 rfl) ?_
            refine lv_iload hx hb dX10_leastMore_41 (lv_at hl 4 rfl) ?_
            obtain ⟨r3, hc3, h⟩ := kb1_some h
            refine k_FVi (rest := [.int 0]) (As := [.int x4]) ⟨hx, hb, hml, hown, hts⟩ (c_Way_need l dC dI cI cZ a_t t_places t_needs t_last x4 r3 hc3) (cwV 1 hts gX10_leastMore_X10_need rfl rfl rfl hd_10_need ⟨Nat.le_of_ble_eq_true rfl, Nat.le_of_ble_eq_true rfl⟩) hK hP hD hS hA 0 10 rfl rfl rfl (wd_tWay_f.trans wd_tWay_f.symm) rfl hl.1 rfl (Nat.le_of_ble_eq_true rfl) dX10_leastMore_43 ⟨Nat.zero_le _, Nat.zero_le _⟩ (fun H locs hP hD hS => ?_)
            refine lv_iload_n hx hb dX10_leastMore_46 rfl (lv_at hl 1 rfl) ?_
            refine lv_isub hx hb dX10_leastMore_47 ?_
            refine va_mmax hx hb (hml.trans hl.1.symm) hown (hts (.methodLink RX10 28 Lib.Math.max.name) (List.mem_of_getElem? (i := 2) rfl)) (hts (.static Lib.Math.max.name) (List.mem_of_getElem? (i := 3) rfl)) (hts (.initialized "java/lang/Math") (List.mem_of_getElem? (i := 4) rfl)) (hts (.code Lib.Math.max.name Lib.Math.max.code 2 (some .int)) (List.mem_of_getElem? (i := 5) rfl)) (Nat.le_of_ble_eq_true rfl) (Nat.le_of_ble_eq_true rfl) (Nat.zero_le _) (Nat.zero_le _) dX10_leastMore_48 ?_
            refine lv_istore (lv' := [(5, .int (if 0 < (r3 - x1) then (r3 - x1) else 0)), (0, .ref (a_t 0)), (1, .int x1), (2, .int x2), (3, .int x3), (4, .int x4)]) hx hb dX10_leastMore_51 hl (by decide) rfl (fun ls hl => ?_)
            refine lv_iload_n hx hb dX10_leastMore_53 rfl (lv_at hl 4 rfl) ?_
            refine lv_iconst (v := (-1)) hx hb dX10_leastMore_54 (by decide) ?_
            refine lv_icmp_eq (tgt := 64) hx hb dX10_leastMore_55 (by decide) (fun hc => ?_) (fun hc => ?_)
            · have h := k_pos hc h
              exact J64 x1 x2 x4 (if 0 < (r3 - x1) then (r3 - x1) else 0) _ _ _ hP hD hS (lv_sub hl [1, 2, 3, 5, 0] rfl) h
            · have h := k_neg hc h
              refine lv_iload hx hb dX10_leastMore_58 (lv_at hl 0 rfl) ?_
              refine lv_iload_n hx hb dX10_leastMore_60 rfl (lv_at hl 4 rfl) ?_
              refine lv_icmp_ge (tgt := 67) hx hb dX10_leastMore_61 (by decide) (fun hc => ?_) (fun hc => ?_)
              · have h := k_pos hc h
                exact J67 x1 x2 x3 x4 _ _ _ hP hD hS (lv_sub hl [1, 2, 3, 4, 5] rfl) h
              · have h := k_neg hc h
                exact J64 x1 x2 x4 (if 0 < (r3 - x1) then (r3 - x1) else 0) _ _ _ hP hD hS (lv_sub hl [1, 2, 3, 5, 0] rfl) h
          · have h := k_neg hc h
            refine lv_goto (tgt := 67) hx hb dX10_leastMore_36 (by decide) ?_
            exact J67 x1 x2 x3 x4 _ _ _ hP hD hS (lv_sub hl [0, 1, 2, 3, 4] rfl) h
  unfold m_Way_leastMore at h
  refine lv_iconst (v := (-1)) hx hb dX10_leastMore_0 (by decide) ?_
  refine lv_istore_n (lv' := [(3, .int (-1)), (0, .ref (a_t 0)), (1, .int y1), (2, .int y2)]) hx hb dX10_leastMore_1 rfl hl (by decide) rfl (fun ls hl => ?_)
  refine lv_iconst (v := 0) hx hb dX10_leastMore_2 (by decide) ?_
  refine lv_istore (lv' := [(4, .int 0), (3, .int (-1)), (0, .ref (a_t 0)), (1, .int y1), (2, .int y2)]) hx hb dX10_leastMore_3 hl (by decide) rfl (fun ls hl => ?_)
  exact L5 FU y1 y2 (-1) 0 _ _ _ hP hD hS (lv_sub hl [2, 3, 4, 1, 0] rfl) h
