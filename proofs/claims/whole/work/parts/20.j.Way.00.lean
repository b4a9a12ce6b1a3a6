set_option maxHeartbeats 4000000 in
set_option maxRecDepth 100000 in
theorem c_Way_lay (l : Launch) (dC : Nat → ClassId) (dI : Nat → Nat → Nat) (cI cZ : ClassId) (a_t a_on : Nat → Nat) (i_t_places : Nat → Int32) (i_t_needs : Nat → Int32) (i_t_last : Int32) (on_junctions : Int32) (on_cuts : Int32) (on_boats : Int32) (on_cutA : Nat → Int32) (on_cutB : Nat → Int32) (on_cutHard : Nat → Int32) (on_boatAt : Nat → Int32) (on_boatPull : Nat → Int32) (on_boatWear : Nat → Int32) (on_onward : Nat → Int32) (on_onwardHard : Nat → Int32) (y2 : Int32) (y3 : Int32) (y4 : Int32) (y5 : Int32) (o_t_places : Nat → Int32) (o_t_needs : Nat → Int32) (o_t_last : Int32) (h : m_Way_lay y2 y3 y4 y5 i_t_places i_t_needs i_t_last on_onward on_onwardHard = some (o_t_places, o_t_needs, o_t_last)) : (MV l yX10_lay wsX10_lay ({ frames := 2, cells := 0, slots := 0, locals := 45 }) (dC, dI) [(cI, .int), (cZ, .boolean)] (wd_tWay_onWater cI cZ a_t a_on i_t_places i_t_needs i_t_last on_junctions on_cuts on_boats on_cutA on_cutB on_cutHard on_boatAt on_boatPull on_boatWear on_onward on_onwardHard) (wd_tWay_onWater cI cZ a_t a_on o_t_places o_t_needs o_t_last on_junctions on_cuts on_boats on_cutA on_cutB on_cutHard on_boatAt on_boatPull on_boatWear on_onward on_onwardHard) [.ref (a_t 0), .ref (a_on 0), .int y2, .int y3, .int y4, .int y5]) := by
  intro sz
  refine Met.ofW (cc := cX10_lay) (maxL := 11) (ret := none) (by decide) rfl ?_
  intro p e s m args below meth c s₁ B hml hv
  obtain ⟨rfl, hsz, hP, hK, hD0⟩ := hv
  have hx := B.exec
  have hb := B.bytes
  have hr := B.returns
  have hts := atoms_spec (ws := wsX10_lay) B.pre
  have hown : s.vm.findClass RX10 = some m.cls := findClass_of_methodNamed B.named
  have hlocks := B.notSynchronized
  subst hsz
  have hD := hD0.self (sz := s.heap.size)
  have hA : ∀ q : Nat, s.heap.size ≤ q → va_A (wd_tWay_onWater cI cZ a_t a_on i_t_places i_t_needs i_t_last on_junctions on_cuts on_boats on_cutA on_cutB on_cutHard on_boatAt on_boatPull on_boatWear on_onward on_onwardHard) s.heap.size q := fun q h => Or.inr h
  have hS : va_S (va_A (wd_tWay_onWater cI cZ a_t a_on i_t_places i_t_needs i_t_last on_junctions on_cuts on_boats on_cutA on_cutB on_cutHard on_boatAt on_boatPull on_boatWear on_onward on_onwardHard) s.heap.size) s.heap s.heap [] := va_S.rf
  have hin10 : ∀ w ∈ u_ws RX10 TX10 3, w ∈ wsX10_lay := fun w h => List.mem_cons_of_mem _ (List.mem_append_left _ (List.mem_append_right _ h))
  have hl := lv_entry ([.ref (a_t 0), .ref (a_on 0), .int y2, .int y3, .int y4, .int y5]) (n := 11) (Nat.le_of_ble_eq_true rfl)
  rw [lg_entry_eq]
  generalize (lg_sl ([.ref (a_t 0), .ref (a_on 0), .int y2, .int y3, .int y4, .int y5]) ++ List.replicate (11 - (lg_sl ([.ref (a_t 0), .ref (a_on 0), .int y2, .int y3, .int y4, .int y5])).length) Slot.unset).toArray = ls at hl ⊢
  have hl : lv_has ls 11 [(0, .ref (a_t 0)), (1, .ref (a_on 0)), (2, .int y2), (3, .int y3), (4, .int y4), (5, .int y5)] := hl
  have L40 : ∀ (n40 : Nat) (x4 : Int32) (x6 : Int32) (x7 : Int32) (x8 : Int32) (t_places : Nat → Int32) (t_needs : Nat → Int32) (t_last : Int32) (H : Heap) (locs : List Loc) (ls : Array Slot), va_P (dC, dI) vwCl (wd_tWay_onWater cI cZ a_t a_on t_places t_needs t_last on_junctions on_cuts on_boats on_cutA on_cutB on_cutHard on_boatAt on_boatPull on_boatWear on_onward on_onwardHard) H → va_D (va_A (wd_tWay_onWater cI cZ a_t a_on i_t_places i_t_needs i_t_last on_junctions on_cuts on_boats on_cutA on_cutB on_cutHard on_boatAt on_boatPull on_boatWear on_onward on_onwardHard) s.heap.size) (wd_tWay_onWater cI cZ a_t a_on t_places t_needs t_last on_junctions on_cuts on_boats on_cutA on_cutB on_cutHard on_boatAt on_boatPull on_boatWear on_onward on_onwardHard) → va_S (va_A (wd_tWay_onWater cI cZ a_t a_on i_t_places i_t_needs i_t_last on_junctions on_cuts on_boats on_cutA on_cutB on_cutHard on_boatAt on_boatPull on_boatWear on_onward on_onwardHard) s.heap.size) s.heap H locs → lv_has ls 11 [(0, .ref (a_t 0)), (1, .ref (a_on 0)), (4, .int x4), (6, .int x6), (7, .int x7), (8, .int x8)] → m_Way_lay_L40  n40 x4 x6 x7 x8 t_places t_needs t_last on_onward on_onwardHard = some (o_t_places, o_t_needs, o_t_last) → W p l e (headSpec wsX10_lay ({ frames := 2, cells := 0, slots := 0, locals := 45 })).room s m ([.ref (a_t 0), .ref (a_on 0), .int y2, .int y3, .int y4, .int y5] : List Value).toArray below meth c H locs 0 0 (MQ below (cQv (dC, dI) (wd_tWay_onWater cI cZ a_t a_on i_t_places i_t_needs i_t_last on_junctions on_cuts on_boats on_cutA on_cutB on_cutHard on_boatAt on_boatPull on_boatWear on_onward on_onwardHard) (wd_tWay_onWater cI cZ a_t a_on o_t_places o_t_needs o_t_last on_junctions on_cuts on_boats on_cutA on_cutB on_cutHard on_boatAt on_boatPull on_boatWear on_onward on_onwardHard) s.heap.size) ([.ref (a_t 0), .ref (a_on 0), .int y2, .int y3, .int y4, .int y5] : List Value).toArray s 0 0 (va_A (wd_tWay_onWater cI cZ a_t a_on i_t_places i_t_needs i_t_last on_junctions on_cuts on_boats on_cutA on_cutB on_cutHard on_boatAt on_boatPull on_boatWear on_onward on_onwardHard) s.heap.size)) (F0 m 40 ls []) := by
    intro n40
    induction n40 with
    | zero => intro x4 x6 x7 x8 t_places t_needs t_last H locs ls hP hD hS hl h; have h : none = some (o_t_places, o_t_needs, o_t_last) := h; cases h
    | succ n40 ih40 =>
      intro x4 x6 x7 x8 t_places t_needs t_last H locs ls hP hD hS hl h
      have h : m_Way_lay_B40  (m_Way_lay_L40  n40) x4 x6 x7 x8 t_places t_needs t_last on_onward on_onwardHard = some (o_t_places, o_t_needs, o_t_last) := h
      have J91 : ∀ (x4 : Int32) (x6 : Int32) (x7 : Int32) (x8 : Int32) (x9 : Int32) (t_places : Nat → Int32) (t_needs : Nat → Int32) (t_last : Int32) (H : Heap) (locs : List Loc) (ls : Array Slot), va_P (dC, dI) vwCl (wd_tWay_onWater cI cZ a_t a_on t_places t_needs t_last on_junctions on_cuts on_boats on_cutA on_cutB on_cutHard on_boatAt on_boatPull on_boatWear on_onward on_onwardHard) H → va_D (va_A (wd_tWay_onWater cI cZ a_t a_on i_t_places i_t_needs i_t_last on_junctions on_cuts on_boats on_cutA on_cutB on_cutHard on_boatAt on_boatPull on_boatWear on_onward on_onwardHard) s.heap.size) (wd_tWay_onWater cI cZ a_t a_on t_places t_needs t_last on_junctions on_cuts on_boats on_cutA on_cutB on_cutHard on_boatAt on_boatPull on_boatWear on_onward on_onwardHard) → va_S (va_A (wd_tWay_onWater cI cZ a_t a_on i_t_places i_t_needs i_t_last on_junctions on_cuts on_boats on_cutA on_cutB on_cutHard on_boatAt on_boatPull on_boatWear on_onward on_onwardHard) s.heap.size) s.heap H locs → lv_has ls 11 [(0, .ref (a_t 0)), (1, .ref (a_on 0)), (4, .int x4), (6, .int x6), (7, .int x7), (8, .int x8), (9, .int x9)] → m_Way_lay_B91 (m_Way_lay_L40  n40) x4 x6 x7 x8 x9 t_places t_needs t_last on_onward on_onwardHard = some (o_t_places, o_t_needs, o_t_last) → W p l e (headSpec wsX10_lay ({ frames := 2, cells := 0, slots := 0, locals := 45 })).room s m ([.ref (a_t 0), .ref (a_on 0), .int y2, .int y3, .int y4, .int y5] : List Value).toArray below meth c H locs 0 0 (MQ below (cQv (dC, dI) (wd_tWay_onWater cI cZ a_t a_on i_t_places i_t_needs i_t_last on_junctions on_cuts on_boats on_cutA on_cutB on_cutHard on_boatAt on_boatPull on_boatWear on_onward on_onwardHard) (wd_tWay_onWater cI cZ a_t a_on o_t_places o_t_needs o_t_last on_junctions on_cuts on_boats on_cutA on_cutB on_cutHard on_boatAt on_boatPull on_boatWear on_onward on_onwardHard) s.heap.size) ([.ref (a_t 0), .ref (a_on 0), .int y2, .int y3, .int y4, .int y5] : List Value).toArray s 0 0 (va_A (wd_tWay_onWater cI cZ a_t a_on i_t_places i_t_needs i_t_last on_junctions on_cuts on_boats on_cutA on_cutB on_cutHard on_boatAt on_boatPull on_boatWear on_onward on_onwardHard) s.heap.size)) (F0 m 91 ls []) := by
        intro x4 x6 x7 x8 x9 t_places t_needs t_last H locs ls hP hD hS hl h
        unfold m_Way_lay_B91 at h
        refine lv_aload_n hx hb dX10_lay_91 rfl (lv_at hl 0 rfl) ?_
        refine va_get (D := (dC, dI)) (ci := 10) (v := .ref (a_t 1)) (C := RX10) (T := TX10) (N := 3) hx hb hts hin10 hown hK hP 0 rfl rfl 0 (by decide) (hts (.fieldLink RX10 11 "TowedBack$Way" "places" "[I") (List.mem_of_getElem? (i := 9) rfl)) (fun _ h9 => h9) rfl dX10_lay_92 ?_
        refine lv_iload hx hb dX10_lay_95 (lv_at hl 5 rfl) ?_
        refine lv_iconst (v := 1) hx hb dX10_lay_97 (by decide) ?_
        refine lv_iadd hx hb dX10_lay_98 ?_
        refine lv_iload hx hb dX10_lay_99 (lv_at hl 3 rfl) ?_
        obtain ⟨hi1, h⟩ := kg_some h
        refine va_iast hx hb hK hP hD hS 1 0 rfl rfl hi1 dX10_lay_101 (fun H locs hP hD hS => ?_)
        have hP : va_P (dC, dI) vwCl (wd_tWay_onWater cI cZ a_t a_on (upd t_places (x8 + 1).toNatClampNeg x6) t_needs t_last on_junctions on_cuts on_boats on_cutA on_cutB on_cutHard on_boatAt on_boatPull on_boatWear on_onward on_onwardHard) H := hP
        have hD : va_D (va_A (wd_tWay_onWater cI cZ a_t a_on i_t_places i_t_needs i_t_last on_junctions on_cuts on_boats on_cutA on_cutB on_cutHard on_boatAt on_boatPull on_boatWear on_onward on_onwardHard) s.heap.size) (wd_tWay_onWater cI cZ a_t a_on (upd t_places (x8 + 1).toNatClampNeg x6) t_needs t_last on_junctions on_cuts on_boats on_cutA on_cutB on_cutHard on_boatAt on_boatPull on_boatWear on_onward on_onwardHard) := hD
        refine lv_aload_n hx hb dX10_lay_102 rfl (lv_at hl 0 rfl) ?_
        refine va_get (D := (dC, dI)) (ci := 10) (v := .ref (a_t 2)) (C := RX10) (T := TX10) (N := 3) hx hb hts hin10 hown hK hP 0 rfl rfl 1 (by decide) (hts (.fieldLink RX10 15 "TowedBack$Way" "needs" "[I") (List.mem_of_getElem? (i := 10) rfl)) (fun _ h9 => h9) rfl dX10_lay_103 ?_
        refine lv_iload hx hb dX10_lay_106 (lv_at hl 5 rfl) ?_
        refine lv_iconst (v := 1) hx hb dX10_lay_108 (by decide) ?_
        refine lv_iadd hx hb dX10_lay_109 ?_
        refine lv_sipush (v := 1000) hx hb dX10_lay_110 (by decide) ?_
        refine lv_aload_n hx hb dX10_lay_113 rfl (lv_at hl 0 rfl) ?_
        refine va_get (D := (dC, dI)) (ci := 10) (v := .ref (a_t 2)) (C := RX10) (T := TX10) (N := 3) hx hb hts hin10 hown hK hP 0 rfl rfl 1 (by decide) (hts (.fieldLink RX10 15 "TowedBack$Way" "needs" "[I") (List.mem_of_getElem? (i := 10) rfl)) (fun _ h9 => h9) rfl dX10_lay_114 ?_
        refine lv_iload hx hb dX10_lay_117 (lv_at hl 5 rfl) ?_
        obtain ⟨hi2, h⟩ := kg_some h
        refine va_iald hx hb hK hP 2 0 rfl rfl hi2 dX10_lay_119 ?_
        refine lv_iload hx hb dX10_lay_120 (lv_at hl 6 rfl) ?_
        refine va_mmax hx hb (hml.trans hl.1.symm) hown (hts (.methodLink RX10 28 Lib.Math.max.name) (List.mem_of_getElem? (i := 5) rfl)) (hts (.static Lib.Math.max.name) (List.mem_of_getElem? (i := 6) rfl)) (hts (.initialized "java/lang/Math") (List.mem_of_getElem? (i := 3) rfl)) (hts (.code Lib.Math.max.name Lib.Math.max.code 2 (some .int)) (List.mem_of_getElem? (i := 7) rfl)) (Nat.le_of_ble_eq_true rfl) (Nat.le_of_ble_eq_true rfl) (Nat.zero_le _) (Nat.zero_le _) dX10_lay_122 ?_
        refine va_mmin hx hb (hml.trans hl.1.symm) hown (hts (.methodLink RX10 22 Lib.Math.min.name) (List.mem_of_getElem? (i := 1) rfl)) (hts (.static Lib.Math.min.name) (List.mem_of_getElem? (i := 2) rfl)) (hts (.initialized "java/lang/Math") (List.mem_of_getElem? (i := 3) rfl)) (hts (.code Lib.Math.min.name Lib.Math.min.code 2 (some .int)) (List.mem_of_getElem? (i := 4) rfl)) (Nat.le_of_ble_eq_true rfl) (Nat.le_of_ble_eq_true rfl) (Nat.zero_le _) (Nat.zero_le _) dX10_lay_125 ?_
        obtain ⟨hi3, h⟩ := kg_some h
        refine va_iast hx hb hK hP hD hS 2 0 rfl rfl hi3 dX10_lay_128 (fun H locs hP hD hS => ?_)
        have hP : va_P (dC, dI) vwCl (wd_tWay_onWater cI cZ a_t a_on (upd t_places (x8 + 1).toNatClampNeg x6) (upd t_needs (x8 + 1).toNatClampNeg (if (if (t_needs x8.toNatClampNeg) < x9 then x9 else (t_needs x8.toNatClampNeg)) < 1000 then (if (t_needs x8.toNatClampNeg) < x9 then x9 else (t_needs x8.toNatClampNeg)) else 1000)) t_last on_junctions on_cuts on_boats on_cutA on_cutB on_cutHard on_boatAt on_boatPull on_boatWear on_onward on_onwardHard) H := hP
        have hD : va_D (va_A (wd_tWay_onWater cI cZ a_t a_on i_t_places i_t_needs i_t_last on_junctions on_cuts on_boats on_cutA on_cutB on_cutHard on_boatAt on_boatPull on_boatWear on_onward on_onwardHard) s.heap.size) (wd_tWay_onWater cI cZ a_t a_on (upd t_places (x8 + 1).toNatClampNeg x6) (upd t_needs (x8 + 1).toNatClampNeg (if (if (t_needs x8.toNatClampNeg) < x9 then x9 else (t_needs x8.toNatClampNeg)) < 1000 then (if (t_needs x8.toNatClampNeg) < x9 then x9 else (t_needs x8.toNatClampNeg)) else 1000)) t_last on_junctions on_cuts on_boats on_cutA on_cutB on_cutHard on_boatAt on_boatPull on_boatWear on_onward on_onwardHard) := hD
        refine lv_iinc (v := (x8 + 1)) (lv' := [(8, .int (x8 + 1)), (0, .ref (a_t 0)), (1, .ref (a_on 0)), (4, .int x4), (6, .int x6), (7, .int x7), (9, .int x9)]) hx hb dX10_lay_129 hl (k := 5) rfl rfl (by decide) rfl (fun ls hl => ?_)
        refine lv_goto (tgt := 40) hx hb dX10_lay_132 (by decide) ?_
        exact ih40 x4 x6 x7 (x8 + 1) (upd t_places (x8 + 1).toNatClampNeg x6) (upd t_needs (x8 + 1).toNatClampNeg (if (if (t_needs x8.toNatClampNeg) < x9 then x9 else (t_needs x8.toNatClampNeg)) < 1000 then (if (t_needs x8.toNatClampNeg) < x9 then x9 else (t_needs x8.toNatClampNeg)) else 1000)) t_last _ _ _ hP hD hS (lv_sub hl [1, 2, 3, 4, 5, 0] rfl) h
      unfold m_Way_lay_B40 at h
      refine lv_iload hx hb dX10_lay_40 (lv_at hl 5 rfl) ?_
      refine lv_aload_n hx hb dX10_lay_42 rfl (lv_at hl 0 rfl) ?_
      refine va_get (D := (dC, dI)) (ci := 10) (v := .int t_last) (C := RX10) (T := TX10) (N := 3) hx hb hts hin10 hown hK hP 0 rfl rfl 2 (by decide) (hts (.fieldLink RX10 18 "TowedBack$Way" "last" "I") (List.mem_of_getElem? (i := 8) rfl)) (fun _ h9 => h9) rfl dX10_lay_43 ?_
      refine lv_icmp_ge (tgt := 135) hx hb dX10_lay_46 (by decide) (fun hc => ?_) (fun hc => ?_)
      · have h := k_pos hc h
        obtain ⟨rfl, rfl, rfl⟩ := k_in3 h
        exact k_rv hx hb hr hlocks hP hS dX10_lay_135
      · have h := k_neg hc h
        refine lv_aload_n hx hb dX10_lay_49 rfl (lv_at hl 1 rfl) ?_
        refine lv_iload hx hb dX10_lay_50 (lv_at hl 3 rfl) ?_
        refine lv_iload hx hb dX10_lay_52 (lv_at hl 4 rfl) ?_
        obtain ⟨r4, hc4, h⟩ := kb1_some h
        refine k_RVi (rest := []) (As := [.int x6, .int x7]) ⟨hx, hb, hml, hown, hts⟩ (c_Water_hardOn l dC dI cI cZ a_on on_junctions on_cuts on_boats on_cutA on_cutB on_cutHard on_boatAt on_boatPull on_boatWear on_onward on_onwardHard x6 x7 r4 hc4) (cwV 2 hts gX10_lay_X9_hardOn rfl rfl rfl hd_9_hardOn ⟨Nat.le_of_ble_eq_true rfl, Nat.le_of_ble_eq_true rfl⟩) hK hP hD hS hA [3, 4, 5, 6, 7, 8, 9, 10, 11] rfl (by decide +kernel) 3 9 rfl rfl rfl rfl hl.1 rfl (Nat.le_of_ble_eq_true rfl) dX10_lay_54 ⟨Nat.zero_le _, Nat.zero_le _⟩ (fun H locs hP hD hS => ?_)
        refine lv_iload hx hb dX10_lay_57 (lv_at hl 5 rfl) ?_
        refine lv_iload hx hb dX10_lay_59 (lv_at hl 2 rfl) ?_
        refine lv_imul hx hb dX10_lay_61 ?_
        refine lv_iadd hx hb dX10_lay_62 ?_
        refine lv_iconst (v := 1) hx hb dX10_lay_63 (by decide) ?_
        refine lv_iadd hx hb dX10_lay_64 ?_
        refine lv_istore (lv' := [(9, .int ((r4 + (x8 * x4)) + 1)), (0, .ref (a_t 0)), (1, .ref (a_on 0)), (4, .int x4), (6, .int x6), (7, .int x7), (8, .int x8)]) hx hb dX10_lay_65 hl (by decide) rfl (fun ls hl => ?_)
        refine lv_aload_n hx hb dX10_lay_67 rfl (lv_at hl 2 rfl) ?_
        refine lv_iload hx hb dX10_lay_68 (lv_at hl 4 rfl) ?_
        refine lv_iload hx hb dX10_lay_70 (lv_at hl 5 rfl) ?_
        obtain ⟨r5, hc5, h⟩ := kb1_some h
        refine k_RVi (rest := []) (As := [.int x6, .int x7]) ⟨hx, hb, hml, hown, hts⟩ (c_Water_goesTo l dC dI cI cZ a_on on_junctions on_cuts on_boats on_cutA on_cutB on_cutHard on_boatAt on_boatPull on_boatWear on_onward on_onwardHard x6 x7 r5 hc5) (cwV 2 hts gX10_lay_X9_goesTo rfl rfl rfl hd_9_goesTo ⟨Nat.le_of_ble_eq_true rfl, Nat.le_of_ble_eq_true rfl⟩) hK hP hD hS hA [3, 4, 5, 6, 7, 8, 9, 10, 11] rfl (by decide +kernel) 3 9 rfl rfl rfl rfl hl.1 rfl (Nat.le_of_ble_eq_true rfl) dX10_lay_72 ⟨Nat.zero_le _, Nat.zero_le _⟩ (fun H locs hP hD hS => ?_)
        refine lv_istore (lv' := [(10, .int r5), (9, .int ((r4 + (x8 * x4)) + 1)), (0, .ref (a_t 0)), (1, .ref (a_on 0)), (4, .int x4), (6, .int x6), (7, .int x7), (8, .int x8)]) hx hb dX10_lay_75 hl (by decide) rfl (fun ls hl => ?_)
        refine lv_iload hx hb dX10_lay_77 (lv_at hl 0 rfl) ?_
        refine lv_iconst (v := (-1)) hx hb dX10_lay_79 (by decide) ?_
        refine lv_icmp_eq (tgt := 91) hx hb dX10_lay_80 (by decide) (fun hc => ?_) (fun hc => ?_)
        · have h := k_pos hc h
          exact J91 x4 x6 x7 x8 ((r4 + (x8 * x4)) + 1) t_places t_needs t_last _ _ _ hP hD hS (lv_sub hl [2, 3, 4, 5, 6, 7, 1] rfl) h
        · have h := k_neg hc h
          refine lv_iload hx hb dX10_lay_83 (lv_at hl 5 rfl) ?_
          refine lv_istore (lv' := [(7, .int x6), (10, .int r5), (9, .int ((r4 + (x8 * x4)) + 1)), (0, .ref (a_t 0)), (1, .ref (a_on 0)), (4, .int x4), (6, .int x6), (8, .int x8)]) hx hb dX10_lay_85 hl (by decide) rfl (fun ls hl => ?_)
          refine lv_iload hx hb dX10_lay_87 (lv_at hl 1 rfl) ?_
          refine lv_istore (lv' := [(6, .int r5), (7, .int x6), (10, .int r5), (9, .int ((r4 + (x8 * x4)) + 1)), (0, .ref (a_t 0)), (1, .ref (a_on 0)), (4, .int x4), (8, .int x8)]) hx hb dX10_lay_89 hl (by decide) rfl (fun ls hl => ?_)
          exact J91 x4 r5 x6 x8 ((r4 + (x8 * x4)) + 1) t_places t_needs t_last _ _ _ hP hD hS (lv_sub hl [4, 5, 6, 0, 1, 7, 3] rfl) h
  unfold m_Way_lay at h
  refine lv_aload_n hx hb dX10_lay_0 rfl (lv_at hl 0 rfl) ?_
  refine lv_iconst (v := 0) hx hb dX10_lay_1 (by decide) ?_
  refine lv_iload hx hb dX10_lay_2 (lv_at hl 5 rfl) ?_
  refine lv_sipush (v := 201) hx hb dX10_lay_4 (by decide) ?_
  refine va_mmin hx hb (hml.trans hl.1.symm) hown (hts (.methodLink RX10 22 Lib.Math.min.name) (List.mem_of_getElem? (i := 1) rfl)) (hts (.static Lib.Math.min.name) (List.mem_of_getElem? (i := 2) rfl)) (hts (.initialized "java/lang/Math") (List.mem_of_getElem? (i := 3) rfl)) (hts (.code Lib.Math.min.name Lib.Math.min.code 2 (some .int)) (List.mem_of_getElem? (i := 4) rfl)) (Nat.le_of_ble_eq_true rfl) (Nat.le_of_ble_eq_true rfl) (Nat.zero_le _) (Nat.zero_le _) dX10_lay_7 ?_
  refine va_mmax hx hb (hml.trans hl.1.symm) hown (hts (.methodLink RX10 28 Lib.Math.max.name) (List.mem_of_getElem? (i := 5) rfl)) (hts (.static Lib.Math.max.name) (List.mem_of_getElem? (i := 6) rfl)) (hts (.initialized "java/lang/Math") (List.mem_of_getElem? (i := 3) rfl)) (hts (.code Lib.Math.max.name Lib.Math.max.code 2 (some .int)) (List.mem_of_getElem? (i := 7) rfl)) (Nat.le_of_ble_eq_true rfl) (Nat.le_of_ble_eq_true rfl) (Nat.zero_le _) (Nat.zero_le _) dX10_lay_10 ?_
  refine va_put (D := (dC, dI)) (ci := 10) (v := .int (if 0 < (if 201 < y5 then 201 else y5) then (if 201 < y5 then 201 else y5) else 0)) (ty := tyX10 2) (C := RX10) (T := TX10) (N := 3) hx hb hts hin10 tyX10 tyX10_ok nmX10 hown hK hP hD hS 0 rfl rfl 2 (by decide) (hts (.fieldLink RX10 18 "TowedBack$Way" "last" "I") (List.mem_of_getElem? (i := 8) rfl)) (fun _ h9 => h9) rfl (tyX10_ok 2 (by decide)) rfl rfl (Nat.le_of_ble_eq_true rfl) dX10_lay_13 (fun H locs hP hD hS => ?_)
  have hP : va_P (dC, dI) vwCl (wd_tWay_onWater cI cZ a_t a_on i_t_places i_t_needs (if 0 < (if 201 < y5 then 201 else y5) then (if 201 < y5 then 201 else y5) else 0) on_junctions on_cuts on_boats on_cutA on_cutB on_cutHard on_boatAt on_boatPull on_boatWear on_onward on_onwardHard) H := hP
  have hD : va_D (va_A (wd_tWay_onWater cI cZ a_t a_on i_t_places i_t_needs i_t_last on_junctions on_cuts on_boats on_cutA on_cutB on_cutHard on_boatAt on_boatPull on_boatWear on_onward on_onwardHard) s.heap.size) (wd_tWay_onWater cI cZ a_t a_on i_t_places i_t_needs (if 0 < (if 201 < y5 then 201 else y5) then (if 201 < y5 then 201 else y5) else 0) on_junctions on_cuts on_boats on_cutA on_cutB on_cutHard on_boatAt on_boatPull on_boatWear on_onward on_onwardHard) := hD
  refine lv_iload_n hx hb dX10_lay_16 rfl (lv_at hl 2 rfl) ?_
  refine lv_istore (lv' := [(6, .int y2), (0, .ref (a_t 0)), (1, .ref (a_on 0)), (2, .int y2), (3, .int y3), (4, .int y4), (5, .int y5)]) hx hb dX10_lay_17 hl (by decide) rfl (fun ls hl => ?_)
  refine lv_iload_n hx hb dX10_lay_19 rfl (lv_at hl 4 rfl) ?_
  refine lv_istore (lv' := [(7, .int y3), (6, .int y2), (0, .ref (a_t 0)), (1, .ref (a_on 0)), (2, .int y2), (3, .int y3), (4, .int y4), (5, .int y5)]) hx hb dX10_lay_20 hl (by decide) rfl (fun ls hl => ?_)
  refine lv_aload_n hx hb dX10_lay_22 rfl (lv_at hl 2 rfl) ?_
  refine va_get (D := (dC, dI)) (ci := 10) (v := .ref (a_t 1)) (C := RX10) (T := TX10) (N := 3) hx hb hts hin10 hown hK hP 0 rfl rfl 0 (by decide) (hts (.fieldLink RX10 11 "TowedBack$Way" "places" "[I") (List.mem_of_getElem? (i := 9) rfl)) (fun _ h9 => h9) rfl dX10_lay_23 ?_
  refine lv_iconst (v := 0) hx hb dX10_lay_26 (by decide) ?_
  refine lv_iload hx hb dX10_lay_27 (lv_at hl 1 rfl) ?_
  obtain ⟨hi6, h⟩ := kg_some h
  refine va_iast hx hb hK hP hD hS 1 0 rfl rfl hi6 dX10_lay_29 (fun H locs hP hD hS => ?_)
  have hP : va_P (dC, dI) vwCl (wd_tWay_onWater cI cZ a_t a_on (upd i_t_places (0 : Int32).toNatClampNeg y2) i_t_needs (if 0 < (if 201 < y5 then 201 else y5) then (if 201 < y5 then 201 else y5) else 0) on_junctions on_cuts on_boats on_cutA on_cutB on_cutHard on_boatAt on_boatPull on_boatWear on_onward on_onwardHard) H := hP
  have hD : va_D (va_A (wd_tWay_onWater cI cZ a_t a_on i_t_places i_t_needs i_t_last on_junctions on_cuts on_boats on_cutA on_cutB on_cutHard on_boatAt on_boatPull on_boatWear on_onward on_onwardHard) s.heap.size) (wd_tWay_onWater cI cZ a_t a_on (upd i_t_places (0 : Int32).toNatClampNeg y2) i_t_needs (if 0 < (if 201 < y5 then 201 else y5) then (if 201 < y5 then 201 else y5) else 0) on_junctions on_cuts on_boats on_cutA on_cutB on_cutHard on_boatAt on_boatPull on_boatWear on_onward on_onwardHard) := hD
  refine lv_aload_n hx hb dX10_lay_30 rfl (lv_at hl 2 rfl) ?_
  refine va_get (D := (dC, dI)) (ci := 10) (v := .ref (a_t 2)) (C := RX10) (T := TX10) (N := 3) hx hb hts hin10 hown hK hP 0 rfl rfl 1 (by decide) (hts (.fieldLink RX10 15 "TowedBack$Way" "needs" "[I") (List.mem_of_getElem? (i := 10) rfl)) (fun _ h9 => h9) rfl dX10_lay_31 ?_
  refine lv_iconst (v := 0) hx hb dX10_lay_34 (by decide) ?_
  refine lv_iconst (v := 0) hx hb dX10_lay_35 (by decide) ?_
  obtain ⟨hi7, h⟩ := kg_some h
  refine va_iast hx hb hK hP hD hS 2 0 rfl rfl hi7 dX10_lay_36 (fun H locs hP hD hS => ?_)
  have hP : va_P (dC, dI) vwCl (wd_tWay_onWater cI cZ a_t a_on (upd i_t_places (0 : Int32).toNatClampNeg y2) (upd i_t_needs (0 : Int32).toNatClampNeg 0) (if 0 < (if 201 < y5 then 201 else y5) then (if 201 < y5 then 201 else y5) else 0) on_junctions on_cuts on_boats on_cutA on_cutB on_cutHard on_boatAt on_boatPull on_boatWear on_onward on_onwardHard) H := hP
  have hD : va_D (va_A (wd_tWay_onWater cI cZ a_t a_on i_t_places i_t_needs i_t_last on_junctions on_cuts on_boats on_cutA on_cutB on_cutHard on_boatAt on_boatPull on_boatWear on_onward on_onwardHard) s.heap.size) (wd_tWay_onWater cI cZ a_t a_on (upd i_t_places (0 : Int32).toNatClampNeg y2) (upd i_t_needs (0 : Int32).toNatClampNeg 0) (if 0 < (if 201 < y5 then 201 else y5) then (if 201 < y5 then 201 else y5) else 0) on_junctions on_cuts on_boats on_cutA on_cutB on_cutHard on_boatAt on_boatPull on_boatWear on_onward on_onwardHard) := hD
  refine lv_iconst (v := 0) hx hb dX10_lay_37 (by decide) ?_
  refine lv_istore (lv' := [(8, .int 0), (7, .int y3), (6, .int y2), (0, .ref (a_t 0)), (1, .ref (a_on 0)), (2, .int y2), (3, .int y3), (4, .int y4), (5, .int y5)]) hx hb dX10_lay_38 hl (by decide) rfl (fun ls hl => ?_)
  exact L40 FU y4 y2 y3 0 (upd i_t_places (0 : Int32).toNatClampNeg y2) (upd i_t_needs (0 : Int32).toNatClampNeg 0) (if 0 < (if 201 < y5 then 201 else y5) then (if 201 < y5 then 201 else y5) else 0) _ _ _ hP hD hS (lv_sub hl [3, 4, 7, 2, 1, 0] rfl) h
set_option maxHeartbeats 4000000 in
set_option maxRecDepth 100000 in
theorem c_Way_place (l : Launch) (dC : Nat → ClassId) (dI : Nat → Nat → Nat) (cI cZ : ClassId) (a_t : Nat → Nat) (t_places : Nat → Int32) (t_needs : Nat → Int32) (t_last : Int32) (y1 : Int32) (r0 : Int32) (h : m_Way_place y1 t_places t_last = some r0) : (MI l yX10_place wsX10_place ({ frames := 0, cells := 0, slots := 0, locals := 0 }) (dC, dI) [(cI, .int), (cZ, .boolean)] (wd_tWay cI cZ a_t t_places t_needs t_last) (wd_tWay cI cZ a_t t_places t_needs t_last) [.ref (a_t 0), .int y1] r0) := by
  intro sz
  refine Met.ofW (cc := cX10_place) (maxL := 2) (ret := (some .int)) (by decide) rfl ?_
  intro p e s m args below meth c s₁ B hml hv
  obtain ⟨rfl, hsz, hP, hK, hD0⟩ := hv
  have hx := B.exec
  have hb := B.bytes
  have hr := B.returns
  have hts := atoms_spec (ws := wsX10_place) B.pre
  have hown : s.vm.findClass RX10 = some m.cls := findClass_of_methodNamed B.named
  have hlocks := B.notSynchronized
  subst hsz
  have hD := hD0.self (sz := s.heap.size)
  have hA : ∀ q : Nat, s.heap.size ≤ q → va_A (wd_tWay cI cZ a_t t_places t_needs t_last) s.heap.size q := fun q h => Or.inr h
  have hS : va_S (va_A (wd_tWay cI cZ a_t t_places t_needs t_last) s.heap.size) s.heap s.heap [] := va_S.rf
  have hin10 : ∀ w ∈ u_ws RX10 TX10 3, w ∈ wsX10_place := fun w h => List.mem_cons_of_mem _ (List.mem_append_right _ h)
  have hl := lv_entry ([.ref (a_t 0), .int y1]) (n := 2) (Nat.le_of_ble_eq_true rfl)
  rw [lg_entry_eq]
  generalize (lg_sl ([.ref (a_t 0), .int y1]) ++ List.replicate (2 - (lg_sl ([.ref (a_t 0), .int y1])).length) Slot.unset).toArray = ls at hl ⊢
  have hl : lv_has ls 2 [(0, .ref (a_t 0)), (1, .int y1)] := hl
  unfold m_Way_place at h
  refine lv_iload_n hx hb dX10_place_0 rfl (lv_at hl 1 rfl) ?_
  refine lv_if_lt (tgt := 21) hx hb dX10_place_1 (by decide) (fun hc => ?_) (fun hc => ?_)
  · have h := k_pos hc h
    refine lv_iconst (v := (-1)) hx hb dX10_place_21 (by decide) ?_
    obtain rfl := k_in1 h
    exact k_ri hx hb hr hlocks hP hS dX10_place_22
  · have h := k_neg hc h
    refine lv_iload_n hx hb dX10_place_4 rfl (lv_at hl 1 rfl) ?_
    refine lv_aload_n hx hb dX10_place_5 rfl (lv_at hl 0 rfl) ?_
    refine va_get (D := (dC, dI)) (ci := 10) (v := .int t_last) (C := RX10) (T := TX10) (N := 3) hx hb hts hin10 hown hK hP 0 rfl rfl 2 (by decide) (hts (.fieldLink RX10 18 "TowedBack$Way" "last" "I") (List.mem_of_getElem? (i := 1) rfl)) (fun _ h9 => h9) rfl dX10_place_6 ?_
    refine lv_icmp_gt (tgt := 21) hx hb dX10_place_9 (by decide) (fun hc => ?_) (fun hc => ?_)
    · have h := k_pos hc h
      refine lv_iconst (v := (-1)) hx hb dX10_place_21 (by decide) ?_
      obtain rfl := k_in1 h
      exact k_ri hx hb hr hlocks hP hS dX10_place_22
    · have h := k_neg hc h
      refine lv_aload_n hx hb dX10_place_12 rfl (lv_at hl 0 rfl) ?_
      refine va_get (D := (dC, dI)) (ci := 10) (v := .ref (a_t 1)) (C := RX10) (T := TX10) (N := 3) hx hb hts hin10 hown hK hP 0 rfl rfl 0 (by decide) (hts (.fieldLink RX10 11 "TowedBack$Way" "places" "[I") (List.mem_of_getElem? (i := 2) rfl)) (fun _ h9 => h9) rfl dX10_place_13 ?_
      refine lv_iload_n hx hb dX10_place_16 rfl (lv_at hl 1 rfl) ?_
      obtain ⟨hi1, h⟩ := kg_some h
      refine va_iald hx hb hK hP 1 0 rfl rfl hi1 dX10_place_17 ?_
      refine lv_goto (tgt := 22) hx hb dX10_place_18 (by decide) ?_
      obtain rfl := k_in1 h
      exact k_ri hx hb hr hlocks hP hS dX10_place_22
set_option maxHeartbeats 4000000 in
set_option maxRecDepth 100000 in
theorem c_Way_need (l : Launch) (dC : Nat → ClassId) (dI : Nat → Nat → Nat) (cI cZ : ClassId) (a_t : Nat → Nat) (t_places : Nat → Int32) (t_needs : Nat → Int32) (t_last : Int32) (y1 : Int32) (r0 : Int32) (h : m_Way_need y1 t_needs t_last = some r0) : (MI l yX10_need wsX10_need ({ frames := 0, cells := 0, slots := 0, locals := 0 }) (dC, dI) [(cI, .int), (cZ, .boolean)] (wd_tWay cI cZ a_t t_places t_needs t_last) (wd_tWay cI cZ a_t t_places t_needs t_last) [.ref (a_t 0), .int y1] r0) := by
  intro sz
  refine Met.ofW (cc := cX10_need) (maxL := 2) (ret := (some .int)) (by decide) rfl ?_
  intro p e s m args below meth c s₁ B hml hv
  obtain ⟨rfl, hsz, hP, hK, hD0⟩ := hv
  have hx := B.exec
  have hb := B.bytes
  have hr := B.returns
  have hts := atoms_spec (ws := wsX10_need) B.pre
  have hown : s.vm.findClass RX10 = some m.cls := findClass_of_methodNamed B.named
  have hlocks := B.notSynchronized
  subst hsz
  have hD := hD0.self (sz := s.heap.size)
  have hA : ∀ q : Nat, s.heap.size ≤ q → va_A (wd_tWay cI cZ a_t t_places t_needs t_last) s.heap.size q := fun q h => Or.inr h
  have hS : va_S (va_A (wd_tWay cI cZ a_t t_places t_needs t_last) s.heap.size) s.heap s.heap [] := va_S.rf
  have hin10 : ∀ w ∈ u_ws RX10 TX10 3, w ∈ wsX10_need := fun w h => List.mem_cons_of_mem _ (List.mem_append_right _ h)
  have hl := lv_entry ([.ref (a_t 0), .int y1]) (n := 2) (Nat.le_of_ble_eq_true rfl)
  rw [lg_entry_eq]
  generalize (lg_sl ([.ref (a_t 0), .int y1]) ++ List.replicate (2 - (lg_sl ([.ref (a_t 0), .int y1])).length) Slot.unset).toArray = ls at hl ⊢
  have hl : lv_has ls 2 [(0, .ref (a_t 0)), (1, .int y1)] := hl
  unfold m_Way_need at h
  refine lv_iload_n hx hb dX10_need_0 rfl (lv_at hl 1 rfl) ?_
  refine lv_if_lt (tgt := 21) hx hb dX10_need_1 (by decide) (fun hc => ?_) (fun hc => ?_)
  · have h := k_pos hc h
    refine lv_sipush (v := 1000) hx hb dX10_need_21 (by decide) ?_
    obtain rfl := k_in1 h
    exact k_ri hx hb hr hlocks hP hS dX10_need_24
  · have h := k_neg hc h
    refine lv_iload_n hx hb dX10_need_4 rfl (lv_at hl 1 rfl) ?_
    refine lv_aload_n hx hb dX10_need_5 rfl (lv_at hl 0 rfl) ?_
    refine va_get (D := (dC, dI)) (ci := 10) (v := .int t_last) (C := RX10) (T := TX10) (N := 3) hx hb hts hin10 hown hK hP 0 rfl rfl 2 (by decide) (hts (.fieldLink RX10 18 "TowedBack$Way" "last" "I") (List.mem_of_getElem? (i := 1) rfl)) (fun _ h9 => h9) rfl dX10_need_6 ?_
    refine lv_icmp_gt (tgt := 21) hx hb dX10_need_9 (by decide) (fun hc => ?_) (fun hc => ?_)
    · have h := k_pos hc h
      refine lv_sipush (v := 1000) hx hb dX10_need_21 (by decide) ?_
      obtain rfl := k_in1 h
      exact k_ri hx hb hr hlocks hP hS dX10_need_24
    · have h := k_neg hc h
      refine lv_aload_n hx hb dX10_need_12 rfl (lv_at hl 0 rfl) ?_
      refine va_get (D := (dC, dI)) (ci := 10) (v := .ref (a_t 2)) (C := RX10) (T := TX10) (N := 3) hx hb hts hin10 hown hK hP 0 rfl rfl 1 (by decide) (hts (.fieldLink RX10 15 "TowedBack$Way" "needs" "[I") (List.mem_of_getElem? (i := 2) rfl)) (fun _ h9 => h9) rfl dX10_need_13 ?_
      refine lv_iload_n hx hb dX10_need_16 rfl (lv_at hl 1 rfl) ?_
      obtain ⟨hi1, h⟩ := kg_some h
      refine va_iald hx hb hK hP 2 0 rfl rfl hi1 dX10_need_17 ?_
      refine lv_goto (tgt := 24) hx hb dX10_need_18 (by decide) ?_
      obtain rfl := k_in1 h
      exact k_ri hx hb hr hlocks hP hS dX10_need_24
set_option maxHeartbeats 4000000 in
set_option maxRecDepth 100000 in
theorem c_Way_gone (l : Launch) (dC : Nat → ClassId) (dI : Nat → Nat → Nat) (cI cZ : ClassId) (a_t : Nat → Nat) (t_places : Nat → Int32) (t_needs : Nat → Int32) (t_last : Int32) (y1 : Int32) (y2 : Int32) (r0 : Int32) (h : m_Way_gone y1 y2 t_needs t_last = some r0) : (MI l yX10_gone wsX10_gone ({ frames := 1, cells := 0, slots := 0, locals := 21 }) (dC, dI) [(cI, .int), (cZ, .boolean)] (wd_tWay cI cZ a_t t_places t_needs t_last) (wd_tWay cI cZ a_t t_places t_needs t_last) [.ref (a_t 0), .int y1, .int y2] r0) := by
  intro sz
  refine Met.ofW (cc := cX10_gone) (maxL := 4) (ret := (some .int)) (by decide) rfl ?_
  intro p e s m args below meth c s₁ B hml hv
  obtain ⟨rfl, hsz, hP, hK, hD0⟩ := hv
  have hx := B.exec
  have hb := B.bytes
  have hr := B.returns
  have hts := atoms_spec (ws := wsX10_gone) B.pre
  have hown : s.vm.findClass RX10 = some m.cls := findClass_of_methodNamed B.named
  have hlocks := B.notSynchronized
  subst hsz
  have hD := hD0.self (sz := s.heap.size)
  have hA : ∀ q : Nat, s.heap.size ≤ q → va_A (wd_tWay cI cZ a_t t_places t_needs t_last) s.heap.size q := fun q h => Or.inr h
  have hS : va_S (va_A (wd_tWay cI cZ a_t t_places t_needs t_last) s.heap.size) s.heap s.heap [] := va_S.rf
  have hl := lv_entry ([.ref (a_t 0), .int y1, .int y2]) (n := 4) (Nat.le_of_ble_eq_true rfl)
  rw [lg_entry_eq]
  generalize (lg_sl ([.ref (a_t 0), .int y1, .int y2]) ++ List.replicate (4 - (lg_sl ([.ref (a_t 0), .int y1, .int y2])).length) Slot.unset).toArray = ls at hl ⊢
  have hl : lv_has ls 4 [(0, .ref (a_t 0)), (1, .int y1), (2, .int y2)] := hl
  have L2 : ∀ (n2 : Nat) (x1 : Int32) (x2 : Int32) (x3 : Int32)  (H : Heap) (locs : List Loc) (ls : Array Slot), va_P (dC, dI) vwCl (wd_tWay cI cZ a_t t_places t_needs t_last) H → va_D (va_A (wd_tWay cI cZ a_t t_places t_needs t_last) s.heap.size) (wd_tWay cI cZ a_t t_places t_needs t_last) → va_S (va_A (wd_tWay cI cZ a_t t_places t_needs t_last) s.heap.size) s.heap H locs → lv_has ls 4 [(0, .ref (a_t 0)), (1, .int x1), (2, .int x2), (3, .int x3)] → m_Way_gone_L2  n2 x1 x2 x3 t_needs t_last = some r0 → W p l e (headSpec wsX10_gone ({ frames := 1, cells := 0, slots := 0, locals := 21 })).room s m ([.ref (a_t 0), .int y1, .int y2] : List Value).toArray below meth c H locs 0 0 (MQ below (cQi (dC, dI) (wd_tWay cI cZ a_t t_places t_needs t_last) (wd_tWay cI cZ a_t t_places t_needs t_last) s.heap.size r0) ([.ref (a_t 0), .int y1, .int y2] : List Value).toArray s 0 0 (va_A (wd_tWay cI cZ a_t t_places t_needs t_last) s.heap.size)) (F0 m 2 ls []) := by
    intro n2
    induction n2 with
    | zero => intro x1 x2 x3 H locs ls hP hD hS hl h; have h : none = some r0 := h; cases h
    | succ n2 ih2 =>
      intro x1 x2 x3 H locs ls hP hD hS hl h
      have h : m_Way_gone_B2  (m_Way_gone_L2  n2) x1 x2 x3 t_needs t_last = some r0 := h
      unfold m_Way_gone_B2 at h
      refine lv_iload_n hx hb dX10_gone_2 rfl (lv_at hl 3 rfl) ?_
      refine lv_iload_n hx hb dX10_gone_3 rfl (lv_at hl 2 rfl) ?_
      refine lv_icmp_ge (tgt := 24) hx hb dX10_gone_4 (by decide) (fun hc => ?_) (fun hc => ?_)
      · have h := k_pos hc h
        refine lv_iload_n hx hb dX10_gone_24 rfl (lv_at hl 3 rfl) ?_
        obtain rfl := k_in1 h
        exact k_ri hx hb hr hlocks hP hS dX10_gone_25
      · have h := k_neg hc h
        refine lv_aload_n hx hb dX10_gone_7 rfl (lv_at hl 0 rfl) ?_
        refine lv_iload_n hx hb dX10_gone_8 rfl (lv_at hl 3 rfl) ?_
        refine lv_iconst (v := 1) hx hb dX10_gone_9 (by decide) ?_
        refine lv_iadd hx hb dX10_gone_10 ?_
        obtain ⟨r1, hc1, h⟩ := kb1_some h
        refine k_FVi (rest := []) (As := [.int (x3 + 1)]) ⟨hx, hb, hml, hown, hts⟩ (c_Way_need l dC dI cI cZ a_t t_places t_needs t_last (x3 + 1) r1 hc1) (cwV 1 hts gX10_gone_X10_need rfl rfl rfl hd_10_need ⟨Nat.le_of_ble_eq_true rfl, Nat.le_of_ble_eq_true rfl⟩) hK hP hD hS hA 0 10 rfl rfl rfl (wd_tWay_f.trans wd_tWay_f.symm) rfl hl.1 rfl (Nat.le_of_ble_eq_true rfl) dX10_gone_11 ⟨Nat.zero_le _, Nat.zero_le _⟩ (fun H locs hP hD hS => ?_)
        refine lv_iload_n hx hb dX10_gone_14 rfl (lv_at hl 1 rfl) ?_
        refine lv_icmp_gt (tgt := 24) hx hb dX10_gone_15 (by decide) (fun hc => ?_) (fun hc => ?_)
        · have h := k_pos hc h
          refine lv_iload_n hx hb dX10_gone_24 rfl (lv_at hl 3 rfl) ?_
          obtain rfl := k_in1 h
          exact k_ri hx hb hr hlocks hP hS dX10_gone_25
        · have h := k_neg hc h
          refine lv_iinc (v := (x3 + 1)) (lv' := [(3, .int (x3 + 1)), (0, .ref (a_t 0)), (1, .int x1), (2, .int x2)]) hx hb dX10_gone_18 hl (k := 3) rfl rfl (by decide) rfl (fun ls hl => ?_)
          refine lv_goto (tgt := 2) hx hb dX10_gone_21 (by decide) ?_
          exact ih2 x1 x2 (x3 + 1) _ _ _ hP hD hS (lv_sub hl [1, 2, 3, 0] rfl) h
  unfold m_Way_gone at h
  refine lv_iconst (v := 0) hx hb dX10_gone_0 (by decide) ?_
  refine lv_istore_n (lv' := [(3, .int 0), (0, .ref (a_t 0)), (1, .int y1), (2, .int y2)]) hx hb dX10_gone_1 rfl hl (by decide) rfl (fun ls hl => ?_)
  exact L2 FU y1 y2 0 _ _ _ hP hD hS (lv_sub hl [1, 2, 3, 0] rfl) h
set_option maxHeartbeats 4000000 in
set_option maxRecDepth 100000 in
theorem c_Way_placesUpTo (l : Launch) (dC : Nat → ClassId) (dI : Nat → Nat → Nat) (cI cZ : ClassId) (a_t : Nat → Nat) (t_places : Nat → Int32) (t_needs : Nat → Int32) (t_last : Int32) (y1 : Int32) (r0 : Int32) (h : m_Way_placesUpTo y1 t_places t_last = some r0) : (MI l yX10_placesUpTo wsX10_placesUpTo ({ frames := 0, cells := 0, slots := 0, locals := 0 }) (dC, dI) [(cI, .int), (cZ, .boolean)] (wd_tWay cI cZ a_t t_places t_needs t_last) (wd_tWay cI cZ a_t t_places t_needs t_last) [.ref (a_t 0), .int y1] r0) := by
  intro sz
  refine Met.ofW (cc := cX10_placesUpTo) (maxL := 4) (ret := (some .int)) (by decide) rfl ?_
  intro p e s m args below meth c s₁ B hml hv
  obtain ⟨rfl, hsz, hP, hK, hD0⟩ := hv
  have hx := B.exec
  have hb := B.bytes
  have hr := B.returns
  have hts := atoms_spec (ws := wsX10_placesUpTo) B.pre
  have hown : s.vm.findClass RX10 = some m.cls := findClass_of_methodNamed B.named
  have hlocks := B.notSynchronized
  subst hsz
  have hD := hD0.self (sz := s.heap.size)
  have hA : ∀ q : Nat, s.heap.size ≤ q → va_A (wd_tWay cI cZ a_t t_places t_needs t_last) s.heap.size q := fun q h => Or.inr h
  have hS : va_S (va_A (wd_tWay cI cZ a_t t_places t_needs t_last) s.heap.size) s.heap s.heap [] := va_S.rf
  have hin10 : ∀ w ∈ u_ws RX10 TX10 3, w ∈ wsX10_placesUpTo := fun w h => List.mem_cons_of_mem _ (List.mem_append_right _ h)
  have hl := lv_entry ([.ref (a_t 0), .int y1]) (n := 4) (Nat.le_of_ble_eq_true rfl)
  rw [lg_entry_eq]
  generalize (lg_sl ([.ref (a_t 0), .int y1]) ++ List.replicate (4 - (lg_sl ([.ref (a_t 0), .int y1])).length) Slot.unset).toArray = ls at hl ⊢
  have hl : lv_has ls 4 [(0, .ref (a_t 0)), (1, .int y1)] := hl
  have L4 : ∀ (n4 : Nat) (x1 : Int32) (x2 : Int32) (x3 : Int32)  (H : Heap) (locs : List Loc) (ls : Array Slot), va_P (dC, dI) vwCl (wd_tWay cI cZ a_t t_places t_needs t_last) H → va_D (va_A (wd_tWay cI cZ a_t t_places t_needs t_last) s.heap.size) (wd_tWay cI cZ a_t t_places t_needs t_last) → va_S (va_A (wd_tWay cI cZ a_t t_places t_needs t_last) s.heap.size) s.heap H locs → lv_has ls 4 [(0, .ref (a_t 0)), (1, .int x1), (2, .int x2), (3, .int x3)] → m_Way_placesUpTo_L4  n4 x1 x2 x3 t_places t_last = some r0 → W p l e (headSpec wsX10_placesUpTo ({ frames := 0, cells := 0, slots := 0, locals := 0 })).room s m ([.ref (a_t 0), .int y1] : List Value).toArray below meth c H locs 0 0 (MQ below (cQi (dC, dI) (wd_tWay cI cZ a_t t_places t_needs t_last) (wd_tWay cI cZ a_t t_places t_needs t_last) s.heap.size r0) ([.ref (a_t 0), .int y1] : List Value).toArray s 0 0 (va_A (wd_tWay cI cZ a_t t_places t_needs t_last) s.heap.size)) (F0 m 4 ls []) := by
    intro n4
    induction n4 with
    | zero => intro x1 x2 x3 H locs ls hP hD hS hl h; have h : none = some r0 := h; cases h
    | succ n4 ih4 =>
      intro x1 x2 x3 H locs ls hP hD hS hl h
      have h : m_Way_placesUpTo_B4  (m_Way_placesUpTo_L4  n4) x1 x2 x3 t_places t_last = some r0 := h
      unfold m_Way_placesUpTo_B4 at h
      refine lv_iload_n hx hb dX10_placesUpTo_4 rfl (lv_at hl 3 rfl) ?_
      refine lv_iload_n hx hb dX10_placesUpTo_5 rfl (lv_at hl 1 rfl) ?_
      refine lv_icmp_gt (tgt := 34) hx hb dX10_placesUpTo_6 (by decide) (fun hc => ?_) (fun hc => ?_)
      · have h := k_pos hc h
        refine lv_iload_n hx hb dX10_placesUpTo_34 rfl (lv_at hl 2 rfl) ?_
        obtain rfl := k_in1 h
        exact k_ri hx hb hr hlocks hP hS dX10_placesUpTo_35
      · have h := k_neg hc h
        refine lv_iload_n hx hb dX10_placesUpTo_9 rfl (lv_at hl 3 rfl) ?_
        refine lv_aload_n hx hb dX10_placesUpTo_10 rfl (lv_at hl 0 rfl) ?_
        refine va_get (D := (dC, dI)) (ci := 10) (v := .int t_last) (C := RX10) (T := TX10) (N := 3) hx hb hts hin10 hown hK hP 0 rfl rfl 2 (by decide) (hts (.fieldLink RX10 18 "TowedBack$Way" "last" "I") (List.mem_of_getElem? (i := 1) rfl)) (fun _ h9 => h9) rfl dX10_placesUpTo_11 ?_
        refine lv_icmp_gt (tgt := 34) hx hb dX10_placesUpTo_14 (by decide) (fun hc => ?_) (fun hc => ?_)
        · have h := k_pos hc h
          refine lv_iload_n hx hb dX10_placesUpTo_34 rfl (lv_at hl 2 rfl) ?_
          obtain rfl := k_in1 h
          exact k_ri hx hb hr hlocks hP hS dX10_placesUpTo_35
        · have h := k_neg hc h
          refine lv_iload_n hx hb dX10_placesUpTo_17 rfl (lv_at hl 2 rfl) ?_
          refine lv_iconst (v := 1) hx hb dX10_placesUpTo_18 (by decide) ?_
          refine lv_aload_n hx hb dX10_placesUpTo_19 rfl (lv_at hl 0 rfl) ?_
          refine va_get (D := (dC, dI)) (ci := 10) (v := .ref (a_t 1)) (C := RX10) (T := TX10) (N := 3) hx hb hts hin10 hown hK hP 0 rfl rfl 0 (by decide) (hts (.fieldLink RX10 11 "TowedBack$Way" "places" "[I") (List.mem_of_getElem? (i := 2) rfl)) (fun _ h9 => h9) rfl dX10_placesUpTo_20 ?_
          refine lv_iload_n hx hb dX10_placesUpTo_23 rfl (lv_at hl 3 rfl) ?_
          obtain ⟨hi1, h⟩ := kg_some h
          refine va_iald hx hb hK hP 1 0 rfl rfl hi1 dX10_placesUpTo_24 ?_
          refine lv_ishl hx hb dX10_placesUpTo_25 ?_
          refine lv_ior hx hb dX10_placesUpTo_26 ?_
          refine lv_istore_n (lv' := [(2, .int (x2 ||| (1 <<< ((t_places x3.toNatClampNeg) &&& 31)))), (0, .ref (a_t 0)), (1, .int x1), (3, .int x3)]) hx hb dX10_placesUpTo_27 rfl hl (by decide) rfl (fun ls hl => ?_)
          refine lv_iinc (v := (x3 + 1)) (lv' := [(3, .int (x3 + 1)), (2, .int (x2 ||| (1 <<< ((t_places x3.toNatClampNeg) &&& 31)))), (0, .ref (a_t 0)), (1, .int x1)]) hx hb dX10_placesUpTo_28 hl (k := 3) rfl rfl (by decide) rfl (fun ls hl => ?_)
          refine lv_goto (tgt := 4) hx hb dX10_placesUpTo_31 (by decide) ?_
          exact ih4 x1 (x2 ||| (1 <<< ((t_places x3.toNatClampNeg) &&& 31))) (x3 + 1) _ _ _ hP hD hS (lv_sub hl [2, 3, 1, 0] rfl) h
  unfold m_Way_placesUpTo at h
  refine lv_iconst (v := 0) hx hb dX10_placesUpTo_0 (by decide) ?_
  refine lv_istore_n (lv' := [(2, .int 0), (0, .ref (a_t 0)), (1, .int y1)]) hx hb dX10_placesUpTo_1 rfl hl (by decide) rfl (fun ls hl => ?_)
  refine lv_iconst (v := 0) hx hb dX10_placesUpTo_2 (by decide) ?_
  refine lv_istore_n (lv' := [(3, .int 0), (2, .int 0), (0, .ref (a_t 0)), (1, .int y1)]) hx hb dX10_placesUpTo_3 rfl hl (by decide) rfl (fun ls hl => ?_)
  exact L4 FU y1 0 0 _ _ _ hP hD hS (lv_sub hl [2, 3, 1, 0] rfl) h
set_option maxHeartbeats 4000000 in
set_option maxRecDepth 100000 in
theorem c_Way_ring (l : Launch) (dC : Nat → ClassId) (dI : Nat → Nat → Nat) (cI cZ : ClassId) (a_t : Nat → Nat) (t_places : Nat → Int32) (t_needs : Nat → Int32) (t_last : Int32)  (r0 : Int32) (h : m_Way_ring t_places t_last = some r0) : (MI l yX10_ring wsX10_ring ({ frames := 1, cells := 0, slots := 0, locals := 21 }) (dC, dI) [(cI, .int), (cZ, .boolean)] (wd_tWay cI cZ a_t t_places t_needs t_last) (wd_tWay cI cZ a_t t_places t_needs t_last) [.ref (a_t 0)] r0) := by
  intro sz
  refine Met.ofW (cc := cX10_ring) (maxL := 2) (ret := (some .int)) (by decide) rfl ?_
  intro p e s m args below meth c s₁ B hml hv
  obtain ⟨rfl, hsz, hP, hK, hD0⟩ := hv
  have hx := B.exec
  have hb := B.bytes
  have hr := B.returns
  have hts := atoms_spec (ws := wsX10_ring) B.pre
  have hown : s.vm.findClass RX10 = some m.cls := findClass_of_methodNamed B.named
  have hlocks := B.notSynchronized
  subst hsz
  have hD := hD0.self (sz := s.heap.size)
  have hA : ∀ q : Nat, s.heap.size ≤ q → va_A (wd_tWay cI cZ a_t t_places t_needs t_last) s.heap.size q := fun q h => Or.inr h
  have hS : va_S (va_A (wd_tWay cI cZ a_t t_places t_needs t_last) s.heap.size) s.heap s.heap [] := va_S.rf
  have hin10 : ∀ w ∈ u_ws RX10 TX10 3, w ∈ wsX10_ring := fun w h => List.mem_cons_of_mem _ (List.mem_append_right _ h)
  have hl := lv_entry ([.ref (a_t 0)]) (n := 2) (Nat.le_of_ble_eq_true rfl)
  rw [lg_entry_eq]
  generalize (lg_sl ([.ref (a_t 0)]) ++ List.replicate (2 - (lg_sl ([.ref (a_t 0)])).length) Slot.unset).toArray = ls at hl ⊢
  have hl : lv_has ls 2 [(0, .ref (a_t 0))] := hl
  have L2 : ∀ (n2 : Nat) (x1 : Int32)  (H : Heap) (locs : List Loc) (ls : Array Slot), va_P (dC, dI) vwCl (wd_tWay cI cZ a_t t_places t_needs t_last) H → va_D (va_A (wd_tWay cI cZ a_t t_places t_needs t_last) s.heap.size) (wd_tWay cI cZ a_t t_places t_needs t_last) → va_S (va_A (wd_tWay cI cZ a_t t_places t_needs t_last) s.heap.size) s.heap H locs → lv_has ls 2 [(0, .ref (a_t 0)), (1, .int x1)] → m_Way_ring_L2  n2 x1 t_places t_last = some r0 → W p l e (headSpec wsX10_ring ({ frames := 1, cells := 0, slots := 0, locals := 21 })).room s m ([.ref (a_t 0)] : List Value).toArray below meth c H locs 0 0 (MQ below (cQi (dC, dI) (wd_tWay cI cZ a_t t_places t_needs t_last) (wd_tWay cI cZ a_t t_places t_needs t_last) s.heap.size r0) ([.ref (a_t 0)] : List Value).toArray s 0 0 (va_A (wd_tWay cI cZ a_t t_places t_needs t_last) s.heap.size)) (F0 m 2 ls []) := by
    intro n2
    induction n2 with
    | zero => intro x1 H locs ls hP hD hS hl h; have h : none = some r0 := h; cases h
    | succ n2 ih2 =>
      intro x1 H locs ls hP hD hS hl h
      have h : m_Way_ring_B2  (m_Way_ring_L2  n2) x1 t_places t_last = some r0 := h
      have J51 : ∀ (x1 : Int32)  (H : Heap) (locs : List Loc) (ls : Array Slot), va_P (dC, dI) vwCl (wd_tWay cI cZ a_t t_places t_needs t_last) H → va_D (va_A (wd_tWay cI cZ a_t t_places t_needs t_last) s.heap.size) (wd_tWay cI cZ a_t t_places t_needs t_last) → va_S (va_A (wd_tWay cI cZ a_t t_places t_needs t_last) s.heap.size) s.heap H locs → lv_has ls 2 [(0, .ref (a_t 0)), (1, .int x1)] → m_Way_ring_B51 (m_Way_ring_L2  n2) x1 t_places t_last = some r0 → W p l e (headSpec wsX10_ring ({ frames := 1, cells := 0, slots := 0, locals := 21 })).room s m ([.ref (a_t 0)] : List Value).toArray below meth c H locs 0 0 (MQ below (cQi (dC, dI) (wd_tWay cI cZ a_t t_places t_needs t_last) (wd_tWay cI cZ a_t t_places t_needs t_last) s.heap.size r0) ([.ref (a_t 0)] : List Value).toArray s 0 0 (va_A (wd_tWay cI cZ a_t t_places t_needs t_last) s.heap.size)) (F0 m 51 ls []) := by
        intro x1 H locs ls hP hD hS hl h
        unfold m_Way_ring_B51 at h
        refine lv_iinc (v := (x1 + 1)) (lv' := [(1, .int (x1 + 1)), (0, .ref (a_t 0))]) hx hb dX10_ring_51 hl (k := 1) rfl rfl (by decide) rfl (fun ls hl => ?_)
        refine lv_goto (tgt := 2) hx hb dX10_ring_54 (by decide) ?_
        exact ih2 (x1 + 1) _ _ _ hP hD hS (lv_sub hl [1, 0] rfl) h
      unfold m_Way_ring_B2 at h
      refine lv_bipush (v := 40) hx hb dX10_ring_2 (by decide) ?_
      refine lv_iload_n hx hb dX10_ring_4 rfl (lv_at hl 1 rfl) ?_
      refine lv_iadd hx hb dX10_ring_5 ?_
      refine lv_aload_n hx hb dX10_ring_6 rfl (lv_at hl 0 rfl) ?_
      refine va_get (D := (dC, dI)) (ci := 10) (v := .int t_last) (C := RX10) (T := TX10) (N := 3) hx hb hts hin10 hown hK hP 0 rfl rfl 2 (by decide) (hts (.fieldLink RX10 18 "TowedBack$Way" "last" "I") (List.mem_of_getElem? (i := 1) rfl)) (fun _ h9 => h9) rfl dX10_ring_7 ?_
      refine lv_icmp_gt (tgt := 57) hx hb dX10_ring_10 (by decide) (fun hc => ?_) (fun hc => ?_)
      · have h := k_pos hc h
        refine lv_iconst (v := (-1)) hx hb dX10_ring_57 (by decide) ?_
        obtain rfl := k_in1 h
        exact k_ri hx hb hr hlocks hP hS dX10_ring_58
      · have h := k_neg hc h
        refine lv_aload_n hx hb dX10_ring_13 rfl (lv_at hl 0 rfl) ?_
        refine lv_bipush (v := 40) hx hb dX10_ring_14 (by decide) ?_
        refine lv_iload_n hx hb dX10_ring_16 rfl (lv_at hl 1 rfl) ?_
        refine lv_iadd hx hb dX10_ring_17 ?_
        obtain ⟨r1, hc1, h⟩ := kb1_some h
        refine k_FVi (rest := []) (As := [.int (40 + x1)]) ⟨hx, hb, hml, hown, hts⟩ (c_Way_place l dC dI cI cZ a_t t_places t_needs t_last (40 + x1) r1 hc1) (cwV 1 hts gX10_ring_X10_place rfl rfl rfl hd_10_place ⟨Nat.le_of_ble_eq_true rfl, Nat.le_of_ble_eq_true rfl⟩) hK hP hD hS hA 0 10 rfl rfl rfl (wd_tWay_f.trans wd_tWay_f.symm) rfl hl.1 rfl (Nat.le_of_ble_eq_true rfl) dX10_ring_18 ⟨Nat.zero_le _, Nat.zero_le _⟩ (fun H locs hP hD hS => ?_)
        refine lv_aload_n hx hb dX10_ring_21 rfl (lv_at hl 0 rfl) ?_
        refine lv_bipush (v := 40) hx hb dX10_ring_22 (by decide) ?_
        obtain ⟨r2, hc2, h⟩ := kb1_some h
        refine k_FVi (rest := [.int r1]) (As := [.int 40]) ⟨hx, hb, hml, hown, hts⟩ (c_Way_place l dC dI cI cZ a_t t_places t_needs t_last 40 r2 hc2) (cwV 1 hts gX10_ring_X10_place rfl rfl rfl hd_10_place ⟨Nat.le_of_ble_eq_true rfl, Nat.le_of_ble_eq_true rfl⟩) hK hP hD hS hA 0 10 rfl rfl rfl (wd_tWay_f.trans wd_tWay_f.symm) rfl hl.1 rfl (Nat.le_of_ble_eq_true rfl) dX10_ring_24 ⟨Nat.zero_le _, Nat.zero_le _⟩ (fun H locs hP hD hS => ?_)
        refine lv_icmp_ne (tgt := 51) hx hb dX10_ring_27 (by decide) (fun hc => ?_) (fun hc => ?_)
        · have h := k_neg hc h
          exact J51 x1 _ _ _ hP hD hS (lv_sub hl [0, 1] rfl) h
        · have h := k_pos hc h
          refine lv_aload_n hx hb dX10_ring_30 rfl (lv_at hl 0 rfl) ?_
          refine lv_bipush (v := 40) hx hb dX10_ring_31 (by decide) ?_
          refine lv_iload_n hx hb dX10_ring_33 rfl (lv_at hl 1 rfl) ?_
          refine lv_iadd hx hb dX10_ring_34 ?_
          refine lv_iconst (v := 1) hx hb dX10_ring_35 (by decide) ?_
          refine lv_isub hx hb dX10_ring_36 ?_
          obtain ⟨r3, hc3, h⟩ := kb1_some h
          refine k_FVi (rest := []) (As := [.int ((40 + x1) - 1)]) ⟨hx, hb, hml, hown, hts⟩ (c_Way_place l dC dI cI cZ a_t t_places t_needs t_last ((40 + x1) - 1) r3 hc3) (cwV 1 hts gX10_ring_X10_place rfl rfl rfl hd_10_place ⟨Nat.le_of_ble_eq_true rfl, Nat.le_of_ble_eq_true rfl⟩) hK hP hD hS hA 0 10 rfl rfl rfl (wd_tWay_f.trans wd_tWay_f.symm) rfl hl.1 rfl (Nat.le_of_ble_eq_true rfl) dX10_ring_37 ⟨Nat.zero_le _, Nat.zero_le _⟩ (fun H locs hP hD hS => ?_)
          refine lv_aload_n hx hb dX10_ring_40 rfl (lv_at hl 0 rfl) ?_
          refine lv_bipush (v := 39) hx hb dX10_ring_41 (by decide) ?_
          obtain ⟨r4, hc4, h⟩ := kb1_some h
          refine k_FVi (rest := [.int r3]) (As := [.int 39]) ⟨hx, hb, hml, hown, hts⟩ (c_Way_place l dC dI cI cZ a_t t_places t_needs t_last 39 r4 hc4) (cwV 1 hts gX10_ring_X10_place rfl rfl rfl hd_10_place ⟨Nat.le_of_ble_eq_true rfl, Nat.le_of_ble_eq_true rfl⟩) hK hP hD hS hA 0 10 rfl rfl rfl (wd_tWay_f.trans wd_tWay_f.symm) rfl hl.1 rfl (Nat.le_of_ble_eq_true rfl) dX10_ring_43 ⟨Nat.zero_le _, Nat.zero_le _⟩ (fun H locs hP hD hS => ?_)
          refine lv_icmp_ne (tgt := 51) hx hb dX10_ring_46 (by decide) (fun hc => ?_) (fun hc => ?_)
          · have h := k_neg hc h
            exact J51 x1 _ _ _ hP hD hS (lv_sub hl [0, 1] rfl) h
          · have h := k_pos hc h
            refine lv_iload_n hx hb dX10_ring_49 rfl (lv_at hl 1 rfl) ?_
            obtain rfl := k_in1 h
            exact k_ri hx hb hr hlocks hP hS dX10_ring_50
  unfold m_Way_ring at h
  refine lv_iconst (v := 1) hx hb dX10_ring_0 (by decide) ?_
  refine lv_istore_n (lv' := [(1, .int 1), (0, .ref (a_t 0))]) hx hb dX10_ring_1 rfl hl (by decide) rfl (fun ls hl => ?_)
  exact L2 FU 1 _ _ _ hP hD hS (lv_sub hl [1, 0] rfl) h
set_option maxHeartbeats 4000000 in
set_option maxRecDepth 100000 in
theorem c_Way_endsAt (l : Launch) (dC : Nat → ClassId) (dI : Nat → Nat → Nat) (cI cZ : ClassId) (a_t : Nat → Nat) (t_places : Nat → Int32) (t_needs : Nat → Int32) (t_last : Int32) (y1 : Int32) (y2 : Int32) (r0 : Int32) (h : m_Way_endsAt y1 y2 t_places t_needs t_last = some r0) : (MI l yX10_endsAt wsX10_endsAt ({ frames := 1, cells := 0, slots := 0, locals := 21 }) (dC, dI) [(cI, .int), (cZ, .boolean)] (wd_tWay cI cZ a_t t_places t_needs t_last) (wd_tWay cI cZ a_t t_places t_needs t_last) [.ref (a_t 0), .int y1, .int y2] r0) := by
  intro sz
  refine Met.ofW (cc := cX10_endsAt) (maxL := 3) (ret := (some .boolean)) (by decide) rfl ?_
  intro p e s m args below meth c s₁ B hml hv
  obtain ⟨rfl, hsz, hP, hK, hD0⟩ := hv
  have hx := B.exec
  have hb := B.bytes
  have hr := B.returns
  have hts := atoms_spec (ws := wsX10_endsAt) B.pre
  have hown : s.vm.findClass RX10 = some m.cls := findClass_of_methodNamed B.named
  have hlocks := B.notSynchronized
  subst hsz
  have hD := hD0.self (sz := s.heap.size)
  have hA : ∀ q : Nat, s.heap.size ≤ q → va_A (wd_tWay cI cZ a_t t_places t_needs t_last) s.heap.size q := fun q h => Or.inr h
  have hS : va_S (va_A (wd_tWay cI cZ a_t t_places t_needs t_last) s.heap.size) s.heap s.heap [] := va_S.rf
  have hl := lv_entry ([.ref (a_t 0), .int y1, .int y2]) (n := 3) (Nat.le_of_ble_eq_true rfl)
  rw [lg_entry_eq]
  generalize (lg_sl ([.ref (a_t 0), .int y1, .int y2]) ++ List.replicate (3 - (lg_sl ([.ref (a_t 0), .int y1, .int y2])).length) Slot.unset).toArray = ls at hl ⊢
  have hl : lv_has ls 3 [(0, .ref (a_t 0)), (1, .int y1), (2, .int y2)] := hl
  unfold m_Way_endsAt at h
  refine lv_aload_n hx hb dX10_endsAt_0 rfl (lv_at hl 0 rfl) ?_
  refine lv_iload_n hx hb dX10_endsAt_1 rfl (lv_at hl 1 rfl) ?_
  obtain ⟨r1, hc1, h⟩ := kb1_some h
  refine k_FVi (rest := []) (As := [.int y1]) ⟨hx, hb, hml, hown, hts⟩ (c_Way_place l dC dI cI cZ a_t t_places t_needs t_last y1 r1 hc1) (cwV 1 hts gX10_endsAt_X10_place rfl rfl rfl hd_10_place ⟨Nat.le_of_ble_eq_true rfl, Nat.le_of_ble_eq_true rfl⟩) hK hP hD hS hA 0 10 rfl rfl rfl (wd_tWay_f.trans wd_tWay_f.symm) rfl hl.1 rfl (Nat.le_of_ble_eq_true rfl) dX10_endsAt_2 ⟨Nat.zero_le _, Nat.zero_le _⟩ (fun H locs hP hD hS => ?_)
  refine lv_iload_n hx hb dX10_endsAt_5 rfl (lv_at hl 2 rfl) ?_
  refine lv_icmp_ne (tgt := 28) hx hb dX10_endsAt_6 (by decide) (fun hc => ?_) (fun hc => ?_)
  · have h := k_neg hc h
    refine lv_iconst (v := 0) hx hb dX10_endsAt_28 (by decide) ?_
    obtain rfl := k_in1 h
    exact k_rz hx hb hr hlocks rfl hP hS dX10_endsAt_29
  · have h := k_pos hc h
    refine lv_aload_n hx hb dX10_endsAt_9 rfl (lv_at hl 0 rfl) ?_
    refine lv_iload_n hx hb dX10_endsAt_10 rfl (lv_at hl 1 rfl) ?_
    obtain ⟨r2, hc2, h⟩ := kb1_some h
    refine k_FVi (rest := []) (As := [.int y1]) ⟨hx, hb, hml, hown, hts⟩ (c_Way_need l dC dI cI cZ a_t t_places t_needs t_last y1 r2 hc2) (cwV 1 hts gX10_endsAt_X10_need rfl rfl rfl hd_10_need ⟨Nat.le_of_ble_eq_true rfl, Nat.le_of_ble_eq_true rfl⟩) hK hP hD hS hA 0 10 rfl rfl rfl (wd_tWay_f.trans wd_tWay_f.symm) rfl hl.1 rfl (Nat.le_of_ble_eq_true rfl) dX10_endsAt_11 ⟨Nat.zero_le _, Nat.zero_le _⟩ (fun H locs hP hD hS => ?_)
    refine lv_aload_n hx hb dX10_endsAt_14 rfl (lv_at hl 0 rfl) ?_
    refine lv_iload_n hx hb dX10_endsAt_15 rfl (lv_at hl 1 rfl) ?_
    refine lv_iconst (v := 1) hx hb dX10_endsAt_16 (by decide) ?_
    refine lv_iadd hx hb dX10_endsAt_17 ?_
    obtain ⟨r3, hc3, h⟩ := kb1_some h
    refine k_FVi (rest := [.int r2]) (As := [.int (y1 + 1)]) ⟨hx, hb, hml, hown, hts⟩ (c_Way_need l dC dI cI cZ a_t t_places t_needs t_last (y1 + 1) r3 hc3) (cwV 1 hts gX10_endsAt_X10_need rfl rfl rfl hd_10_need ⟨Nat.le_of_ble_eq_true rfl, Nat.le_of_ble_eq_true rfl⟩) hK hP hD hS hA 0 10 rfl rfl rfl (wd_tWay_f.trans wd_tWay_f.symm) rfl hl.1 rfl (Nat.le_of_ble_eq_true rfl) dX10_endsAt_18 ⟨Nat.zero_le _, Nat.zero_le _⟩ (fun H locs hP hD hS => ?_)
    refine lv_icmp_ge (tgt := 28) hx hb dX10_endsAt_21 (by decide) (fun hc => ?_) (fun hc => ?_)
    · have h := k_pos hc h
      refine lv_iconst (v := 0) hx hb dX10_endsAt_28 (by decide) ?_
      obtain rfl := k_in1 h
      exact k_rz hx hb hr hlocks rfl hP hS dX10_endsAt_29
    · have h := k_neg hc h
      refine lv_iconst (v := 1) hx hb dX10_endsAt_24 (by decide) ?_
      refine lv_goto (tgt := 29) hx hb dX10_endsAt_25 (by decide) ?_
      obtain rfl := k_in1 h
      exact k_rz hx hb hr hlocks rfl hP hS dX10_endsAt_29
