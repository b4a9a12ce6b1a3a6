set_option maxHeartbeats 4000000 in
set_option maxRecDepth 100000 in
theorem c_Ref_dry (l : Launch) (dC : Nat → ClassId) (dI : Nat → Nat → Nat) (cI cZ : ClassId) (a_t : Nat → Nat) (t_junctions : Int32) (t_cuts : Int32) (t_cutOne : Nat → Int32) (t_cutOther : Nat → Int32) (t_cutHard : Nat → Int32) (t_hard : Nat → Int32) (t_boats : Int32) (t_wears : Nat → Int32) (t_quays : Nat → Int32) (t_now : Nat → Int32) (t_seed : Int32) (t_text : Nat → Int32) (t_texted : Int32) (t_faultPlace : Int32) (t_at0 : Int32) (t_number : Int32) (t_numberAt : Int32) (t_readJunctions : Int32) (t_readCuts : Int32) (t_readOne : Nat → Int32) (t_readOther : Nat → Int32) (t_readHard : Nat → Int32) (t_readBoats : Int32) (t_readAt : Nat → Int32) (t_readPull : Nat → Int32) (t_readWears : Nat → Int32) (i_t_at : Int32) (i_t_from : Int32) (i_t_pull : Int32) (t_undos : Int32) (t_past : Nat → Int32) (t_given : Nat → Int32) (t_bestGiven : Nat → Int32) (t_seen : Int32) (t_seenOf : Nat → Int32) (t_seenBehind : Nat → Int32) (t_seenAt : Nat → Int32) (t_way : Nat → Int32) (t_brings : Nat → Int32) (t_booked : Int32) (t_bookOf : Nat → Int32) (t_bookAt : Nat → Int32) (t_images : Nat → Int32) (t_isKept : Nat → Int32) (y1 : Int32) (r0 : Int32) (o_t_at : Int32) (o_t_from : Int32) (o_t_pull : Int32) (h : m_Ref_dry y1 t_junctions t_hard t_boats t_wears t_now i_t_at i_t_from i_t_pull = some (r0, o_t_at, o_t_from, o_t_pull)) : (MI l yX12_dry wsX12_dry ({ frames := 2, cells := 0, slots := 0, locals := 46 }) (dC, dI) [(cI, .int), (cZ, .boolean)] (wd_tRef cI cZ a_t t_junctions t_cuts t_cutOne t_cutOther t_cutHard t_hard t_boats t_wears t_quays t_now t_seed t_text t_texted t_faultPlace t_at0 t_number t_numberAt t_readJunctions t_readCuts t_readOne t_readOther t_readHard t_readBoats t_readAt t_readPull t_readWears i_t_at i_t_from i_t_pull t_undos t_past t_given t_bestGiven t_seen t_seenOf t_seenBehind t_seenAt t_way t_brings t_booked t_bookOf t_bookAt t_images t_isKept) (wd_tRef cI cZ a_t t_junctions t_cuts t_cutOne t_cutOther t_cutHard t_hard t_boats t_wears t_quays t_now t_seed t_text t_texted t_faultPlace t_at0 t_number t_numberAt t_readJunctions t_readCuts t_readOne t_readOther t_readHard t_readBoats t_readAt t_readPull t_readWears o_t_at o_t_from o_t_pull t_undos t_past t_given t_bestGiven t_seen t_seenOf t_seenBehind t_seenAt t_way t_brings t_booked t_bookOf t_bookAt t_images t_isKept) [.ref (a_t 0), .int y1] r0) := by
  intro sz
  refine Met.ofW (cc := cX12_dry) (maxL := 5) (ret := (some .int)) (by decide) rfl ?_
  intro p e s m args below meth c s₁ B hml hv
  obtain ⟨rfl, hsz, hP, hK, hD0⟩ := hv
  have hx := B.exec
  have hb := B.bytes
  have hr := B.returns
  have hts := atoms_spec (ws := wsX12_dry) B.pre
  have hown : s.vm.findClass RX12 = some m.cls := findClass_of_methodNamed B.named
  have hlocks := B.notSynchronized
  subst hsz
  have hD := hD0.self (sz := s.heap.size)
  have hA : ∀ q : Nat, s.heap.size ≤ q → va_A (wd_tRef cI cZ a_t t_junctions t_cuts t_cutOne t_cutOther t_cutHard t_hard t_boats t_wears t_quays t_now t_seed t_text t_texted t_faultPlace t_at0 t_number t_numberAt t_readJunctions t_readCuts t_readOne t_readOther t_readHard t_readBoats t_readAt t_readPull t_readWears i_t_at i_t_from i_t_pull t_undos t_past t_given t_bestGiven t_seen t_seenOf t_seenBehind t_seenAt t_way t_brings t_booked t_bookOf t_bookAt t_images t_isKept) s.heap.size q := fun q h => Or.inr h
  have hS : va_S (va_A (wd_tRef cI cZ a_t t_junctions t_cuts t_cutOne t_cutOther t_cutHard t_hard t_boats t_wears t_quays t_now t_seed t_text t_texted t_faultPlace t_at0 t_number t_numberAt t_readJunctions t_readCuts t_readOne t_readOther t_readHard t_readBoats t_readAt t_readPull t_readWears i_t_at i_t_from i_t_pull t_undos t_past t_given t_bestGiven t_seen t_seenOf t_seenBehind t_seenAt t_way t_brings t_booked t_bookOf t_bookAt t_images t_isKept) s.heap.size) s.heap s.heap [] := va_S.rf
  have hin12 : ∀ w ∈ u_ws RX12 TX12 44, w ∈ wsX12_dry := fun w h => List.mem_cons_of_mem _ (List.mem_append_right _ h)
  have hl := lv_entry ([.ref (a_t 0), .int y1]) (n := 5) (Nat.le_of_ble_eq_true rfl)
  rw [lg_entry_eq]
  generalize (lg_sl ([.ref (a_t 0), .int y1]) ++ List.replicate (5 - (lg_sl ([.ref (a_t 0), .int y1])).length) Slot.unset).toArray = ls at hl ⊢
  have hl : lv_has ls 5 [(0, .ref (a_t 0)), (1, .int y1)] := hl
  have L26 : ∀ (n26 : Nat) (x1 : Int32) (x2 : Int32) (x3 : Int32) (t_at : Int32) (t_from : Int32) (t_pull : Int32) (H : Heap) (locs : List Loc) (ls : Array Slot), va_P (dC, dI) vwCl (wd_tRef cI cZ a_t t_junctions t_cuts t_cutOne t_cutOther t_cutHard t_hard t_boats t_wears t_quays t_now t_seed t_text t_texted t_faultPlace t_at0 t_number t_numberAt t_readJunctions t_readCuts t_readOne t_readOther t_readHard t_readBoats t_readAt t_readPull t_readWears t_at t_from t_pull t_undos t_past t_given t_bestGiven t_seen t_seenOf t_seenBehind t_seenAt t_way t_brings t_booked t_bookOf t_bookAt t_images t_isKept) H → va_D (va_A (wd_tRef cI cZ a_t t_junctions t_cuts t_cutOne t_cutOther t_cutHard t_hard t_boats t_wears t_quays t_now t_seed t_text t_texted t_faultPlace t_at0 t_number t_numberAt t_readJunctions t_readCuts t_readOne t_readOther t_readHard t_readBoats t_readAt t_readPull t_readWears i_t_at i_t_from i_t_pull t_undos t_past t_given t_bestGiven t_seen t_seenOf t_seenBehind t_seenAt t_way t_brings t_booked t_bookOf t_bookAt t_images t_isKept) s.heap.size) (wd_tRef cI cZ a_t t_junctions t_cuts t_cutOne t_cutOther t_cutHard t_hard t_boats t_wears t_quays t_now t_seed t_text t_texted t_faultPlace t_at0 t_number t_numberAt t_readJunctions t_readCuts t_readOne t_readOther t_readHard t_readBoats t_readAt t_readPull t_readWears t_at t_from t_pull t_undos t_past t_given t_bestGiven t_seen t_seenOf t_seenBehind t_seenAt t_way t_brings t_booked t_bookOf t_bookAt t_images t_isKept) → va_S (va_A (wd_tRef cI cZ a_t t_junctions t_cuts t_cutOne t_cutOther t_cutHard t_hard t_boats t_wears t_quays t_now t_seed t_text t_texted t_faultPlace t_at0 t_number t_numberAt t_readJunctions t_readCuts t_readOne t_readOther t_readHard t_readBoats t_readAt t_readPull t_readWears i_t_at i_t_from i_t_pull t_undos t_past t_given t_bestGiven t_seen t_seenOf t_seenBehind t_seenAt t_way t_brings t_booked t_bookOf t_bookAt t_images t_isKept) s.heap.size) s.heap H locs → lv_has ls 5 [(0, .ref (a_t 0)), (1, .int x1), (2, .int x2), (3, .int x3)] → m_Ref_dry_L26  n26 x1 x2 x3 t_junctions t_hard t_boats t_wears t_now t_at t_from t_pull = some (r0, o_t_at, o_t_from, o_t_pull) → W p l e (headSpec wsX12_dry ({ frames := 2, cells := 0, slots := 0, locals := 46 })).room s m ([.ref (a_t 0), .int y1] : List Value).toArray below meth c H locs 0 0 (MQ below (cQi (dC, dI) (wd_tRef cI cZ a_t t_junctions t_cuts t_cutOne t_cutOther t_cutHard t_hard t_boats t_wears t_quays t_now t_seed t_text t_texted t_faultPlace t_at0 t_number t_numberAt t_readJunctions t_readCuts t_readOne t_readOther t_readHard t_readBoats t_readAt t_readPull t_readWears i_t_at i_t_from i_t_pull t_undos t_past t_given t_bestGiven t_seen t_seenOf t_seenBehind t_seenAt t_way t_brings t_booked t_bookOf t_bookAt t_images t_isKept) (wd_tRef cI cZ a_t t_junctions t_cuts t_cutOne t_cutOther t_cutHard t_hard t_boats t_wears t_quays t_now t_seed t_text t_texted t_faultPlace t_at0 t_number t_numberAt t_readJunctions t_readCuts t_readOne t_readOther t_readHard t_readBoats t_readAt t_readPull t_readWears o_t_at o_t_from o_t_pull t_undos t_past t_given t_bestGiven t_seen t_seenOf t_seenBehind t_seenAt t_way t_brings t_booked t_bookOf t_bookAt t_images t_isKept) s.heap.size r0) ([.ref (a_t 0), .int y1] : List Value).toArray s 0 0 (va_A (wd_tRef cI cZ a_t t_junctions t_cuts t_cutOne t_cutOther t_cutHard t_hard t_boats t_wears t_quays t_now t_seed t_text t_texted t_faultPlace t_at0 t_number t_numberAt t_readJunctions t_readCuts t_readOne t_readOther t_readHard t_readBoats t_readAt t_readPull t_readWears i_t_at i_t_from i_t_pull t_undos t_past t_given t_bestGiven t_seen t_seenOf t_seenBehind t_seenAt t_way t_brings t_booked t_bookOf t_bookAt t_images t_isKept) s.heap.size)) (F0 m 26 ls []) := by
    intro n26
    induction n26 with
    | zero => intro x1 x2 x3 t_at t_from t_pull H locs ls hP hD hS hl h; have h : none = some (r0, o_t_at, o_t_from, o_t_pull) := h; cases h
    | succ n26 ih26 =>
      intro x1 x2 x3 t_at t_from t_pull H locs ls hP hD hS hl h
      have h : m_Ref_dry_B26  (m_Ref_dry_L26  n26) x1 x2 x3 t_junctions t_hard t_boats t_wears t_now t_at t_from t_pull = some (r0, o_t_at, o_t_from, o_t_pull) := h
      have J89 : ∀ (x1 : Int32) (x2 : Int32) (x3 : Int32) (t_at : Int32) (t_from : Int32) (t_pull : Int32) (H : Heap) (locs : List Loc) (ls : Array Slot), va_P (dC, dI) vwCl (wd_tRef cI cZ a_t t_junctions t_cuts t_cutOne t_cutOther t_cutHard t_hard t_boats t_wears t_quays t_now t_seed t_text t_texted t_faultPlace t_at0 t_number t_numberAt t_readJunctions t_readCuts t_readOne t_readOther t_readHard t_readBoats t_readAt t_readPull t_readWears t_at t_from t_pull t_undos t_past t_given t_bestGiven t_seen t_seenOf t_seenBehind t_seenAt t_way t_brings t_booked t_bookOf t_bookAt t_images t_isKept) H → va_D (va_A (wd_tRef cI cZ a_t t_junctions t_cuts t_cutOne t_cutOther t_cutHard t_hard t_boats t_wears t_quays t_now t_seed t_text t_texted t_faultPlace t_at0 t_number t_numberAt t_readJunctions t_readCuts t_readOne t_readOther t_readHard t_readBoats t_readAt t_readPull t_readWears i_t_at i_t_from i_t_pull t_undos t_past t_given t_bestGiven t_seen t_seenOf t_seenBehind t_seenAt t_way t_brings t_booked t_bookOf t_bookAt t_images t_isKept) s.heap.size) (wd_tRef cI cZ a_t t_junctions t_cuts t_cutOne t_cutOther t_cutHard t_hard t_boats t_wears t_quays t_now t_seed t_text t_texted t_faultPlace t_at0 t_number t_numberAt t_readJunctions t_readCuts t_readOne t_readOther t_readHard t_readBoats t_readAt t_readPull t_readWears t_at t_from t_pull t_undos t_past t_given t_bestGiven t_seen t_seenOf t_seenBehind t_seenAt t_way t_brings t_booked t_bookOf t_bookAt t_images t_isKept) → va_S (va_A (wd_tRef cI cZ a_t t_junctions t_cuts t_cutOne t_cutOther t_cutHard t_hard t_boats t_wears t_quays t_now t_seed t_text t_texted t_faultPlace t_at0 t_number t_numberAt t_readJunctions t_readCuts t_readOne t_readOther t_readHard t_readBoats t_readAt t_readPull t_readWears i_t_at i_t_from i_t_pull t_undos t_past t_given t_bestGiven t_seen t_seenOf t_seenBehind t_seenAt t_way t_brings t_booked t_bookOf t_bookAt t_images t_isKept) s.heap.size) s.heap H locs → lv_has ls 5 [(0, .ref (a_t 0)), (1, .int x1), (2, .int x2), (3, .int x3)] → m_Ref_dry_B89 (m_Ref_dry_L26  n26) x1 x2 x3 t_junctions t_hard t_boats t_wears t_now t_at t_from t_pull = some (r0, o_t_at, o_t_from, o_t_pull) → W p l e (headSpec wsX12_dry ({ frames := 2, cells := 0, slots := 0, locals := 46 })).room s m ([.ref (a_t 0), .int y1] : List Value).toArray below meth c H locs 0 0 (MQ below (cQi (dC, dI) (wd_tRef cI cZ a_t t_junctions t_cuts t_cutOne t_cutOther t_cutHard t_hard t_boats t_wears t_quays t_now t_seed t_text t_texted t_faultPlace t_at0 t_number t_numberAt t_readJunctions t_readCuts t_readOne t_readOther t_readHard t_readBoats t_readAt t_readPull t_readWears i_t_at i_t_from i_t_pull t_undos t_past t_given t_bestGiven t_seen t_seenOf t_seenBehind t_seenAt t_way t_brings t_booked t_bookOf t_bookAt t_images t_isKept) (wd_tRef cI cZ a_t t_junctions t_cuts t_cutOne t_cutOther t_cutHard t_hard t_boats t_wears t_quays t_now t_seed t_text t_texted t_faultPlace t_at0 t_number t_numberAt t_readJunctions t_readCuts t_readOne t_readOther t_readHard t_readBoats t_readAt t_readPull t_readWears o_t_at o_t_from o_t_pull t_undos t_past t_given t_bestGiven t_seen t_seenOf t_seenBehind t_seenAt t_way t_brings t_booked t_bookOf t_bookAt t_images t_isKept) s.heap.size r0) ([.ref (a_t 0), .int y1] : List Value).toArray s 0 0 (va_A (wd_tRef cI cZ a_t t_junctions t_cuts t_cutOne t_cutOther t_cutHard t_hard t_boats t_wears t_quays t_now t_seed t_text t_texted t_faultPlace t_at0 t_number t_numberAt t_readJunctions t_readCuts t_readOne t_readOther t_readHard t_readBoats t_readAt t_readPull t_readWears i_t_at i_t_from i_t_pull t_undos t_past t_given t_bestGiven t_seen t_seenOf t_seenBehind t_seenAt t_way t_brings t_booked t_bookOf t_bookAt t_images t_isKept) s.heap.size)) (F0 m 89 ls []) := by
        intro x1 x2 x3 t_at t_from t_pull H locs ls hP hD hS hl h
        unfold m_Ref_dry_B89 at h
        refine lv_iinc (v := (x3 + 1)) (lv' := [(3, .int (x3 + 1)), (0, .ref (a_t 0)), (1, .int x1), (2, .int x2)]) hx hb dX12_dry_89 hl (k := 3) rfl rfl (by decide) rfl (fun ls hl => ?_)
        refine lv_goto (tgt := 26) hx hb dX12_dry_92 (by decide) ?_
        exact ih26 x1 x2 (x3 + 1) t_at t_from t_pull _ _ _ hP hD hS (lv_sub hl [1, 2, 3, 0] rfl) h
      have L53 : ∀ (n53 : Nat) (x1 : Int32) (x2 : Int32) (x3 : Int32) (x4 : Int32) (t_at : Int32) (t_from : Int32) (t_pull : Int32) (H : Heap) (locs : List Loc) (ls : Array Slot), va_P (dC, dI) vwCl (wd_tRef cI cZ a_t t_junctions t_cuts t_cutOne t_cutOther t_cutHard t_hard t_boats t_wears t_quays t_now t_seed t_text t_texted t_faultPlace t_at0 t_number t_numberAt t_readJunctions t_readCuts t_readOne t_readOther t_readHard t_readBoats t_readAt t_readPull t_readWears t_at t_from t_pull t_undos t_past t_given t_bestGiven t_seen t_seenOf t_seenBehind t_seenAt t_way t_brings t_booked t_bookOf t_bookAt t_images t_isKept) H → va_D (va_A (wd_tRef cI cZ a_t t_junctions t_cuts t_cutOne t_cutOther t_cutHard t_hard t_boats t_wears t_quays t_now t_seed t_text t_texted t_faultPlace t_at0 t_number t_numberAt t_readJunctions t_readCuts t_readOne t_readOther t_readHard t_readBoats t_readAt t_readPull t_readWears i_t_at i_t_from i_t_pull t_undos t_past t_given t_bestGiven t_seen t_seenOf t_seenBehind t_seenAt t_way t_brings t_booked t_bookOf t_bookAt t_images t_isKept) s.heap.size) (wd_tRef cI cZ a_t t_junctions t_cuts t_cutOne t_cutOther t_cutHard t_hard t_boats t_wears t_quays t_now t_seed t_text t_texted t_faultPlace t_at0 t_number t_numberAt t_readJunctions t_readCuts t_readOne t_readOther t_readHard t_readBoats t_readAt t_readPull t_readWears t_at t_from t_pull t_undos t_past t_given t_bestGiven t_seen t_seenOf t_seenBehind t_seenAt t_way t_brings t_booked t_bookOf t_bookAt t_images t_isKept) → va_S (va_A (wd_tRef cI cZ a_t t_junctions t_cuts t_cutOne t_cutOther t_cutHard t_hard t_boats t_wears t_quays t_now t_seed t_text t_texted t_faultPlace t_at0 t_number t_numberAt t_readJunctions t_readCuts t_readOne t_readOther t_readHard t_readBoats t_readAt t_readPull t_readWears i_t_at i_t_from i_t_pull t_undos t_past t_given t_bestGiven t_seen t_seenOf t_seenBehind t_seenAt t_way t_brings t_booked t_bookOf t_bookAt t_images t_isKept) s.heap.size) s.heap H locs → lv_has ls 5 [(0, .ref (a_t 0)), (1, .int x1), (2, .int x2), (3, .int x3), (4, .int x4)] → m_Ref_dry_L53 (m_Ref_dry_L26  n26) n53 x1 x2 x3 x4 t_junctions t_hard t_boats t_wears t_now t_at t_from t_pull = some (r0, o_t_at, o_t_from, o_t_pull) → W p l e (headSpec wsX12_dry ({ frames := 2, cells := 0, slots := 0, locals := 46 })).room s m ([.ref (a_t 0), .int y1] : List Value).toArray below meth c H locs 0 0 (MQ below (cQi (dC, dI) (wd_tRef cI cZ a_t t_junctions t_cuts t_cutOne t_cutOther t_cutHard t_hard t_boats t_wears t_quays t_now t_seed t_text t_texted t_faultPlace t_at0 t_number t_numberAt t_readJunctions t_readCuts t_readOne t_readOther t_readHard t_readBoats t_readAt t_readPull t_readWears i_t_at i_t_from i_t_pull t_undos t_past t_given t_bestGiven t_seen t_seenOf t_seenBehind t_seenAt t_way t_brings t_booked t_bookOf t_bookAt t_images t_isKept) (wd_tRef cI cZ a_t t_junctions t_cuts t_cutOne t_cutOther t_cutHard t_hard t_boats t_wears t_quays t_now t_seed t_text t_texted t_faultPlace t_at0 t_number t_numberAt t_readJunctions t_readCuts t_readOne t_readOther t_readHard t_readBoats t_readAt t_readPull t_readWears o_t_at o_t_from o_t_pull t_undos t_past t_given t_bestGiven t_seen t_seenOf t_seenBehind t_seenAt t_way t_brings t_booked t_bookOf t_bookAt t_images t_isKept) s.heap.size r0) ([.ref (a_t 0), .int y1] : List Value).toArray s 0 0 (va_A (wd_tRef cI cZ a_t t_junctions t_cuts t_cutOne t_cutOther t_cutHard t_hard t_boats t_wears t_quays t_now t_seed t_text t_texted t_faultPlace t_at0 t_number t_numberAt t_readJunctions t_readCuts t_readOne t_readOther t_readHard t_readBoats t_readAt t_readPull t_readWears i_t_at i_t_from i_t_pull t_undos t_past t_given t_bestGiven t_seen t_seenOf t_seenBehind t_seenAt t_way t_brings t_booked t_bookOf t_bookAt t_images t_isKept) s.heap.size)) (F0 m 53 ls []) := by
        intro n53
        induction n53 with
        | zero => intro x1 x2 x3 x4 t_at t_from t_pull H locs ls hP hD hS hl h; have h : none = some (r0, o_t_at, o_t_from, o_t_pull) := h; cases h
        | succ n53 ih53 =>
          intro x1 x2 x3 x4 t_at t_from t_pull H locs ls hP hD hS hl h
          have h : m_Ref_dry_B53 (m_Ref_dry_L26  n26) (m_Ref_dry_L53 (m_Ref_dry_L26  n26) n53) x1 x2 x3 x4 t_junctions t_hard t_boats t_wears t_now t_at t_from t_pull = some (r0, o_t_at, o_t_from, o_t_pull) := h
          unfold m_Ref_dry_B53 at h
          refine lv_iload hx hb dX12_dry_53 (lv_at hl 4 rfl) ?_
          refine lv_iload_n hx hb dX12_dry_55 rfl (lv_at hl 1 rfl) ?_
          refine lv_icmp_ge (tgt := 89) hx hb dX12_dry_56 (by decide) (fun hc => ?_) (fun hc => ?_)
          · have h := k_pos hc h
            exact J89 x1 x2 x3 t_at t_from t_pull _ _ _ hP hD hS (lv_sub hl [0, 1, 2, 3] rfl) h
          · have h := k_neg hc h
            refine lv_aload_n hx hb dX12_dry_59 rfl (lv_at hl 0 rfl) ?_
            refine lv_aload_n hx hb dX12_dry_60 rfl (lv_at hl 0 rfl) ?_
            refine va_get (D := (dC, dI)) (ci := 12) (v := .ref (a_t 5)) (C := RX12) (T := TX12) (N := 44) hx hb hts hin12 hown hK hP 0 rfl rfl 7 (by decide) (hts (.fieldLink RX12 22 "TowedBackModel" "wears" "[I") (List.mem_of_getElem? (i := 6) rfl)) (fun _ h9 => h9) rfl dX12_dry_61 ?_
            refine lv_iload_n hx hb dX12_dry_64 rfl (lv_at hl 3 rfl) ?_
            obtain ⟨hi1, h⟩ := kg_some h
            refine va_iald hx hb hK hP 5 0 rfl rfl hi1 dX12_dry_65 ?_
            obtain ⟨r2, t_at_2, t_from_2, t_pull_2, hc2, h⟩ := kb4_some h
            refine k_FVi (rest := []) (As := [.int (t_wears x3.toNatClampNeg)]) ⟨hx, hb, hml, hown, hts⟩ (c_Ref_go l dC dI cI cZ a_t t_junctions t_cuts t_cutOne t_cutOther t_cutHard t_hard t_boats t_wears t_quays t_now t_seed t_text t_texted t_faultPlace t_at0 t_number t_numberAt t_readJunctions t_readCuts t_readOne t_readOther t_readHard t_readBoats t_readAt t_readPull t_readWears t_at t_from t_pull t_undos t_past t_given t_bestGiven t_seen t_seenOf t_seenBehind t_seenAt t_way t_brings t_booked t_bookOf t_bookAt t_images t_isKept (t_wears x3.toNatClampNeg) r2 t_at_2 t_from_2 t_pull_2 hc2) (cwV 1 hts gX12_dry_X12_go rfl rfl rfl hd_12_go ⟨Nat.le_of_ble_eq_true rfl, Nat.le_of_ble_eq_true rfl⟩) hK hP hD hS hA 0 12 rfl rfl rfl (wd_tRef_f.trans wd_tRef_f.symm) rfl hl.1 rfl (Nat.le_of_ble_eq_true rfl) dX12_dry_66 ⟨Nat.zero_le _, Nat.zero_le _⟩ (fun H locs hP hD hS => ?_)
            refine lv_if_eq (tgt := 89) hx hb dX12_dry_69 (by decide) (fun hc => ?_) (fun hc => ?_)
            · have h := k_pos hc h
              exact J89 x1 x2 x3 t_at_2 t_from_2 t_pull_2 _ _ _ hP hD hS (lv_sub hl [0, 1, 2, 3] rfl) h
            · have h := k_neg hc h
              refine lv_iload_n hx hb dX12_dry_72 rfl (lv_at hl 2 rfl) ?_
              refine lv_iconst (v := 1) hx hb dX12_dry_73 (by decide) ?_
              refine lv_aload_n hx hb dX12_dry_74 rfl (lv_at hl 0 rfl) ?_
              refine va_get (D := (dC, dI)) (ci := 12) (v := .int t_at_2) (C := RX12) (T := TX12) (N := 44) hx hb hts hin12 hown hK hP 0 rfl rfl 26 (by decide) (hts (.fieldLink RX12 178 "TowedBackModel" "at" "I") (List.mem_of_getElem? (i := 5) rfl)) (fun _ h9 => h9) rfl dX12_dry_75 ?_
              refine lv_ishl hx hb dX12_dry_78 ?_
              refine lv_iconst (v := (-1)) hx hb dX12_dry_79 (by decide) ?_
              refine lv_ixor hx hb dX12_dry_80 ?_
              refine lv_iand hx hb dX12_dry_81 ?_
              refine lv_istore_n (lv' := [(2, .int (x2 &&& ((1 <<< (t_at_2 &&& 31)) ^^^ (-1)))), (0, .ref (a_t 0)), (1, .int x1), (3, .int x3), (4, .int x4)]) hx hb dX12_dry_82 rfl hl (by decide) rfl (fun ls hl => ?_)
              refine lv_iinc (v := (x4 + 1)) (lv' := [(4, .int (x4 + 1)), (2, .int (x2 &&& ((1 <<< (t_at_2 &&& 31)) ^^^ (-1)))), (0, .ref (a_t 0)), (1, .int x1), (3, .int x3)]) hx hb dX12_dry_83 hl (k := 4) rfl rfl (by decide) rfl (fun ls hl => ?_)
              refine lv_goto (tgt := 53) hx hb dX12_dry_86 (by decide) ?_
              exact ih53 x1 (x2 &&& ((1 <<< (t_at_2 &&& 31)) ^^^ (-1))) x3 (x4 + 1) t_at_2 t_from_2 t_pull_2 _ _ _ hP hD hS (lv_sub hl [2, 3, 1, 4, 0] rfl) h
      unfold m_Ref_dry_B26 at h
      refine lv_iload_n hx hb dX12_dry_26 rfl (lv_at hl 3 rfl) ?_
      refine lv_aload_n hx hb dX12_dry_27 rfl (lv_at hl 0 rfl) ?_
      refine va_get (D := (dC, dI)) (ci := 12) (v := .int t_boats) (C := RX12) (T := TX12) (N := 44) hx hb hts hin12 hown hK hP 0 rfl rfl 6 (by decide) (hts (.fieldLink RX12 100 "TowedBackModel" "boats" "I") (List.mem_of_getElem? (i := 4) rfl)) (fun _ h9 => h9) rfl dX12_dry_28 ?_
      refine lv_icmp_ge (tgt := 95) hx hb dX12_dry_31 (by decide) (fun hc => ?_) (fun hc => ?_)
      · have h := k_pos hc h
        refine lv_iload_n hx hb dX12_dry_95 rfl (lv_at hl 2 rfl) ?_
        obtain ⟨rfl, rfl, rfl, rfl⟩ := k_in4 h
        exact k_ri hx hb hr hlocks hP hS dX12_dry_96
      · have h := k_neg hc h
        refine lv_aload_n hx hb dX12_dry_34 rfl (lv_at hl 0 rfl) ?_
        refine lv_iload_n hx hb dX12_dry_35 rfl (lv_at hl 3 rfl) ?_
        obtain ⟨t_at_3, t_from_3, t_pull_3, hc3, h⟩ := kb3_some h
        refine k_FVv (rest := []) (As := [.int x3]) ⟨hx, hb, hml, hown, hts⟩ (c_Ref_board l dC dI cI cZ a_t t_junctions t_cuts t_cutOne t_cutOther t_cutHard t_hard t_boats t_wears t_quays t_now t_seed t_text t_texted t_faultPlace t_at0 t_number t_numberAt t_readJunctions t_readCuts t_readOne t_readOther t_readHard t_readBoats t_readAt t_readPull t_readWears t_at t_from t_pull t_undos t_past t_given t_bestGiven t_seen t_seenOf t_seenBehind t_seenAt t_way t_brings t_booked t_bookOf t_bookAt t_images t_isKept x3 t_at_3 t_from_3 t_pull_3 hc3) (cwV 1 hts gX12_dry_X12_board rfl rfl rfl hd_12_board ⟨Nat.le_of_ble_eq_true rfl, Nat.le_of_ble_eq_true rfl⟩) hK hP hD hS hA 0 12 rfl rfl rfl (wd_tRef_f.trans wd_tRef_f.symm) rfl hl.1 rfl (Nat.le_of_ble_eq_true rfl) dX12_dry_36 ⟨Nat.zero_le _, Nat.zero_le _⟩ (fun H locs hP hD hS => ?_)
        refine lv_iload_n hx hb dX12_dry_39 rfl (lv_at hl 2 rfl) ?_
        refine lv_iconst (v := 1) hx hb dX12_dry_40 (by decide) ?_
        refine lv_aload_n hx hb dX12_dry_41 rfl (lv_at hl 0 rfl) ?_
        refine va_get (D := (dC, dI)) (ci := 12) (v := .int t_at_3) (C := RX12) (T := TX12) (N := 44) hx hb hts hin12 hown hK hP 0 rfl rfl 26 (by decide) (hts (.fieldLink RX12 178 "TowedBackModel" "at" "I") (List.mem_of_getElem? (i := 5) rfl)) (fun _ h9 => h9) rfl dX12_dry_42 ?_
        refine lv_ishl hx hb dX12_dry_45 ?_
        refine lv_iconst (v := (-1)) hx hb dX12_dry_46 (by decide) ?_
        refine lv_ixor hx hb dX12_dry_47 ?_
        refine lv_iand hx hb dX12_dry_48 ?_
        refine lv_istore_n (lv' := [(2, .int (x2 &&& ((1 <<< (t_at_3 &&& 31)) ^^^ (-1)))), (0, .ref (a_t 0)), (1, .int x1), (3, .int x3)]) hx hb dX12_dry_49 rfl hl (by decide) rfl (fun ls hl => ?_)
        refine lv_iconst (v := 0) hx hb dX12_dry_50 (by decide) ?_
        refine lv_istore (lv' := [(4, .int 0), (2, .int (x2 &&& ((1 <<< (t_at_3 &&& 31)) ^^^ (-1)))), (0, .ref (a_t 0)), (1, .int x1), (3, .int x3)]) hx hb dX12_dry_51 hl (by decide) rfl (fun ls hl => ?_)
        exact L53 FU x1 (x2 &&& ((1 <<< (t_at_3 &&& 31)) ^^^ (-1))) x3 0 t_at_3 t_from_3 t_pull_3 _ _ _ hP hD hS (lv_sub hl [2, 3, 1, 4, 0] rfl) h
  unfold m_Ref_dry at h
  refine lv_iload_n hx hb dX12_dry_0 rfl (lv_at hl 1 rfl) ?_
  refine lv_i2l (v := y1.toInt64) hx hb dX12_dry_1 rfl ?_
  refine lv_lconst (v := 0) hx hb dX12_dry_2 (by decide) ?_
  refine lv_ldc2 (v := 60) hx hb hown (hts (.constantLong RX12 207 (60)) (List.mem_of_getElem? (i := 1) rfl)) dX12_dry_3 ?_
  obtain ⟨r4, hc4, h⟩ := kb1_some h
  refine k_RSi (rest := []) (As := [.long (y1.toInt64), .long 0, .long 60]) ⟨hx, hb, hml, hown, hts⟩ (c_Ref_in l dC dI cI cZ (y1.toInt64) 0 60 r4 hc4) (va_cwS 3 hts gX12_dry_X12_in rfl rfl rfl hd_12_in ⟨Nat.le_of_ble_eq_true rfl, Nat.le_of_ble_eq_true rfl⟩) hK hP hD hS hA [] rfl (by decide +kernel) rfl hl.1 rfl (Nat.le_of_ble_eq_true rfl) dX12_dry_6 ⟨Nat.zero_le _, Nat.zero_le _⟩ (fun H locs hP hD hS => ?_)
  refine lv_if_ne (tgt := 15) hx hb dX12_dry_9 (by decide) (fun hc => ?_) (fun hc => ?_)
  · have h := k_neg hc h
    refine lv_iconst (v := 1) hx hb dX12_dry_15 (by decide) ?_
    refine lv_aload_n hx hb dX12_dry_16 rfl (lv_at hl 0 rfl) ?_
    refine va_get (D := (dC, dI)) (ci := 12) (v := .int t_junctions) (C := RX12) (T := TX12) (N := 44) hx hb hts hin12 hown hK hP 0 rfl rfl 0 (by decide) (hts (.fieldLink RX12 93 "TowedBackModel" "junctions" "I") (List.mem_of_getElem? (i := 3) rfl)) (fun _ h9 => h9) rfl dX12_dry_17 ?_
    refine lv_ishl hx hb dX12_dry_20 ?_
    refine lv_iconst (v := 1) hx hb dX12_dry_21 (by decide) ?_
    refine lv_isub hx hb dX12_dry_22 ?_
    refine lv_istore_n (lv' := [(2, .int ((1 <<< (t_junctions &&& 31)) - 1)), (0, .ref (a_t 0)), (1, .int y1)]) hx hb dX12_dry_23 rfl hl (by decide) rfl (fun ls hl => ?_)
    refine lv_iconst (v := 0) hx hb dX12_dry_24 (by decide) ?_
    refine lv_istore_n (lv' := [(3, .int 0), (2, .int ((1 <<< (t_junctions &&& 31)) - 1)), (0, .ref (a_t 0)), (1, .int y1)]) hx hb dX12_dry_25 rfl hl (by decide) rfl (fun ls hl => ?_)
    exact L26 FU y1 ((1 <<< (t_junctions &&& 31)) - 1) 0 i_t_at i_t_from i_t_pull _ _ _ hP hD hS (lv_sub hl [2, 3, 1, 0] rfl) h
  · have h := k_pos hc h
    refine lv_ldc (v := (-1000000002)) hx hb hown (hts (.constant RX12 105 (-1000000002)) (List.mem_of_getElem? (i := 2) rfl)) dX12_dry_12 ?_
    obtain ⟨rfl, rfl, rfl, rfl⟩ := k_in4 h
    exact k_ri hx hb hr hlocks hP hS dX12_dry_14
set_option maxHeartbeats 4000000 in
set_option maxRecDepth 100000 in
theorem c_Ref_towed (l : Launch) (dC : Nat → ClassId) (dI : Nat → Nat → Nat) (cI cZ : ClassId) (a_t : Nat → Nat) (t_junctions : Int32) (t_cuts : Int32) (t_cutOne : Nat → Int32) (t_cutOther : Nat → Int32) (t_cutHard : Nat → Int32) (t_hard : Nat → Int32) (t_boats : Int32) (t_wears : Nat → Int32) (t_quays : Nat → Int32) (t_now : Nat → Int32) (t_seed : Int32) (t_text : Nat → Int32) (t_texted : Int32) (t_faultPlace : Int32) (t_at0 : Int32) (t_number : Int32) (t_numberAt : Int32) (t_readJunctions : Int32) (t_readCuts : Int32) (t_readOne : Nat → Int32) (t_readOther : Nat → Int32) (t_readHard : Nat → Int32) (t_readBoats : Int32) (t_readAt : Nat → Int32) (t_readPull : Nat → Int32) (t_readWears : Nat → Int32) (t_at : Int32) (t_from : Int32) (t_pull : Int32) (t_undos : Int32) (t_past : Nat → Int32) (t_given : Nat → Int32) (t_bestGiven : Nat → Int32) (t_seen : Int32) (t_seenOf : Nat → Int32) (t_seenBehind : Nat → Int32) (t_seenAt : Nat → Int32) (t_way : Nat → Int32) (t_brings : Nat → Int32) (t_booked : Int32) (t_bookOf : Nat → Int32) (t_bookAt : Nat → Int32) (t_images : Nat → Int32) (t_isKept : Nat → Int32) (y1 : Int32) (r0 : Int32) (h : m_Ref_towed y1 t_boats t_now = some r0) : (MI l yX12_towed wsX12_towed ({ frames := 2, cells := 0, slots := 0, locals := 46 }) (dC, dI) [(cI, .int), (cZ, .boolean)] (wd_tRef cI cZ a_t t_junctions t_cuts t_cutOne t_cutOther t_cutHard t_hard t_boats t_wears t_quays t_now t_seed t_text t_texted t_faultPlace t_at0 t_number t_numberAt t_readJunctions t_readCuts t_readOne t_readOther t_readHard t_readBoats t_readAt t_readPull t_readWears t_at t_from t_pull t_undos t_past t_given t_bestGiven t_seen t_seenOf t_seenBehind t_seenAt t_way t_brings t_booked t_bookOf t_bookAt t_images t_isKept) (wd_tRef cI cZ a_t t_junctions t_cuts t_cutOne t_cutOther t_cutHard t_hard t_boats t_wears t_quays t_now t_seed t_text t_texted t_faultPlace t_at0 t_number t_numberAt t_readJunctions t_readCuts t_readOne t_readOther t_readHard t_readBoats t_readAt t_readPull t_readWears t_at t_from t_pull t_undos t_past t_given t_bestGiven t_seen t_seenOf t_seenBehind t_seenAt t_way t_brings t_booked t_bookOf t_bookAt t_images t_isKept) [.ref (a_t 0), .int y1] r0) := by
  intro sz
  refine Met.ofW (cc := cX12_towed) (maxL := 4) (ret := (some .int)) (by decide) rfl ?_
  intro p e s m args below meth c s₁ B hml hv
  obtain ⟨rfl, hsz, hP, hK, hD0⟩ := hv
  have hx := B.exec
  have hb := B.bytes
  have hr := B.returns
  have hts := atoms_spec (ws := wsX12_towed) B.pre
  have hown : s.vm.findClass RX12 = some m.cls := findClass_of_methodNamed B.named
  have hlocks := B.notSynchronized
  subst hsz
  have hD := hD0.self (sz := s.heap.size)
  have hA : ∀ q : Nat, s.heap.size ≤ q → va_A (wd_tRef cI cZ a_t t_junctions t_cuts t_cutOne t_cutOther t_cutHard t_hard t_boats t_wears t_quays t_now t_seed t_text t_texted t_faultPlace t_at0 t_number t_numberAt t_readJunctions t_readCuts t_readOne t_readOther t_readHard t_readBoats t_readAt t_readPull t_readWears t_at t_from t_pull t_undos t_past t_given t_bestGiven t_seen t_seenOf t_seenBehind t_seenAt t_way t_brings t_booked t_bookOf t_bookAt t_images t_isKept) s.heap.size q := fun q h => Or.inr h
  have hS : va_S (va_A (wd_tRef cI cZ a_t t_junctions t_cuts t_cutOne t_cutOther t_cutHard t_hard t_boats t_wears t_quays t_now t_seed t_text t_texted t_faultPlace t_at0 t_number t_numberAt t_readJunctions t_readCuts t_readOne t_readOther t_readHard t_readBoats t_readAt t_readPull t_readWears t_at t_from t_pull t_undos t_past t_given t_bestGiven t_seen t_seenOf t_seenBehind t_seenAt t_way t_brings t_booked t_bookOf t_bookAt t_images t_isKept) s.heap.size) s.heap s.heap [] := va_S.rf
  have hin12 : ∀ w ∈ u_ws RX12 TX12 44, w ∈ wsX12_towed := fun w h => List.mem_cons_of_mem _ (List.mem_append_right _ h)
  have hl := lv_entry ([.ref (a_t 0), .int y1]) (n := 4) (Nat.le_of_ble_eq_true rfl)
  rw [lg_entry_eq]
  generalize (lg_sl ([.ref (a_t 0), .int y1]) ++ List.replicate (4 - (lg_sl ([.ref (a_t 0), .int y1])).length) Slot.unset).toArray = ls at hl ⊢
  have hl : lv_has ls 4 [(0, .ref (a_t 0)), (1, .int y1)] := hl
  have J41 : ∀ (x1 : Int32) (x2 : Int32)  (H : Heap) (locs : List Loc) (ls : Array Slot), va_P (dC, dI) vwCl (wd_tRef cI cZ a_t t_junctions t_cuts t_cutOne t_cutOther t_cutHard t_hard t_boats t_wears t_quays t_now t_seed t_text t_texted t_faultPlace t_at0 t_number t_numberAt t_readJunctions t_readCuts t_readOne t_readOther t_readHard t_readBoats t_readAt t_readPull t_readWears t_at t_from t_pull t_undos t_past t_given t_bestGiven t_seen t_seenOf t_seenBehind t_seenAt t_way t_brings t_booked t_bookOf t_bookAt t_images t_isKept) H → va_D (va_A (wd_tRef cI cZ a_t t_junctions t_cuts t_cutOne t_cutOther t_cutHard t_hard t_boats t_wears t_quays t_now t_seed t_text t_texted t_faultPlace t_at0 t_number t_numberAt t_readJunctions t_readCuts t_readOne t_readOther t_readHard t_readBoats t_readAt t_readPull t_readWears t_at t_from t_pull t_undos t_past t_given t_bestGiven t_seen t_seenOf t_seenBehind t_seenAt t_way t_brings t_booked t_bookOf t_bookAt t_images t_isKept) s.heap.size) (wd_tRef cI cZ a_t t_junctions t_cuts t_cutOne t_cutOther t_cutHard t_hard t_boats t_wears t_quays t_now t_seed t_text t_texted t_faultPlace t_at0 t_number t_numberAt t_readJunctions t_readCuts t_readOne t_readOther t_readHard t_readBoats t_readAt t_readPull t_readWears t_at t_from t_pull t_undos t_past t_given t_bestGiven t_seen t_seenOf t_seenBehind t_seenAt t_way t_brings t_booked t_bookOf t_bookAt t_images t_isKept) → va_S (va_A (wd_tRef cI cZ a_t t_junctions t_cuts t_cutOne t_cutOther t_cutHard t_hard t_boats t_wears t_quays t_now t_seed t_text t_texted t_faultPlace t_at0 t_number t_numberAt t_readJunctions t_readCuts t_readOne t_readOther t_readHard t_readBoats t_readAt t_readPull t_readWears t_at t_from t_pull t_undos t_past t_given t_bestGiven t_seen t_seenOf t_seenBehind t_seenAt t_way t_brings t_booked t_bookOf t_bookAt t_images t_isKept) s.heap.size) s.heap H locs → lv_has ls 4 [(0, .ref (a_t 0)), (1, .int x1), (2, .int x2)] → m_Ref_towed_B41  x1 x2 t_boats t_now = some r0 → W p l e (headSpec wsX12_towed ({ frames := 2, cells := 0, slots := 0, locals := 46 })).room s m ([.ref (a_t 0), .int y1] : List Value).toArray below meth c H locs 0 0 (MQ below (cQi (dC, dI) (wd_tRef cI cZ a_t t_junctions t_cuts t_cutOne t_cutOther t_cutHard t_hard t_boats t_wears t_quays t_now t_seed t_text t_texted t_faultPlace t_at0 t_number t_numberAt t_readJunctions t_readCuts t_readOne t_readOther t_readHard t_readBoats t_readAt t_readPull t_readWears t_at t_from t_pull t_undos t_past t_given t_bestGiven t_seen t_seenOf t_seenBehind t_seenAt t_way t_brings t_booked t_bookOf t_bookAt t_images t_isKept) (wd_tRef cI cZ a_t t_junctions t_cuts t_cutOne t_cutOther t_cutHard t_hard t_boats t_wears t_quays t_now t_seed t_text t_texted t_faultPlace t_at0 t_number t_numberAt t_readJunctions t_readCuts t_readOne t_readOther t_readHard t_readBoats t_readAt t_readPull t_readWears t_at t_from t_pull t_undos t_past t_given t_bestGiven t_seen t_seenOf t_seenBehind t_seenAt t_way t_brings t_booked t_bookOf t_bookAt t_images t_isKept) s.heap.size r0) ([.ref (a_t 0), .int y1] : List Value).toArray s 0 0 (va_A (wd_tRef cI cZ a_t t_junctions t_cuts t_cutOne t_cutOther t_cutHard t_hard t_boats t_wears t_quays t_now t_seed t_text t_texted t_faultPlace t_at0 t_number t_numberAt t_readJunctions t_readCuts t_readOne t_readOther t_readHard t_readBoats t_readAt t_readPull t_readWears t_at t_from t_pull t_undos t_past t_given t_bestGiven t_seen t_seenOf t_seenBehind t_seenAt t_way t_brings t_booked t_bookOf t_bookAt t_images t_isKept) s.heap.size)) (F0 m 41 ls []) := by
    intro x1 x2 H locs ls hP hD hS hl h
    unfold m_Ref_towed_B41 at h
    refine lv_iload_n hx hb dX12_towed_41 rfl (lv_at hl 2 rfl) ?_
    refine lv_if_ne (tgt := 49) hx hb dX12_towed_42 (by decide) (fun hc => ?_) (fun hc => ?_)
    · have h := k_neg hc h
      refine lv_aload_n hx hb dX12_towed_49 rfl (lv_at hl 0 rfl) ?_
      refine va_get (D := (dC, dI)) (ci := 12) (v := .ref (a_t 7)) (C := RX12) (T := TX12) (N := 44) hx hb hts hin12 hown hK hP 0 rfl rfl 9 (by decide) (hts (.fieldLink RX12 28 "TowedBackModel" "now" "[I") (List.mem_of_getElem? (i := 3) rfl)) (fun _ h9 => h9) rfl dX12_towed_50 ?_
      refine lv_bipush (v := 10) hx hb dX12_towed_53 (by decide) ?_
      refine lv_iload_n hx hb dX12_towed_55 rfl (lv_at hl 1 rfl) ?_
      refine lv_iadd hx hb dX12_towed_56 ?_
      obtain ⟨hi1, h⟩ := kg_some h
      refine va_iald hx hb hK hP 7 0 rfl rfl hi1 dX12_towed_57 ?_
      refine lv_sipush (v := 1000) hx hb dX12_towed_58 (by decide) ?_
      refine lv_imul hx hb dX12_towed_61 ?_
      refine lv_iload_n hx hb dX12_towed_62 rfl (lv_at hl 2 rfl) ?_
      obtain ⟨hz2, h⟩ := kz_some h
      refine lv_idiv hx hb dX12_towed_63 hz2 ?_
      obtain rfl := k_in1 h
      exact k_ri hx hb hr hlocks hP hS dX12_towed_64
    · have h := k_pos hc h
      refine lv_iconst (v := 0) hx hb dX12_towed_45 (by decide) ?_
      refine lv_goto (tgt := 64) hx hb dX12_towed_46 (by decide) ?_
      obtain rfl := k_in1 h
      exact k_ri hx hb hr hlocks hP hS dX12_towed_64
  have L15 : ∀ (n15 : Nat) (x1 : Int32) (x2 : Int32) (x3 : Int32)  (H : Heap) (locs : List Loc) (ls : Array Slot), va_P (dC, dI) vwCl (wd_tRef cI cZ a_t t_junctions t_cuts t_cutOne t_cutOther t_cutHard t_hard t_boats t_wears t_quays t_now t_seed t_text t_texted t_faultPlace t_at0 t_number t_numberAt t_readJunctions t_readCuts t_readOne t_readOther t_readHard t_readBoats t_readAt t_readPull t_readWears t_at t_from t_pull t_undos t_past t_given t_bestGiven t_seen t_seenOf t_seenBehind t_seenAt t_way t_brings t_booked t_bookOf t_bookAt t_images t_isKept) H → va_D (va_A (wd_tRef cI cZ a_t t_junctions t_cuts t_cutOne t_cutOther t_cutHard t_hard t_boats t_wears t_quays t_now t_seed t_text t_texted t_faultPlace t_at0 t_number t_numberAt t_readJunctions t_readCuts t_readOne t_readOther t_readHard t_readBoats t_readAt t_readPull t_readWears t_at t_from t_pull t_undos t_past t_given t_bestGiven t_seen t_seenOf t_seenBehind t_seenAt t_way t_brings t_booked t_bookOf t_bookAt t_images t_isKept) s.heap.size) (wd_tRef cI cZ a_t t_junctions t_cuts t_cutOne t_cutOther t_cutHard t_hard t_boats t_wears t_quays t_now t_seed t_text t_texted t_faultPlace t_at0 t_number t_numberAt t_readJunctions t_readCuts t_readOne t_readOther t_readHard t_readBoats t_readAt t_readPull t_readWears t_at t_from t_pull t_undos t_past t_given t_bestGiven t_seen t_seenOf t_seenBehind t_seenAt t_way t_brings t_booked t_bookOf t_bookAt t_images t_isKept) → va_S (va_A (wd_tRef cI cZ a_t t_junctions t_cuts t_cutOne t_cutOther t_cutHard t_hard t_boats t_wears t_quays t_now t_seed t_text t_texted t_faultPlace t_at0 t_number t_numberAt t_readJunctions t_readCuts t_readOne t_readOther t_readHard t_readBoats t_readAt t_readPull t_readWears t_at t_from t_pull t_undos t_past t_given t_bestGiven t_seen t_seenOf t_seenBehind t_seenAt t_way t_brings t_booked t_bookOf t_bookAt t_images t_isKept) s.heap.size) s.heap H locs → lv_has ls 4 [(0, .ref (a_t 0)), (1, .int x1), (2, .int x2), (3, .int x3)] → m_Ref_towed_L15  n15 x1 x2 x3 t_boats t_now = some r0 → W p l e (headSpec wsX12_towed ({ frames := 2, cells := 0, slots := 0, locals := 46 })).room s m ([.ref (a_t 0), .int y1] : List Value).toArray below meth c H locs 0 0 (MQ below (cQi (dC, dI) (wd_tRef cI cZ a_t t_junctions t_cuts t_cutOne t_cutOther t_cutHard t_hard t_boats t_wears t_quays t_now t_seed t_text t_texted t_faultPlace t_at0 t_number t_numberAt t_readJunctions t_readCuts t_readOne t_readOther t_readHard t_readBoats t_readAt t_readPull t_readWears t_at t_from t_pull t_undos t_past t_given t_bestGiven t_seen t_seenOf t_seenBehind t_seenAt t_way t_brings t_booked t_bookOf t_bookAt t_images t_isKept) (wd_tRef cI cZ a_t t_junctions t_cuts t_cutOne t_cutOther t_cutHard t_hard t_boats t_wears t_quays t_now t_seed t_text t_texted t_faultPlace t_at0 t_number t_numberAt t_readJunctions t_readCuts t_readOne t_readOther t_readHard t_readBoats t_readAt t_readPull t_readWears t_at t_from t_pull t_undos t_past t_given t_bestGiven t_seen t_seenOf t_seenBehind t_seenAt t_way t_brings t_booked t_bookOf t_bookAt t_images t_isKept) s.heap.size r0) ([.ref (a_t 0), .int y1] : List Value).toArray s 0 0 (va_A (wd_tRef cI cZ a_t t_junctions t_cuts t_cutOne t_cutOther t_cutHard t_hard t_boats t_wears t_quays t_now t_seed t_text t_texted t_faultPlace t_at0 t_number t_numberAt t_readJunctions t_readCuts t_readOne t_readOther t_readHard t_readBoats t_readAt t_readPull t_readWears t_at t_from t_pull t_undos t_past t_given t_bestGiven t_seen t_seenOf t_seenBehind t_seenAt t_way t_brings t_booked t_bookOf t_bookAt t_images t_isKept) s.heap.size)) (F0 m 15 ls []) := by
    intro n15
    induction n15 with
    | zero => intro x1 x2 x3 H locs ls hP hD hS hl h; have h : none = some r0 := h; cases h
    | succ n15 ih15 =>
      intro x1 x2 x3 H locs ls hP hD hS hl h
      have h : m_Ref_towed_B15  (m_Ref_towed_L15  n15) x1 x2 x3 t_boats t_now = some r0 := h
      unfold m_Ref_towed_B15 at h
      refine lv_iload_n hx hb dX12_towed_15 rfl (lv_at hl 3 rfl) ?_
      refine lv_aload_n hx hb dX12_towed_16 rfl (lv_at hl 0 rfl) ?_
      refine va_get (D := (dC, dI)) (ci := 12) (v := .int t_boats) (C := RX12) (T := TX12) (N := 44) hx hb hts hin12 hown hK hP 0 rfl rfl 6 (by decide) (hts (.fieldLink RX12 100 "TowedBackModel" "boats" "I") (List.mem_of_getElem? (i := 2) rfl)) (fun _ h9 => h9) rfl dX12_towed_17 ?_
      refine lv_icmp_ge (tgt := 41) hx hb dX12_towed_20 (by decide) (fun hc => ?_) (fun hc => ?_)
      · have h := k_pos hc h
        exact J41 x1 x2 _ _ _ hP hD hS (lv_sub hl [0, 1, 2] rfl) h
      · have h := k_neg hc h
        refine lv_iload_n hx hb dX12_towed_23 rfl (lv_at hl 2 rfl) ?_
        refine lv_aload_n hx hb dX12_towed_24 rfl (lv_at hl 0 rfl) ?_
        refine va_get (D := (dC, dI)) (ci := 12) (v := .ref (a_t 7)) (C := RX12) (T := TX12) (N := 44) hx hb hts hin12 hown hK hP 0 rfl rfl 9 (by decide) (hts (.fieldLink RX12 28 "TowedBackModel" "now" "[I") (List.mem_of_getElem? (i := 3) rfl)) (fun _ h9 => h9) rfl dX12_towed_25 ?_
        refine lv_bipush (v := 10) hx hb dX12_towed_28 (by decide) ?_
        refine lv_iload_n hx hb dX12_towed_30 rfl (lv_at hl 3 rfl) ?_
        refine lv_iadd hx hb dX12_towed_31 ?_
        obtain ⟨hi3, h⟩ := kg_some h
        refine va_iald hx hb hK hP 7 0 rfl rfl hi3 dX12_towed_32 ?_
        refine lv_iadd hx hb dX12_towed_33 ?_
        refine lv_istore_n (lv' := [(2, .int (x2 + (t_now (10 + x3).toNatClampNeg))), (0, .ref (a_t 0)), (1, .int x1), (3, .int x3)]) hx hb dX12_towed_34 rfl hl (by decide) rfl (fun ls hl => ?_)
        refine lv_iinc (v := (x3 + 1)) (lv' := [(3, .int (x3 + 1)), (2, .int (x2 + (t_now (10 + x3).toNatClampNeg))), (0, .ref (a_t 0)), (1, .int x1)]) hx hb dX12_towed_35 hl (k := 3) rfl rfl (by decide) rfl (fun ls hl => ?_)
        refine lv_goto (tgt := 15) hx hb dX12_towed_38 (by decide) ?_
        exact ih15 x1 (x2 + (t_now (10 + x3).toNatClampNeg)) (x3 + 1) _ _ _ hP hD hS (lv_sub hl [2, 3, 1, 0] rfl) h
  unfold m_Ref_towed at h
  refine lv_aload_n hx hb dX12_towed_0 rfl (lv_at hl 0 rfl) ?_
  refine lv_iload_n hx hb dX12_towed_1 rfl (lv_at hl 1 rfl) ?_
  obtain ⟨r4, hc4, h⟩ := kb1_some h
  refine k_FVi (rest := []) (As := [.int y1]) ⟨hx, hb, hml, hown, hts⟩ (c_Ref_isBoat l dC dI cI cZ a_t t_junctions t_cuts t_cutOne t_cutOther t_cutHard t_hard t_boats t_wears t_quays t_now t_seed t_text t_texted t_faultPlace t_at0 t_number t_numberAt t_readJunctions t_readCuts t_readOne t_readOther t_readHard t_readBoats t_readAt t_readPull t_readWears t_at t_from t_pull t_undos t_past t_given t_bestGiven t_seen t_seenOf t_seenBehind t_seenAt t_way t_brings t_booked t_bookOf t_bookAt t_images t_isKept y1 r4 hc4) (cwV 1 hts gX12_towed_X12_isBoat rfl rfl rfl hd_12_isBoat ⟨Nat.le_of_ble_eq_true rfl, Nat.le_of_ble_eq_true rfl⟩) hK hP hD hS hA 0 12 rfl rfl rfl (wd_tRef_f.trans wd_tRef_f.symm) rfl hl.1 rfl (Nat.le_of_ble_eq_true rfl) dX12_towed_2 ⟨Nat.zero_le _, Nat.zero_le _⟩ (fun H locs hP hD hS => ?_)
  refine lv_if_ne (tgt := 11) hx hb dX12_towed_5 (by decide) (fun hc => ?_) (fun hc => ?_)
  · have h := k_neg hc h
    refine lv_iconst (v := 0) hx hb dX12_towed_11 (by decide) ?_
    refine lv_istore_n (lv' := [(2, .int 0), (0, .ref (a_t 0)), (1, .int y1)]) hx hb dX12_towed_12 rfl hl (by decide) rfl (fun ls hl => ?_)
    refine lv_iconst (v := 0) hx hb dX12_towed_13 (by decide) ?_
    refine lv_istore_n (lv' := [(3, .int 0), (2, .int 0), (0, .ref (a_t 0)), (1, .int y1)]) hx hb dX12_towed_14 rfl hl (by decide) rfl (fun ls hl => ?_)
    exact L15 FU y1 0 0 _ _ _ hP hD hS (lv_sub hl [2, 3, 1, 0] rfl) h
  · have h := k_pos hc h
    refine lv_ldc (v := (-1000000001)) hx hb hown (hts (.constant RX12 200 (-1000000001)) (List.mem_of_getElem? (i := 1) rfl)) dX12_towed_8 ?_
    obtain rfl := k_in1 h
    exact k_ri hx hb hr hlocks hP hS dX12_towed_10
set_option maxHeartbeats 4000000 in
set_option maxRecDepth 100000 in
theorem c_Ref_mercy (l : Launch) (dC : Nat → ClassId) (dI : Nat → Nat → Nat) (cI cZ : ClassId) (a_t : Nat → Nat) (t_junctions : Int32) (t_cuts : Int32) (t_cutOne : Nat → Int32) (t_cutOther : Nat → Int32) (t_cutHard : Nat → Int32) (t_hard : Nat → Int32) (t_boats : Int32) (t_wears : Nat → Int32) (t_quays : Nat → Int32) (t_now : Nat → Int32) (t_seed : Int32) (t_text : Nat → Int32) (t_texted : Int32) (t_faultPlace : Int32) (t_at0 : Int32) (t_number : Int32) (t_numberAt : Int32) (t_readJunctions : Int32) (t_readCuts : Int32) (t_readOne : Nat → Int32) (t_readOther : Nat → Int32) (t_readHard : Nat → Int32) (t_readBoats : Int32) (t_readAt : Nat → Int32) (t_readPull : Nat → Int32) (t_readWears : Nat → Int32) (t_at : Int32) (t_from : Int32) (t_pull : Int32) (t_undos : Int32) (t_past : Nat → Int32) (t_given : Nat → Int32) (t_bestGiven : Nat → Int32) (t_seen : Int32) (t_seenOf : Nat → Int32) (t_seenBehind : Nat → Int32) (t_seenAt : Nat → Int32) (t_way : Nat → Int32) (t_brings : Nat → Int32) (t_booked : Int32) (t_bookOf : Nat → Int32) (t_bookAt : Nat → Int32) (t_images : Nat → Int32) (t_isKept : Nat → Int32) (y1 : Int32) (y2 : Int32) (r0 : Int32) (h : m_Ref_mercy y1 y2 = some r0) : (MI l yX12_mercy wsX12_mercy ({ frames := 1, cells := 0, slots := 0, locals := 25 }) (dC, dI) [(cI, .int), (cZ, .boolean)] (wd_tRef cI cZ a_t t_junctions t_cuts t_cutOne t_cutOther t_cutHard t_hard t_boats t_wears t_quays t_now t_seed t_text t_texted t_faultPlace t_at0 t_number t_numberAt t_readJunctions t_readCuts t_readOne t_readOther t_readHard t_readBoats t_readAt t_readPull t_readWears t_at t_from t_pull t_undos t_past t_given t_bestGiven t_seen t_seenOf t_seenBehind t_seenAt t_way t_brings t_booked t_bookOf t_bookAt t_images t_isKept) (wd_tRef cI cZ a_t t_junctions t_cuts t_cutOne t_cutOther t_cutHard t_hard t_boats t_wears t_quays t_now t_seed t_text t_texted t_faultPlace t_at0 t_number t_numberAt t_readJunctions t_readCuts t_readOne t_readOther t_readHard t_readBoats t_readAt t_readPull t_readWears t_at t_from t_pull t_undos t_past t_given t_bestGiven t_seen t_seenOf t_seenBehind t_seenAt t_way t_brings t_booked t_bookOf t_bookAt t_images t_isKept) [.ref (a_t 0), .int y1, .int y2] r0) := by
  intro sz
  refine Met.ofW (cc := cX12_mercy) (maxL := 6) (ret := (some .int)) (by decide) rfl ?_
  intro p e s m args below meth c s₁ B hml hv
  obtain ⟨rfl, hsz, hP, hK, hD0⟩ := hv
  have hx := B.exec
  have hb := B.bytes
  have hr := B.returns
  have hts := atoms_spec (ws := wsX12_mercy) B.pre
  have hown : s.vm.findClass RX12 = some m.cls := findClass_of_methodNamed B.named
  have hlocks := B.notSynchronized
  subst hsz
  have hD := hD0.self (sz := s.heap.size)
  have hA : ∀ q : Nat, s.heap.size ≤ q → va_A (wd_tRef cI cZ a_t t_junctions t_cuts t_cutOne t_cutOther t_cutHard t_hard t_boats t_wears t_quays t_now t_seed t_text t_texted t_faultPlace t_at0 t_number t_numberAt t_readJunctions t_readCuts t_readOne t_readOther t_readHard t_readBoats t_readAt t_readPull t_readWears t_at t_from t_pull t_undos t_past t_given t_bestGiven t_seen t_seenOf t_seenBehind t_seenAt t_way t_brings t_booked t_bookOf t_bookAt t_images t_isKept) s.heap.size q := fun q h => Or.inr h
  have hS : va_S (va_A (wd_tRef cI cZ a_t t_junctions t_cuts t_cutOne t_cutOther t_cutHard t_hard t_boats t_wears t_quays t_now t_seed t_text t_texted t_faultPlace t_at0 t_number t_numberAt t_readJunctions t_readCuts t_readOne t_readOther t_readHard t_readBoats t_readAt t_readPull t_readWears t_at t_from t_pull t_undos t_past t_given t_bestGiven t_seen t_seenOf t_seenBehind t_seenAt t_way t_brings t_booked t_bookOf t_bookAt t_images t_isKept) s.heap.size) s.heap s.heap [] := va_S.rf
  have hl := lv_entry ([.ref (a_t 0), .int y1, .int y2]) (n := 6) (Nat.le_of_ble_eq_true rfl)
  rw [lg_entry_eq]
  generalize (lg_sl ([.ref (a_t 0), .int y1, .int y2]) ++ List.replicate (6 - (lg_sl ([.ref (a_t 0), .int y1, .int y2])).length) Slot.unset).toArray = ls at hl ⊢
  have hl : lv_has ls 6 [(0, .ref (a_t 0)), (1, .int y1), (2, .int y2)] := hl
  have J58 : ∀ (x3 : Int64)  (H : Heap) (locs : List Loc) (ls : Array Slot), va_P (dC, dI) vwCl (wd_tRef cI cZ a_t t_junctions t_cuts t_cutOne t_cutOther t_cutHard t_hard t_boats t_wears t_quays t_now t_seed t_text t_texted t_faultPlace t_at0 t_number t_numberAt t_readJunctions t_readCuts t_readOne t_readOther t_readHard t_readBoats t_readAt t_readPull t_readWears t_at t_from t_pull t_undos t_past t_given t_bestGiven t_seen t_seenOf t_seenBehind t_seenAt t_way t_brings t_booked t_bookOf t_bookAt t_images t_isKept) H → va_D (va_A (wd_tRef cI cZ a_t t_junctions t_cuts t_cutOne t_cutOther t_cutHard t_hard t_boats t_wears t_quays t_now t_seed t_text t_texted t_faultPlace t_at0 t_number t_numberAt t_readJunctions t_readCuts t_readOne t_readOther t_readHard t_readBoats t_readAt t_readPull t_readWears t_at t_from t_pull t_undos t_past t_given t_bestGiven t_seen t_seenOf t_seenBehind t_seenAt t_way t_brings t_booked t_bookOf t_bookAt t_images t_isKept) s.heap.size) (wd_tRef cI cZ a_t t_junctions t_cuts t_cutOne t_cutOther t_cutHard t_hard t_boats t_wears t_quays t_now t_seed t_text t_texted t_faultPlace t_at0 t_number t_numberAt t_readJunctions t_readCuts t_readOne t_readOther t_readHard t_readBoats t_readAt t_readPull t_readWears t_at t_from t_pull t_undos t_past t_given t_bestGiven t_seen t_seenOf t_seenBehind t_seenAt t_way t_brings t_booked t_bookOf t_bookAt t_images t_isKept) → va_S (va_A (wd_tRef cI cZ a_t t_junctions t_cuts t_cutOne t_cutOther t_cutHard t_hard t_boats t_wears t_quays t_now t_seed t_text t_texted t_faultPlace t_at0 t_number t_numberAt t_readJunctions t_readCuts t_readOne t_readOther t_readHard t_readBoats t_readAt t_readPull t_readWears t_at t_from t_pull t_undos t_past t_given t_bestGiven t_seen t_seenOf t_seenBehind t_seenAt t_way t_brings t_booked t_bookOf t_bookAt t_images t_isKept) s.heap.size) s.heap H locs → lv_has ls 6 [(3, .long x3)] → m_Ref_mercy_B58  x3 = some r0 → W p l e (headSpec wsX12_mercy ({ frames := 1, cells := 0, slots := 0, locals := 25 })).room s m ([.ref (a_t 0), .int y1, .int y2] : List Value).toArray below meth c H locs 0 0 (MQ below (cQi (dC, dI) (wd_tRef cI cZ a_t t_junctions t_cuts t_cutOne t_cutOther t_cutHard t_hard t_boats t_wears t_quays t_now t_seed t_text t_texted t_faultPlace t_at0 t_number t_numberAt t_readJunctions t_readCuts t_readOne t_readOther t_readHard t_readBoats t_readAt t_readPull t_readWears t_at t_from t_pull t_undos t_past t_given t_bestGiven t_seen t_seenOf t_seenBehind t_seenAt t_way t_brings t_booked t_bookOf t_bookAt t_images t_isKept) (wd_tRef cI cZ a_t t_junctions t_cuts t_cutOne t_cutOther t_cutHard t_hard t_boats t_wears t_quays t_now t_seed t_text t_texted t_faultPlace t_at0 t_number t_numberAt t_readJunctions t_readCuts t_readOne t_readOther t_readHard t_readBoats t_readAt t_readPull t_readWears t_at t_from t_pull t_undos t_past t_given t_bestGiven t_seen t_seenOf t_seenBehind t_seenAt t_way t_brings t_booked t_bookOf t_bookAt t_images t_isKept) s.heap.size r0) ([.ref (a_t 0), .int y1, .int y2] : List Value).toArray s 0 0 (va_A (wd_tRef cI cZ a_t t_junctions t_cuts t_cutOne t_cutOther t_cutHard t_hard t_boats t_wears t_quays t_now t_seed t_text t_texted t_faultPlace t_at0 t_number t_numberAt t_readJunctions t_readCuts t_readOne t_readOther t_readHard t_readBoats t_readAt t_readPull t_readWears t_at t_from t_pull t_undos t_past t_given t_bestGiven t_seen t_seenOf t_seenBehind t_seenAt t_way t_brings t_booked t_bookOf t_bookAt t_images t_isKept) s.heap.size)) (F0 m 58 ls []) := by
    intro x3 H locs ls hP hD hS hl h
    unfold m_Ref_mercy_B58 at h
    refine lv_lload_n hx hb dX12_mercy_58 rfl (lv_at hl 0 rfl) ?_
    refine lv_l2i (v := x3.toInt32) hx hb dX12_mercy_59 rfl ?_
    obtain rfl := k_in1 h
    exact k_ri hx hb hr hlocks hP hS dX12_mercy_60
  have L34 : ∀ (n34 : Nat) (x1 : Int32) (x2 : Int32) (x3 : Int64) (x5 : Int32)  (H : Heap) (locs : List Loc) (ls : Array Slot), va_P (dC, dI) vwCl (wd_tRef cI cZ a_t t_junctions t_cuts t_cutOne t_cutOther t_cutHard t_hard t_boats t_wears t_quays t_now t_seed t_text t_texted t_faultPlace t_at0 t_number t_numberAt t_readJunctions t_readCuts t_readOne t_readOther t_readHard t_readBoats t_readAt t_readPull t_readWears t_at t_from t_pull t_undos t_past t_given t_bestGiven t_seen t_seenOf t_seenBehind t_seenAt t_way t_brings t_booked t_bookOf t_bookAt t_images t_isKept) H → va_D (va_A (wd_tRef cI cZ a_t t_junctions t_cuts t_cutOne t_cutOther t_cutHard t_hard t_boats t_wears t_quays t_now t_seed t_text t_texted t_faultPlace t_at0 t_number t_numberAt t_readJunctions t_readCuts t_readOne t_readOther t_readHard t_readBoats t_readAt t_readPull t_readWears t_at t_from t_pull t_undos t_past t_given t_bestGiven t_seen t_seenOf t_seenBehind t_seenAt t_way t_brings t_booked t_bookOf t_bookAt t_images t_isKept) s.heap.size) (wd_tRef cI cZ a_t t_junctions t_cuts t_cutOne t_cutOther t_cutHard t_hard t_boats t_wears t_quays t_now t_seed t_text t_texted t_faultPlace t_at0 t_number t_numberAt t_readJunctions t_readCuts t_readOne t_readOther t_readHard t_readBoats t_readAt t_readPull t_readWears t_at t_from t_pull t_undos t_past t_given t_bestGiven t_seen t_seenOf t_seenBehind t_seenAt t_way t_brings t_booked t_bookOf t_bookAt t_images t_isKept) → va_S (va_A (wd_tRef cI cZ a_t t_junctions t_cuts t_cutOne t_cutOther t_cutHard t_hard t_boats t_wears t_quays t_now t_seed t_text t_texted t_faultPlace t_at0 t_number t_numberAt t_readJunctions t_readCuts t_readOne t_readOther t_readHard t_readBoats t_readAt t_readPull t_readWears t_at t_from t_pull t_undos t_past t_given t_bestGiven t_seen t_seenOf t_seenBehind t_seenAt t_way t_brings t_booked t_bookOf t_bookAt t_images t_isKept) s.heap.size) s.heap H locs → lv_has ls 6 [(1, .int x1), (2, .int x2), (3, .long x3), (5, .int x5)] → m_Ref_mercy_L34  n34 x1 x2 x3 x5 = some r0 → W p l e (headSpec wsX12_mercy ({ frames := 1, cells := 0, slots := 0, locals := 25 })).room s m ([.ref (a_t 0), .int y1, .int y2] : List Value).toArray below meth c H locs 0 0 (MQ below (cQi (dC, dI) (wd_tRef cI cZ a_t t_junctions t_cuts t_cutOne t_cutOther t_cutHard t_hard t_boats t_wears t_quays t_now t_seed t_text t_texted t_faultPlace t_at0 t_number t_numberAt t_readJunctions t_readCuts t_readOne t_readOther t_readHard t_readBoats t_readAt t_readPull t_readWears t_at t_from t_pull t_undos t_past t_given t_bestGiven t_seen t_seenOf t_seenBehind t_seenAt t_way t_brings t_booked t_bookOf t_bookAt t_images t_isKept) (wd_tRef cI cZ a_t t_junctions t_cuts t_cutOne t_cutOther t_cutHard t_hard t_boats t_wears t_quays t_now t_seed t_text t_texted t_faultPlace t_at0 t_number t_numberAt t_readJunctions t_readCuts t_readOne t_readOther t_readHard t_readBoats t_readAt t_readPull t_readWears t_at t_from t_pull t_undos t_past t_given t_bestGiven t_seen t_seenOf t_seenBehind t_seenAt t_way t_brings t_booked t_bookOf t_bookAt t_images t_isKept) s.heap.size r0) ([.ref (a_t 0), .int y1, .int y2] : List Value).toArray s 0 0 (va_A (wd_tRef cI cZ a_t t_junctions t_cuts t_cutOne t_cutOther t_cutHard t_hard t_boats t_wears t_quays t_now t_seed t_text t_texted t_faultPlace t_at0 t_number t_numberAt t_readJunctions t_readCuts t_readOne t_readOther t_readHard t_readBoats t_readAt t_readPull t_readWears t_at t_from t_pull t_undos t_past t_given t_bestGiven t_seen t_seenOf t_seenBehind t_seenAt t_way t_brings t_booked t_bookOf t_bookAt t_images t_isKept) s.heap.size)) (F0 m 34 ls []) := by
    intro n34
    induction n34 with
    | zero => intro x1 x2 x3 x5 H locs ls hP hD hS hl h; have h : none = some r0 := h; cases h
    | succ n34 ih34 =>
      intro x1 x2 x3 x5 H locs ls hP hD hS hl h
      have h : m_Ref_mercy_B34  (m_Ref_mercy_L34  n34) x1 x2 x3 x5 = some r0 := h
      unfold m_Ref_mercy_B34 at h
      refine lv_iload hx hb dX12_mercy_34 (lv_at hl 3 rfl) ?_
      refine lv_iload_n hx hb dX12_mercy_36 rfl (lv_at hl 0 rfl) ?_
      refine lv_icmp_ge (tgt := 58) hx hb dX12_mercy_37 (by decide) (fun hc => ?_) (fun hc => ?_)
      · have h := k_pos hc h
        exact J58 x3 _ _ _ hP hD hS (lv_sub hl [2] rfl) h
      · have h := k_neg hc h
        refine lv_lload_n hx hb dX12_mercy_40 rfl (lv_at hl 2 rfl) ?_
        refine lv_bipush (v := 100) hx hb dX12_mercy_41 (by decide) ?_
        refine lv_iload_n hx hb dX12_mercy_43 rfl (lv_at hl 1 rfl) ?_
        refine lv_isub hx hb dX12_mercy_44 ?_
        refine lv_i2l (v := (100 - x2).toInt64) hx hb dX12_mercy_45 rfl ?_
        refine lv_lmul hx hb dX12_mercy_46 ?_
        refine lv_ldc2 (v := 100) hx hb hown (hts (.constantLong RX12 267 (100)) (List.mem_of_getElem? (i := 2) rfl)) dX12_mercy_47 ?_
        obtain ⟨hz1, h⟩ := kzl_some h
        refine lv_ldiv hx hb dX12_mercy_50 hz1 ?_
        refine lv_lstore_n (lv' := [(3, .long ((x3 * ((100 - x2).toInt64)) / 100)), (1, .int x1), (2, .int x2), (5, .int x5)]) hx hb dX12_mercy_51 rfl hl (by decide) rfl (fun ls hl => ?_)
        refine lv_iinc (v := (x5 + 1)) (lv' := [(5, .int (x5 + 1)), (3, .long ((x3 * ((100 - x2).toInt64)) / 100)), (1, .int x1), (2, .int x2)]) hx hb dX12_mercy_52 hl (k := 3) rfl rfl (by decide) rfl (fun ls hl => ?_)
        refine lv_goto (tgt := 34) hx hb dX12_mercy_55 (by decide) ?_
        exact ih34 x1 x2 ((x3 * ((100 - x2).toInt64)) / 100) (x5 + 1) _ _ _ hP hD hS (lv_sub hl [2, 3, 1, 0] rfl) h
  unfold m_Ref_mercy at h
  refine lv_iload_n hx hb dX12_mercy_0 rfl (lv_at hl 1 rfl) ?_
  refine lv_i2l (v := y1.toInt64) hx hb dX12_mercy_1 rfl ?_
  refine lv_lconst (v := 0) hx hb dX12_mercy_2 (by decide) ?_
  refine lv_ldc2 (v := 60) hx hb hown (hts (.constantLong RX12 207 (60)) (List.mem_of_getElem? (i := 1) rfl)) dX12_mercy_3 ?_
  obtain ⟨r2, hc2, h⟩ := kb1_some h
  refine k_RSi (rest := []) (As := [.long (y1.toInt64), .long 0, .long 60]) ⟨hx, hb, hml, hown, hts⟩ (c_Ref_in l dC dI cI cZ (y1.toInt64) 0 60 r2 hc2) (va_cwS 3 hts gX12_mercy_X12_in rfl rfl rfl hd_12_in ⟨Nat.le_of_ble_eq_true rfl, Nat.le_of_ble_eq_true rfl⟩) hK hP hD hS hA [] rfl (by decide +kernel) rfl hl.1 rfl (Nat.le_of_ble_eq_true rfl) dX12_mercy_6 ⟨Nat.zero_le _, Nat.zero_le _⟩ (fun H locs hP hD hS => ?_)
  refine lv_if_eq (tgt := 24) hx hb dX12_mercy_9 (by decide) (fun hc => ?_) (fun hc => ?_)
  · have h := k_pos hc h
    refine lv_ldc (v := (-1000000002)) hx hb hown (hts (.constant RX12 105 (-1000000002)) (List.mem_of_getElem? (i := 3) rfl)) dX12_mercy_24 ?_
    obtain rfl := k_in1 h
    exact k_ri hx hb hr hlocks hP hS dX12_mercy_26
  · have h := k_neg hc h
    refine lv_iload_n hx hb dX12_mercy_12 rfl (lv_at hl 2 rfl) ?_
    refine lv_i2l (v := y2.toInt64) hx hb dX12_mercy_13 rfl ?_
    refine lv_lconst (v := 0) hx hb dX12_mercy_14 (by decide) ?_
    refine lv_ldc2 (v := 100) hx hb hown (hts (.constantLong RX12 267 (100)) (List.mem_of_getElem? (i := 2) rfl)) dX12_mercy_15 ?_
    obtain ⟨r3, hc3, h⟩ := kb1_some h
    refine k_RSi (rest := []) (As := [.long (y2.toInt64), .long 0, .long 100]) ⟨hx, hb, hml, hown, hts⟩ (c_Ref_in l dC dI cI cZ (y2.toInt64) 0 100 r3 hc3) (va_cwS 3 hts gX12_mercy_X12_in rfl rfl rfl hd_12_in ⟨Nat.le_of_ble_eq_true rfl, Nat.le_of_ble_eq_true rfl⟩) hK hP hD hS hA [] rfl (by decide +kernel) rfl hl.1 rfl (Nat.le_of_ble_eq_true rfl) dX12_mercy_18 ⟨Nat.zero_le _, Nat.zero_le _⟩ (fun H locs hP hD hS => ?_)
    refine lv_if_ne (tgt := 27) hx hb dX12_mercy_21 (by decide) (fun hc => ?_) (fun hc => ?_)
    · have h := k_neg hc h
      refine lv_ldc2 (v := 1000000000) hx hb hown (hts (.constantLong RX12 269 (1000000000)) (List.mem_of_getElem? (i := 4) rfl)) dX12_mercy_27 ?_
      refine lv_lstore_n (lv' := [(3, .long 1000000000), (0, .ref (a_t 0)), (1, .int y1), (2, .int y2)]) hx hb dX12_mercy_30 rfl hl (by decide) rfl (fun ls hl => ?_)
      refine lv_iconst (v := 0) hx hb dX12_mercy_31 (by decide) ?_
      refine lv_istore (lv' := [(5, .int 0), (3, .long 1000000000), (0, .ref (a_t 0)), (1, .int y1), (2, .int y2)]) hx hb dX12_mercy_32 hl (by decide) rfl (fun ls hl => ?_)
      exact L34 FU y1 y2 1000000000 0 _ _ _ hP hD hS (lv_sub hl [3, 4, 1, 0] rfl) h
    · have h := k_pos hc h
      refine lv_ldc (v := (-1000000002)) hx hb hown (hts (.constant RX12 105 (-1000000002)) (List.mem_of_getElem? (i := 3) rfl)) dX12_mercy_24 ?_
      obtain rfl := k_in1 h
      exact k_ri hx hb hr hlocks hP hS dX12_mercy_26
