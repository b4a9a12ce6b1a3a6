
/-! THE CLAIM OUT OF ONE WALK OF THE LAW'S BODY. Your part is whole_start (and what it stands on); all else here is the same for every law, but numbers. -/
def R_law : String := "TowedBackLaw"
def lw_P (b : Addr) (xs : List Int32) (args : Array Value) (s : State) : Prop := args = #[.ref b] ∧ s.IntsAt b xs ∧ xs.length ≤ 2048 ∧ (Jvm.Cond.and given_1 narrow_1).before args s = true
def lw_Q (_ : Array Value) (s : State) (o : Outcome) (t : State) : Prop := o = .returned (some (.int 1)) ∧ Framed s o t [] 600000 7302250
def lw_Z (below : List Frame) (a : Array Value) (s : State) : State → Prop := fun t => ∃ o, t.status = .running ∧ Ended t below o ∧ lw_Q a s o t
/-- the law's own end, with 1 on the stack, nothing written that was there before, its room as the claim has it -/
theorem lw_ret {p : Program} {l : Launch} {e : Env} {s : State} {m : MethodId} {below : List Frame} {meth : Method} {c : Code} {b : Nat} (hx : p.tables.exec = Jvm.exec) (hb : c.code = code) (hr : meth.sig.returnType = ret) (hlocks : meth.locks = false) {pc : Nat} {H : Heap} {ls : Array Slot} (hdg : decode code pc = .ok (.ireturn, 1)) : W p l e room_1 s m #[Value.ref b] below meth c H [] 600000 7302250 (lw_Z below #[Value.ref b] s) (F0 m pc ls [.int 1]) := by
  intro T hT X
  obtain ⟨fs, hret, hrun, hended, hW, hframe⟩ := X.leave (v := some (.int 1)) (hlocks := hlocks) (fun h => by rw [hr] at h; cases h)
  have hmeth' : T.vm.method? m = some meth := X.method'
  refine ⟨T.setFrames fs, ?_, .returned (some (.int 1)), hrun, hended, rfl, ⟨_, rfl⟩, hW, hframe⟩
  jvm_step X.here [X.here.top, hx, hb, hdg, hmeth', hr, ret, narrow_b1]
  (try refine ⟨rfl, ?_⟩); (try refine ⟨rfl, ?_⟩)
  first | (intro acts; rw [hret _ acts rfl rfl rfl]) | rw [hret _ _ rfl rfl rfl]
  exact Steps.refl _
/-- what holds at the law's entry: the machine, the code, the tables' words (any of lw_tbl by 'hts w (by decide +kernel)'), the script of L ints xs at the cell b, what the Statement gives of the start (any of its parts by flat_of_before) -/
def lw_At (p : Program) (s : State) (m : MethodId) (meth : Method) (c : Code) (b L : Nat) (xs : Nat → Int32) : Prop :=
  p.tables.exec = Jvm.exec ∧ c.code = code ∧ meth.sig.returnType = ret ∧ c.maxLocals = 4 ∧ s.vm.findClass R_law = some m.cls ∧ (∀ w ∈ lw_tbl, w.before #[Value.ref b] s = true) ∧ va_X b L xs s s.heap ∧ b < s.heap.size ∧ meth.locks = false ∧ (Jvm.Cond.and given_1 narrow_1).before #[Value.ref b] s = true

/-! ===== calls out of a world of two parts ===== -/
theorem k_arr {args : Array Value} {s : State} (h1 : (Cond.arrayClass .int).before args s = true) (h2 : (Cond.arrayClass .boolean).before args s = true) : ∃ cI cZ : ClassId, ∀ (k : Nat) (q : ClassId × FieldType), [(cI, FieldType.int), (cZ, FieldType.boolean)][k]? = some q → ArrOfT s q.1 q.2 ∧ va_RA s q.1 q.2 := by
  obtain ⟨cI, kI, compI, a1, a2, a3⟩ := Cond.arrayClass_spec h1
  obtain ⟨cZ, kZ, compZ, b1, b2, b3⟩ := Cond.arrayClass_spec h2
  refine ⟨cI, cZ, fun k q hk => ?_⟩
  match k, hk with
  | 0, hk => cases hk; exact ⟨fun n z => ⟨fun k h => (by cases h), kI, a2, compI, a3⟩, a1⟩
  | 1, hk => cases hk; exact ⟨fun n z => ⟨fun k h => (by cases h), kZ, b2, compZ, b3⟩, b1⟩
  | k + 2, hk => simp at hk
theorem k_appL {D : va_G} {cl : List vw_C} {w1 w2 : va_W} {H : Heap} (h : va_P D cl (w1 ++ w2) H) : va_P D cl w1 H := fun k q hq => h k q (by rw [List.getElem?_append_left (List.getElem?_eq_some_iff.mp hq).1]; exact hq)
theorem k_appR {D : va_G} {cl : List vw_C} {w1 w2 : va_W} {H : Heap} (h : va_P D cl (w1 ++ w2) H) : va_P D cl w2 H := fun k q hq => h (w1.length + k) q (by rw [List.getElem?_append_right (Nat.le_add_right _ _), Nat.add_sub_cancel_left]; exact hq)
theorem k_DL {A : Nat → Prop} {w1 w2 : va_W} (h : va_D A (w1 ++ w2)) : va_D A w1 :=
  ⟨fun i j p q h1 h2 h3 => h.1 i j p q (by rw [List.getElem?_append_left (List.getElem?_eq_some_iff.mp h1).1]; exact h1) (by rw [List.getElem?_append_left (List.getElem?_eq_some_iff.mp h2).1]; exact h2) h3, fun k q hq => h.2 k q (by rw [List.getElem?_append_left (List.getElem?_eq_some_iff.mp hq).1]; exact hq)⟩
theorem k_DR {A : Nat → Prop} {w1 w2 : va_W} (h : va_D A (w1 ++ w2)) : va_D A w2 :=
  ⟨fun i j p q h1 h2 h3 => by
    have := h.1 (w1.length + i) (w1.length + j) p q (by rw [List.getElem?_append_right (Nat.le_add_right _ _), Nat.add_sub_cancel_left]; exact h1) (by rw [List.getElem?_append_right (Nat.le_add_right _ _), Nat.add_sub_cancel_left]; exact h2) h3
    omega, fun k q hq => h.2 (w1.length + k) q (by rw [List.getElem?_append_right (Nat.le_add_right _ _), Nat.add_sub_cancel_left]; exact hq)⟩
theorem k_Dx {A : Nat → Prop} {w1 w2 : va_W} (h : va_D A (w1 ++ w2)) {i j : Nat} {p q : Nat × va_E} (h1 : w1[i]? = some p) (h2 : w2[j]? = some q) : p.1 ≠ q.1 := by
  intro h3
  have hl := (List.getElem?_eq_some_iff.mp h1).1
  have := h.1 i (w1.length + j) p q (by rw [List.getElem?_append_left hl]; exact h1) (by rw [List.getElem?_append_right (Nat.le_add_right _ _), Nat.add_sub_cancel_left]; exact h2) h3
  omega
theorem k_fstA {A : Nat → Prop} {w1 w1' w2 w2' : va_W} (h1 : w1'.map Prod.fst = w1.map Prod.fst) (h2 : w2'.map Prod.fst = w2.map Prod.fst) (h : va_D A (w1 ++ w2)) : va_D A (w1' ++ w2') := k_fst (by rw [List.map_append, List.map_append, h1, h2]) h
theorem k_fstP {A : Nat → Prop} {w1 w1' w2 : va_W} (pm : List Nat) (hpn : va_nd pm = true) (hfst : w1'.map (fun q => some q.1) = pm.map (fun i => (w1[i]?).map Prod.fst)) (h : va_D A (w1 ++ w2)) : va_D A (w1' ++ w2) := by
  have key : ∀ (k : Nat) (q : Nat × va_E), w1'[k]? = some q → ∃ (i : Nat) (q' : Nat × va_E), pm[k]? = some i ∧ w1[i]? = some q' ∧ q'.1 = q.1 := by
    intro k q hk
    have h1 : (w1'.map (fun q => some q.1))[k]? = some (some q.1) := by rw [List.getElem?_map, hk]; rfl
    rw [hfst, List.getElem?_map] at h1
    cases hp : pm[k]? with
    | none => rw [hp] at h1; cases h1
    | some i =>
      rw [hp] at h1
      have h2 : (w1[i]?).map Prod.fst = some q.1 := Option.some.inj h1
      cases hw : w1[i]? with
      | none => rw [hw] at h2; cases h2
      | some q' => rw [hw] at h2; exact ⟨i, q', rfl, hw, Option.some.inj h2⟩
  have hL := k_DL h
  have hR := k_DR h
  refine va_D.app ⟨fun i j a b ha hb hab => ?_, fun k q hq => ?_⟩ hR ?_
  · obtain ⟨i', a', p1, p2, p3⟩ := key i a ha
    obtain ⟨j', b', r1, r2, r3⟩ := key j b hb
    have e := hL.1 i' j' a' b' p2 r2 (by rw [p3, r3, hab])
    subst e
    exact va_nd_inj pm hpn i j i' p1 r1
  · obtain ⟨i, q', p1, p2, p3⟩ := key k q hq
    rw [← p3]; exact hL.2 i q' p2
  · intro i j a b ha hb
    obtain ⟨i', a', p1, p2, p3⟩ := key i a ha
    rw [← p3]; exact k_Dx h p2 hb
section KL
variable {p : Program} {l : Launch} {e : Env} {R : Room} {s : State} {m : MethodId} {args : Array Value} {below : List Frame} {meth : Method} {c : Code} {H : Heap} {locs : List Loc} {cells slots : Nat} {Q : State → Prop} {D : va_G}
  {cc : ByteArray} {nL : Nat} {Ts : List Cond} {own C : String} {y : MethodName} {bytes : ByteArray} {maxL n index : Nat} {ret : Option FieldType} {wy : List Cond} {rm : Room} {tys : List (ClassId × FieldType)} {ws wc w1 ws' wm wm' : va_W} {A : Nat → Prop} {H0 : Heap} {b : Nat} {As rest st0 : List Value} {r : Int32} {pc : Nat} {ls : Array Slot}
theorem k_LG (S : CallFix p m c cc nL s args Ts own) (hM : MI l y wy rm D tys wc w1 (.ref b :: As) r) (cw : CallW R s args own C index y bytes maxL ret wy rm 0 0 n)
    (hK : va_K D vwCl tys s) (hP : va_P D vwCl (ws ++ wm) H) (hD : va_D A (ws ++ wm)) (hS : va_S A H0 H locs) (hA : ∀ q, H0.size ≤ q → A q) (isC : List Nat) (hC : isC.map (fun i => ws[i]?) = wc.map some) (hnd : va_nd isC = true) (q0 ci : Nat) {q : vw_C} {fs : List Value} (hc : vwCl[ci]? = some q) (he : ws[q0]? = some (b, .inr (ci, fs))) (hq : q.1 = C)
    (isR : List Nat) (h1 : isC.map (fun i => ws'[i]?) = w1.map some) (hR : k_all ws ws' isR) (N : Nat) (hN : ws'.length = N) (hcov : (List.range N).all (fun k => isC.contains k || (isR.contains k && !isC.contains k)) = true) (hfst : ws'.map Prod.fst = ws.map Prod.fst) (hn : As.length = n) (hls : ls.size = nL) (hst : st0 = As.reverse ++ .ref b :: rest) (hW : (rest.map fun v => v.category).sum ≤ 8) (hdg : decode cc pc = .ok (.invokevirtual index, 3)) (hf : cells ≤ R.cells ∧ slots ≤ R.slots)
    (kk : ∀ (H1 : Heap) (locs1 : List Loc), va_P D vwCl (ws' ++ wm) H1 → va_D A (ws' ++ wm) → va_S A H0 H1 locs1 → W p l e R s m args below meth c H1 locs1 cells slots Q (F0 m (pc + 3) ls (.int r :: rest))) : W p l e R s m args below meth c H locs cells slots Q (F0 m pc ls st0) := by
  subst hst
  have hPx := k_appL hP
  have hPm := k_appR hP
  have hDx := k_DL hD
  have hPc : va_P D vwCl wc H := hPx.sub (ws' := wc) isC (k_fm hC)
  have hDc := hDx.sub (ws' := wc) isC hnd hC
  have hFc := va_free (wc := wc) hDx hS hA isC hC
  refine va_calli (va_runV (As := As) (rest := rest) S (hM H.size) cw ⟨cPre_blind, (by have hr0 := va_recv hK hPx hc he; rw [hq] at hr0; exact hr0), fun U hU hW2 => ⟨rfl, by rw [hU], by rw [hU]; exact hPc, va_K.moved hW2.alike hK, hDc.weaken (fun _ _ _ _ => trivial)⟩⟩ rfl hn hls rfl (lv_room hW) hdg hf) hS (fun q _ h => hFc q h) hFc (fun r1 u t H1 locs1 ht hvm hw hB hz1 hk1 hS1 => ?_)
  subst hw
  rw [ht] at hB
  refine kk H1 locs1 ((k_jn hPx hDx isC hC isR h1 hR N hN hcov hk1 hB).app (fun k q hq => (hPm k q hq).kept (hk1 q.1 (hPm k q hq).lt ?_))) (k_fstA hfst rfl hD) hS1
  rintro (⟨j, e, hj⟩ | hge)
  · obtain ⟨i, hi, h4⟩ := k_at2 hC hj
    exact k_Dx hD h4 hq rfl
  · exact absurd (hPm k q hq).lt (Nat.not_lt.mpr hge)
theorem k_LGP (S : CallFix p m c cc nL s args Ts own) (hM : MI l y wy rm D tys wc w1 (.ref b :: As) r) (cw : CallW R s args own C index y bytes maxL ret wy rm 0 0 n)
    (hK : va_K D vwCl tys s) (hP : va_P D vwCl (ws ++ wm) H) (hD : va_D A (ws ++ wm)) (hS : va_S A H0 H locs) (hA : ∀ q, H0.size ≤ q → A q) (isC : List Nat) (hC : isC.map (fun i => ws[i]?) = wc.map some) (hnd : va_nd isC = true) (q0 ci : Nat) {q : vw_C} {fs : List Value} (hc : vwCl[ci]? = some q) (he : ws[q0]? = some (b, .inr (ci, fs))) (hq : q.1 = C)
    (isR : List Nat) (h1 : isC.map (fun i => ws'[i]?) = w1.map some) (hR : k_all ws ws' isR) (N : Nat) (hN : ws'.length = N) (hcov : (List.range N).all (fun k => isC.contains k || (isR.contains k && !isC.contains k)) = true) (pm : List Nat) (hpn : va_nd pm = true) (hfst : ws'.map (fun q => some q.1) = pm.map (fun i => (ws[i]?).map Prod.fst)) (hn : As.length = n) (hls : ls.size = nL) (hst : st0 = As.reverse ++ .ref b :: rest) (hW : (rest.map fun v => v.category).sum ≤ 8) (hdg : decode cc pc = .ok (.invokevirtual index, 3)) (hf : cells ≤ R.cells ∧ slots ≤ R.slots)
    (kk : ∀ (H1 : Heap) (locs1 : List Loc), va_P D vwCl (ws' ++ wm) H1 → va_D A (ws' ++ wm) → va_S A H0 H1 locs1 → W p l e R s m args below meth c H1 locs1 cells slots Q (F0 m (pc + 3) ls (.int r :: rest))) : W p l e R s m args below meth c H locs cells slots Q (F0 m pc ls st0) := by
  subst hst
  have hPx := k_appL hP
  have hPm := k_appR hP
  have hDx := k_DL hD
  have hPc : va_P D vwCl wc H := hPx.sub (ws' := wc) isC (k_fm hC)
  have hDc := hDx.sub (ws' := wc) isC hnd hC
  have hFc := va_free (wc := wc) hDx hS hA isC hC
  refine va_calli (va_runV (As := As) (rest := rest) S (hM H.size) cw ⟨cPre_blind, (by have hr0 := va_recv hK hPx hc he; rw [hq] at hr0; exact hr0), fun U hU hW2 => ⟨rfl, by rw [hU], by rw [hU]; exact hPc, va_K.moved hW2.alike hK, hDc.weaken (fun _ _ _ _ => trivial)⟩⟩ rfl hn hls rfl (lv_room hW) hdg hf) hS (fun q _ h => hFc q h) hFc (fun r1 u t H1 locs1 ht hvm hw hB hz1 hk1 hS1 => ?_)
  subst hw
  rw [ht] at hB
  refine kk H1 locs1 ((k_jn hPx hDx isC hC isR h1 hR N hN hcov hk1 hB).app (fun k q hq => (hPm k q hq).kept (hk1 q.1 (hPm k q hq).lt ?_))) (k_fstP pm hpn hfst hD) hS1
  rintro (⟨j, e, hj⟩ | hge)
  · obtain ⟨i, hi, h4⟩ := k_at2 hC hj
    exact k_Dx hD h4 hq rfl
  · exact absurd (hPm k q hq).lt (Nat.not_lt.mpr hge)
theorem k_LR (S : CallFix p m c cc nL s args Ts own) (hM : MI l y wy rm D tys wc wc (.ref b :: As) r) (cw : CallW R s args own C index y bytes maxL ret wy rm 0 0 n)
    (hK : va_K D vwCl tys s) (hP : va_P D vwCl (ws ++ wm) H) (hD : va_D A (ws ++ wm)) (hS : va_S A H0 H locs) (hA : ∀ q, H0.size ≤ q → A q) (isC : List Nat) (hC : isC.map (fun i => ws[i]?) = wc.map some) (hnd : va_nd isC = true) (q0 ci : Nat) {q : vw_C} {fs : List Value} (hc : vwCl[ci]? = some q) (he : ws[q0]? = some (b, .inr (ci, fs))) (hq : q.1 = C)
    (hn : As.length = n) (hls : ls.size = nL) (hst : st0 = As.reverse ++ .ref b :: rest) (hW : (rest.map fun v => v.category).sum ≤ 8) (hdg : decode cc pc = .ok (.invokevirtual index, 3)) (hf : cells ≤ R.cells ∧ slots ≤ R.slots)
    (kk : ∀ (H1 : Heap) (locs1 : List Loc), va_P D vwCl (ws ++ wm) H1 → va_D A (ws ++ wm) → va_S A H0 H1 locs1 → W p l e R s m args below meth c H1 locs1 cells slots Q (F0 m (pc + 3) ls (.int r :: rest))) : W p l e R s m args below meth c H locs cells slots Q (F0 m pc ls st0) := by
  subst hst
  have hPx := k_appL hP
  have hPm := k_appR hP
  have hDx := k_DL hD
  have hPc : va_P D vwCl wc H := hPx.sub (ws' := wc) isC (k_fm hC)
  have hDc := hDx.sub (ws' := wc) isC hnd hC
  have hFc := va_free (wc := wc) hDx hS hA isC hC
  refine va_calli (va_runV (As := As) (rest := rest) S (hM H.size) cw ⟨cPre_blind, (by have hr0 := va_recv hK hPx hc he; rw [hq] at hr0; exact hr0), fun U hU hW2 => ⟨rfl, by rw [hU], by rw [hU]; exact hPc, va_K.moved hW2.alike hK, hDc.weaken (fun _ _ _ _ => trivial)⟩⟩ rfl hn hls rfl (lv_room hW) hdg hf) hS (fun q _ h => hFc q h) hFc (fun r1 u t H1 locs1 ht hvm hw hB hz1 hk1 hS1 => ?_)
  subst hw
  rw [ht] at hB
  refine kk H1 locs1 ((k_jnR hPx hDx isC hC hk1 hB).app (fun k q hq => (hPm k q hq).kept (hk1 q.1 (hPm k q hq).lt ?_))) hD hS1
  rintro (⟨j, e, hj⟩ | hge)
  · obtain ⟨i, hi, h4⟩ := k_at2 hC hj
    exact k_Dx hD h4 hq rfl
  · exact absurd (hPm k q hq).lt (Nat.not_lt.mpr hge)
theorem k_RF (S : CallFix p m c cc nL s args Ts own) (hM : MI l y wy rm D tys wm wm' (.ref b :: As) r) (cw : CallW R s args own C index y bytes maxL ret wy rm 0 0 n)
    (hK : va_K D vwCl tys s) (hP : va_P D vwCl (ws ++ wm) H) (hD : va_D A (ws ++ wm)) (hS : va_S A H0 H locs) (hA : ∀ q, H0.size ≤ q → A q) (q0 ci : Nat) {q : vw_C} {fs : List Value} (hc : vwCl[ci]? = some q) (he : wm[q0]? = some (b, .inr (ci, fs))) (hq : q.1 = C)
    (hfst : wm'.map Prod.fst = wm.map Prod.fst) (hn : As.length = n) (hls : ls.size = nL) (hst : st0 = As.reverse ++ .ref b :: rest) (hW : (rest.map fun v => v.category).sum ≤ 8) (hdg : decode cc pc = .ok (.invokevirtual index, 3)) (hf : cells ≤ R.cells ∧ slots ≤ R.slots)
    (kk : ∀ (H1 : Heap) (locs1 : List Loc), va_P D vwCl (ws ++ wm') H1 → va_D A (ws ++ wm') → va_S A H0 H1 locs1 → W p l e R s m args below meth c H1 locs1 cells slots Q (F0 m (pc + 3) ls (.int r :: rest))) : W p l e R s m args below meth c H locs cells slots Q (F0 m pc ls st0) := by
  subst hst
  have hPx := k_appL hP
  have hPm := k_appR hP
  have hDm := k_DR hD
  have hFc : ∀ q, va_A wm H.size q → A q := by
    rintro q (⟨k, e, h⟩ | h)
    · exact hDm.2 k _ h
    · exact hA q (Nat.le_trans hS.1 h)
  refine va_calli (va_runV (As := As) (rest := rest) S (hM H.size) cw ⟨cPre_blind, (by have hr0 := va_recv hK hPm hc he; rw [hq] at hr0; exact hr0), fun U hU hW2 => ⟨rfl, by rw [hU], by rw [hU]; exact hPm, va_K.moved hW2.alike hK, hDm.weaken (fun _ _ _ _ => trivial)⟩⟩ rfl hn hls rfl (lv_room hW) hdg hf) hS (fun q _ h => hFc q h) hFc (fun r1 u t H1 locs1 ht hvm hw hB hz1 hk1 hS1 => ?_)
  subst hw
  rw [ht] at hB
  refine kk H1 locs1 (va_P.app (fun k q hq => (hPx k q hq).kept (hk1 q.1 (hPx k q hq).lt ?_)) hB) (k_fstA rfl hfst hD) hS1
  rintro (⟨j, e, hj⟩ | hge)
  · exact k_Dx hD hq hj rfl
  · exact absurd (hPx k q hq).lt (Nat.not_lt.mpr hge)
end KL
theorem hd_11_boat : yX11_boat.cls = RX11 ∧ yX11_boat.cls ≠ "java/lang/invoke/MethodHandle" ∧ yX11_boat.cls ≠ "java/lang/invoke/VarHandle" ∧ (parseMethodDescriptor yX11_boat.desc).map (fun d => d.parameters.length) = some 2 := by decide +kernel
theorem hd_11_change : yX11_change.cls = RX11 ∧ yX11_change.cls ≠ "java/lang/invoke/MethodHandle" ∧ yX11_change.cls ≠ "java/lang/invoke/VarHandle" ∧ (parseMethodDescriptor yX11_change.desc).map (fun d => d.parameters.length) = some 2 := by decide +kernel
theorem hd_11_changes : yX11_changes.cls = RX11 ∧ yX11_changes.cls ≠ "java/lang/invoke/MethodHandle" ∧ yX11_changes.cls ≠ "java/lang/invoke/VarHandle" ∧ (parseMethodDescriptor yX11_changes.desc).map (fun d => d.parameters.length) = some 2 := by decide +kernel
theorem hd_11_cut : yX11_cut.cls = RX11 ∧ yX11_cut.cls ≠ "java/lang/invoke/MethodHandle" ∧ yX11_cut.cls ≠ "java/lang/invoke/VarHandle" ∧ (parseMethodDescriptor yX11_cut.desc).map (fun d => d.parameters.length) = some 2 := by decide +kernel
theorem hd_11_drift : yX11_drift.cls = RX11 ∧ yX11_drift.cls ≠ "java/lang/invoke/MethodHandle" ∧ yX11_drift.cls ≠ "java/lang/invoke/VarHandle" ∧ (parseMethodDescriptor yX11_drift.desc).map (fun d => d.parameters.length) = some 1 := by decide +kernel
theorem hd_11_dry : yX11_dry.cls = RX11 ∧ yX11_dry.cls ≠ "java/lang/invoke/MethodHandle" ∧ yX11_dry.cls ≠ "java/lang/invoke/VarHandle" ∧ (parseMethodDescriptor yX11_dry.desc).map (fun d => d.parameters.length) = some 1 := by decide +kernel
theorem hd_11_fault : yX11_fault.cls = RX11 ∧ yX11_fault.cls ≠ "java/lang/invoke/MethodHandle" ∧ yX11_fault.cls ≠ "java/lang/invoke/VarHandle" ∧ (parseMethodDescriptor yX11_fault.desc).map (fun d => d.parameters.length) = some 0 := by decide +kernel
theorem hd_11_feed : yX11_feed.cls = RX11 ∧ yX11_feed.cls ≠ "java/lang/invoke/MethodHandle" ∧ yX11_feed.cls ≠ "java/lang/invoke/VarHandle" ∧ (parseMethodDescriptor yX11_feed.desc).map (fun d => d.parameters.length) = some 1 := by decide +kernel
theorem hd_11_forgive : yX11_forgive.cls = RX11 ∧ yX11_forgive.cls ≠ "java/lang/invoke/MethodHandle" ∧ yX11_forgive.cls ≠ "java/lang/invoke/VarHandle" ∧ (parseMethodDescriptor yX11_forgive.desc).map (fun d => d.parameters.length) = some 2 := by decide +kernel
theorem hd_11_goBack : yX11_goBack.cls = RX11 ∧ yX11_goBack.cls ≠ "java/lang/invoke/MethodHandle" ∧ yX11_goBack.cls ≠ "java/lang/invoke/VarHandle" ∧ (parseMethodDescriptor yX11_goBack.desc).map (fun d => d.parameters.length) = some 1 := by decide +kernel
theorem hd_11_judge : yX11_judge.cls = RX11 ∧ yX11_judge.cls ≠ "java/lang/invoke/MethodHandle" ∧ yX11_judge.cls ≠ "java/lang/invoke/VarHandle" ∧ (parseMethodDescriptor yX11_judge.desc).map (fun d => d.parameters.length) = some 0 := by decide +kernel
theorem hd_11_keep : yX11_keep.cls = RX11 ∧ yX11_keep.cls ≠ "java/lang/invoke/MethodHandle" ∧ yX11_keep.cls ≠ "java/lang/invoke/VarHandle" ∧ (parseMethodDescriptor yX11_keep.desc).map (fun d => d.parameters.length) = some 1 := by decide +kernel
theorem hd_11_least : yX11_least.cls = RX11 ∧ yX11_least.cls ≠ "java/lang/invoke/MethodHandle" ∧ yX11_least.cls ≠ "java/lang/invoke/VarHandle" ∧ (parseMethodDescriptor yX11_least.desc).map (fun d => d.parameters.length) = some 3 := by decide +kernel
theorem hd_11_left : yX11_left.cls = RX11 ∧ yX11_left.cls ≠ "java/lang/invoke/MethodHandle" ∧ yX11_left.cls ≠ "java/lang/invoke/VarHandle" ∧ (parseMethodDescriptor yX11_left.desc).map (fun d => d.parameters.length) = some 2 := by decide +kernel
theorem hd_11_look : yX11_look.cls = RX11 ∧ yX11_look.cls ≠ "java/lang/invoke/MethodHandle" ∧ yX11_look.cls ≠ "java/lang/invoke/VarHandle" ∧ (parseMethodDescriptor yX11_look.desc).map (fun d => d.parameters.length) = some 1 := by decide +kernel
theorem hd_11_mercy : yX11_mercy.cls = RX11 ∧ yX11_mercy.cls ≠ "java/lang/invoke/MethodHandle" ∧ yX11_mercy.cls ≠ "java/lang/invoke/VarHandle" ∧ (parseMethodDescriptor yX11_mercy.desc).map (fun d => d.parameters.length) = some 2 := by decide +kernel
theorem hd_11_quay : yX11_quay.cls = RX11 ∧ yX11_quay.cls ≠ "java/lang/invoke/MethodHandle" ∧ yX11_quay.cls ≠ "java/lang/invoke/VarHandle" ∧ (parseMethodDescriptor yX11_quay.desc).map (fun d => d.parameters.length) = some 2 := by decide +kernel
theorem hd_11_round : yX11_round.cls = RX11 ∧ yX11_round.cls ≠ "java/lang/invoke/MethodHandle" ∧ yX11_round.cls ≠ "java/lang/invoke/VarHandle" ∧ (parseMethodDescriptor yX11_round.desc).map (fun d => d.parameters.length) = some 1 := by decide +kernel
theorem hd_11_see : yX11_see.cls = RX11 ∧ yX11_see.cls ≠ "java/lang/invoke/MethodHandle" ∧ yX11_see.cls ≠ "java/lang/invoke/VarHandle" ∧ (parseMethodDescriptor yX11_see.desc).map (fun d => d.parameters.length) = some 3 := by decide +kernel
theorem hd_11_seed : yX11_seed.cls = RX11 ∧ yX11_seed.cls ≠ "java/lang/invoke/MethodHandle" ∧ yX11_seed.cls ≠ "java/lang/invoke/VarHandle" ∧ (parseMethodDescriptor yX11_seed.desc).map (fun d => d.parameters.length) = some 1 := by decide +kernel
theorem hd_11_sits : yX11_sits.cls = RX11 ∧ yX11_sits.cls ≠ "java/lang/invoke/MethodHandle" ∧ yX11_sits.cls ≠ "java/lang/invoke/VarHandle" ∧ (parseMethodDescriptor yX11_sits.desc).map (fun d => d.parameters.length) = some 1 := by decide +kernel
theorem hd_11_step : yX11_step.cls = RX11 ∧ yX11_step.cls ≠ "java/lang/invoke/MethodHandle" ∧ yX11_step.cls ≠ "java/lang/invoke/VarHandle" ∧ (parseMethodDescriptor yX11_step.desc).map (fun d => d.parameters.length) = some 1 := by decide +kernel
theorem hd_11_tear : yX11_tear.cls = RX11 ∧ yX11_tear.cls ≠ "java/lang/invoke/MethodHandle" ∧ yX11_tear.cls ≠ "java/lang/invoke/VarHandle" ∧ (parseMethodDescriptor yX11_tear.desc).map (fun d => d.parameters.length) = some 0 := by decide +kernel
theorem hd_11_told : yX11_told.cls = RX11 ∧ yX11_told.cls ≠ "java/lang/invoke/MethodHandle" ∧ yX11_told.cls ≠ "java/lang/invoke/VarHandle" ∧ (parseMethodDescriptor yX11_told.desc).map (fun d => d.parameters.length) = some 1 := by decide +kernel
theorem hd_11_towed : yX11_towed.cls = RX11 ∧ yX11_towed.cls ≠ "java/lang/invoke/MethodHandle" ∧ yX11_towed.cls ≠ "java/lang/invoke/VarHandle" ∧ (parseMethodDescriptor yX11_towed.desc).map (fun d => d.parameters.length) = some 1 := by decide +kernel
theorem hd_11_turn : yX11_turn.cls = RX11 ∧ yX11_turn.cls ≠ "java/lang/invoke/MethodHandle" ∧ yX11_turn.cls ≠ "java/lang/invoke/VarHandle" ∧ (parseMethodDescriptor yX11_turn.desc).map (fun d => d.parameters.length) = some 1 := by decide +kernel
theorem hd_11_undo : yX11_undo.cls = RX11 ∧ yX11_undo.cls ≠ "java/lang/invoke/MethodHandle" ∧ yX11_undo.cls ≠ "java/lang/invoke/VarHandle" ∧ (parseMethodDescriptor yX11_undo.desc).map (fun d => d.parameters.length) = some 0 := by decide +kernel
theorem hd_11_water : yX11_water.cls = RX11 ∧ yX11_water.cls ≠ "java/lang/invoke/MethodHandle" ∧ yX11_water.cls ≠ "java/lang/invoke/VarHandle" ∧ (parseMethodDescriptor yX11_water.desc).map (fun d => d.parameters.length) = some 0 := by decide +kernel
theorem hd_11_weigh : yX11_weigh.cls = RX11 ∧ yX11_weigh.cls ≠ "java/lang/invoke/MethodHandle" ∧ yX11_weigh.cls ≠ "java/lang/invoke/VarHandle" ∧ (parseMethodDescriptor yX11_weigh.desc).map (fun d => d.parameters.length) = some 2 := by decide +kernel
theorem hd_11_where : yX11_where.cls = RX11 ∧ yX11_where.cls ≠ "java/lang/invoke/MethodHandle" ∧ yX11_where.cls ≠ "java/lang/invoke/VarHandle" ∧ (parseMethodDescriptor yX11_where.desc).map (fun d => d.parameters.length) = some 3 := by decide +kernel
theorem hd_11_write : yX11_write.cls = RX11 ∧ yX11_write.cls ≠ "java/lang/invoke/MethodHandle" ∧ yX11_write.cls ≠ "java/lang/invoke/VarHandle" ∧ (parseMethodDescriptor yX11_write.desc).map (fun d => d.parameters.length) = some 2 := by decide +kernel
theorem hd_12_boat : yX12_boat.cls = RX12 ∧ yX12_boat.cls ≠ "java/lang/invoke/MethodHandle" ∧ yX12_boat.cls ≠ "java/lang/invoke/VarHandle" ∧ (parseMethodDescriptor yX12_boat.desc).map (fun d => d.parameters.length) = some 2 := by decide +kernel
theorem hd_12_change : yX12_change.cls = RX12 ∧ yX12_change.cls ≠ "java/lang/invoke/MethodHandle" ∧ yX12_change.cls ≠ "java/lang/invoke/VarHandle" ∧ (parseMethodDescriptor yX12_change.desc).map (fun d => d.parameters.length) = some 2 := by decide +kernel
theorem hd_12_changes : yX12_changes.cls = RX12 ∧ yX12_changes.cls ≠ "java/lang/invoke/MethodHandle" ∧ yX12_changes.cls ≠ "java/lang/invoke/VarHandle" ∧ (parseMethodDescriptor yX12_changes.desc).map (fun d => d.parameters.length) = some 2 := by decide +kernel
theorem hd_12_cut : yX12_cut.cls = RX12 ∧ yX12_cut.cls ≠ "java/lang/invoke/MethodHandle" ∧ yX12_cut.cls ≠ "java/lang/invoke/VarHandle" ∧ (parseMethodDescriptor yX12_cut.desc).map (fun d => d.parameters.length) = some 2 := by decide +kernel
theorem hd_12_drift : yX12_drift.cls = RX12 ∧ yX12_drift.cls ≠ "java/lang/invoke/MethodHandle" ∧ yX12_drift.cls ≠ "java/lang/invoke/VarHandle" ∧ (parseMethodDescriptor yX12_drift.desc).map (fun d => d.parameters.length) = some 1 := by decide +kernel
theorem hd_12_dry : yX12_dry.cls = RX12 ∧ yX12_dry.cls ≠ "java/lang/invoke/MethodHandle" ∧ yX12_dry.cls ≠ "java/lang/invoke/VarHandle" ∧ (parseMethodDescriptor yX12_dry.desc).map (fun d => d.parameters.length) = some 1 := by decide +kernel
theorem hd_12_fault : yX12_fault.cls = RX12 ∧ yX12_fault.cls ≠ "java/lang/invoke/MethodHandle" ∧ yX12_fault.cls ≠ "java/lang/invoke/VarHandle" ∧ (parseMethodDescriptor yX12_fault.desc).map (fun d => d.parameters.length) = some 0 := by decide +kernel
theorem hd_12_feed : yX12_feed.cls = RX12 ∧ yX12_feed.cls ≠ "java/lang/invoke/MethodHandle" ∧ yX12_feed.cls ≠ "java/lang/invoke/VarHandle" ∧ (parseMethodDescriptor yX12_feed.desc).map (fun d => d.parameters.length) = some 1 := by decide +kernel
theorem hd_12_forgive : yX12_forgive.cls = RX12 ∧ yX12_forgive.cls ≠ "java/lang/invoke/MethodHandle" ∧ yX12_forgive.cls ≠ "java/lang/invoke/VarHandle" ∧ (parseMethodDescriptor yX12_forgive.desc).map (fun d => d.parameters.length) = some 2 := by decide +kernel
theorem hd_12_goBack : yX12_goBack.cls = RX12 ∧ yX12_goBack.cls ≠ "java/lang/invoke/MethodHandle" ∧ yX12_goBack.cls ≠ "java/lang/invoke/VarHandle" ∧ (parseMethodDescriptor yX12_goBack.desc).map (fun d => d.parameters.length) = some 1 := by decide +kernel
theorem hd_12_judge : yX12_judge.cls = RX12 ∧ yX12_judge.cls ≠ "java/lang/invoke/MethodHandle" ∧ yX12_judge.cls ≠ "java/lang/invoke/VarHandle" ∧ (parseMethodDescriptor yX12_judge.desc).map (fun d => d.parameters.length) = some 0 := by decide +kernel
theorem hd_12_keep : yX12_keep.cls = RX12 ∧ yX12_keep.cls ≠ "java/lang/invoke/MethodHandle" ∧ yX12_keep.cls ≠ "java/lang/invoke/VarHandle" ∧ (parseMethodDescriptor yX12_keep.desc).map (fun d => d.parameters.length) = some 1 := by decide +kernel
theorem hd_12_least : yX12_least.cls = RX12 ∧ yX12_least.cls ≠ "java/lang/invoke/MethodHandle" ∧ yX12_least.cls ≠ "java/lang/invoke/VarHandle" ∧ (parseMethodDescriptor yX12_least.desc).map (fun d => d.parameters.length) = some 3 := by decide +kernel
theorem hd_12_left : yX12_left.cls = RX12 ∧ yX12_left.cls ≠ "java/lang/invoke/MethodHandle" ∧ yX12_left.cls ≠ "java/lang/invoke/VarHandle" ∧ (parseMethodDescriptor yX12_left.desc).map (fun d => d.parameters.length) = some 2 := by decide +kernel
theorem hd_12_look : yX12_look.cls = RX12 ∧ yX12_look.cls ≠ "java/lang/invoke/MethodHandle" ∧ yX12_look.cls ≠ "java/lang/invoke/VarHandle" ∧ (parseMethodDescriptor yX12_look.desc).map (fun d => d.parameters.length) = some 1 := by decide +kernel
theorem hd_12_mercy : yX12_mercy.cls = RX12 ∧ yX12_mercy.cls ≠ "java/lang/invoke/MethodHandle" ∧ yX12_mercy.cls ≠ "java/lang/invoke/VarHandle" ∧ (parseMethodDescriptor yX12_mercy.desc).map (fun d => d.parameters.length) = some 2 := by decide +kernel
theorem hd_12_quay : yX12_quay.cls = RX12 ∧ yX12_quay.cls ≠ "java/lang/invoke/MethodHandle" ∧ yX12_quay.cls ≠ "java/lang/invoke/VarHandle" ∧ (parseMethodDescriptor yX12_quay.desc).map (fun d => d.parameters.length) = some 2 := by decide +kernel
theorem hd_12_round : yX12_round.cls = RX12 ∧ yX12_round.cls ≠ "java/lang/invoke/MethodHandle" ∧ yX12_round.cls ≠ "java/lang/invoke/VarHandle" ∧ (parseMethodDescriptor yX12_round.desc).map (fun d => d.parameters.length) = some 1 := by decide +kernel
theorem hd_12_see : yX12_see.cls = RX12 ∧ yX12_see.cls ≠ "java/lang/invoke/MethodHandle" ∧ yX12_see.cls ≠ "java/lang/invoke/VarHandle" ∧ (parseMethodDescriptor yX12_see.desc).map (fun d => d.parameters.length) = some 3 := by decide +kernel
theorem hd_12_seed : yX12_seed.cls = RX12 ∧ yX12_seed.cls ≠ "java/lang/invoke/MethodHandle" ∧ yX12_seed.cls ≠ "java/lang/invoke/VarHandle" ∧ (parseMethodDescriptor yX12_seed.desc).map (fun d => d.parameters.length) = some 1 := by decide +kernel
theorem hd_12_sits : yX12_sits.cls = RX12 ∧ yX12_sits.cls ≠ "java/lang/invoke/MethodHandle" ∧ yX12_sits.cls ≠ "java/lang/invoke/VarHandle" ∧ (parseMethodDescriptor yX12_sits.desc).map (fun d => d.parameters.length) = some 1 := by decide +kernel
theorem hd_12_step : yX12_step.cls = RX12 ∧ yX12_step.cls ≠ "java/lang/invoke/MethodHandle" ∧ yX12_step.cls ≠ "java/lang/invoke/VarHandle" ∧ (parseMethodDescriptor yX12_step.desc).map (fun d => d.parameters.length) = some 1 := by decide +kernel
theorem hd_12_tear : yX12_tear.cls = RX12 ∧ yX12_tear.cls ≠ "java/lang/invoke/MethodHandle" ∧ yX12_tear.cls ≠ "java/lang/invoke/VarHandle" ∧ (parseMethodDescriptor yX12_tear.desc).map (fun d => d.parameters.length) = some 0 := by decide +kernel
theorem hd_12_told : yX12_told.cls = RX12 ∧ yX12_told.cls ≠ "java/lang/invoke/MethodHandle" ∧ yX12_told.cls ≠ "java/lang/invoke/VarHandle" ∧ (parseMethodDescriptor yX12_told.desc).map (fun d => d.parameters.length) = some 1 := by decide +kernel
theorem hd_12_towed : yX12_towed.cls = RX12 ∧ yX12_towed.cls ≠ "java/lang/invoke/MethodHandle" ∧ yX12_towed.cls ≠ "java/lang/invoke/VarHandle" ∧ (parseMethodDescriptor yX12_towed.desc).map (fun d => d.parameters.length) = some 1 := by decide +kernel
theorem hd_12_turn : yX12_turn.cls = RX12 ∧ yX12_turn.cls ≠ "java/lang/invoke/MethodHandle" ∧ yX12_turn.cls ≠ "java/lang/invoke/VarHandle" ∧ (parseMethodDescriptor yX12_turn.desc).map (fun d => d.parameters.length) = some 1 := by decide +kernel
theorem hd_12_undo : yX12_undo.cls = RX12 ∧ yX12_undo.cls ≠ "java/lang/invoke/MethodHandle" ∧ yX12_undo.cls ≠ "java/lang/invoke/VarHandle" ∧ (parseMethodDescriptor yX12_undo.desc).map (fun d => d.parameters.length) = some 0 := by decide +kernel
theorem hd_12_water : yX12_water.cls = RX12 ∧ yX12_water.cls ≠ "java/lang/invoke/MethodHandle" ∧ yX12_water.cls ≠ "java/lang/invoke/VarHandle" ∧ (parseMethodDescriptor yX12_water.desc).map (fun d => d.parameters.length) = some 0 := by decide +kernel
theorem hd_12_weigh : yX12_weigh.cls = RX12 ∧ yX12_weigh.cls ≠ "java/lang/invoke/MethodHandle" ∧ yX12_weigh.cls ≠ "java/lang/invoke/VarHandle" ∧ (parseMethodDescriptor yX12_weigh.desc).map (fun d => d.parameters.length) = some 2 := by decide +kernel
theorem hd_12_where : yX12_where.cls = RX12 ∧ yX12_where.cls ≠ "java/lang/invoke/MethodHandle" ∧ yX12_where.cls ≠ "java/lang/invoke/VarHandle" ∧ (parseMethodDescriptor yX12_where.desc).map (fun d => d.parameters.length) = some 3 := by decide +kernel
theorem hd_12_write : yX12_write.cls = RX12 ∧ yX12_write.cls ≠ "java/lang/invoke/MethodHandle" ∧ yX12_write.cls ≠ "java/lang/invoke/VarHandle" ∧ (parseMethodDescriptor yX12_write.desc).map (fun d => d.parameters.length) = some 2 := by decide +kernel
set_option maxHeartbeats 4000000 in
set_option maxRecDepth 100000 in
/-- at the loop's head, when no whole call is left: the end, with true -/
theorem law_out {p : Program} {l : Launch} {e : Env} {s : State} {m : MethodId} {below : List Frame} {meth : Method} {c : Code} {b L i : Nat} {xs : Nat → Int32} {H : Heap} {locs : List Loc} {ls : Array Slot} {x3 : Int32} {v1 v2 : Value} (hL : L ≤ 2048) (hx : p.tables.exec = Jvm.exec) (hb : c.code = cL_law) (hr : meth.sig.returnType = ret) (hlocks : meth.locks = false) (hX : va_X b L xs s s.heap) (hbl : b < s.heap.size) (hbA : ¬ (fun q : Nat => s.heap.size ≤ q) b) (hS : va_S (fun q : Nat => s.heap.size ≤ q) s.heap H locs) (hl : lv_has ls 4 [(0, .ref b), (1, v1), (2, v2), (3, .int x3)]) (ex3 : x3 = nI i) (h1 : L + 1 ≤ i + 4) (h2 : i ≤ 4000) : W p l e room_1 s m #[Value.ref b] below meth c H locs 600000 7302250 (lw_Z below #[Value.ref b] s) (F0 m 18 ls []) := by
  refine lv_iload_n hx hb dL_law_18 rfl (lv_at hl 3 rfl) ?_
  refine lv_aload_n hx hb dL_law_19 rfl (lv_at hl 0 rfl) ?_
  refine va_slen hx hb hX hbl hbA hS dL_law_20 ?_
  refine lv_iconst (v := 4) hx hb dL_law_21 (by decide) ?_
  refine lv_isub hx hb dL_law_22 ?_
  have key : (Int32.ofNat L - 4 : Int32) < x3 := by
    rw [Int32.lt_iff_toInt_lt, ex3, nI_toInt (by omega)]
    have e1 : (Int32.ofNat L - 4 : Int32).toInt = (L : Int) - 4 := pk_sub_toInt (a := L) (b := 4) (by omega) (by omega)
    rw [e1]; omega
  refine lv_icmp_gt (tgt := 1001) hx hb dL_law_23 (by decide) (fun _ => ?_) (fun hne => absurd key hne)
  refine lv_iconst (v := 1) hx hb dL_law_1001 (by decide) ?_
  refine va_forget (fun q hq => hS.2.2 q hq) ?_
  exact lw_ret hx hb hr hlocks dL_law_1002
set_option maxHeartbeats 4000000 in
set_option maxRecDepth 100000 in
/-- at the loop's head, when a whole call is left: to the switch -/
theorem law_head {p : Program} {l : Launch} {e : Env} {s : State} {m : MethodId} {below : List Frame} {meth : Method} {c : Code} {b L i : Nat} {xs : Nat → Int32} {H : Heap} {locs : List Loc} {ls : Array Slot} {x3 : Int32} {v1 v2 : Value} {Q : State → Prop} (hL : L ≤ 2048) (hx : p.tables.exec = Jvm.exec) (hb : c.code = cL_law) (hX : va_X b L xs s s.heap) (hbl : b < s.heap.size) (hbA : ¬ (fun q : Nat => s.heap.size ≤ q) b) (hS : va_S (fun q : Nat => s.heap.size ≤ q) s.heap H locs) (hl : lv_has ls 4 [(0, .ref b), (1, v1), (2, v2), (3, .int x3)]) (ex3 : x3 = nI i) (h1 : ¬ L < i + 4) (h2 : i ≤ 4000) (hv0 : vp_in x3 L)
    (kk : W p l e room_1 s m #[Value.ref b] below meth c H locs 600000 7302250 Q (F0 m 32 ls [.int ((xs x3.toNatClampNeg) &&& 31)])) : W p l e room_1 s m #[Value.ref b] below meth c H locs 600000 7302250 Q (F0 m 18 ls []) := by
  refine lv_iload_n hx hb dL_law_18 rfl (lv_at hl 3 rfl) ?_
  refine lv_aload_n hx hb dL_law_19 rfl (lv_at hl 0 rfl) ?_
  refine va_slen hx hb hX hbl hbA hS dL_law_20 ?_
  refine lv_iconst (v := 4) hx hb dL_law_21 (by decide) ?_
  refine lv_isub hx hb dL_law_22 ?_
  have key : ¬ (Int32.ofNat L - 4 : Int32) < x3 := by
    rw [Int32.lt_iff_toInt_lt, ex3, nI_toInt (by omega)]
    have e1 : (Int32.ofNat L - 4 : Int32).toInt = (L : Int) - 4 := pk_sub_toInt (a := L) (b := 4) (by omega) (by omega)
    rw [e1]; omega
  refine lv_icmp_gt (tgt := 1001) hx hb dL_law_23 (by decide) (fun hc => absurd hc key) (fun _ => ?_)
  refine lv_aload_n hx hb dL_law_26 rfl (lv_at hl 0 rfl) ?_
  refine lv_iload_n hx hb dL_law_27 rfl (lv_at hl 3 rfl) ?_
  refine va_sld hx hb hX hbl hbA hS hv0 dL_law_28 ?_
  refine lv_bipush (v := 31) hx hb dL_law_29 (by decide) ?_
  refine lv_iand hx hb dL_law_31 ?_
  exact kk
