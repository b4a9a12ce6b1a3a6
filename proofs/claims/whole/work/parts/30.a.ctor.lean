/-! ===== constructors: rows of my own ===== -/
section KN
variable {p : Program} {l : Launch} {e : Env} {R : Room} {s : State} {m : MethodId} {args : Array Value} {below : List Frame} {meth : Method} {c : Code} {H : Heap} {locs : List Loc} {cells slots : Nat} {Q : State → Prop} {D : va_G}
  {cc : ByteArray} {nL : Nat} {Ts : List Cond} {own : String} {y : MethodName} {bytes : ByteArray} {maxL n index mc ms : Nat} {wy : List Cond} {rm : Room} {cI cZ : ClassId} {tys : List (ClassId × FieldType)} {ws L : va_W} {A : Nat → Prop} {H0 : Heap} {b : Nat} {As rest st0 : List Value} {pc : Nat} {ls : Array Slot} {S9 : Type} {E0 : va_E} {Wn : S9 → va_W} {ok : S9 → Prop}
theorem k_newI (hexec : p.tables.exec = Jvm.exec) (hb : c.code = cc) (harr : (Cond.arrayClass .int).before args s = true) (hK : va_K D vwCl [(cI, .int), (cZ, .boolean)] s) (hP : va_P D vwCl ws H) (hD : va_D A ws) (hS : va_S A H0 H locs) (hA : ∀ q, H0.size ≤ q → A q) {n : Int32} (N' : Nat) (hn : ¬ n < 0) (hN : n.toNatClampNeg = N') (hbytes : N' * 4 ≤ 536870912) (hcells : cells + 1 ≤ R.cells) (hslots : slots + N' ≤ R.slots) (hdg : decode cc pc = .ok (.newarray .int, 2))
    (kk : ∀ (q : Nat) (H1 : Heap), va_P D vwCl (ws ++ [(q, .inl (cI, N', .inl (fun _ => 0)))]) H1 → va_D A (ws ++ [(q, .inl (cI, N', .inl (fun _ => 0)))]) → va_S A H0 H1 locs → W p l e R s m args below meth c H1 locs (cells + 1) (slots + N') Q (F0 m (pc + 2) ls (.ref q :: rest))) : W p l e R s m args below meth c H locs cells slots Q (F0 m pc ls (.int n :: rest)) := by
  refine va_newa (atype := .int) (ty := .int) hexec hb harr rfl hK hP hD hS hA (a0 := (N', .inl (fun _ => 0))) (fun cA => rfl) hn hN hbytes hcells hslots hdg (fun q cA H1 hK1 hP1 hD1 hS1 => ?_)
  have e1 : s.vm.findClass ("[" ++ FieldType.int.toString) = some cA := (hK1.2 2 (cA, .int) rfl).2
  have e2 : s.vm.findClass ("[" ++ FieldType.int.toString) = some cI := (hK.2 0 (cI, .int) rfl).2
  have e3 : cA = cI := Option.some.inj (e1.symm.trans e2)
  subst e3
  exact kk q H1 hP1 hD1 hS1
theorem k_newZ (hexec : p.tables.exec = Jvm.exec) (hb : c.code = cc) (harr : (Cond.arrayClass .boolean).before args s = true) (hK : va_K D vwCl [(cI, .int), (cZ, .boolean)] s) (hP : va_P D vwCl ws H) (hD : va_D A ws) (hS : va_S A H0 H locs) (hA : ∀ q, H0.size ≤ q → A q) {n : Int32} (N' : Nat) (hn : ¬ n < 0) (hN : n.toNatClampNeg = N') (hbytes : N' * 1 ≤ 536870912) (hcells : cells + 1 ≤ R.cells) (hslots : slots + N' ≤ R.slots) (hdg : decode cc pc = .ok (.newarray .boolean, 2))
    (kk : ∀ (q : Nat) (H1 : Heap), va_P D vwCl (ws ++ [(q, .inl (cZ, N', .inl (fun _ => 0)))]) H1 → va_D A (ws ++ [(q, .inl (cZ, N', .inl (fun _ => 0)))]) → va_S A H0 H1 locs → W p l e R s m args below meth c H1 locs (cells + 1) (slots + N') Q (F0 m (pc + 2) ls (.ref q :: rest))) : W p l e R s m args below meth c H locs cells slots Q (F0 m pc ls (.int n :: rest)) := by
  refine va_newa (atype := .boolean) (ty := .boolean) hexec hb harr rfl hK hP hD hS hA (a0 := (N', .inl (fun _ => 0))) (fun cA => rfl) hn hN hbytes hcells hslots hdg (fun q cA H1 hK1 hP1 hD1 hS1 => ?_)
  have e1 : s.vm.findClass ("[" ++ FieldType.boolean.toString) = some cA := (hK1.2 2 (cA, .boolean) rfl).2
  have e2 : s.vm.findClass ("[" ++ FieldType.boolean.toString) = some cZ := (hK.2 1 (cZ, .boolean) rfl).2
  have e3 : cA = cZ := Option.some.inj (e1.symm.trans e2)
  subst e3
  exact kk q H1 hP1 hD1 hS1
theorem k_app {D : va_G} {cl : List vw_C} {L w1 : va_W} {q0 : Nat × va_E} {A : Nat → Prop} {H H1 : Heap} (hP : va_P D cl (L ++ [q0]) H) (hD : va_D A (L ++ [q0])) (hk : ∀ x : Nat, x < H.size → ¬ va_A [q0] H.size x → H1[x]? = H[x]?) (hF : ∀ q, va_A [q0] H.size q → A q) (hP1 : va_P D cl w1 H1) (hD1 : va_D (va_A [q0] H.size) w1) : va_P D cl (L ++ w1) H1 ∧ va_D A (L ++ w1) := by
  have hl : ∀ (k : Nat) (q : Nat × va_E), L[k]? = some q → (L ++ [q0])[k]? = some q := by
    intro k q h
    have hlt : k < L.length := (List.getElem?_eq_some_iff.mp h).1
    rw [List.getElem?_append_left hlt]; exact h
  have h0 : (L ++ [q0])[L.length]? = some q0 := by
    rw [List.getElem?_append_right (Nat.le_refl _), Nat.sub_self]; rfl
  have hna : ∀ (k : Nat) (q : Nat × va_E), L[k]? = some q → ¬ va_A [q0] H.size q.1 := by
    rintro k q h (⟨j, e, hj⟩ | hge)
    · have hlt : k < L.length := (List.getElem?_eq_some_iff.mp h).1
      cases j with
      | zero =>
        have hj' : q0 = (q.1, e) := Option.some.inj hj
        have := hD.1 k L.length q q0 (hl k q h) h0 (by rw [hj'])
        omega
      | succ j => simp at hj
    · exact absurd (hP k q (hl k q h)).lt (Nat.not_lt.mpr hge)
  refine ⟨fun k q hq => ?_, ?_⟩
  · by_cases hlt : k < L.length
    · rw [List.getElem?_append_left hlt] at hq
      exact (hP k q (hl k q hq)).kept (hk q.1 (hP k q (hl k q hq)).lt (hna k q hq))
    · rw [List.getElem?_append_right (Nat.not_lt.mp hlt)] at hq
      exact hP1 _ q hq
  · refine va_D.app ⟨fun i j p q h1 h2 h3 => hD.1 i j p q (hl i p h1) (hl j q h2) h3, fun k q hq => hD.2 k q (hl k q hq)⟩ (hD1.weaken (fun k q hq h => hF _ h)) ?_
    intro i j p q h1 h2 h3
    exact hna i p h1 (by rw [h3]; exact hD1.2 j q h2)
abbrev cQn (D : va_G) {S9 : Type} (e0 : Nat × va_E) (Wn : S9 → va_W) (ok : S9 → Prop) (sz : Nat) : Array Value → State → Outcome → State → Prop := va_Qv ok (fun u t => va_P D vwCl (Wn u) t.heap ∧ va_D (va_A [e0] sz) (Wn u)) (va_A [e0] sz)
def MN (l : Launch) (y : MethodName) (wy : List Cond) (rm : Room) (D : va_G) (tys : List (ClassId × FieldType)) (e0 : Nat × va_E) (As : List Value) {S9 : Type} (Wn : S9 → va_W) (ok : S9 → Prop) (mc ms : Nat) : Prop := ∀ sz : Nat, Met l y wy rm (cPre D tys [e0] (.ref e0.1 :: As) sz) (cQn D e0 Wn ok sz) mc ms (va_A [e0] sz)
theorem k_I (S : CallFix p m c cc nL s args Ts own) (hM : MN l y wy rm D tys (b, E0) As Wn ok mc ms) (cw : CallB R s args own index y bytes maxL none wy rm mc ms n ∧ y.name = "<init>" ∧ (Cond.instanceMethod y).before args s = true)
    (hK : va_K D vwCl tys s) (hP : va_P D vwCl (L ++ [(b, E0)]) H) (hD : va_D A (L ++ [(b, E0)])) (hS : va_S A H0 H locs) (hA : ∀ q, H0.size ≤ q → A q) (hn : As.length = n) (hls : ls.size = nL) (hst : st0 = As.reverse ++ .ref b :: rest) (hW : (rest.map fun v => v.category).sum ≤ 8) (hdg : decode cc pc = .ok (.invokespecial index, 3)) (hf : cells + mc ≤ R.cells ∧ slots + ms ≤ R.slots)
    (kk : ∀ (u : S9) (H1 : Heap) (locs1 : List Loc), ok u → va_P D vwCl (L ++ Wn u) H1 → va_D A (L ++ Wn u) → va_S A H0 H1 locs1 → W p l e R s m args below meth c H1 locs1 (cells + mc) (slots + ms) Q (F0 m (pc + 3) ls rest)) : W p l e R s m args below meth c H locs cells slots Q (F0 m pc ls st0) := by
  subst hst
  have hC : [L.length].map (fun i => (L ++ [(b, E0)])[i]?) = [(b, E0)].map some := by simp
  have hPc : va_P D vwCl [(b, E0)] H := hP.sub (ws' := [(b, E0)]) [L.length] (k_fm hC)
  have hDc := hD.sub (ws' := [(b, E0)]) [L.length] rfl hC
  have hFc := va_free (wc := [(b, E0)]) hD hS hA [L.length] hC
  refine va_callv (va_runI (As := As) (rest := rest) S (hM H.size) cw ⟨cPre_blind, fun U hU hW2 => ⟨rfl, by rw [hU], by rw [hU]; exact hPc, va_K.moved hW2.alike hK, hDc.weaken (fun _ _ _ _ => trivial)⟩⟩ rfl hn hls rfl (lv_room hW) hdg hf) hS (fun q _ h => hFc q h) hFc (fun u t H1 locs1 ht hvm hw hB hz1 hk1 hS1 => ?_)
  rw [ht] at hB
  have hj := k_app hP hD hk1 hFc hB.1 hB.2
  exact kk u H1 locs1 hw hj.1 hj.2 hS1
theorem k_IN {host : String} (S : CallFix p m c cc nL s args Ts own) (hM : MN l y wy rm D tys (b, E0) As Wn ok mc ms) (cw : va_CN R s args own index y host bytes maxL none wy rm mc ms n ∧ y.name = "<init>" ∧ (Cond.instanceMethod y).before args s = true)
    (hK : va_K D vwCl tys s) (hP : va_P D vwCl (L ++ [(b, E0)]) H) (hD : va_D A (L ++ [(b, E0)])) (hS : va_S A H0 H locs) (hA : ∀ q, H0.size ≤ q → A q) (hn : As.length = n) (hls : ls.size = nL) (hst : st0 = As.reverse ++ .ref b :: rest) (hW : (rest.map fun v => v.category).sum ≤ 8) (hdg : decode cc pc = .ok (.invokespecial index, 3)) (hf : cells + mc ≤ R.cells ∧ slots + ms ≤ R.slots)
    (kk : ∀ (u : S9) (H1 : Heap) (locs1 : List Loc), ok u → va_P D vwCl (L ++ Wn u) H1 → va_D A (L ++ Wn u) → va_S A H0 H1 locs1 → W p l e R s m args below meth c H1 locs1 (cells + mc) (slots + ms) Q (F0 m (pc + 3) ls rest)) : W p l e R s m args below meth c H locs cells slots Q (F0 m pc ls st0) := by
  subst hst
  have hC : [L.length].map (fun i => (L ++ [(b, E0)])[i]?) = [(b, E0)].map some := by simp
  have hPc : va_P D vwCl [(b, E0)] H := hP.sub (ws' := [(b, E0)]) [L.length] (k_fm hC)
  have hDc := hD.sub (ws' := [(b, E0)]) [L.length] rfl hC
  have hFc := va_free (wc := [(b, E0)]) hD hS hA [L.length] hC
  refine va_callv (va_runIN (As := As) (rest := rest) S (hM H.size) cw ⟨cPre_blind, fun U hU hW2 => ⟨rfl, by rw [hU], by rw [hU]; exact hPc, va_K.moved hW2.alike hK, hDc.weaken (fun _ _ _ _ => trivial)⟩⟩ rfl hn hls rfl (lv_room hW) hdg hf) hS (fun q _ h => hFc q h) hFc (fun u t H1 locs1 ht hvm hw hB hz1 hk1 hS1 => ?_)
  rw [ht] at hB
  have hj := k_app hP hD hk1 hFc hB.1 hB.2
  exact kk u H1 locs1 hw hj.1 hj.2 hS1
end KN
def wd_tShelf (cI cZ : ClassId) (a_t : Nat → Nat) (t_nz : Nat) (t_slots : Int32) (t_rows : Nat → Int32) : va_W := [((a_t 0), .inr (8, [.int t_slots, .ref (a_t 1)])),
  ((a_t 1), .inl (cI, t_nz, .inl t_rows))]
theorem wd_tShelf_f {cI cZ : ClassId} {a_t : Nat → Nat} {t_nz : Nat} {t_slots : Int32} {t_rows : Nat → Int32} : (wd_tShelf cI cZ a_t t_nz t_slots t_rows).map Prod.fst = [(a_t 0), (a_t 1)] := rfl
theorem hd_0_init : yX0_init.cls ≠ "java/lang/invoke/MethodHandle" ∧ yX0_init.cls ≠ "java/lang/invoke/VarHandle" ∧ (parseMethodDescriptor yX0_init.desc).map (fun d => d.parameters.length) = some 0 := by decide +kernel
theorem hd_1_init : yX1_init.cls ≠ "java/lang/invoke/MethodHandle" ∧ yX1_init.cls ≠ "java/lang/invoke/VarHandle" ∧ (parseMethodDescriptor yX1_init.desc).map (fun d => d.parameters.length) = some 0 := by decide +kernel
theorem hd_2_init : yX2_init.cls ≠ "java/lang/invoke/MethodHandle" ∧ yX2_init.cls ≠ "java/lang/invoke/VarHandle" ∧ (parseMethodDescriptor yX2_init.desc).map (fun d => d.parameters.length) = some 1 := by decide +kernel
theorem hd_3_init : yX3_init.cls ≠ "java/lang/invoke/MethodHandle" ∧ yX3_init.cls ≠ "java/lang/invoke/VarHandle" ∧ (parseMethodDescriptor yX3_init.desc).map (fun d => d.parameters.length) = some 0 := by decide +kernel
theorem hd_4_init : yX4_init.cls ≠ "java/lang/invoke/MethodHandle" ∧ yX4_init.cls ≠ "java/lang/invoke/VarHandle" ∧ (parseMethodDescriptor yX4_init.desc).map (fun d => d.parameters.length) = some 0 := by decide +kernel
theorem hd_5_init : yX5_init.cls ≠ "java/lang/invoke/MethodHandle" ∧ yX5_init.cls ≠ "java/lang/invoke/VarHandle" ∧ (parseMethodDescriptor yX5_init.desc).map (fun d => d.parameters.length) = some 0 := by decide +kernel
theorem hd_6_init : yX6_init.cls ≠ "java/lang/invoke/MethodHandle" ∧ yX6_init.cls ≠ "java/lang/invoke/VarHandle" ∧ (parseMethodDescriptor yX6_init.desc).map (fun d => d.parameters.length) = some 0 := by decide +kernel
theorem hd_7_init : yX7_init.cls ≠ "java/lang/invoke/MethodHandle" ∧ yX7_init.cls ≠ "java/lang/invoke/VarHandle" ∧ (parseMethodDescriptor yX7_init.desc).map (fun d => d.parameters.length) = some 0 := by decide +kernel
theorem hd_8_init : yX8_init.cls ≠ "java/lang/invoke/MethodHandle" ∧ yX8_init.cls ≠ "java/lang/invoke/VarHandle" ∧ (parseMethodDescriptor yX8_init.desc).map (fun d => d.parameters.length) = some 1 := by decide +kernel
theorem hd_9_init : yX9_init.cls ≠ "java/lang/invoke/MethodHandle" ∧ yX9_init.cls ≠ "java/lang/invoke/VarHandle" ∧ (parseMethodDescriptor yX9_init.desc).map (fun d => d.parameters.length) = some 0 := by decide +kernel
theorem hd_10_init : yX10_init.cls ≠ "java/lang/invoke/MethodHandle" ∧ yX10_init.cls ≠ "java/lang/invoke/VarHandle" ∧ (parseMethodDescriptor yX10_init.desc).map (fun d => d.parameters.length) = some 0 := by decide +kernel
