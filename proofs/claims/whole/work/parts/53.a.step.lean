/-! ===== the way on: the class's tables, the reference's search ===== -/
theorem om_toInt {f : Nat} (h : f < 2 ^ 31) : (om f).toInt = (f : Int) - 1 := by
  have := nI_m1 h
  rw [Int32.toInt_toInt64] at this
  exact this
theorem om_le {a b : Nat} (ha : a < 2 ^ 31) (hb : b < 2 ^ 31) : om a ≤ om b ↔ a ≤ b := by rw [i32_le, om_toInt ha, om_toInt hb]; omega
theorem om_lt0 {a : Nat} (ha : a < 2 ^ 31) : om a < 0 ↔ a = 0 := by rw [i32_lt, om_toInt ha, Int32.toInt_zero]; omega
theorem om_ge0 {a : Nat} (ha : a < 2 ^ 31) : 0 ≤ om a ↔ 0 < a := by rw [i32_le, om_toInt ha, Int32.toInt_zero]; omega
theorem om_eqn {a k : Nat} (ha : a < 2 ^ 31) (hk : k < 2 ^ 31) : nI k = om a ↔ a = k + 1 := by rw [i32_eq, om_toInt ha, nI_toInt hk]; omega
theorem om_inj {a b : Nat} (ha : a < 2 ^ 31) (hb : b < 2 ^ 31) : om a = om b ↔ a = b := by rw [i32_eq, om_toInt ha, om_toInt hb]; omega
theorem m10r (j : Nat) : nI j * (10 : Int32) = nI (j * 10) := pk_mul j 10
theorem slot_i {j f : Nat} (hj : j < 9) (hf : f < 10) : m_Water_slotOf (nI j) (om f) = some (nI (10 * j + f)) := by
  unfold m_Water_slotOf
  have c1 : ¬ (9 : Int32) ≤ nI j := ncle (a := 9) (by omega) (by omega) hj
  have c2 : ¬ om f < (-1 : Int32) := by
    rw [i32_lt, om_toInt (by omega)]
    have : (-1 : Int32).toInt = -1 := by decide
    omega
  have c3 : om f < (9 : Int32) := by
    rw [i32_lt, om_toInt (by omega)]
    have : (9 : Int32).toInt = 9 := by decide
    omega
  have e : nI j * 10 + om f + 1 = nI (10 * j + f) := by
    rw [m10r, Int32.add_assoc]
    have q : om f + 1 = nI f := Int32.sub_add_cancel (nI f) 1
    rw [q, nI_add, Nat.mul_comm]
  rw [if_neg (nI_pos (by omega)), if_neg c1, if_neg c2, if_pos c3, e]
theorem nIm1 {k : Nat} (hk : k < 2 ^ 31) : ¬ nI k = -1 := by
  rw [← om_0, om_eqn (by omega) hk]; omega
theorem goes_i {j f : Nat} {on : Nat → Int32} (hj : j < 9) (hf : f < 10) : m_Water_goesTo (nI j) (om f) on = some (on (10 * j + f)) := by
  unfold m_Water_goesTo
  rw [slot_i hj hf, kb1_e, if_neg (nIm1 (by omega)), kg_i (by omega) (by omega), nI_clamp (by omega)]
theorem hard_i {j f : Nat} {oh : Nat → Int32} (hj : j < 9) (hf : f < 10) : m_Water_hardOn (nI j) (om f) oh = some (oh (10 * j + f)) := by
  unfold m_Water_hardOn
  rw [slot_i hj hf, kb1_e, if_neg (nIm1 (by omega)), kg_i (by omega) (by omega), nI_clamp (by omega)]
theorem bst_le (h : Nat → Nat) (f : Nat) : ∀ k : Nat, bst h f k ≤ k := by
  intro k
  induction k with
  | zero => exact Nat.le_refl 0
  | succ k ih =>
    unfold bst
    split
    · omega
    · split <;> omega
theorem bst_ok (h : Nat → Nat) (f : Nat) : ∀ k : Nat, bst h f k ≠ 0 → h (bst h f k - 1) ≠ 0 ∧ bst h f k ≠ f := by
  intro k
  induction k with
  | zero => intro q; exact absurd rfl q
  | succ k ih =>
    intro q
    unfold bst at q ⊢
    by_cases c : k + 1 = f ∨ h k = 0
    · rw [if_pos c] at q ⊢; exact ih q
    · rw [if_neg c] at q ⊢
      by_cases c2 : bst h f k = 0 ∨ h k < h (bst h f k - 1)
      · rw [if_pos c2]; exact ⟨fun e => c (Or.inr e), fun e => c (Or.inl e)⟩
      · rw [if_neg c2] at q ⊢; exact ih q
theorem m9 (j : Nat) : (9 : Int32) * nI j = nI (9 * j) := pk_mul 9 j
def HM (hard : Nat → Int32) (hm : Nat → Nat → Nat) : Prop := ∀ a b : Nat, a < 9 → b < 9 → hard (9 * a + b) = om (hm a b) ∧ hm a b ≤ 100
theorem goes_loop {J j f : Nat} {hm : Nat → Nat → Nat} {hard : Nat → Int32} {pull : Int32} (hJ : J ≤ 9) (hj : j < J) (hf : f ≤ J) (hh : HM hard hm) :
    ∀ (d k n : Nat), k + d = J → d < n → m_Ref_goesTo_L4 n (om (bst (hm j) f k)) (nI k) (nI J) hard (nI j) (om f) pull = m_Ref_goesTo_B89 (om (bst (hm j) f J)) (nI J) hard (nI j) (om f) pull := by
  intro d
  induction d with
  | zero =>
    intro k n hk hn
    obtain ⟨g, rfl, -⟩ := fuS hn
    have hkJ : k = J := by omega
    subst hkJ
    show m_Ref_goesTo_B4 (m_Ref_goesTo_L4 g) (om (bst (hm j) f k)) (nI k) (nI k) hard (nI j) (om f) pull = _
    unfold m_Ref_goesTo_B4
    rw [if_pos (cle (by omega) (by omega) (Nat.le_refl k))]
  | succ d ih =>
    intro k n hk hn
    obtain ⟨g, rfl, hg⟩ := fuS hn
    have i := ih (k + 1) g (by omega) (by omega)
    rw [← i]
    have hb := bst_le (hm j) f k
    show m_Ref_goesTo_B4 (m_Ref_goesTo_L4 g) (om (bst (hm j) f k)) (nI k) (nI J) hard (nI j) (om f) pull = _
    have keep : bst (hm j) f (k + 1) = bst (hm j) f k → m_Ref_goesTo_B69 (m_Ref_goesTo_L4 g) (om (bst (hm j) f k)) (nI k) (nI J) hard (nI j) (om f) pull = m_Ref_goesTo_L4 g (om (bst (hm j) f (k + 1))) (nI (k + 1)) (nI J) hard (nI j) (om f) pull := by
      intro e
      unfold m_Ref_goesTo_B69 m_Ref_goesTo_B70 m_Ref_goesTo_B82
      rw [if_pos p0, e, nI_1]
    have take : bst (hm j) f (k + 1) = k + 1 → m_Ref_goesTo_B65 (m_Ref_goesTo_L4 g) (om (bst (hm j) f k)) (nI k) (nI J) hard (nI j) (om f) pull = m_Ref_goesTo_L4 g (om (bst (hm j) f (k + 1))) (nI (k + 1)) (nI J) hard (nI j) (om f) pull := by
      intro e
      unfold m_Ref_goesTo_B65 m_Ref_goesTo_B70 m_Ref_goesTo_B82
      rw [if_neg n1, e, nI_1, om_s]
    unfold m_Ref_goesTo_B4
    rw [if_neg (ncle (by omega) (by omega) (by omega))]
    by_cases c : f = k + 1
    · have e : bst (hm j) f (k + 1) = bst (hm j) f k := by
        show (if k + 1 = f ∨ hm j k = 0 then _ else _) = _
        rw [if_pos (Or.inl c.symm)]
      rw [if_pos ((om_eqn (by omega) (by omega)).mpr c)]
      unfold m_Ref_goesTo_B38
      rw [if_pos (by decide)]; exact keep e
    · rw [if_neg (fun q => c ((om_eqn (by omega) (by omega)).mp q)), m9, nI_add, kg_i (by omega) (by omega), nI_clamp (by omega), (hh j k (by omega) (by omega)).1]
      have h100 := (hh j k (by omega) (by omega)).2
      unfold m_Ref_goesTo_B38
      by_cases c2 : hm j k = 0
      · have e : bst (hm j) f (k + 1) = bst (hm j) f k := by
          show (if k + 1 = f ∨ hm j k = 0 then _ else _) = _
          rw [if_pos (Or.inr c2)]
        rw [if_pos ((om_lt0 (by omega)).mpr c2)]; exact keep e
      · rw [if_neg (fun q => c2 ((om_lt0 (by omega)).mp q))]
        by_cases c3 : bst (hm j) f k = 0
        · have e : bst (hm j) f (k + 1) = k + 1 := by
            show (if k + 1 = f ∨ hm j k = 0 then _ else if bst (hm j) f k = 0 ∨ _ then _ else _) = _
            rw [if_neg (by omega), if_pos (Or.inl c3)]
          rw [if_pos ((om_lt0 (by omega)).mpr c3)]; exact take e
        · rw [if_neg (fun q => c3 ((om_lt0 (by omega)).mp q))]
          have eb : om (bst (hm j) f k) = nI (bst (hm j) f k - 1) := by
            rw [← om_s]; exact congrArg om (by omega)
          have h2 := hh j (bst (hm j) f k - 1) (by omega) (by omega)
          have idx : (9 : Int32) * nI j + om (bst (hm j) f k) = nI (9 * j + (bst (hm j) f k - 1)) := by rw [eb, m9, nI_add]
          rw [idx, kg_i (by omega) (by omega), nI_clamp (by omega), h2.1]
          by_cases c4 : hm j k < hm j (bst (hm j) f k - 1)
          · have e : bst (hm j) f (k + 1) = k + 1 := by
              show (if k + 1 = f ∨ hm j k = 0 then _ else if bst (hm j) f k = 0 ∨ hm j k < hm j (bst (hm j) f k - 1) then _ else _) = _
              rw [if_neg (by omega), if_pos (Or.inr c4)]
            rw [if_neg (by rw [om_le (by omega) (by omega)]; omega)]; exact take e
          · have e : bst (hm j) f (k + 1) = bst (hm j) f k := by
              show (if k + 1 = f ∨ hm j k = 0 then _ else if bst (hm j) f k = 0 ∨ hm j k < hm j (bst (hm j) f k - 1) then _ else _) = _
              rw [if_neg (by omega), if_neg (by omega)]
            rw [if_pos (by rw [om_le (by omega) (by omega)]; omega)]; exact keep e
theorem tnx_le (hm : Nat → Nat → Nat) (J j f : Nat) : tnx hm J j f ≤ J := bst_le _ _ _
theorem ref_goesTo {J j f p : Nat} {hm : Nat → Nat → Nat} {hard : Nat → Int32} (hJ : J ≤ 9) (hj : j < J) (hf : f ≤ J) (hp : p ≤ 999) (hh : HM hard hm) :
    m_Ref_goesTo (nI J) hard (nI j) (om f) (nI p) = some (om (if tgx hm J j f < p then tnx hm J j f else 0)) := by
  have e := goes_loop (pull := nI p) hJ hj hf hh J 0 FU (by omega) (FU_gt (by omega))
  have e0 : m_Ref_goesTo (nI J) hard (nI j) (om f) (nI p) = m_Ref_goesTo_L4 FU (om (bst (hm j) f 0)) (nI 0) (nI J) hard (nI j) (om f) (nI p) := by
    show m_Ref_goesTo_L4 FU (-1) 0 (nI J) hard (nI j) (om f) (nI p) = m_Ref_goesTo_L4 FU (om 0) (nI 0) (nI J) hard (nI j) (om f) (nI p)
    rw [om_0]; rfl
  rw [e0, e]
  have hb := bst_le (hm j) f J
  unfold m_Ref_goesTo_B89
  by_cases c : bst (hm j) f J = 0
  · have g : tgx hm J j f = 1000 := by unfold tgx tnx; rw [if_pos c]
    rw [if_pos ((om_lt0 (by omega)).mpr c), g, if_neg (by omega), om_0]
  · have g : tgx hm J j f = hm j (bst (hm j) f J - 1) - 1 := by unfold tgx tnx; rw [if_neg c]
    have ok := (bst_ok (hm j) f J c).1
    have eb : om (bst (hm j) f J) = nI (bst (hm j) f J - 1) := by rw [← om_s]; exact congrArg om (by omega)
    have h2 := hh j (bst (hm j) f J - 1) (by omega) (by omega)
    have idx : (9 : Int32) * nI j + om (bst (hm j) f J) = nI (9 * j + (bst (hm j) f J - 1)) := by rw [eb, m9, nI_add]
    have eh : om (hm j (bst (hm j) f J - 1)) = nI (tgx hm J j f) := by rw [g, ← om_s]; exact congrArg om (by omega)
    rw [if_neg (fun q => c ((om_lt0 (by omega)).mp q)), idx, kg_i (by omega) (by omega), nI_clamp (by omega), h2.1, eh]
    by_cases c2 : tgx hm J j f < p
    · rw [if_neg (ncle (by omega) (by omega) c2), if_pos c2]; rfl
    · rw [if_pos (cle (by omega) (by omega) (by omega)), if_neg c2, om_0]
theorem tg_tn {hm : Nat → Nat → Nat} {J j f p : Nat} (hp : p ≤ 999) (h : tgx hm J j f < p) : 0 < tnx hm J j f := by
  rcases Nat.eq_zero_or_pos (tnx hm J j f) with q | q
  · unfold tgx at h; rw [if_pos q] at h; omega
  · exact q
theorem tgx_le {hm : Nat → Nat → Nat} {hard : Nat → Int32} {J j f : Nat} (hJ : J ≤ 9) (hj : j < J) (hh : HM hard hm) : tgx hm J j f ≤ 1000 := by
  unfold tgx
  by_cases c : tnx hm J j f = 0
  · rw [if_pos c]; omega
  · rw [if_neg c]
    have := (hh j (tnx hm J j f - 1) (by omega) (by have := tnx_le hm J j f; omega)).2
    omega
theorem ref_go_t {J j f p w : Nat} {hm : Nat → Nat → Nat} {hard : Nat → Int32} (hJ : J ≤ 9) (hj : j < J) (hf : f ≤ J) (hp : p ≤ 999) (hw : w ≤ 999) (hh : HM hard hm) (h : tgx hm J j f < p) :
    m_Ref_go (nI w) (nI J) hard (nI j) (om f) (nI p) = some (1, nI (tnx hm J j f - 1), om (j + 1), nI (p - w)) := by
  have t := tg_tn hp h
  have tl := tnx_le hm J j f
  unfold m_Ref_go m_Ref_go_B43
  rw [ref_goesTo hJ hj hf hp hh, kb1_e, if_pos h, if_pos ((om_ge0 (by omega)).mpr t)]
  have eb : om (tnx hm J j f) = nI (tnx hm J j f - 1) := by rw [← om_s]; exact congrArg om (by omega)
  rw [eb, om_s]
  by_cases c : p ≤ w
  · rw [if_pos (cle (by omega) (by omega) c), Nat.sub_eq_zero_of_le c]; rfl
  · rw [if_neg (ncle (by omega) (by omega) (by omega)), pk_sub (by omega)]
theorem ref_go_f {J j f p w : Nat} {hm : Nat → Nat → Nat} {hard : Nat → Int32} (hJ : J ≤ 9) (hj : j < J) (hf : f ≤ J) (hp : p ≤ 999) (hh : HM hard hm) (h : ¬ tgx hm J j f < p) :
    m_Ref_go (nI w) (nI J) hard (nI j) (om f) (nI p) = some (0, nI j, om f, nI p) := by
  unfold m_Ref_go
  rw [ref_goesTo hJ hj hf hp hh, kb1_e, if_neg h, if_neg (by rw [om_ge0 (by omega)]; omega)]
