theorem bz_loop {J b B n : Nat} {hard wears now zo zs zj way : Nat → Int32} {a ff p : Int32} : ∀ (d k n1 : Nat) (br : Nat → Int32), k + d = 279 → d < n1 → ∃ br' : Nat → Int32, m_Ref_look_L13 n1 (nI b) (nI k) (nI J) hard (nI B) wears now a ff p (nI n) zo zs zj way br = m_Ref_look_L37 FU (nI b) 0 0 (nI J) hard (nI B) wears now a ff p (nI n) zo zs zj way br' ∧ ∀ i : Nat, i < 279 → br' i = if i < k then br i else 0 := by
  intro d
  induction d with
  | zero =>
    intro k n1 br hk h1
    obtain ⟨g, rfl, -⟩ := fuS h1
    refine ⟨br, ?_, fun i hi => by rw [if_pos (by omega)]⟩
    show m_Ref_look_B13 (m_Ref_look_L13 g) (nI b) (nI k) (nI J) hard (nI B) wears now a ff p (nI n) zo zs zj way br = _
    have c : (279 : Int32) ≤ nI k := cle (a := 279) (by omega) (by omega) (by omega)
    unfold m_Ref_look_B13 m_Ref_look_B33
    rw [if_pos c]
  | succ d ih =>
    intro k n1 br hk h1
    obtain ⟨g, rfl, hg⟩ := fuS h1
    obtain ⟨br', i1, i2⟩ := ih (k + 1) g (upd br k 0) (by omega) (by omega)
    refine ⟨br', ?_, fun i hi => ?_⟩
    · show m_Ref_look_B13 (m_Ref_look_L13 g) (nI b) (nI k) (nI J) hard (nI B) wears now a ff p (nI n) zo zs zj way br = _
      have c : ¬ (279 : Int32) ≤ nI k := ncle (a := 279) (by omega) (by omega) (by omega)
      unfold m_Ref_look_B13
      rw [if_neg c, kg_i (by omega) (by omega), nI_clamp (by omega), nI_1]; exact i1
    · rw [i2 i hi]
      by_cases c : i = k
      · subst c; rw [if_pos (by omega), if_neg (by omega), pk_us]
      · by_cases c2 : i < k
        · rw [if_pos (by omega), if_pos c2, pk_un c]
        · rw [if_neg (by omega), if_neg c2]
theorem br_loop {J b B n q : Nat} {W : Nat → Nat} {hard wears now zo zs zj way : Nat → Int32} {x2 a ff p : Int32} (hw : ∀ i : Nat, i ≤ 30 → way i = nI (W i) ∧ W i < 9)
    (K : Int32 → Int32 → Int32 → Int32 → (Nat → Int32) → Int32 → (Nat → Int32) → (Nat → Int32) → Int32 → Int32 → Int32 → Int32 → (Nat → Int32) → (Nat → Int32) → (Nat → Int32) → (Nat → Int32) → (Nat → Int32) → Option (Int32 × Int32 × Int32 × Int32 × (Nat → Int32) × (Nat → Int32))) :
    ∀ (d t n1 : Nat) (br : Nat → Int32), t + d = 31 → d < n1 → ∃ br' : Nat → Int32, m_Ref_look_L59 K n1 (nI b) x2 (nI q) (nI t) (nI J) hard (nI B) wears now a ff p (nI n) zo zs zj way br = K (nI b) x2 (nI (q + 1)) (nI J) hard (nI B) wears now a ff p (nI n) zo zs zj way br' ∧ ∀ t' j : Nat, t' ≤ 30 → j < 9 → br' (9 * t' + j) = if t ≤ t' ∧ W t' = j then br (9 * t' + j) + 1 else br (9 * t' + j) := by
  intro d
  induction d with
  | zero =>
    intro t n1 br hk h1
    obtain ⟨g, rfl, -⟩ := fuS h1
    refine ⟨br, ?_, fun t' j ht' hj => by rw [if_neg (by omega)]⟩
    show m_Ref_look_B59 K (m_Ref_look_L59 K g) (nI b) x2 (nI q) (nI t) (nI J) hard (nI B) wears now a ff p (nI n) zo zs zj way br = _
    have c : (31 : Int32) ≤ nI t := cle (a := 31) (by omega) (by omega) (by omega)
    unfold m_Ref_look_B59 m_Ref_look_B94
    rw [if_pos c, nI_1]
  | succ d ih =>
    intro t n1 br hk h1
    obtain ⟨g, rfl, hg⟩ := fuS h1
    obtain ⟨w1, w2⟩ := hw t (by omega)
    obtain ⟨br', i1, i2⟩ := ih (t + 1) g (upd br (9 * t + W t) (br (9 * t + W t) + 1)) (by omega) (by omega)
    refine ⟨br', ?_, fun t' j ht' hj => ?_⟩
    · show m_Ref_look_B59 K (m_Ref_look_L59 K g) (nI b) x2 (nI q) (nI t) (nI J) hard (nI B) wears now a ff p (nI n) zo zs zj way br = _
      have c : ¬ (31 : Int32) ≤ nI t := ncle (a := 31) (by omega) (by omega) (by omega)
      unfold m_Ref_look_B59
      rw [if_neg c, kg_i (by omega) (by omega), nI_clamp (n := t) (by omega), w1, m9, nI_add, kg_i (by omega) (by omega), kg_i (by omega) (by omega), nI_clamp (by omega), nI_1]; exact i1
    · rw [i2 t' j ht' hj]
      by_cases c : t' = t ∧ W t = j
      · obtain ⟨rfl, rfl⟩ := c
        rw [if_neg (by omega), if_pos ⟨Nat.le_refl _, rfl⟩, pk_us]
      · have ne : 9 * t' + j ≠ 9 * t + W t := by omega
        rw [pk_un ne]
        by_cases c2 : t' = t
        · subst c2
          rw [if_neg (by omega), if_neg (by omega)]
        · by_cases c3 : t ≤ t' ∧ W t' = j
          · rw [if_pos (by omega), if_pos c3]
          · rw [if_neg (by omega), if_neg c3]
