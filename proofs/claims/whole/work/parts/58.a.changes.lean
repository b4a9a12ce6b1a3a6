/-! ===== changes: orders alike at their five places ===== -/
def E5 (o p : Nat → Int32) : Prop := ∀ i : Nat, i < 5 → o i = p i
theorem lt5 {x : Int32} (v : vp_in x 5) : x.toNatClampNeg < 5 := Nat.lt_of_not_le (fun q => v (Or.inr q))
theorem E5_upd {o p : Nat → Int32} {k : Nat} {v w : Int32} (e : E5 o p) (h : v = w) : E5 (upd o k v) (upd p k w) := by
  intro i hi
  by_cases c : i = k
  · subst c; rw [pk_us, pk_us]; exact h
  · rw [pk_un (by omega), pk_un (by omega)]; exact e i hi
theorem swap_c {x y : Int32} {o p o1 : Nat → Int32} (e : E5 o p) (h : m_Exch_swap x y o = some o1) : ∃ p1 : Nat → Int32, m_Exch_swap x y p = some p1 ∧ E5 o1 p1 := by
  unfold m_Exch_swap at h ⊢
  by_cases c1 : x < 0
  · rw [if_pos c1] at h; rw [if_pos c1]; exact ⟨p, rfl, (Option.some.inj h) ▸ e⟩
  · rw [if_neg c1] at h; rw [if_neg c1]
    by_cases c2 : 5 ≤ x
    · rw [if_pos c2] at h; rw [if_pos c2]; exact ⟨p, rfl, (Option.some.inj h) ▸ e⟩
    · rw [if_neg c2] at h; rw [if_neg c2]
      by_cases c3 : y < 0
      · rw [if_pos c3] at h; rw [if_pos c3]; exact ⟨p, rfl, (Option.some.inj h) ▸ e⟩
      · rw [if_neg c3] at h; rw [if_neg c3]
        by_cases c4 : y < 5
        · rw [if_pos c4] at h; rw [if_pos c4]
          obtain ⟨v1, h⟩ := kg_some h
          obtain ⟨v2, h⟩ := kg_some h
          obtain ⟨v3, h⟩ := kg_some h
          obtain ⟨v4, h⟩ := kg_some h
          rw [kg_v v1, kg_v v2, kg_v v3, kg_v v4]
          have h := Option.some.inj h
          subst h
          exact ⟨_, rfl, E5_upd (E5_upd e (e _ (lt5 v2))) (e _ (lt5 v1))⟩
        · rw [if_neg c4] at h; rw [if_neg c4]; exact ⟨p, rfl, (Option.some.inj h) ▸ e⟩
theorem n91_c {b : Int32} : ∀ (n : Nat) (x y : Int32) (o p o1 : Nat → Int32) (r : Int32), E5 o p → m_Exch_nextOrder_L91 n x y b o = some (r, o1) → ∃ p1 : Nat → Int32, m_Exch_nextOrder_L91 n x y b p = some (r, p1) ∧ E5 o1 p1 := by
  intro n
  induction n with
  | zero =>
    intro x y o p o1 r e h
    have h : (none : Option (Int32 × (Nat → Int32))) = some (r, o1) := h
    cases h
  | succ n ih =>
    intro x y o p o1 r e h
    have h : m_Exch_nextOrder_B91 (m_Exch_nextOrder_L91 n) x y b o = some (r, o1) := h
    show ∃ p1 : Nat → Int32, m_Exch_nextOrder_B91 (m_Exch_nextOrder_L91 n) x y b p = some (r, p1) ∧ E5 o1 p1
    unfold m_Exch_nextOrder_B91 at h ⊢
    by_cases c : y ≤ x
    · rw [if_pos c] at h; rw [if_pos c]
      obtain ⟨q1, q2⟩ := Prod.mk.inj (Option.some.inj h)
      subst q1 q2
      exact ⟨p, rfl, e⟩
    · rw [if_neg c] at h; rw [if_neg c]
      obtain ⟨a1, h1, h2⟩ := kb1_some h
      obtain ⟨p1, q1, e1⟩ := swap_c e h1
      rw [q1, kb1_e]
      exact ih _ _ _ _ _ _ e1 h2
theorem n73_c {b x y : Int32} {o p o1 : Nat → Int32} {r : Int32} (e : E5 o p) (h : m_Exch_nextOrder_B73 x y b o = some (r, o1)) : ∃ p1 : Nat → Int32, m_Exch_nextOrder_B73 x y b p = some (r, p1) ∧ E5 o1 p1 := by
  unfold m_Exch_nextOrder_B73 at h ⊢
  obtain ⟨a1, h1, h2⟩ := kb1_some h
  obtain ⟨p1, q1, e1⟩ := swap_c e h1
  rw [q1, kb1_e]
  exact n91_c _ _ _ _ _ _ _ e1 h2
theorem n47_c {b x : Int32} {o p : Nat → Int32} (e : E5 o p) : ∀ (n : Nat) (y : Int32) (o1 : Nat → Int32) (r : Int32), m_Exch_nextOrder_L47 n x y b o = some (r, o1) → ∃ p1 : Nat → Int32, m_Exch_nextOrder_L47 n x y b p = some (r, p1) ∧ E5 o1 p1 := by
  intro n
  induction n with
  | zero =>
    intro y o1 r h
    have h : (none : Option (Int32 × (Nat → Int32))) = some (r, o1) := h
    cases h
  | succ n ih =>
    intro y o1 r h
    have h : m_Exch_nextOrder_B47 (m_Exch_nextOrder_L47 n) x y b o = some (r, o1) := h
    show ∃ p1 : Nat → Int32, m_Exch_nextOrder_B47 (m_Exch_nextOrder_L47 n) x y b p = some (r, p1) ∧ E5 o1 p1
    unfold m_Exch_nextOrder_B47 at h ⊢
    by_cases c : y ≤ x
    · rw [if_pos c] at h; rw [if_pos c]
      exact n73_c e h
    · rw [if_neg c] at h; rw [if_neg c]
      obtain ⟨v1, h⟩ := kg_some h
      obtain ⟨v2, h⟩ := kg_some h
      rw [kg_v v1, kg_v v2]
      by_cases c2 : o x.toNatClampNeg ≤ o y.toNatClampNeg
      · rw [if_pos c2] at h
        rw [e _ (lt5 v2), e _ (lt5 v1)] at c2
        rw [if_pos c2]
        exact n73_c e h
      · rw [if_neg c2] at h
        rw [e _ (lt5 v2), e _ (lt5 v1)] at c2
        rw [if_neg c2]
        exact ih _ _ _ h
theorem n34_c {b x : Int32} {o p o1 : Nat → Int32} {r : Int32} (e : E5 o p) (h : m_Exch_nextOrder_B34 x b o = some (r, o1)) : ∃ p1 : Nat → Int32, m_Exch_nextOrder_B34 x b p = some (r, p1) ∧ E5 o1 p1 := by
  unfold m_Exch_nextOrder_B34 at h ⊢
  by_cases c : 0 ≤ x
  · rw [if_pos c] at h; rw [if_pos c]
    exact n47_c e _ _ _ _ h
  · rw [if_neg c] at h; rw [if_neg c]
    obtain ⟨q1, q2⟩ := Prod.mk.inj (Option.some.inj h)
    subst q1 q2
    exact ⟨p, rfl, e⟩
theorem n7_c {b : Int32} {o p : Nat → Int32} (e : E5 o p) : ∀ (n : Nat) (x : Int32) (o1 : Nat → Int32) (r : Int32), m_Exch_nextOrder_L7 n x b o = some (r, o1) → ∃ p1 : Nat → Int32, m_Exch_nextOrder_L7 n x b p = some (r, p1) ∧ E5 o1 p1 := by
  intro n
  induction n with
  | zero =>
    intro x o1 r h
    have h : (none : Option (Int32 × (Nat → Int32))) = some (r, o1) := h
    cases h
  | succ n ih =>
    intro x o1 r h
    have h : m_Exch_nextOrder_B7 (m_Exch_nextOrder_L7 n) x b o = some (r, o1) := h
    show ∃ p1 : Nat → Int32, m_Exch_nextOrder_B7 (m_Exch_nextOrder_L7 n) x b p = some (r, p1) ∧ E5 o1 p1
    unfold m_Exch_nextOrder_B7 at h ⊢
    by_cases c : x < 0
    · rw [if_pos c] at h; rw [if_pos c]
      exact n34_c e h
    · rw [if_neg c] at h; rw [if_neg c]
      obtain ⟨v1, h⟩ := kg_some h
      obtain ⟨v2, h⟩ := kg_some h
      rw [kg_v v1, kg_v v2]
      by_cases c2 : o x.toNatClampNeg ≤ o (x + 1).toNatClampNeg
      · rw [if_pos c2] at h
        rw [e _ (lt5 v1), e _ (lt5 v2)] at c2
        rw [if_pos c2]
        exact n34_c e h
      · rw [if_neg c2] at h
        rw [e _ (lt5 v1), e _ (lt5 v2)] at c2
        rw [if_neg c2]
        exact ih _ _ _ h
theorem nx_c {b : Int32} {o p o1 : Nat → Int32} {r : Int32} (e : E5 o p) (h : m_Exch_nextOrder b o = some (r, o1)) : ∃ p1 : Nat → Int32, m_Exch_nextOrder b p = some (r, p1) ∧ E5 o1 p1 := n7_c e _ _ _ _ h
theorem ro_c {b : Int32} {o p : Nat → Int32} (e : E5 o p) : ∀ (n : Nat) (x2 x3 x4 r : Int32), m_Exch_ringOf_L7 n x2 x3 x4 b o = some r → m_Exch_ringOf_L7 n x2 x3 x4 b p = some r := by
  intro n
  induction n with
  | zero =>
    intro x2 x3 x4 r h
    have h : (none : Option Int32) = some r := h
    cases h
  | succ n ih =>
    intro x2 x3 x4 r h
    have h : m_Exch_ringOf_B7 (m_Exch_ringOf_L7 n) x2 x3 x4 b o = some r := h
    show m_Exch_ringOf_B7 (m_Exch_ringOf_L7 n) x2 x3 x4 b p = some r
    unfold m_Exch_ringOf_B7 at h ⊢
    by_cases c1 : b ≤ x4
    · rw [if_pos c1] at h; rw [if_pos c1]; exact h
    · rw [if_neg c1] at h; rw [if_neg c1]
      by_cases c2 : x3 < 0
      · rw [if_pos c2] at h; rw [if_pos c2]; exact h
      · rw [if_neg c2] at h; rw [if_neg c2]
        by_cases c3 : b ≤ x3
        · rw [if_pos c3] at h; rw [if_pos c3]; exact h
        · rw [if_neg c3] at h; rw [if_neg c3]
          obtain ⟨v1, h⟩ := kg_some h
          rw [kg_v v1]
          rw [e _ (lt5 v1)] at h
          exact ih _ _ _ _ h
theorem rg_c {b : Int32} {o p : Nat → Int32} (e : E5 o p) : ∀ (n : Nat) (x1 x2 x3 r : Int32), m_Exch_rings_L6 n x1 x2 x3 b o = some r → m_Exch_rings_L6 n x1 x2 x3 b p = some r := by
  intro n
  induction n with
  | zero =>
    intro x1 x2 x3 r h
    have h : (none : Option Int32) = some r := h
    cases h
  | succ n ih =>
    intro x1 x2 x3 r h
    have h : m_Exch_rings_B6 (m_Exch_rings_L6 n) x1 x2 x3 b o = some r := h
    show m_Exch_rings_B6 (m_Exch_rings_L6 n) x1 x2 x3 b p = some r
    unfold m_Exch_rings_B6 m_Exch_rings_B36 at h ⊢
    by_cases c1 : b ≤ x3
    · rw [if_pos c1] at h; rw [if_pos c1]; exact h
    · rw [if_neg c1] at h; rw [if_neg c1]
      by_cases c2 : ((x2 >>> (x3 &&& 31)) &&& 1) = 0
      · rw [if_pos c2] at h; rw [if_pos c2]
        obtain ⟨a, h1, h2⟩ := kb1_some h
        have h3 : m_Exch_ringOf x3 b p = some a := ro_c e _ _ _ _ _ h1
        rw [h3, kb1_e]
        exact ih _ _ _ _ h2
      · rw [if_neg c2] at h; rw [if_neg c2]
        exact ih _ _ _ _ h
theorem rings_c {b r : Int32} {o p : Nat → Int32} (e : E5 o p) (h : m_Exch_rings b o = some r) : m_Exch_rings b p = some r := rg_c e _ _ _ _ _ h
theorem c53_c {B k : Nat} {o p : Nat → Int32} {kk kk' : Int32 → Int32 → Int32 → (Nat → Int32) → Option Int32} (hB : B ≤ 5) (hkB : k < B) (e : ∀ i : Nat, i < B → o i = p i) (hk : ∀ x r : Int32, kk x (nI (k + 1)) (nI B) o = some r → kk' x (nI (k + 1)) (nI B) p = some r) {x1 x3 r : Int32} (h : m_Ref_changesOf_B53 kk x1 (nI k) x3 (nI B) o = some r) : m_Ref_changesOf_B53 kk' x1 (nI k) x3 (nI B) p = some r := by
  unfold m_Ref_changesOf_B53 m_Ref_changesOf_B73 m_Ref_changesOf_B74 at h ⊢
  rw [kg_i (by omega) (by omega), nI_clamp (by omega), nI_1, e k hkB] at h
  rw [kg_i (by omega) (by omega), nI_clamp (by omega), nI_1]
  by_cases c1 : p k = nI k
  · rw [if_pos c1] at h; rw [if_pos c1]; exact hk _ _ h
  · rw [if_neg c1] at h; rw [if_neg c1]
    by_cases c2 : x3 = nI k
    · rw [if_pos c2] at h; rw [if_pos c2]; exact hk _ _ h
    · rw [if_neg c2] at h; rw [if_neg c2]; exact hk _ _ h
theorem c22_c {B k : Nat} {o p : Nat → Int32} {kk kk' : Int32 → Int32 → Int32 → (Nat → Int32) → Option Int32} (hB : B ≤ 5) (hkB : k < B) (e : ∀ i : Nat, i < B → o i = p i) (ev : ∀ i : Nat, i < B → ∃ v : Nat, v < B ∧ p i = nI v) (hk : ∀ x r : Int32, kk x (nI (k + 1)) (nI B) o = some r → kk' x (nI (k + 1)) (nI B) p = some r) : ∀ (n v : Nat) (x1 x3 r : Int32), v < B → m_Ref_changesOf_L22 kk n x1 (nI k) x3 (nI v) (nI B) o = some r → m_Ref_changesOf_L22 kk' n x1 (nI k) x3 (nI v) (nI B) p = some r := by
  intro n
  induction n with
  | zero =>
    intro v x1 x3 r hv h
    have h : (none : Option Int32) = some r := h
    cases h
  | succ n ih =>
    intro v x1 x3 r hv h
    have h : m_Ref_changesOf_B22 kk (m_Ref_changesOf_L22 kk n) x1 (nI k) x3 (nI v) (nI B) o = some r := h
    show m_Ref_changesOf_B22 kk' (m_Ref_changesOf_L22 kk' n) x1 (nI k) x3 (nI v) (nI B) p = some r
    obtain ⟨u, hu, eu⟩ := ev v hv
    unfold m_Ref_changesOf_B22 m_Ref_changesOf_B40 at h ⊢
    by_cases c1 : nI v = nI k
    · rw [if_pos c1] at h; rw [if_pos c1]; exact c53_c hB hkB e hk h
    · rw [if_neg c1] at h; rw [if_neg c1]
      by_cases c2 : x3 ≤ nI v
      · rw [if_pos c2, kg_i (by omega) (by omega), nI_clamp (by omega), e v hv, eu] at h
        rw [if_pos c2, kg_i (by omega) (by omega), nI_clamp (by omega), eu]
        exact ih _ _ _ _ hu h
      · rw [if_neg c2, kg_i (by omega) (by omega), nI_clamp (by omega), e v hv, eu] at h
        rw [if_neg c2, kg_i (by omega) (by omega), nI_clamp (by omega), eu]
        exact ih _ _ _ _ hu h
theorem c4_c {B : Nat} {o p : Nat → Int32} (hB : B ≤ 5) (e : ∀ i : Nat, i < B → o i = p i) (ev : ∀ i : Nat, i < B → ∃ v : Nat, v < B ∧ p i = nI v) : ∀ (n k : Nat) (x1 r : Int32), k ≤ B → m_Ref_changesOf_L4 n x1 (nI k) (nI B) o = some r → m_Ref_changesOf_L4 n x1 (nI k) (nI B) p = some r := by
  intro n
  induction n with
  | zero =>
    intro k x1 r hk h
    have h : (none : Option Int32) = some r := h
    cases h
  | succ n ih =>
    intro k x1 r hk h
    have h : m_Ref_changesOf_B4 (m_Ref_changesOf_L4 n) x1 (nI k) (nI B) o = some r := h
    show m_Ref_changesOf_B4 (m_Ref_changesOf_L4 n) x1 (nI k) (nI B) p = some r
    unfold m_Ref_changesOf_B4 at h ⊢
    by_cases c1 : B ≤ k
    · have c2 := cle (a := B) (b := k) (by omega) (by omega) c1
      rw [if_pos c2] at h; rw [if_pos c2]; exact h
    · have c2 := ncle (a := B) (b := k) (by omega) (by omega) (by omega)
      obtain ⟨u, hu, eu⟩ := ev k (by omega)
      rw [if_neg c2, kg_i (by omega) (by omega), nI_clamp (by omega), e k (by omega), eu] at h
      rw [if_neg c2, kg_i (by omega) (by omega), nI_clamp (by omega), eu]
      exact c22_c hB (by omega) e ev (fun x r q => ih (k + 1) x r (by omega) q) _ _ _ _ _ hu h
theorem cof_c {B : Nat} {r : Int32} {o p : Nat → Int32} (hB : B ≤ 5) (e : ∀ i : Nat, i < B → o i = p i) (ev : ∀ i : Nat, i < B → ∃ v : Nat, v < B ∧ p i = nI v) (h : m_Ref_changesOf (nI B) o = some r) : m_Ref_changesOf (nI B) p = some r := c4_c hB e ev FU 0 _ _ (Nat.zero_le B) h
theorem am1 (k : Nat) : nI k + (-1) = om k := (Int32.sub_eq_add_neg _ _).symm
theorem tg_c {B : Nat} {b : Int32} (hB : B ≤ 5) : ∀ (n k : Nat) (x2 x3 x4 r : Int32) (g g' g1 : Nat → Int32), k ≤ B → (∀ i : Nat, k ≤ i → i < B → g i = g' i) → m_Ref_takeGiven_L15 n x2 x3 x4 (om k) b g = some (r, g1) → ∃ g2 : Nat → Int32, m_Ref_takeGiven_L15 n x2 x3 x4 (om k) b g' = some (r, g2) ∧ ∀ i : Nat, i < B → g1 i = g2 i := by
  intro n
  induction n with
  | zero =>
    intro k x2 x3 x4 r g g' g1 hk e h
    have h : (none : Option (Int32 × (Nat → Int32))) = some (r, g1) := h
    cases h
  | succ n ih =>
    intro k x2 x3 x4 r g g' g1 hk e h
    have h : m_Ref_takeGiven_B15 (m_Ref_takeGiven_L15 n) x2 x3 x4 (om k) b g = some (r, g1) := h
    show ∃ g2 : Nat → Int32, m_Ref_takeGiven_B15 (m_Ref_takeGiven_L15 n) x2 x3 x4 (om k) b g' = some (r, g2) ∧ ∀ i : Nat, i < B → g1 i = g2 i
    unfold m_Ref_takeGiven_B15 m_Ref_takeGiven_B71 m_Ref_takeGiven_B72 at h ⊢
    cases k with
    | zero =>
      have c : om 0 < 0 := by decide
      rw [if_pos c] at h; rw [if_pos c]
      by_cases cx : x4 = 0 ∨ x4 = 1
      · have h : (if x4 = 0 ∨ x4 = 1 then some (x4, g) else none) = some (r, g1) := h
        rw [if_pos cx] at h
        obtain ⟨q1, q2⟩ := Prod.mk.inj (Option.some.inj h)
        subst q1 q2
        exact ⟨g', if_pos cx, fun i hi => e i (Nat.zero_le i) hi⟩
      · have h : (if x4 = 0 ∨ x4 = 1 then some (x4, g) else none) = some (r, g1) := h
        rw [if_neg cx] at h
        cases h
    | succ k =>
      have c : ¬ nI k < 0 := nI_pos (by omega)
      have ez : ∀ K : Option (Int32 × (Nat → Int32)), kz 5 K = K := fun K => kz_i (d := 5) (by omega) (by omega)
      have em : nI k + (-1) = om k := am1 k
      have ee : ∀ v : Int32, ∀ i : Nat, k ≤ i → i < B → upd g k v i = upd g' k v i := by
        intro v i h1 h2
        by_cases q : i = k
        · subst q; rw [pk_us, pk_us]
        · rw [pk_un (by omega), pk_un (by omega)]; exact e i (by omega) h2
      rw [om_s, if_neg c, ez, kg_i (by omega) (by omega), ez, nI_clamp (by omega), pk_us, em] at h
      rw [om_s, if_neg c, ez, kg_i (by omega) (by omega), ez, nI_clamp (by omega), pk_us, em]
      have kk : ∀ K : Option (Int32 × (Nat → Int32)), kg (nI k) 5 K = K := fun K => kg_i (by omega) (by omega)
      simp only [kk] at h ⊢
      by_cases c1 : x4 = 0
      · rw [if_pos c1] at h; rw [if_pos c1]
        exact ih k _ _ _ _ _ _ _ (by omega) (ee _) h
      · rw [if_neg c1] at h; rw [if_neg c1]
        by_cases c2 : b ≤ x2 - x2 / 5 * 5
        · rw [if_pos c2] at h; rw [if_pos c2]
          exact ih k _ _ _ _ _ _ _ (by omega) (ee _) h
        · rw [if_neg c2] at h; rw [if_neg c2]
          by_cases c3 : ((x3 >>> ((x2 - x2 / 5 * 5) &&& 31)) &&& 1) = 0
          · rw [if_pos c3] at h; rw [if_pos c3]
            exact ih k _ _ _ _ _ _ _ (by omega) (ee _) h
          · rw [if_neg c3] at h; rw [if_neg c3]
            exact ih k _ _ _ _ _ _ _ (by omega) (ee _) h
theorem tgiven_c {B : Nat} {x r : Int32} {g g' g1 : Nat → Int32} (hB : B ≤ 5) (h : m_Ref_takeGiven x (nI B) g = some (r, g1)) : ∃ g2 : Nat → Int32, m_Ref_takeGiven x (nI B) g' = some (r, g2) ∧ ∀ i : Nat, i < B → g1 i = g2 i :=
  tg_c hB FU B _ _ _ _ g g' g1 (Nat.le_refl B) (fun i h1 h2 => absurd h1 (by omega)) h
