/-! ===== water: cuts and boats as they are read ===== -/
def CutOK (J C : Nat) (cA cB cH r1 r2 rH : Nat → Int32) (A B H : Nat → Nat) : Prop :=
  (∀ k : Nat, k < C → (A k < J ∧ B k < J ∧ A k ≠ B k ∧ H k ≤ 99) ∧ (cA k = nI (A k) ∧ cB k = nI (B k) ∧ cH k = nI (H k)) ∧ (r1 k = nI (A k) ∧ r2 k = nI (B k) ∧ rH k = nI (H k))) ∧
  ∀ k i : Nat, k < C → i < k → ¬ ((A i = A k ∧ B i = B k) ∨ (A i = B k ∧ B i = A k))
def BoatOK (J B : Nat) (bA bP bW rA rP rW : Nat → Int32) : Prop := ∀ b : Nat, b < B → ∃ j p w : Nat, (j < J ∧ p ≤ 999 ∧ w ≤ 99) ∧ (bA b = nI j ∧ bP b = nI p ∧ bW b = nI w) ∧ (rA b = nI j ∧ rP b = nI p ∧ rW b = nI w)
def St (J C B : Nat) (cA cB cH bA bP bW r1 r2 rH rA rP rW : Nat → Int32) : Prop := C ≤ 14 ∧ B ≤ 5 ∧ (∃ A Bq H : Nat → Nat, CutOK J C cA cB cH r1 r2 rH A Bq H) ∧ BoatOK J B bA bP bW rA rP rW
theorem other_i {k C : Nat} {x : Int32} {cA cB : Nat → Int32} (hC : C ≤ 14) (hk : k < C) : m_Water_otherEnd (nI k) x (nI C) cA cB = some (if cA k = x then cB k else if cB k = x then cA k else -1) := by
  unfold m_Water_otherEnd
  rw [hasCut_t hC (vp_nI hk (by omega)), kb1_e, if_neg n1, kg_i (by omega) (by omega), kg_i (by omega) (by omega), kg_i (by omega) (by omega), kg_i (by omega) (by omega), nI_clamp (by omega)]
  by_cases c1 : cA k = x
  · rw [if_pos c1, if_pos c1]
  · rw [if_neg c1, if_neg c1]
    by_cases c2 : cB k = x
    · rw [if_pos c2, if_pos c2]
    · rw [if_neg c2, if_neg c2]
theorem jn_any {C : Nat} {x y : Int32} {cA cB : Nat → Int32} (hC : C ≤ 14) : ∀ (d k n : Nat), k + d = C → d < n → ∃ r : Int32, m_Water_joined_L2 n x y (nI k) (nI C) cA cB = some r := by
  intro d
  induction d with
  | zero =>
    intro k n hk hn
    obtain ⟨n, rfl, -⟩ := fuS hn
    refine ⟨0, ?_⟩
    show m_Water_joined_B2 (m_Water_joined_L2 n) x y (nI k) (nI C) cA cB = _
    unfold m_Water_joined_B2
    rw [if_pos (cle (by omega) (by omega) (by omega))]
  | succ d ih =>
    intro k n hk hn
    obtain ⟨n, rfl, hn'⟩ := fuS hn
    obtain ⟨r, hr⟩ := ih (k + 1) n (by omega) (by omega)
    have e : m_Water_joined_L2 (n + 1) x y (nI k) (nI C) cA cB = m_Water_joined_B2 (m_Water_joined_L2 n) x y (nI k) (nI C) cA cB := rfl
    rw [e]
    unfold m_Water_joined_B2
    rw [if_neg (ncle (by omega) (by omega) (by omega)), other_i hC (by omega), kb1_e, nI_1, hr]
    by_cases c1 : (if cA k = x then cB k else if cB k = x then cA k else -1) = y
    · rw [if_pos c1]; exact ⟨1, rfl⟩
    · rw [if_neg c1]; exact ⟨r, rfl⟩
def jb (A B : Nat → Nat) (a b : Nat) : Nat → Nat → Bool
  | 0, _ => false
  | d + 1, k => decide ((A k = a ∧ B k = b) ∨ (A k = b ∧ B k = a)) || jb A B a b d (k + 1)
theorem jb_f {A B : Nat → Nat} {a b : Nat} : ∀ d k : Nat, jb A B a b d k = false → ∀ i : Nat, k ≤ i → i < k + d → ¬ ((A i = a ∧ B i = b) ∨ (A i = b ∧ B i = a)) := by
  intro d
  induction d with
  | zero => intro k _ i h1 h2; omega
  | succ d ih =>
    intro k h i h1 h2
    have h : (decide ((A k = a ∧ B k = b) ∨ (A k = b ∧ B k = a)) || jb A B a b d (k + 1)) = false := h
    rw [Bool.or_eq_false_iff] at h
    by_cases q : i = k
    · subst q; exact of_decide_eq_false h.1
    · exact ih (k + 1) h.2 i (by omega) (by omega)
theorem jn_i {J C a b : Nat} {cA cB cH r1 r2 rH : Nat → Int32} {A B H : Nat → Nat} (hJ : J ≤ 9) (hC : C ≤ 14) (ha : a < J) (hb : b < J) (hab : a ≠ b) (hk : CutOK J C cA cB cH r1 r2 rH A B H) :
    ∀ (d k n : Nat), k + d = C → d < n → m_Water_joined_L2 n (nI a) (nI b) (nI k) (nI C) cA cB = some (if jb A B a b d k = true then 1 else 0) := by
  intro d
  induction d with
  | zero =>
    intro k n hk' hn
    obtain ⟨n, rfl, -⟩ := fuS hn
    show m_Water_joined_B2 (m_Water_joined_L2 n) (nI a) (nI b) (nI k) (nI C) cA cB = some (if false = true then 1 else 0)
    unfold m_Water_joined_B2
    rw [if_pos (cle (by omega) (by omega) (by omega)), if_neg (by decide)]
  | succ d ih =>
    intro k n hk' hn
    obtain ⟨n, rfl, hn'⟩ := fuS hn
    obtain ⟨⟨hA, hB, hne, -⟩, ⟨eA, eB, -⟩, -⟩ := hk.1 k (by omega)
    have i := ih (k + 1) n (by omega) (by omega)
    show m_Water_joined_B2 (m_Water_joined_L2 n) (nI a) (nI b) (nI k) (nI C) cA cB = some (if (decide ((A k = a ∧ B k = b) ∨ (A k = b ∧ B k = a)) || jb A B a b d (k + 1)) = true then 1 else 0)
    unfold m_Water_joined_B2
    rw [if_neg (ncle (by omega) (by omega) (by omega)), other_i hC (by omega), kb1_e, nI_1, i, eA, eB]
    by_cases c : (A k = a ∧ B k = b) ∨ (A k = b ∧ B k = a)
    · have v : (if nI (A k) = nI a then nI (B k) else if nI (B k) = nI a then nI (A k) else -1) = nI b := by
        rcases c with ⟨c1, c2⟩ | ⟨c1, c2⟩
        · rw [c1, c2, if_pos rfl]
        · rw [c1, c2, if_neg (nceq (by omega) (by omega) (by omega)), if_pos rfl]
      rw [if_pos v, decide_eq_true c, Bool.true_or, if_pos rfl]
    · have v : ¬ (if nI (A k) = nI a then nI (B k) else if nI (B k) = nI a then nI (A k) else -1) = nI b := by
        by_cases c1 : A k = a
        · rw [if_pos (congrArg nI c1)]
          exact nceq (by omega) (by omega) (fun z => c (Or.inl ⟨c1, z⟩))
        · rw [if_neg (nceq (by omega) (by omega) c1)]
          by_cases c2 : B k = a
          · rw [if_pos (congrArg nI c2)]
            exact nceq (by omega) (by omega) (fun z => c (Or.inr ⟨z, c2⟩))
          · rw [if_neg (nceq (by omega) (by omega) c2)]
            intro z
            have z2 := congrArg Int32.toInt z
            rw [nI_toInt (by omega)] at z2
            have z3 : ((-1 : Int32)).toInt = -1 := by decide
            rw [z3] at z2; omega
      rw [if_neg v, decide_eq_false c, Bool.false_or]
theorem b100_i {kk : Int32 → Int32 → Int32 → (Nat → Int32) → (Nat → Int32) → Option Int32} {x1 x2 x3 x4 k0 : Int32} {o1 o2 : Nat → Int32} : m_Ref_isCutAlready_B100 kk x1 x2 x3 x4 k0 o1 o2 = kk x1 (if x2 = 0 ∧ x4 = 0 ∧ k0 = 0 then 0 else 1) (x3 + 1) o1 o2 := by
  unfold m_Ref_isCutAlready_B100 m_Ref_isCutAlready_B116 m_Ref_isCutAlready_B121
  by_cases c1 : x2 = 0
  · rw [if_pos c1]
    by_cases c2 : x4 = 0
    · rw [if_pos c2]
      by_cases c3 : k0 = 0
      · rw [if_pos c3, if_pos ⟨c1, c2, c3⟩]
      · rw [if_neg c3, if_neg (fun h => c3 h.2.2)]
    · rw [if_neg c2, if_neg (fun h => c2 h.2.1)]
  · rw [if_neg c1, if_neg (fun h => c1 h.1)]
theorem b63_i {k C : Nat} {kk : Int32 → Int32 → Int32 → (Nat → Int32) → (Nat → Int32) → Option Int32} {x2 x4 : Int32} {o1 o2 : Nat → Int32} (hk : k < 14) (hC : C < 14) : m_Ref_isCutAlready_B63 kk (nI C) x2 (nI k) x4 o1 o2 = kk (nI C) (if x2 = 0 ∧ x4 = 0 ∧ ¬ (o1 k = o2 C ∧ o2 k = o1 C) then 0 else 1) (nI (k + 1)) o1 o2 := by
  have q1 : ∀ K : Option Int32, kg (nI k) 14 K = K := fun K => kg_i (by omega) (by omega)
  have q2 : ∀ K : Option Int32, kg (nI C) 14 K = K := fun K => kg_i (by omega) (by omega)
  unfold m_Ref_isCutAlready_B63 m_Ref_isCutAlready_B99
  rw [b100_i, b100_i, q1, q2, q1, q2, nI_clamp (n := k) (by omega), nI_clamp (n := C) (by omega), nI_1]
  by_cases c1 : o1 k = o2 C
  · rw [if_pos c1]
    by_cases c2 : o2 k = o1 C
    · rw [if_pos c2, if_neg (show ¬ (x2 = 0 ∧ x4 = 0 ∧ (1 : Int32) = 0) from fun h => n1 h.2.2), if_neg (show ¬ (x2 = 0 ∧ x4 = 0 ∧ ¬ (o1 k = o2 C ∧ o2 k = o1 C)) from fun h => h.2.2 ⟨c1, c2⟩)]
    · rw [if_neg c2]
      by_cases c3 : x2 = 0 ∧ x4 = 0
      · rw [if_pos (show x2 = 0 ∧ x4 = 0 ∧ (0 : Int32) = 0 from ⟨c3.1, c3.2, rfl⟩), if_pos (show x2 = 0 ∧ x4 = 0 ∧ ¬ (o1 k = o2 C ∧ o2 k = o1 C) from ⟨c3.1, c3.2, fun h => c2 h.2⟩)]
      · rw [if_neg (show ¬ (x2 = 0 ∧ x4 = 0 ∧ (0 : Int32) = 0) from fun h => c3 ⟨h.1, h.2.1⟩), if_neg (show ¬ (x2 = 0 ∧ x4 = 0 ∧ ¬ (o1 k = o2 C ∧ o2 k = o1 C)) from fun h => c3 ⟨h.1, h.2.1⟩)]
  · rw [if_neg c1]
    by_cases c3 : x2 = 0 ∧ x4 = 0
    · rw [if_pos (show x2 = 0 ∧ x4 = 0 ∧ (0 : Int32) = 0 from ⟨c3.1, c3.2, rfl⟩), if_pos (show x2 = 0 ∧ x4 = 0 ∧ ¬ (o1 k = o2 C ∧ o2 k = o1 C) from ⟨c3.1, c3.2, fun h => c1 h.1⟩)]
    · rw [if_neg (show ¬ (x2 = 0 ∧ x4 = 0 ∧ (0 : Int32) = 0) from fun h => c3 ⟨h.1, h.2.1⟩), if_neg (show ¬ (x2 = 0 ∧ x4 = 0 ∧ ¬ (o1 k = o2 C ∧ o2 k = o1 C)) from fun h => c3 ⟨h.1, h.2.1⟩)]
theorem b23_i {k C : Nat} {kk : Int32 → Int32 → Int32 → (Nat → Int32) → (Nat → Int32) → Option Int32} {x2 : Int32} {o1 o2 : Nat → Int32} (hk : k < C) (hC : C < 14) : m_Ref_isCutAlready_B23 kk (nI C) x2 (nI k) o1 o2 = kk (nI C) (if x2 = 0 ∧ ¬ (o1 k = o1 C ∧ o2 k = o2 C) ∧ ¬ (o1 k = o2 C ∧ o2 k = o1 C) then 0 else 1) (nI (k + 1)) o1 o2 := by
  have q1 : ∀ K : Option Int32, kg (nI k) 14 K = K := fun K => kg_i (by omega) (by omega)
  have q2 : ∀ K : Option Int32, kg (nI C) 14 K = K := fun K => kg_i (by omega) (by omega)
  unfold m_Ref_isCutAlready_B23 m_Ref_isCutAlready_B62
  rw [if_neg (ncle (by omega) (by omega) (by omega)), b63_i (by omega) hC, b63_i (by omega) hC, q1, q2, q1, q2, nI_clamp (n := k) (by omega), nI_clamp (n := C) (by omega)]
  by_cases c0 : o1 k = o1 C ∧ o2 k = o2 C
  · rw [if_pos c0.1, if_pos c0.2, if_neg (show ¬ (x2 = 0 ∧ (1 : Int32) = 0 ∧ ¬ (o1 k = o2 C ∧ o2 k = o1 C)) from fun h => n1 h.2.1), if_neg (show ¬ (x2 = 0 ∧ ¬ (o1 k = o1 C ∧ o2 k = o2 C) ∧ ¬ (o1 k = o2 C ∧ o2 k = o1 C)) from fun h => h.2.1 c0)]
  · have fin : kk (nI C) (if x2 = 0 ∧ (0 : Int32) = 0 ∧ ¬ (o1 k = o2 C ∧ o2 k = o1 C) then 0 else 1) (nI (k + 1)) o1 o2 = kk (nI C) (if x2 = 0 ∧ ¬ (o1 k = o1 C ∧ o2 k = o2 C) ∧ ¬ (o1 k = o2 C ∧ o2 k = o1 C) then 0 else 1) (nI (k + 1)) o1 o2 := by
      by_cases c3 : x2 = 0 ∧ ¬ (o1 k = o2 C ∧ o2 k = o1 C)
      · rw [if_pos (show x2 = 0 ∧ (0 : Int32) = 0 ∧ ¬ (o1 k = o2 C ∧ o2 k = o1 C) from ⟨c3.1, rfl, c3.2⟩), if_pos (show x2 = 0 ∧ ¬ (o1 k = o1 C ∧ o2 k = o2 C) ∧ ¬ (o1 k = o2 C ∧ o2 k = o1 C) from ⟨c3.1, c0, c3.2⟩)]
      · rw [if_neg (show ¬ (x2 = 0 ∧ (0 : Int32) = 0 ∧ ¬ (o1 k = o2 C ∧ o2 k = o1 C)) from fun h => c3 ⟨h.1, h.2.2⟩), if_neg (show ¬ (x2 = 0 ∧ ¬ (o1 k = o1 C ∧ o2 k = o2 C) ∧ ¬ (o1 k = o2 C ∧ o2 k = o1 C)) from fun h => c3 ⟨h.1, h.2.2⟩)]
    by_cases c1 : o1 k = o1 C
    · rw [if_pos c1]
      by_cases c2 : o2 k = o2 C
      · exact absurd ⟨c1, c2⟩ c0
      · rw [if_neg c2]; exact fin
    · rw [if_neg c1]; exact fin
theorem ca_loop {J C a b : Nat} {cA cB cH r1 r2 rH : Nat → Int32} {A B H : Nat → Nat} (hJ : J ≤ 9) (hC : C < 14) (ha : a < J) (hb : b < J) (hk : CutOK J C cA cB cH r1 r2 rH A B H) :
    ∀ (d k n : Nat) (s : Bool), k + d = C → d < n → m_Ref_isCutAlready_L23 n (nI C) (if s = true then 1 else 0) (nI k) (upd r1 C (nI a)) (upd r2 C (nI b)) = some (if (s || jb A B a b d k) = true then 1 else 0) := by
  intro d
  induction d with
  | zero =>
    intro k n s hk' hn
    obtain ⟨n, rfl, -⟩ := fuS hn
    show m_Ref_isCutAlready_B23 (m_Ref_isCutAlready_L23 n) (nI C) (if s = true then 1 else 0) (nI k) (upd r1 C (nI a)) (upd r2 C (nI b)) = some (if (s || false) = true then 1 else 0)
    unfold m_Ref_isCutAlready_B23
    rw [if_pos (cle (by omega) (by omega) (by omega)), Bool.or_false]
    cases s with
    | true => rw [if_pos rfl, ko_1]
    | false => rw [if_neg (show ¬ (false = true) by decide), ko_0]
  | succ d ih =>
    intro k n s hk' hn
    obtain ⟨n, rfl, hn'⟩ := fuS hn
    obtain ⟨⟨hA, hB, hne, -⟩, -, ⟨eA, eB, -⟩⟩ := hk.1 k (by omega)
    have i := ih (k + 1) n (s || decide ((A k = a ∧ B k = b) ∨ (A k = b ∧ B k = a))) (by omega) (by omega)
    have e1 : upd r1 C (nI a) k = nI (A k) := by rw [pk_un (by omega)]; exact eA
    have e2 : upd r2 C (nI b) k = nI (B k) := by rw [pk_un (by omega)]; exact eB
    have e3 : upd r1 C (nI a) C = nI a := pk_us
    have e4 : upd r2 C (nI b) C = nI b := pk_us
    show m_Ref_isCutAlready_B23 (m_Ref_isCutAlready_L23 n) (nI C) (if s = true then 1 else 0) (nI k) (upd r1 C (nI a)) (upd r2 C (nI b)) = some (if (s || (decide ((A k = a ∧ B k = b) ∨ (A k = b ∧ B k = a)) || jb A B a b d (k + 1))) = true then 1 else 0)
    rw [← Bool.or_assoc, ← i, b23_i (show k < C by omega) hC, e1, e2, e3, e4]
    have fl : (if (if s = true then (1 : Int32) else 0) = 0 ∧ ¬ (nI (A k) = nI a ∧ nI (B k) = nI b) ∧ ¬ (nI (A k) = nI b ∧ nI (B k) = nI a) then (0 : Int32) else 1) = if (s || decide ((A k = a ∧ B k = b) ∨ (A k = b ∧ B k = a))) = true then 1 else 0 := by
      cases s with
      | true =>
        rw [if_pos (show true = true from rfl), Bool.true_or, if_pos (show true = true from rfl), if_neg (fun h => n1 h.1)]
      | false =>
        rw [if_neg (show ¬ (false = true) by decide), Bool.false_or]
        by_cases c : (A k = a ∧ B k = b) ∨ (A k = b ∧ B k = a)
        · rw [decide_eq_true c, if_pos (show true = true from rfl), if_neg]
          rintro ⟨-, h1, h2⟩
          rcases c with c | c
          · exact h1 ⟨congrArg nI c.1, congrArg nI c.2⟩
          · exact h2 ⟨congrArg nI c.1, congrArg nI c.2⟩
        · rw [decide_eq_false c, if_neg (show ¬ (false = true) by decide), if_pos]
          refine ⟨rfl, fun h => c (Or.inl ⟨?_, ?_⟩), fun h => c (Or.inr ⟨?_, ?_⟩)⟩
          · exact (nI_eq (by omega) (by omega)).mp h.1
          · exact (nI_eq (by omega) (by omega)).mp h.2
          · exact (nI_eq (by omega) (by omega)).mp h.1
          · exact (nI_eq (by omega) (by omega)).mp h.2
    rw [fl]
theorem ca_i {J C a b : Nat} {cA cB cH r1 r2 rH : Nat → Int32} {A B H : Nat → Nat} (hJ : J ≤ 9) (hC : C < 14) (ha : a < J) (hb : b < J) (hk : CutOK J C cA cB cH r1 r2 rH A B H) :
    m_Ref_isCutAlready (nI C) (upd r1 C (nI a)) (upd r2 C (nI b)) = some (if (decide (a = b) || jb A B a b C 0) = true then 1 else 0) := by
  have l := ca_loop hJ hC ha hb hk C 0 FU (decide (a = b)) (by omega) (FU_gt (by omega))
  unfold m_Ref_isCutAlready m_Ref_isCutAlready_B20
  rw [kg_i (by omega) (by omega), kg_i (by omega) (by omega), nI_clamp (by omega), pk_us, pk_us, ← l]
  by_cases c : a = b
  · rw [if_pos (congrArg nI c), decide_eq_true c, if_pos rfl]; rfl
  · rw [if_neg (nceq (by omega) (by omega) c), decide_eq_false c, if_neg (by decide)]; rfl
theorem b47_f {x y F p na fk fa J cu : Int32} {tx cA cB cH : Nat → Int32} (h : ¬ fk = 0) : m_Reader_readCut_B47 x y F p na fk fa tx J cu cA cB cH = some (p, na, fk, fa, cu, cA, cB, cH) := by
  unfold m_Reader_readCut_B47
  rw [num_f h, kb5_e, sign_f h, kb3_e, if_neg h]
theorem b38_f {x y F p na fk fa J cu : Int32} {tx cA cB cH : Nat → Int32} (h : ¬ fk = 0) : m_Reader_readCut_B38 x y F p na fk fa tx J cu cA cB cH = some (p, na, fk, fa, cu, cA, cB, cH) := by
  unfold m_Reader_readCut_B38
  rw [note_f h, kb2_e, b47_f h]
theorem cut_f {C : Nat} {x y F p na fk fa J : Int32} {tx cA cB cH : Nat → Int32} (hC : C ≤ 14) (h : ¬ fk = 0) : (if x = y then m_Reader_readCut_B38 x y F p na fk fa tx J (nI C) cA cB cH else kb1 (m_Water_joined x y (nI C) cA cB) (fun r7 => if r7 = 0 then m_Reader_readCut_B47 x y F p na fk fa tx J (nI C) cA cB cH else m_Reader_readCut_B38 x y F p na fk fa tx J (nI C) cA cB cH)) = some (p, na, fk, fa, nI C, cA, cB, cH) := by
  rw [b38_f h, b47_f h]
  by_cases c : x = y
  · rw [if_pos c]
  · obtain ⟨r, hr⟩ := jn_any (x := x) (y := y) (cA := cA) (cB := cB) hC C 0 FU (by omega) (FU_gt (by omega))
    have hr' : m_Water_joined x y (nI C) cA cB = some r := hr
    rw [if_neg c, hr', kb1_e]
    by_cases c2 : r = 0
    · rw [if_pos c2]
    · rw [if_neg c2]
/-- a cut read behind a fault -/
theorem cut_ff {C : Nat} {F p na fk fa J : Int32} {tx cA cB cH : Nat → Int32} (hC : C ≤ 14) (h : ¬ fk = 0) : m_Reader_readCut F p na fk fa tx J (nI C) cA cB cH = some (p, na, fk, fa, nI C, cA, cB, cH) := by
  unfold m_Reader_readCut
  rw [num_f h, kb5_e, num_f h, kb5_e]
  exact cut_f hC h
theorem le0 : (0 : Int32) ≤ 0 := by decide
theorem n4I : ¬ (4 : Int32) = 0 ∧ ¬ (4 : Int32) ≤ 0 := by decide
theorem CutOK_add {J C a b h : Nat} {cA cB cH r1 r2 rH : Nat → Int32} {A B H : Nat → Nat} (hk : CutOK J C cA cB cH r1 r2 rH A B H) (ha : a < J) (hb : b < J) (hab : a ≠ b) (hh : h ≤ 99) (hj : jb A B a b C 0 = false) :
    ∃ A' B' H' : Nat → Nat, CutOK J (C + 1) (upd cA C (nI a)) (upd cB C (nI b)) (upd cH C (nI h)) (upd r1 C (nI a)) (upd r2 C (nI b)) (upd rH C (nI h)) A' B' H' := by
  refine ⟨fun i => if i = C then a else A i, fun i => if i = C then b else B i, fun i => if i = C then h else H i, fun k hk' => ?_, fun k i hk' hi => ?_⟩
  · by_cases q : k = C
    · subst q
      show ((if k = k then a else A k) < J ∧ (if k = k then b else B k) < J ∧ (if k = k then a else A k) ≠ (if k = k then b else B k) ∧ (if k = k then h else H k) ≤ 99) ∧ (upd cA k (nI a) k = nI (if k = k then a else A k) ∧ upd cB k (nI b) k = nI (if k = k then b else B k) ∧ upd cH k (nI h) k = nI (if k = k then h else H k)) ∧ (upd r1 k (nI a) k = nI (if k = k then a else A k) ∧ upd r2 k (nI b) k = nI (if k = k then b else B k) ∧ upd rH k (nI h) k = nI (if k = k then h else H k))
      rw [pk_us, pk_us, pk_us, pk_us, pk_us, pk_us, if_pos rfl, if_pos rfl, if_pos rfl]
      exact ⟨⟨ha, hb, hab, hh⟩, ⟨rfl, rfl, rfl⟩, ⟨rfl, rfl, rfl⟩⟩
    · show ((if k = C then a else A k) < J ∧ (if k = C then b else B k) < J ∧ (if k = C then a else A k) ≠ (if k = C then b else B k) ∧ (if k = C then h else H k) ≤ 99) ∧ (upd cA C (nI a) k = nI (if k = C then a else A k) ∧ upd cB C (nI b) k = nI (if k = C then b else B k) ∧ upd cH C (nI h) k = nI (if k = C then h else H k)) ∧ (upd r1 C (nI a) k = nI (if k = C then a else A k) ∧ upd r2 C (nI b) k = nI (if k = C then b else B k) ∧ upd rH C (nI h) k = nI (if k = C then h else H k))
      rw [pk_un q, pk_un q, pk_un q, pk_un q, pk_un q, pk_un q, if_neg q, if_neg q, if_neg q]
      exact hk.1 k (by omega)
  · have hi' : ¬ i = C := by omega
    by_cases q : k = C
    · subst q
      show ¬ (((if i = k then a else A i) = (if k = k then a else A k) ∧ (if i = k then b else B i) = (if k = k then b else B k)) ∨ ((if i = k then a else A i) = (if k = k then b else B k) ∧ (if i = k then b else B i) = (if k = k then a else A k)))
      rw [if_neg hi', if_neg hi', if_pos rfl, if_pos rfl]
      exact jb_f k 0 hj i (Nat.zero_le i) (by omega)
    · show ¬ (((if i = C then a else A i) = (if k = C then a else A k) ∧ (if i = C then b else B i) = (if k = C then b else B k)) ∨ ((if i = C then a else A i) = (if k = C then b else B k) ∧ (if i = C then b else B i) = (if k = C then a else A k)))
      rw [if_neg hi', if_neg hi', if_neg q, if_neg q]
      exact hk.2 k i (by omega) hi
theorem cut_i {F p J C : Nat} {c : Nat → Nat} {tx zx cA cB cH r1 r2 rH : Nat → Int32} {A B H : Nat → Nat} (hT : Tx F c tx zx) (hp : p ≤ F) (hJ1 : 1 ≤ J) (hJ : J ≤ 9) (hC : C < 14) (hk : CutOK J C cA cB cH r1 r2 rH A B H) (na fp num nat : Int32) :
    ∃ (fk1 fp1 at1 num1 nat1 : Int32) (r1' r2' rH' : Nat → Int32), m_Ref_takeCut zx (nI F) fp (nI p) num nat (nI J) (nI C) r1 r2 rH = some (fk1, fp1, at1, num1, nat1, nI (C + 1), r1', r2', rH') ∧
      ((¬ fk1 = 0 ∧ ¬ fk1 ≤ 0 ∧ ∃ (m : Nat) (na' : Int32), m ≤ F ∧ m_Reader_readCut (nI F) (nI p) na 0 (-1) tx (nI J) (nI C) cA cB cH = some (nI m, na', fk1, fp1, nI C, cA, cB, cH)) ∨
       (fk1 = 0 ∧ fp1 = fp ∧ ∃ (q a b h : Nat) (na' : Int32), p < q ∧ q ≤ F ∧ at1 = nI q ∧ (∃ A' B' H' : Nat → Nat, CutOK J (C + 1) (upd cA C (nI a)) (upd cB C (nI b)) (upd cH C (nI h)) r1' r2' rH' A' B' H') ∧ m_Reader_readCut (nI F) (nI p) na 0 (-1) tx (nI J) (nI C) cA cB cH = kb3 (m_Reader_readSign (nI 59) (nI F) (nI q) 0 (-1) tx) (fun pl fk fa => if fk = 0 then some (pl, na', fk, fa, nI (C + 1), upd cA C (nI a), upd cB C (nI b), upd cH C (nI h)) else some (pl, na', fk, fa, nI C, cA, cB, cH)))) := by
  have h0 := hT.1
  obtain ⟨J', rfl⟩ : ∃ J' : Nat, J = J' + 1 := ⟨J - 1, by omega⟩
  have eJ : nI (J' + 1) - 1 = nI J' := nI_pred J'
  have kC : ∀ K : Option (Int32 × Int32 × Int32 × Int32 × Int32 × (Nat → Int32)), kg (nI C) 14 K = K := fun K => kg_i (by omega) (by omega)
  obtain ⟨s1, s2, fk1, fa1, fp1, v1, nm1, nt1, hs2, -, E1, G1, N1⟩ := num_i (lo := 0) (hi := J') hT hp (by omega) (by omega) na fp num nat
  have E1 : m_Reader_readNumber 0 (nI J') (nI F) (nI p) na 0 (-1) tx = some (v1, nI s2, nI s1, fk1, fa1) := E1
  have G1 : m_Ref_takeNumber 0 (nI J') zx (nI F) fp (nI p) num nat = some (fk1, fp1, nI s2, nm1, nt1) := G1
  have I1 : m_Ref_into_readOne (nI C) 0 (nI J') zx (nI F) fp (nI p) num nat r1 = some (fk1, fp1, nI s2, nm1, nt1, upd r1 C nm1) := by
    unfold m_Ref_into_readOne
    rw [G1, kb5_e, kC, nI_clamp (by omega)]
  unfold m_Reader_readCut m_Ref_takeCut
  rw [eJ, I1, kb6_e, E1, kb5_e, nI_1]
  obtain ⟨n1a, n1b⟩ := N1
  rcases n1b with ⟨a1, a2, a3, a4, a5, a, a6, a7, a8, a9⟩ | ⟨f1, f2, f3⟩
  · have a3 := a3.symm
    subst a1 a2 a3 a6 a7
    rw [if_pos le0]
    obtain ⟨u1, u2, fk2, fa2, fp2, v2, nm2, nt2, hu2, -, E2, G2, N2⟩ := num_i (lo := 0) (hi := J') hT hs2 (by omega) (by omega) (nI s1) fp (nI a) nt1
    have E2 : m_Reader_readNumber 0 (nI J') (nI F) (nI s2) (nI s1) 0 (-1) tx = some (v2, nI u2, nI u1, fk2, fa2) := E2
    have G2 : m_Ref_takeNumber 0 (nI J') zx (nI F) fp (nI s2) (nI a) nt1 = some (fk2, fp2, nI u2, nm2, nt2) := G2
    have I2 : m_Ref_into_readOther (nI C) 0 (nI J') zx (nI F) fp (nI s2) (nI a) nt1 r2 = some (fk2, fp2, nI u2, nm2, nt2, upd r2 C nm2) := by
      unfold m_Ref_into_readOther
      rw [G2, kb5_e, kC, nI_clamp (by omega)]
    rw [I2, kb6_e, E2, kb5_e]
    obtain ⟨n2a, n2b⟩ := N2
    rcases n2b with ⟨b1, b2, b3, b4, b5, b, b6, b7, b8, b9⟩ | ⟨f1, f2, f3⟩
    · have b3 := b3.symm
      subst b1 b2 b3 b4 b6 b7
      have hJa : a < J' + 1 := by omega
      have hJb : b < J' + 1 := by omega
      unfold m_Ref_takeCut_B56 m_Ref_takeCut_B79 m_Ref_fails
      rw [if_pos p0, ca_i hJ hC hJa hJb hk, kb1_e, kb2_e, if_pos le0]
      have jn : a ≠ b → m_Water_joined (nI a) (nI b) (nI C) cA cB = some (if jb A B a b C 0 = true then 1 else 0) := fun hab => jn_i hJ (by omega) hJa hJb hab hk C 0 FU (by omega) (FU_gt (by omega))
      have e38 : m_Reader_readCut_B38 (nI a) (nI b) (nI F) (nI u2) (nI u1) 0 (-1) tx (nI (J' + 1)) (nI C) cA cB cH = some (nI u2, nI u1, 4, nI u1, nI C, cA, cB, cH) := by
        unfold m_Reader_readCut_B38
        rw [note_0, kb2_e, b47_f n4I.1]
      by_cases hab : a = b
      · rw [decide_eq_true hab, Bool.true_or, if_pos rfl, if_neg n1, if_pos (congrArg nI hab), e38]
        exact ⟨_, _, _, _, _, _, _, _, rfl, Or.inl ⟨n4I.1, n4I.2, u2, nI u1, hu2, rfl⟩⟩
      · rw [decide_eq_false hab, Bool.false_or, if_neg (nceq (by omega) (by omega) hab), jn hab, kb1_e]
        cases hjb : jb A B a b C 0 with
        | true =>
          rw [if_pos rfl, if_neg n1, if_neg n1, e38]
          exact ⟨_, _, _, _, _, _, _, _, rfl, Or.inl ⟨n4I.1, n4I.2, u2, nI u1, hu2, rfl⟩⟩
        | false =>
          rw [if_neg (show ¬ (false = true) by decide), if_pos p0, if_pos p0]
          obtain ⟨w1, w2, fk3, fa3, fp3, v3, nm3, nt3, hw2, -, E3, G3, N3⟩ := num_i (lo := 0) (hi := 99) hT hu2 (by omega) (by omega) (nI u1) fp (nI b) (nI u1)
          have E3 : m_Reader_readNumber 0 99 (nI F) (nI u2) (nI u1) 0 (-1) tx = some (v3, nI w2, nI w1, fk3, fa3) := E3
          have G3 : m_Ref_takeNumber 0 99 zx (nI F) fp (nI u2) (nI b) (nI u1) = some (fk3, fp3, nI w2, nm3, nt3) := G3
          have I3 : m_Ref_into_readHard (nI C) 0 99 zx (nI F) fp (nI u2) (nI b) (nI u1) rH = some (fk3, fp3, nI w2, nm3, nt3, upd rH C nm3) := by
            unfold m_Ref_into_readHard
            rw [G3, kb5_e, kC, nI_clamp (by omega)]
          unfold m_Reader_readCut_B47
          rw [I3, kb6_e, E3, kb5_e]
          obtain ⟨n3a, n3b⟩ := N3
          rcases n3b with ⟨d1, d2, d3, d4, d5, h, d6, d7, d8, d9⟩ | ⟨f1, f2, f3⟩
          · have d3 := d3.symm
            subst d1 d2 d3 d6 d7
            refine ⟨_, _, _, _, _, _, _, _, rfl, Or.inr ⟨rfl, rfl, w2, a, b, h, nI w1, by omega, hw2, rfl, CutOK_add hk hJa hJb hab d9 hjb, ?_⟩⟩
            have c14 : nI C < (14 : Int32) := clt (b := 14) (by omega) (by omega) hC
            have ad : m_Water_addCut (nI a) (nI b) (nI h) (nI C) cA cB cH = some (nI (C + 1), upd cA C (nI a), upd cB C (nI b), upd cH C (nI h)) := by
              unfold m_Water_addCut
              rw [if_neg (nI_pos (by omega)), if_pos c14, kg_i (by omega) (by omega), kg_i (by omega) (by omega), kg_i (by omega) (by omega), nI_clamp (by omega), nI_1]
            rw [ad]; rfl
          · subst f3
            rw [sign_f f1, kb3_e, if_neg f1]
            exact ⟨_, _, _, _, _, _, _, _, rfl, Or.inl ⟨f1, f2, w2, nI w1, hw2, rfl⟩⟩
    · subst f3
      unfold m_Ref_takeCut_B56 m_Ref_takeCut_B79
      rw [if_neg f1, if_neg f2, cut_f (by omega) f1]
      exact ⟨_, _, _, _, _, _, _, _, rfl, Or.inl ⟨f1, f2, u2, nI u1, hu2, rfl⟩⟩
  · subst f3
    unfold m_Ref_takeCut_B56 m_Ref_takeCut_B79
    rw [if_neg f2, if_neg f1, if_neg f2, num_f f1, kb5_e, cut_f (by omega) f1]
    exact ⟨_, _, _, _, _, _, _, _, rfl, Or.inl ⟨f1, f2, s2, nI s1, hs2, rfl⟩⟩
theorem boat_ff {F p na fk fa J bo : Int32} {tx bA bP bW : Nat → Int32} (h : ¬ fk = 0) : m_Reader_readBoat F p na fk fa tx J bo bA bP bW = some (p, na, fk, fa, bo, bA, bP, bW) := by
  unfold m_Reader_readBoat
  rw [num_f h, kb5_e, num_f h, kb5_e, num_f h, kb5_e, sign_f h, kb3_e, if_neg h]
theorem BoatOK_add {J B j p w : Nat} {bA bP bW rA rP rW : Nat → Int32} (hk : BoatOK J B bA bP bW rA rP rW) (hj : j < J) (hp : p ≤ 999) (hw : w ≤ 99) : BoatOK J (B + 1) (upd bA B (nI j)) (upd bP B (nI p)) (upd bW B (nI w)) (upd rA B (nI j)) (upd rP B (nI p)) (upd rW B (nI w)) := by
  intro b hb
  by_cases q : b = B
  · subst q
    rw [pk_us, pk_us, pk_us, pk_us, pk_us, pk_us]
    exact ⟨j, p, w, ⟨hj, hp, hw⟩, ⟨rfl, rfl, rfl⟩, ⟨rfl, rfl, rfl⟩⟩
  · rw [pk_un q, pk_un q, pk_un q, pk_un q, pk_un q, pk_un q]
    exact hk b (by omega)
theorem boat_i {F p J B : Nat} {c : Nat → Nat} {tx zx bA bP bW rA rP rW : Nat → Int32} (hT : Tx F c tx zx) (hp : p ≤ F) (hJ1 : 1 ≤ J) (hJ : J ≤ 9) (hB : B < 5) (hk : BoatOK J B bA bP bW rA rP rW) (na fp num nat : Int32) :
    ∃ (fk1 fp1 at1 num1 nat1 : Int32) (rA' rP' rW' : Nat → Int32), m_Ref_takeBoat zx (nI F) fp (nI p) num nat (nI J) (nI B) rA rP rW = some (fk1, fp1, at1, num1, nat1, nI (B + 1), rA', rP', rW') ∧
      ((¬ fk1 = 0 ∧ ¬ fk1 ≤ 0 ∧ ∃ (m : Nat) (na' : Int32), m ≤ F ∧ m_Reader_readBoat (nI F) (nI p) na 0 (-1) tx (nI J) (nI B) bA bP bW = some (nI m, na', fk1, fp1, nI B, bA, bP, bW)) ∨
       (fk1 = 0 ∧ fp1 = fp ∧ ∃ (q j u w : Nat) (na' : Int32), p < q ∧ q ≤ F ∧ at1 = nI q ∧ BoatOK J (B + 1) (upd bA B (nI j)) (upd bP B (nI u)) (upd bW B (nI w)) rA' rP' rW' ∧ m_Reader_readBoat (nI F) (nI p) na 0 (-1) tx (nI J) (nI B) bA bP bW = kb3 (m_Reader_readSign (nI 59) (nI F) (nI q) 0 (-1) tx) (fun pl fk fa => if fk = 0 then some (pl, na', fk, fa, nI (B + 1), upd bA B (nI j), upd bP B (nI u), upd bW B (nI w)) else some (pl, na', fk, fa, nI B, bA, bP, bW)))) := by
  have h0 := hT.1
  obtain ⟨J', rfl⟩ : ∃ J' : Nat, J = J' + 1 := ⟨J - 1, by omega⟩
  have eJ : nI (J' + 1) - 1 = nI J' := nI_pred J'
  have kC : ∀ K : Option (Int32 × Int32 × Int32 × Int32 × Int32 × (Nat → Int32)), kg (nI B) 5 K = K := fun K => kg_i (by omega) (by omega)
  obtain ⟨s1, s2, fk1, fa1, fp1, v1, nm1, nt1, hs2, -, E1, G1, N1⟩ := num_i (lo := 0) (hi := J') hT hp (by omega) (by omega) na fp num nat
  have E1 : m_Reader_readNumber 0 (nI J') (nI F) (nI p) na 0 (-1) tx = some (v1, nI s2, nI s1, fk1, fa1) := E1
  have G1 : m_Ref_takeNumber 0 (nI J') zx (nI F) fp (nI p) num nat = some (fk1, fp1, nI s2, nm1, nt1) := G1
  have I1 : m_Ref_into_readAt (nI B) 0 (nI J') zx (nI F) fp (nI p) num nat rA = some (fk1, fp1, nI s2, nm1, nt1, upd rA B nm1) := by
    unfold m_Ref_into_readAt
    rw [G1, kb5_e, kC, nI_clamp (by omega)]
  unfold m_Reader_readBoat m_Ref_takeBoat
  rw [eJ, I1, kb6_e, E1, kb5_e, nI_1]
  obtain ⟨n1a, n1b⟩ := N1
  rcases n1b with ⟨a1, a2, a3, a4, a5, a, a6, a7, a8, a9⟩ | ⟨f1, f2, f3⟩
  · have a3 := a3.symm
    subst a1 a2 a3 a6 a7
    rw [if_pos le0]
    obtain ⟨u1, u2, fk2, fa2, fp2, v2, nm2, nt2, hu2, -, E2, G2, N2⟩ := num_i (lo := 0) (hi := 999) hT hs2 (by omega) (by omega) (nI s1) fp (nI a) nt1
    have E2 : m_Reader_readNumber 0 999 (nI F) (nI s2) (nI s1) 0 (-1) tx = some (v2, nI u2, nI u1, fk2, fa2) := E2
    have G2 : m_Ref_takeNumber 0 999 zx (nI F) fp (nI s2) (nI a) nt1 = some (fk2, fp2, nI u2, nm2, nt2) := G2
    have I2 : m_Ref_into_readPull (nI B) 0 999 zx (nI F) fp (nI s2) (nI a) nt1 rP = some (fk2, fp2, nI u2, nm2, nt2, upd rP B nm2) := by
      unfold m_Ref_into_readPull
      rw [G2, kb5_e, kC, nI_clamp (by omega)]
    rw [I2, kb6_e, E2, kb5_e]
    obtain ⟨n2a, n2b⟩ := N2
    rcases n2b with ⟨b1, b2, b3, b4, b5, b, b6, b7, b8, b9⟩ | ⟨f1, f2, f3⟩
    · have b3 := b3.symm
      subst b1 b2 b3 b6 b7
      unfold m_Ref_takeBoat_B53
      rw [if_pos le0]
      obtain ⟨w1, w2, fk3, fa3, fp3, v3, nm3, nt3, hw2, -, E3, G3, N3⟩ := num_i (lo := 0) (hi := 99) hT hu2 (by omega) (by omega) (nI u1) fp (nI b) nt2
      have E3 : m_Reader_readNumber 0 99 (nI F) (nI u2) (nI u1) 0 (-1) tx = some (v3, nI w2, nI w1, fk3, fa3) := E3
      have G3 : m_Ref_takeNumber 0 99 zx (nI F) fp (nI u2) (nI b) nt2 = some (fk3, fp3, nI w2, nm3, nt3) := G3
      have I3 : m_Ref_into_readWears (nI B) 0 99 zx (nI F) fp (nI u2) (nI b) nt2 rW = some (fk3, fp3, nI w2, nm3, nt3, upd rW B nm3) := by
        unfold m_Ref_into_readWears
        rw [G3, kb5_e, kC, nI_clamp (by omega)]
      rw [I3, kb6_e, E3, kb5_e]
      obtain ⟨n3a, n3b⟩ := N3
      rcases n3b with ⟨d1, d2, d3, d4, d5, h, d6, d7, d8, d9⟩ | ⟨f1, f2, f3⟩
      · have d3 := d3.symm
        subst d1 d2 d3 d6 d7
        refine ⟨_, _, _, _, _, _, _, _, rfl, Or.inr ⟨rfl, rfl, w2, a, b, h, nI w1, by omega, hw2, rfl, BoatOK_add hk (by omega) b9 d9, ?_⟩⟩
        have c5 : nI B < (5 : Int32) := clt (b := 5) (by omega) (by omega) hB
        have ad : m_Water_addBoat (nI a) (nI b) (nI h) (nI B) bA bP bW = some (nI (B + 1), upd bA B (nI a), upd bP B (nI b), upd bW B (nI h)) := by
          unfold m_Water_addBoat
          rw [if_neg (nI_pos (by omega)), if_pos c5, kg_i (by omega) (by omega), kg_i (by omega) (by omega), kg_i (by omega) (by omega), nI_clamp (by omega), nI_1]
        rw [ad]; rfl
      · subst f3
        rw [sign_f f1, kb3_e, if_neg f1]
        exact ⟨_, _, _, _, _, _, _, _, rfl, Or.inl ⟨f1, f2, w2, nI w1, hw2, rfl⟩⟩
    · subst f3
      unfold m_Ref_takeBoat_B53
      rw [if_neg f2, num_f f1, kb5_e, sign_f f1, kb3_e, if_neg f1]
      exact ⟨_, _, _, _, _, _, _, _, rfl, Or.inl ⟨f1, f2, u2, nI u1, hu2, rfl⟩⟩
  · subst f3
    unfold m_Ref_takeBoat_B53
    rw [if_neg f2, if_neg f2, num_f f1, kb5_e, num_f f1, kb5_e, sign_f f1, kb3_e, if_neg f1]
    exact ⟨_, _, _, _, _, _, _, _, rfl, Or.inl ⟨f1, f2, s2, nI s1, hs2, rfl⟩⟩
