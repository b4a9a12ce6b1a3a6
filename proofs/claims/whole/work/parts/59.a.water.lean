/-! ===== water: the text, letter by letter ===== -/
def Tx (F : Nat) (c : Nat → Nat) (tx zx : Nat → Int32) : Prop := F ≤ 240 ∧ ∀ k : Nat, k < F → c k < 256 ∧ tx k = nI (c k) ∧ zx k = nI (c k)
def ltr (F : Nat) (c : Nat → Nat) (q : Nat) : Int32 := if q < F then nI (c q) else -1
theorem lh_i {F q : Nat} {c : Nat → Nat} {tx zx : Nat → Int32} (hT : Tx F c tx zx) (hq : q < 2 ^ 31) : m_Reader_letterHere (nI F) (nI q) tx = some (ltr F c q) := by
  have h0 := hT.1
  unfold m_Reader_letterHere ltr
  rw [if_neg (nI_pos hq)]
  by_cases h : q < F
  · have h240 : ¬ (240 : Int32) ≤ nI q := ncle (a := 240) (by omega) hq (by omega)
    rw [if_neg (ncle (by omega) hq h), if_neg h240, kg_i (by omega) (by omega), nI_clamp hq, if_pos h, (hT.2 q h).2.1]
  · rw [if_pos (cle (by omega) hq (by omega)), if_neg h]
theorem h32 : (32 : Int32) = nI 32 := rfl
theorem sk_loop {F : Nat} {c : Nat → Nat} {tx zx : Nat → Int32} (hT : Tx F c tx zx) :
    ∀ (d p n1 n2 : Nat), p + d = F → d < n1 → d < n2 → ∃ q : Nat, p ≤ q ∧ q ≤ F ∧ (q < F → c q ≠ 32) ∧ m_Reader_skipBlanks_L0 n1 (nI F) (nI p) tx = some (nI q) ∧ m_Ref_here_L0 n2 zx (nI F) (nI p) = some (ltr F c q, nI q) := by
  have h0 := hT.1
  intro d
  induction d with
  | zero =>
    intro p n1 n2 hp hn1 hn2
    obtain ⟨n1, rfl, -⟩ := fuS hn1
    obtain ⟨n2, rfl, -⟩ := fuS hn2
    have cc : nI F ≤ nI p := cle (by omega) (by omega) (by omega)
    refine ⟨p, Nat.le_refl p, by omega, fun h => absurd h (by omega), ?_, ?_⟩
    · show m_Reader_skipBlanks_B0 (m_Reader_skipBlanks_L0 n1) (nI F) (nI p) tx = _
      unfold m_Reader_skipBlanks_B0
      rw [if_pos cc]
    · show m_Ref_here_B0 (m_Ref_here_L0 n2) zx (nI F) (nI p) = some (if p < F then nI (c p) else -1, nI p)
      unfold m_Ref_here_B0 m_Ref_here_B38
      rw [if_pos cc, if_pos cc, if_neg (by omega)]
  | succ d ih =>
    intro p n1 n2 hp hn1 hn2
    obtain ⟨n1, rfl, h1⟩ := fuS hn1
    obtain ⟨n2, rfl, h2⟩ := fuS hn2
    have cc : ¬ nI F ≤ nI p := ncle (by omega) (by omega) (by omega)
    obtain ⟨cp, t1, t2⟩ := hT.2 p (by omega)
    have e1 : m_Reader_skipBlanks_L0 (n1 + 1) (nI F) (nI p) tx = if nI (c p) = (32 : Int32) then m_Reader_skipBlanks_L0 n1 (nI F) (nI (p + 1)) tx else some (nI p) := by
      show m_Reader_skipBlanks_B0 (m_Reader_skipBlanks_L0 n1) (nI F) (nI p) tx = _
      unfold m_Reader_skipBlanks_B0
      have l : ltr F c p = nI (c p) := if_pos (by omega)
      rw [if_neg cc, lh_i hT (by omega), kb1_e, l, nI_1]
    have e2 : m_Ref_here_L0 (n2 + 1) zx (nI F) (nI p) = if nI (c p) = (32 : Int32) then m_Ref_here_L0 n2 zx (nI F) (nI (p + 1)) else some (nI (c p), nI p) := by
      show m_Ref_here_B0 (m_Ref_here_L0 n2) zx (nI F) (nI p) = _
      unfold m_Ref_here_B0 m_Ref_here_B38
      rw [if_neg cc, if_neg cc, kg_i (by omega) (by omega), kg_i (by omega) (by omega), nI_clamp (by omega), t2, nI_1]
    rw [e1, e2]
    by_cases q : c p = 32
    · have q' : nI (c p) = (32 : Int32) := by rw [q]; rfl
      rw [if_pos q', if_pos q']
      obtain ⟨r, i1, i2, i3, i4, i5⟩ := ih (p + 1) n1 n2 (by omega) (by omega) (by omega)
      exact ⟨r, by omega, i2, i3, i4, i5⟩
    · have q' : ¬ nI (c p) = (32 : Int32) := nceq (b := 32) (by omega) (by omega) q
      rw [if_neg q', if_neg q']
      refine ⟨p, Nat.le_refl p, by omega, fun _ => q, rfl, ?_⟩
      have l : ltr F c p = nI (c p) := if_pos (by omega)
      rw [l]
theorem sk_i {F p : Nat} {c : Nat → Nat} {tx zx : Nat → Int32} (hT : Tx F c tx zx) (hp : p ≤ F) : ∃ q : Nat, p ≤ q ∧ q ≤ F ∧ (q < F → c q ≠ 32) ∧ m_Reader_skipBlanks (nI F) (nI p) tx = some (nI q) ∧ m_Ref_here zx (nI F) (nI p) = some (ltr F c q, nI q) := by
  have h0 := hT.1
  exact sk_loop hT (F - p) p FU FU (by omega) (FU_gt (by omega)) (FU_gt (by omega))
theorem sk_0 {F q : Nat} {c : Nat → Nat} {tx zx : Nat → Int32} (hT : Tx F c tx zx) (hq : q ≤ F) (hc : q < F → c q ≠ 32) : m_Reader_skipBlanks (nI F) (nI q) tx = some (nI q) ∧ m_Ref_here zx (nI F) (nI q) = some (ltr F c q, nI q) := by
  have h0 := hT.1
  obtain ⟨r, i1, i2, i3, i4, i5⟩ := sk_i hT hq
  by_cases e : r = q
  · subst e; exact ⟨i4, i5⟩
  · exfalso
    have cc : ¬ nI F ≤ nI q := ncle (by omega) (by omega) (by omega)
    have l : ltr F c q = nI (c q) := if_pos (by omega)
    have cp := (hT.2 q (by omega)).1
    have q' : ¬ nI (c q) = (32 : Int32) := nceq (b := 32) (by omega) (by omega) (hc (by omega))
    have e1 : m_Reader_skipBlanks (nI F) (nI q) tx = some (nI q) := by
      show m_Reader_skipBlanks_B0 (m_Reader_skipBlanks_L0 4999) (nI F) (nI q) tx = _
      unfold m_Reader_skipBlanks_B0
      rw [if_neg cc, lh_i hT (by omega), kb1_e, l, if_neg q']
    rw [e1] at i4
    exact e ((nI_eq (by omega) (by omega)).mp (Option.some.inj i4)).symm
/-- past the end nothing is skipped -/
theorem sk_out {F m : Nat} {tx : Nat → Int32} (hF : F ≤ 240) (hm : F ≤ m) (h31 : m < 2 ^ 31) : m_Reader_skipBlanks (nI F) (nI m) tx = some (nI m) := by
  show m_Reader_skipBlanks_B0 (m_Reader_skipBlanks_L0 4999) (nI F) (nI m) tx = _
  unfold m_Reader_skipBlanks_B0
  rw [if_pos (cle (by omega) h31 hm)]
theorem sk_any {F m : Nat} {c : Nat → Nat} {tx zx : Nat → Int32} (hT : Tx F c tx zx) (h31 : m < 2 ^ 31) : ∃ m' : Nat, m_Reader_skipBlanks (nI F) (nI m) tx = some (nI m') := by
  by_cases q : F ≤ m
  · exact ⟨m, sk_out hT.1 q h31⟩
  · obtain ⟨r, -, -, -, i4, -⟩ := sk_i hT (show m ≤ F by omega)
    exact ⟨r, i4⟩
def isF (x : Nat) : Bool := decide (48 ≤ x ∧ x ≤ 57)
theorem fig_c {x : Nat} (hx : x < 256) : m_Reader_isFigure (nI x) = some (if isF x then 1 else 0) := by
  unfold m_Reader_isFigure isF
  by_cases c1 : x < 48
  · have d1 : nI x < (48 : Int32) := clt (b := 48) (by omega) (by omega) c1
    rw [if_pos d1, if_neg (fun q => by have := of_decide_eq_true q; omega)]
  · have d1 : ¬ nI x < (48 : Int32) := nclt (b := 48) (by omega) (by omega) (by omega)
    rw [if_neg d1]
    by_cases c2 : 57 < x
    · have d2 : (57 : Int32) < nI x := clt (a := 57) (by omega) (by omega) c2
      rw [if_pos d2, if_neg (fun q => by have := of_decide_eq_true q; omega)]
    · have d2 : ¬ (57 : Int32) < nI x := nclt (a := 57) (by omega) (by omega) (by omega)
      rw [if_neg d2, if_pos (decide_eq_true (by omega))]
theorem fig_r {x : Nat} (hx : x < 256) : m_Ref_in (nI x).toInt64 48 57 = some (if isF x then 1 else 0) := by
  have e : (nI x).toInt = (x : Int) := nI_toInt (by omega)
  unfold isF
  by_cases q : 48 ≤ x ∧ x ≤ 57
  · rw [if_pos (decide_eq_true q)]
    exact inN_t (a := 48) (b := 57) (by omega) (by omega) (by omega) (by omega)
  · rw [if_neg (fun z => q (of_decide_eq_true z))]
    exact inN_f (a := 48) (b := 57) (by omega) (by omega) (by omega)
theorem ref_in3 {v lo hi : Nat} (hv : v < 2 ^ 31) (hlo : lo < 2 ^ 31) (hhi : hi < 2 ^ 31) : m_Ref_in (nI v).toInt64 (nI lo).toInt64 (nI hi).toInt64 = some (if lo ≤ v ∧ v ≤ hi then 1 else 0) := by
  rw [ref_in, Int32.toInt_toInt64, Int32.toInt_toInt64, Int32.toInt_toInt64, nI_toInt hv, nI_toInt hlo, nI_toInt hhi]
  by_cases q : lo ≤ v ∧ v ≤ hi
  · rw [if_pos q, if_pos (by omega)]
  · rw [if_neg q, if_neg (by omega)]
/-- how a number has been read: fault kind 0 and the number, or a fault at the number's place -/
def NumOut (lo hi p q1 q : Nat) (fp fk fa fp' v' num' nat' : Int32) : Prop :=
  p ≤ q ∧ ((fk = 0 ∧ fa = -1 ∧ fp' = fp ∧ nat' = nI q1 ∧ p < q ∧ ∃ v : Nat, v' = nI v ∧ num' = nI v ∧ lo ≤ v ∧ v ≤ hi) ∨ (¬ fk = 0 ∧ ¬ fk ≤ 0 ∧ fa = fp'))
theorem n2I : ¬ (2 : Int32) = 0 ∧ ¬ (2 : Int32) ≤ 0 := by decide
theorem n1I : ¬ (1 : Int32) = 0 ∧ ¬ (1 : Int32) ≤ 0 := by decide
theorem num_loop {F lo hi q1 : Nat} {c : Nat → Nat} {tx zx : Nat → Int32} {fp : Int32} (hT : Tx F c tx zx) (hlo : lo ≤ 999) (hhi : hi ≤ 999) (hq1 : q1 < F) (hfig : isF (c q1) = true) :
    ∀ (d k n1 n2 : Nat) (x num : Int32), q1 + k + d = F → d < n1 → d < n2 → (k ≤ 3 → ∃ v : Nat, x = nI v ∧ num = nI v ∧ v < 10 ^ k) →
    ∃ (q : Nat) (fk fa fp' v' num' : Int32), q ≤ F ∧ m_Reader_readNumber_L23 n1 (nI lo) (nI hi) x (nI F) (nI (q1 + k)) (nI q1) 0 (-1) tx = some (v', nI q, nI q1, fk, fa) ∧ m_Ref_takeNumber_L42 n2 (nI lo) (nI hi) zx (nI F) fp (nI (q1 + k)) num (nI q1) = some (fk, fp', nI q, num', nI q1) ∧ NumOut lo hi q1 q1 q fp fk fa fp' v' num' (nI q1) := by
  have h0 := hT.1
  have fin : ∀ (k : Nat) (x num : Int32), 1 ≤ k → q1 + k ≤ F → (k ≤ 3 → ∃ v : Nat, x = nI v ∧ num = nI v ∧ v < 10 ^ k) → ∃ (fk fa fp' v' num' : Int32), m_Reader_readNumber_B83 (nI lo) (nI hi) x (nI F) (nI (q1 + k)) (nI q1) 0 (-1) tx = some (v', nI (q1 + k), nI q1, fk, fa) ∧ m_Ref_takeNumber_B129 (nI lo) (nI hi) zx (nI F) fp (nI (q1 + k)) num (nI q1) = some (fk, fp', nI (q1 + k), num', nI q1) ∧ NumOut lo hi q1 q1 (q1 + k) fp fk fa fp' v' num' (nI q1) := by
    intro k x num hk hF hv
    have e1 : nI (q1 + k) - nI q1 = nI k := by rw [pk_sub (by omega)]; exact congrArg nI (by omega)
    have ne : ¬ nI (q1 + k) = nI q1 := nceq (by omega) (by omega) (by omega)
    unfold m_Reader_readNumber_B83 m_Reader_readNumber_B129 m_Reader_note m_Ref_takeNumber_B129 m_Ref_takeNumber_B157 m_Ref_fails
    rw [if_neg ne, e1, if_pos p0, kb2_e, kb2_e]
    by_cases k3 : k ≤ 3
    · obtain ⟨v, e2, e3, hv⟩ := hv k3
      have p3 : 10 ^ k ≤ 10 ^ 3 := Nat.pow_le_pow_right (by omega) k3
      have hv' : v < 1000 := Nat.lt_of_lt_of_le hv p3
      subst e2 e3
      have d3 : ¬ (3 : Int32) < nI k := nclt (a := 3) (by omega) (by omega) k3
      rw [if_neg d3, if_neg d3, ref_in3 (by omega) (by omega) (by omega), kb1_e]
      by_cases c1 : v < lo
      · rw [if_pos (clt (by omega) (by omega) c1), if_neg (show ¬ (lo ≤ v ∧ v ≤ hi) by omega), if_pos p0]
        exact ⟨2, nI q1, nI q1, nI v, nI v, rfl, rfl, by omega, Or.inr ⟨n2I.1, n2I.2, rfl⟩⟩
      · rw [if_neg (nclt (by omega) (by omega) (by omega))]
        by_cases c2 : v ≤ hi
        · rw [if_pos (cle (by omega) (by omega) c2), if_pos (show lo ≤ v ∧ v ≤ hi by omega), if_neg n1I.1]
          exact ⟨0, -1, fp, nI v, nI v, rfl, rfl, by omega, Or.inl ⟨rfl, rfl, rfl, rfl, by omega, v, rfl, rfl, by omega, c2⟩⟩
        · rw [if_neg (ncle (by omega) (by omega) (by omega)), if_neg (show ¬ (lo ≤ v ∧ v ≤ hi) by omega), if_pos p0]
          exact ⟨2, nI q1, nI q1, nI v, nI v, rfl, rfl, by omega, Or.inr ⟨n2I.1, n2I.2, rfl⟩⟩
    · have d3 : (3 : Int32) < nI k := clt (a := 3) (by omega) (by omega) (by omega)
      rw [if_pos d3, if_pos d3]
      exact ⟨2, nI q1, nI q1, x, num, rfl, rfl, by omega, Or.inr ⟨n2I.1, n2I.2, rfl⟩⟩
  intro d
  induction d with
  | zero =>
    intro k n1 n2 x num hk hn1 hn2 hv
    obtain ⟨n1, rfl, -⟩ := fuS hn1
    obtain ⟨n2, rfl, -⟩ := fuS hn2
    have cc : nI F ≤ nI (q1 + k) := cle (by omega) (by omega) (by omega)
    obtain ⟨fk, fa, fp', v', num', a1, a2, a3⟩ := fin k x num (by omega) (by omega) hv
    refine ⟨q1 + k, fk, fa, fp', v', num', by omega, ?_, ?_, a3⟩
    · show m_Reader_readNumber_B23 (m_Reader_readNumber_L23 n1) (nI lo) (nI hi) x (nI F) (nI (q1 + k)) (nI q1) 0 (-1) tx = _
      unfold m_Reader_readNumber_B23
      rw [if_pos cc]; exact a1
    · show m_Ref_takeNumber_B42 (m_Ref_takeNumber_L42 n2) (nI lo) (nI hi) zx (nI F) fp (nI (q1 + k)) num (nI q1) = _
      unfold m_Ref_takeNumber_B42
      rw [if_pos cc]; exact a2
  | succ d ih =>
    intro k n1 n2 x num hk hn1 hn2 hv
    obtain ⟨n1, rfl, h1⟩ := fuS hn1
    obtain ⟨n2, rfl, h2⟩ := fuS hn2
    have cc : ¬ nI F ≤ nI (q1 + k) := ncle (by omega) (by omega) (by omega)
    obtain ⟨cp, t1, t2⟩ := hT.2 (q1 + k) (by omega)
    have l : ltr F c (q1 + k) = nI (c (q1 + k)) := if_pos (by omega)
    have e1 : nI (q1 + k) - nI q1 = nI k := by rw [pk_sub (by omega)]; exact congrArg nI (by omega)
    have g1 : m_Reader_readNumber_L23 (n1 + 1) (nI lo) (nI hi) x (nI F) (nI (q1 + k)) (nI q1) 0 (-1) tx = if (if isF (c (q1 + k)) then (1 : Int32) else 0) = 0 then m_Reader_readNumber_B83 (nI lo) (nI hi) x (nI F) (nI (q1 + k)) (nI q1) 0 (-1) tx else if (3 : Int32) ≤ nI k then m_Reader_readNumber_L23 n1 (nI lo) (nI hi) x (nI F) (nI (q1 + (k + 1))) (nI q1) 0 (-1) tx else m_Reader_readNumber_L23 n1 (nI lo) (nI hi) (((x * 10) + nI (c (q1 + k))) - 48) (nI F) (nI (q1 + (k + 1))) (nI q1) 0 (-1) tx := by
      show m_Reader_readNumber_B23 (m_Reader_readNumber_L23 n1) (nI lo) (nI hi) x (nI F) (nI (q1 + k)) (nI q1) 0 (-1) tx = _
      unfold m_Reader_readNumber_B23 m_Reader_readNumber_B70
      rw [if_neg cc, lh_i hT (by omega), kb1_e, l, fig_c cp, kb1_e, kb1_e, e1, nI_1]
      rfl
    have g2 : m_Ref_takeNumber_L42 (n2 + 1) (nI lo) (nI hi) zx (nI F) fp (nI (q1 + k)) num (nI q1) = if (if isF (c (q1 + k)) then (1 : Int32) else 0) = 0 then m_Ref_takeNumber_B129 (nI lo) (nI hi) zx (nI F) fp (nI (q1 + k)) num (nI q1) else if num ≤ 10000 then m_Ref_takeNumber_L42 n2 (nI lo) (nI hi) zx (nI F) fp (nI (q1 + (k + 1))) (((10 * num) + nI (c (q1 + k))) - 48) (nI q1) else m_Ref_takeNumber_L42 n2 (nI lo) (nI hi) zx (nI F) fp (nI (q1 + (k + 1))) num (nI q1) := by
      show m_Ref_takeNumber_B42 (m_Ref_takeNumber_L42 n2) (nI lo) (nI hi) zx (nI F) fp (nI (q1 + k)) num (nI q1) = _
      unfold m_Ref_takeNumber_B42 m_Ref_takeNumber_B113
      rw [if_neg cc, kg_i (by omega) (by omega), kg_i (by omega) (by omega), nI_clamp (by omega), t2, fig_r cp, kb1_e, nI_1]
      rfl
    rw [g1, g2]
    cases hf : isF (c (q1 + k)) with
    | false =>
      rw [if_neg (show ¬ (false = true) by decide), if_pos p0, if_pos p0]
      have k1 : 1 ≤ k := by
        rcases Nat.eq_zero_or_pos k with z | z
        · subst z; rw [Nat.add_zero, hfig] at hf; cases hf
        · exact z
      obtain ⟨fk, fa, fp', v', num', a1, a2, a3⟩ := fin k x num k1 (by omega) hv
      exact ⟨q1 + k, fk, fa, fp', v', num', by omega, a1, a2, a3⟩
    | true =>
      rw [if_pos rfl, if_neg n1I.1, if_neg n1I.1]
      by_cases k3 : 3 ≤ k
      · have d3 : (3 : Int32) ≤ nI k := cle (a := 3) (by omega) (by omega) k3
        rw [if_pos d3]
        have big : ∀ x num : Int32, (k + 1 ≤ 3 → ∃ v : Nat, x = nI v ∧ num = nI v ∧ v < 10 ^ (k + 1)) := fun x num q => absurd q (by omega)
        by_cases z : num ≤ 10000
        · rw [if_pos z]; exact ih (k + 1) n1 n2 _ _ (by omega) (by omega) (by omega) (big _ _)
        · rw [if_neg z]; exact ih (k + 1) n1 n2 _ _ (by omega) (by omega) (by omega) (big _ _)
      · have d3 : ¬ (3 : Int32) ≤ nI k := ncle (a := 3) (by omega) (by omega) (by omega)
        obtain ⟨v, e2, e3, hvk⟩ := hv (by omega)
        subst e2 e3
        have p3 : 10 ^ k ≤ 10 ^ 3 := Nat.pow_le_pow_right (by omega) (by omega)
        have hv' : v < 1000 := Nat.lt_of_lt_of_le hvk p3
        have z : nI v ≤ (10000 : Int32) := cle (b := 10000) (by omega) (by omega) (by omega)
        have fg := of_decide_eq_true hf
        have m1 : nI v * 10 + nI (c (q1 + k)) - 48 = nI (10 * v + (c (q1 + k) - 48)) := by
          have a : nI v * 10 = nI (v * 10) := pk_mul v 10
          have b : nI (v * 10 + c (q1 + k)) - 48 = nI (v * 10 + c (q1 + k) - 48) := pk_sub (b := 48) (by omega)
          rw [a, nI_add, b]; exact congrArg nI (by omega)
        have m2 : 10 * nI v + nI (c (q1 + k)) - 48 = nI (10 * v + (c (q1 + k) - 48)) := by
          have a : 10 * nI v = nI (10 * v) := pk_mul 10 v
          have b : nI (10 * v + c (q1 + k)) - 48 = nI (10 * v + c (q1 + k) - 48) := pk_sub (b := 48) (by omega)
          rw [a, nI_add, b]; exact congrArg nI (by omega)
        rw [if_neg d3, if_pos z, m1, m2]
        exact ih (k + 1) n1 n2 _ _ (by omega) (by omega) (by omega) (fun _ => ⟨10 * v + (c (q1 + k) - 48), rfl, rfl, by rw [Nat.pow_succ]; omega⟩)
theorem num_i {F lo hi p : Nat} {c : Nat → Nat} {tx zx : Nat → Int32} (hT : Tx F c tx zx) (hp : p ≤ F) (hlo : lo ≤ 999) (hhi : hi ≤ 999) (na fp num nat : Int32) :
    ∃ (q1 q : Nat) (fk fa fp' v' num' nat' : Int32), q ≤ F ∧ q1 ≤ F ∧ m_Reader_readNumber (nI lo) (nI hi) (nI F) (nI p) na 0 (-1) tx = some (v', nI q, nI q1, fk, fa) ∧ m_Ref_takeNumber (nI lo) (nI hi) zx (nI F) fp (nI p) num nat = some (fk, fp', nI q, num', nat') ∧ NumOut lo hi p q1 q fp fk fa fp' v' num' nat' := by
  have h0 := hT.1
  obtain ⟨q1, s1, s2, s3, s4, s5⟩ := sk_i hT hp
  unfold m_Reader_readNumber m_Ref_takeNumber
  rw [if_pos p0, s4, kb1_e, s5, kb2_e]
  have bad : (¬ q1 < F ∨ isF (c q1) = false) → m_Ref_in (ltr F c q1).toInt64 48 57 = some 0 := by
    intro h
    unfold ltr
    by_cases q : q1 < F
    · rw [if_pos q, fig_r (hT.2 q1 q).1]
      rcases h with h | h
      · exact absurd q h
      · rw [h, if_neg (by decide)]
    · rw [if_neg q]
      exact inN_f (y := -1) (a := 48) (b := 57) (by omega) (by omega) (by decide)
  by_cases h : q1 < F ∧ isF (c q1) = true
  · have l : ltr F c q1 = nI (c q1) := if_pos h.1
    have good : m_Ref_in (ltr F c q1).toInt64 48 57 = some 1 := by rw [l, fig_r (hT.2 q1 h.1).1, h.2, if_pos rfl]
    rw [good, kb1_e, if_neg n1I.1]
    obtain ⟨q, fk, fa, fp', v', num', i0, i1, i2, i3⟩ := num_loop (lo := lo) (hi := hi) (fp := fp) hT hlo hhi h.1 h.2 (F - q1) 0 FU FU 0 0 (by omega) (FU_gt (by omega)) (FU_gt (by omega)) (fun _ => ⟨0, rfl, rfl, by decide⟩)
    rw [Nat.add_zero] at i1 i2
    obtain ⟨j1, j2⟩ := i3
    refine ⟨q1, q, fk, fa, fp', v', num', nI q1, i0, s2, i1, i2, by omega, ?_⟩
    rcases j2 with ⟨a1, a2, a3, a4, a5, v, a6⟩ | j2
    · exact Or.inl ⟨a1, a2, a3, a4, by omega, v, a6⟩
    · exact Or.inr j2
  · have hb : ¬ q1 < F ∨ isF (c q1) = false := by
      by_cases q : q1 < F
      · right
        cases z : isF (c q1) with
        | true => exact absurd ⟨q, z⟩ h
        | false => rfl
      · exact Or.inl q
    rw [bad hb, kb1_e, if_pos p0]
    unfold m_Ref_fails
    rw [kb2_e]
    refine ⟨q1, q1, 1, nI q1, nI q1, 0, num, nat, s2, s2, ?_, rfl, s1, Or.inr ⟨n1I.1, n1I.2, rfl⟩⟩
    have e83 : m_Reader_readNumber_B83 (nI lo) (nI hi) 0 (nI F) (nI q1) (nI q1) 0 (-1) tx = some (0, nI q1, nI q1, 1, nI q1) := by
      unfold m_Reader_readNumber_B83 m_Reader_note
      rw [if_pos rfl, if_pos p0, kb2_e]
    show m_Reader_readNumber_B23 (m_Reader_readNumber_L23 4999) (nI lo) (nI hi) 0 (nI F) (nI q1) (nI q1) 0 (-1) tx = _
    unfold m_Reader_readNumber_B23
    by_cases q : q1 < F
    · have l : ltr F c q1 = nI (c q1) := if_pos q
      have z : isF (c q1) = false := by
        rcases hb with hb | hb
        · exact absurd q hb
        · exact hb
      rw [if_neg (ncle (by omega) (by omega) q), lh_i hT (by omega), kb1_e, l, fig_c (hT.2 q1 q).1, kb1_e, z, if_neg (show ¬ (false = true) by decide), if_pos p0]
      exact e83
    · rw [if_pos (cle (by omega) (by omega) (by omega))]
      exact e83
/-- behind a fault nothing is read -/
theorem num_f {y1 y2 F p na fk fa : Int32} {tx : Nat → Int32} (h : ¬ fk = 0) : m_Reader_readNumber y1 y2 F p na fk fa tx = some (0, p, na, fk, fa) := by
  unfold m_Reader_readNumber
  rw [if_neg h]
theorem sign_f {y1 F p fk fa : Int32} {tx : Nat → Int32} (h : ¬ fk = 0) : m_Reader_readSign y1 F p fk fa tx = some (p, fk, fa) := by
  unfold m_Reader_readSign
  rw [if_neg h]
theorem note_f {y1 y2 fk fa : Int32} (h : ¬ fk = 0) : m_Reader_note y1 y2 fk fa = some (fk, fa) := by
  unfold m_Reader_note
  rw [if_neg h]
theorem note_0 {y1 y2 fa : Int32} : m_Reader_note y1 y2 0 fa = some (y1, y2) := by
  unfold m_Reader_note
  rw [if_pos p0]
theorem sign_i {F p s : Nat} {c : Nat → Nat} {tx zx : Nat → Int32} (hT : Tx F c tx zx) (hp : p ≤ F) (hs : s < 256) :
    ∃ q : Nat, p ≤ q ∧ q ≤ F ∧ m_Ref_here zx (nI F) (nI p) = some (ltr F c q, nI q) ∧ ((ltr F c q = nI s ∧ q < F ∧ m_Reader_readSign (nI s) (nI F) (nI p) 0 (-1) tx = some (nI (q + 1), 0, -1)) ∨ (¬ ltr F c q = nI s ∧ m_Reader_readSign (nI s) (nI F) (nI p) 0 (-1) tx = some (nI (q + 1), 1, nI q))) := by
  have h0 := hT.1
  obtain ⟨q, s1, s2, s3, s4, s5⟩ := sk_i hT hp
  refine ⟨q, s1, s2, s5, ?_⟩
  unfold m_Reader_readSign m_Reader_readSign_B29
  rw [if_pos p0, s4, kb1_e, lh_i hT (by omega), kb1_e, note_0, kb2_e, nI_1]
  by_cases z : ltr F c q = nI s
  · rw [if_pos z]
    refine Or.inl ⟨z, ?_, rfl⟩
    by_cases q' : q < F
    · exact q'
    · exfalso
      have l : ltr F c q = -1 := if_neg q'
      rw [l] at z
      have z2 := congrArg Int32.toInt z
      rw [nI_toInt (by omega)] at z2
      have z3 : ((-1 : Int32)).toInt = -1 := by decide
      rw [z3] at z2; omega
  · rw [if_neg z]
    exact Or.inr ⟨z, rfl⟩
