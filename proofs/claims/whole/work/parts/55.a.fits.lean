/-! ===== which pulls fit what is seen ===== -/
theorem fw_stuck {J B b : Nat} {hard now wears : Nat → Int32} {a ff p : Int32} :
    ∀ (d m n : Nat) (way : Nat → Int32), m + d = 30 → d < n → ∃ way' : Nat → Int32, m_Ref_findWay_L30 n (nI b) 0 (nI (m + 1)) (nI J) hard wears now a ff p way = some (a, ff, p, way') ∧ ∀ i : Nat, way' i = if m + 1 ≤ i ∧ i ≤ 30 then a else way i := by
  intro d
  induction d with
  | zero =>
    intro m n way hm' hn
    obtain ⟨g, rfl, -⟩ := fuS hn
    refine ⟨way, ?_, fun i => by rw [if_neg (by omega)]⟩
    show m_Ref_findWay_B30 (m_Ref_findWay_L30 g) (nI b) 0 (nI (m + 1)) (nI J) hard wears now a ff p way = _
    have c : (31 : Int32) ≤ nI (m + 1) := cle (a := 31) (by omega) (by omega) (by omega)
    unfold m_Ref_findWay_B30
    rw [if_pos c]
  | succ d ih =>
    intro m n way hm' hn
    obtain ⟨g, rfl, hg⟩ := fuS hn
    obtain ⟨way', h1, h2⟩ := ih (m + 1) g (upd way (m + 1) a) (by omega) (by omega)
    refine ⟨way', ?_, fun i => ?_⟩
    · show m_Ref_findWay_B30 (m_Ref_findWay_L30 g) (nI b) 0 (nI (m + 1)) (nI J) hard wears now a ff p way = _
      have c : ¬ (31 : Int32) ≤ nI (m + 1) := ncle (a := 31) (by omega) (by omega) (by omega)
      unfold m_Ref_findWay_B30 m_Ref_findWay_B58 m_Ref_findWay_B59
      rw [if_neg c, if_pos p0, kg_i (by omega) (by omega), nI_clamp (by omega), nI_1]; exact h1
    · rw [h2 i]
      by_cases c1 : i = m + 1
      · subst c1; rw [if_neg (by omega), if_pos (by omega), pk_us]
      · by_cases c2 : m + 1 ≤ i ∧ i ≤ 30
        · rw [if_pos (by omega), if_pos c2]
        · rw [if_neg (by omega), if_neg c2, pk_un c1]
theorem gct_s (n : Nat → Nat) (q d k : Nat) : gct n q (d + 1) k = if n (k + 1) ≤ q then gct n q d (k + 1) else k := rfl
theorem fw_loop {J b j w q : Nat} {hm : Nat → Nat → Nat} {hard now wears : Nat → Int32} (hJ : J ≤ 9) (hj : j < J) (hw : w ≤ 99) (hq : q ≤ 999) (hb : b < 5) (hh : HM hard hm) (w2 : wears b = nI w) :
    ∀ (d m n : Nat) (way : Nat → Int32), m + d = 30 → d < n → nd hm J j 0 w m ≤ q → ∃ (a' f' p' : Int32) (way' : Nat → Int32), m_Ref_findWay_L30 n (nI b) 1 (nI (m + 1)) (nI J) hard wears now (nI (ps hm J j 0 m).1) (om (ps hm J j 0 m).2) (nI (q - m * w)) way = some (a', f', p', way') ∧ ∀ i : Nat, way' i = if m + 1 ≤ i ∧ i ≤ 30 then nI (ps hm J j 0 (gct (nd hm J j 0 w) q (i - m) m)).1 else way i := by
  intro d
  induction d with
  | zero =>
    intro m n way hm' hn hne
    obtain ⟨g, rfl, -⟩ := fuS hn
    refine ⟨nI (ps hm J j 0 m).1, om (ps hm J j 0 m).2, nI (q - m * w), way, ?_, fun i => by rw [if_neg (by omega)]⟩
    show m_Ref_findWay_B30 (m_Ref_findWay_L30 g) (nI b) 1 (nI (m + 1)) (nI J) hard wears now _ _ _ way = _
    have c : (31 : Int32) ≤ nI (m + 1) := cle (a := 31) (by omega) (by omega) (by omega)
    unfold m_Ref_findWay_B30
    rw [if_pos c]
  | succ d ih =>
    intro m n way hm' hn hne
    obtain ⟨g, rfl, hg⟩ := fuS hn
    have c : ¬ (31 : Int32) ≤ nI (m + 1) := ncle (a := 31) (by omega) (by omega) (by omega)
    have go := go_at (f := 0) hJ hj (Nat.zero_le J) hw hq hh hne
    by_cases c1 : nd hm J j 0 w (m + 1) ≤ q
    · obtain ⟨a', f', p', way', h1, h2⟩ := ih (m + 1) g (upd way (m + 1) (nI (ps hm J j 0 (m + 1)).1)) (by omega) (by omega) c1
      refine ⟨a', f', p', way', ?_, fun i => ?_⟩
      · show m_Ref_findWay_B30 (m_Ref_findWay_L30 g) (nI b) 1 (nI (m + 1)) (nI J) hard wears now (nI (ps hm J j 0 m).1) (om (ps hm J j 0 m).2) (nI (q - m * w)) way = _
        unfold m_Ref_findWay_B30 m_Ref_findWay_B59
        rw [if_neg c, if_neg n1, kg_i hb (by omega), nI_clamp (by omega), w2, go, if_pos c1, kb4_e, if_neg n1, kg_i (by omega) (by omega), nI_clamp (by omega), nI_1]; exact h1
      · rw [h2 i]
        by_cases e : i = m + 1
        · subst e
          have z : gct (nd hm J j 0 w) q (m + 1 - m) m = m + 1 := by
            rw [show m + 1 - m = 0 + 1 by omega, gct_s, if_pos c1]; rfl
          rw [if_neg (by omega), if_pos (by omega), pk_us, z]
        · by_cases c2 : m + 1 ≤ i ∧ i ≤ 30
          · have z : gct (nd hm J j 0 w) q (i - m) m = gct (nd hm J j 0 w) q (i - (m + 1)) (m + 1) := by
              rw [show i - m = (i - (m + 1)) + 1 by omega, gct_s, if_pos c1]
            rw [if_pos (by omega), if_pos c2, z]
          · rw [if_neg (by omega), if_neg c2, pk_un e]
    · obtain ⟨way', h1, h2⟩ := fw_stuck (J := J) (B := 0) (b := b) (hard := hard) (now := now) (wears := wears) (a := nI (ps hm J j 0 m).1) (ff := om (ps hm J j 0 m).2) (p := nI (q - m * w)) d (m + 1) g (upd way (m + 1) (nI (ps hm J j 0 m).1)) (by omega) (by omega)
      refine ⟨nI (ps hm J j 0 m).1, om (ps hm J j 0 m).2, nI (q - m * w), way', ?_, fun i => ?_⟩
      · show m_Ref_findWay_B30 (m_Ref_findWay_L30 g) (nI b) 1 (nI (m + 1)) (nI J) hard wears now (nI (ps hm J j 0 m).1) (om (ps hm J j 0 m).2) (nI (q - m * w)) way = _
        unfold m_Ref_findWay_B30 m_Ref_findWay_B58 m_Ref_findWay_B59
        rw [if_neg c, if_neg n1, kg_i hb (by omega), nI_clamp (by omega), w2, go, if_neg c1, kb4_e, if_pos p0, kg_i (by omega) (by omega), nI_clamp (by omega), nI_1]; exact h1
      · rw [h2 i]
        have z : m + 1 ≤ i → gct (nd hm J j 0 w) q (i - m) m = m := by
          intro hi
          rw [show i - m = (i - (m + 1)) + 1 by omega, gct_s, if_neg c1]
        by_cases e : i = m + 1
        · subst e
          rw [if_neg (by omega), if_pos (by omega), pk_us, z (by omega)]
        · by_cases c2 : m + 1 ≤ i ∧ i ≤ 30
          · rw [if_pos (by omega), if_pos c2, z c2.1]
          · rw [if_neg (by omega), if_neg c2, pk_un e]
/-- the reference's way of pull q: place by place -/
theorem fw_i {J b j w q : Nat} {hm : Nat → Nat → Nat} {hard now wears : Nat → Int32} (hJ : J ≤ 9) (hj : j < J) (hw : w ≤ 99) (hq : q ≤ 999) (hb : b < 5) (hh : HM hard hm) (s1 : now b = nI j) (w2 : wears b = nI w) (a ff p : Int32) (way : Nat → Int32) :
    ∃ (a' f' p' : Int32) (way' : Nat → Int32), m_Ref_findWay (nI b) (nI q) (nI J) hard wears now a ff p way = some (a', f', p', way') ∧ ∀ i : Nat, i ≤ 30 → way' i = nI (ps hm J j 0 (gct (nd hm J j 0 w) q i 0)).1 := by
  obtain ⟨a', f', p', way', h1, h2⟩ := fw_loop (now := now) hJ hj hw hq hb hh w2 30 0 FU (upd way 0 (nI j)) (by omega) (FU_gt (by omega)) (Nat.zero_le q)
  refine ⟨a', f', p', way', ?_, fun i hi => ?_⟩
  · have k0 : ∀ K : Option (Int32 × Int32 × Int32 × (Nat → Int32)), kg 0 31 K = K := fun K => kg_i (k := 0) (by omega) (by omega)
    have e : q - 0 * w = q := by omega
    rw [e] at h1
    unfold m_Ref_findWay
    rw [board_i hb, kb3_e, k0, c0N, s1, ← om_0]; exact h1
  · rw [h2 i]
    by_cases c : i = 0
    · subst c; rw [if_neg (by omega), pk_us]; rfl
    · rw [if_pos (by omega)]; rfl
theorem gct_min {n : Nat → Nat} {q : Nat} : ∀ (d e k : Nat), e ≤ d → gct n q e k = min (k + e) (gct n q d k) := by
  intro d
  induction d with
  | zero => intro e k he; have : e = 0 := by omega
            subst this; show k = min (k + 0) k; omega
  | succ d ih =>
    intro e k he
    cases e with
    | zero => have := (gct_le n q (d + 1) k).1; show k = min (k + 0) _; omega
    | succ e =>
      rw [gct_s, gct_s]
      by_cases c : n (k + 1) ≤ q
      · rw [if_pos c, if_pos c, ih e (k + 1) (by omega)]; congr 1; omega
      · rw [if_neg c, if_neg c]; omega
def okE (hm : Nat → Nat → Nat) (J j b : Nat) (zo zs zj : Nat → Int32) (k e : Nat) : Bool := if (zo e).toNatClampNeg = b then decide ((ps hm J j 0 (min k (zs e).toNatClampNeg)).1 = (zj e).toNatClampNeg) else true
def fitb (ok : Nat → Bool) : Nat → Nat → Bool
  | 0, _ => true
  | d + 1, e => ok e && fitb ok d (e + 1)
