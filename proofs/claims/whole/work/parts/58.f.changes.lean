/-! ===== changes: both searches side by side ===== -/
theorem bg_loop {bb f : Int32} : ∀ (d k n : Nat) (a o : Nat → Int32), k + d = 5 → d < n → ∃ a' o' : Nat → Int32, m_Exch_begin_L20 n (nI k) bb a o f = some (bb, a', o', f) ∧ (∀ i : Nat, i < k → a' i = a i ∧ o' i = o i) ∧ ∀ i : Nat, k ≤ i → i < 5 → a' i = 0 ∧ o' i = nI i := by
  intro d
  induction d with
  | zero =>
    intro k n a o hk hn
    obtain ⟨n, rfl, -⟩ := fuS hn
    have hk' : k = 5 := by omega
    subst hk'
    refine ⟨a, o, ?_, fun i _ => ⟨rfl, rfl⟩, fun i h1 h2 => absurd h1 (by omega)⟩
    show m_Exch_begin_B20 (m_Exch_begin_L20 n) (nI 5) bb a o f = _
    unfold m_Exch_begin_B20
    rw [if_pos (by decide)]
  | succ d ih =>
    intro k n a o hk hn
    obtain ⟨n, rfl, hn'⟩ := fuS hn
    obtain ⟨a', o', i1, i2, i3⟩ := ih (k + 1) n (upd a k 0) (upd o k (nI k)) (by omega) (by omega)
    have c : ¬ (5 : Int32) ≤ nI k := ncle (a := 5) (by omega) (by omega) (by omega)
    refine ⟨a', o', ?_, fun i hi => ?_, fun i h1 h2 => ?_⟩
    · show m_Exch_begin_B20 (m_Exch_begin_L20 n) (nI k) bb a o f = _
      unfold m_Exch_begin_B20
      rw [if_neg c, kg_i (by omega) (by omega), kg_i (by omega) (by omega), nI_clamp (by omega), nI_1]
      exact i1
    · obtain ⟨q1, q2⟩ := i2 i (by omega)
      rw [pk_un (by omega)] at q1 q2
      exact ⟨q1, q2⟩
    · by_cases c2 : i = k
      · subst c2
        obtain ⟨q1, q2⟩ := i2 i (by omega)
        rw [pk_us] at q1 q2
        exact ⟨q1, q2⟩
      · exact i3 i (by omega) h2
theorem begin_i {B : Nat} (hB : B ≤ 5) (eb ef : Int32) (a o : Nat → Int32) : ∃ a' o' : Nat → Int32, m_Exch_begin (nI B) eb a o ef = some (nI B, a', o', -1) ∧ ∀ i : Nat, i < 5 → a' i = 0 ∧ o' i = nI i := by
  obtain ⟨a', o', h1, -, h3⟩ := bg_loop (bb := nI B) (f := -1) 5 0 FU a o (by omega) (FU_gt (by omega))
  have c : ¬ (5 : Int32) < nI B := nclt (a := 5) (by omega) (by omega) hB
  have eB : (if (0 : Int32) < (if (5 : Int32) < nI B then 5 else nI B) then (if (5 : Int32) < nI B then 5 else nI B) else 0) = nI B := by
    rw [if_neg c]
    by_cases c2 : B = 0
    · subst c2; rfl
    · have c3 : (0 : Int32) < nI B := clt (a := 0) (by omega) (by omega) (by omega)
      rw [if_pos c3]
  refine ⟨a', o', ?_, fun i hi => h3 i (Nat.zero_le i) hi⟩
  unfold m_Exch_begin
  rw [eB]
  exact h1
theorem cp_loop {B : Nat} {s : Int32} {o : Nat → Int32} (hB : B ≤ 5) : ∀ (d k n : Nat) (be : Nat → Int32), k + d = B → d < n → ∃ be' : Nat → Int32, m_Exch_compare_L34 n (nI k) (nI B) o be s = some (be', s) ∧ (∀ i : Nat, i < k → be' i = be i) ∧ ∀ i : Nat, k ≤ i → i < B → be' i = o i := by
  intro d
  induction d with
  | zero =>
    intro k n be hk hn
    obtain ⟨n, rfl, -⟩ := fuS hn
    refine ⟨be, ?_, fun i _ => rfl, fun i h1 h2 => absurd h1 (by omega)⟩
    show m_Exch_compare_B34 (m_Exch_compare_L34 n) (nI k) (nI B) o be s = _
    unfold m_Exch_compare_B34
    rw [if_pos (cle (by omega) (by omega) (by omega))]
  | succ d ih =>
    intro k n be hk hn
    obtain ⟨n, rfl, hn'⟩ := fuS hn
    obtain ⟨be', i1, i2, i3⟩ := ih (k + 1) n (upd be k (o k)) (by omega) (by omega)
    refine ⟨be', ?_, fun i hi => ?_, fun i h1 h2 => ?_⟩
    · show m_Exch_compare_B34 (m_Exch_compare_L34 n) (nI k) (nI B) o be s = _
      unfold m_Exch_compare_B34
      rw [if_neg (ncle (by omega) (by omega) (by omega)), kg_i (by omega) (by omega), kg_i (by omega) (by omega), nI_clamp (by omega), nI_1]
      exact i1
    · have q := i2 i (by omega)
      rw [pk_un (by omega)] at q; exact q
    · by_cases c : i = k
      · subst c
        have q := i2 i (by omega)
        rw [pk_us] at q; exact q
      · exact i3 i (by omega) h2
theorem rc_loop {B : Nat} {x1 x2 x3 x4 x5 zj a f p : Int32} {hard wears zq now gv : Nat → Int32} (hB : B ≤ 5) (K : Int32 → Int32 → Int32 → Int32 → Int32 → Int32 → (Nat → Int32) → Int32 → (Nat → Int32) → (Nat → Int32) → (Nat → Int32) → Int32 → Int32 → Int32 → (Nat → Int32) → (Nat → Int32) → Option (Int32 × Int32 × Int32 × Int32 × (Nat → Int32) × (Nat → Int32))) :
    ∀ (d k n : Nat) (be : Nat → Int32), k + d = B → d < n → ∃ be' : Nat → Int32, m_Ref_changes_L107 K n x1 x2 x3 x4 x5 (nI k) zj hard (nI B) wears zq now a f p gv be = m_Ref_changes_B136 K x1 x2 x3 x4 x5 zj hard (nI B) wears zq now a f p gv be' ∧ (∀ i : Nat, i < k → be' i = be i) ∧ ∀ i : Nat, k ≤ i → i < B → be' i = gv i := by
  intro d
  induction d with
  | zero =>
    intro k n be hk hn
    obtain ⟨n, rfl, -⟩ := fuS hn
    refine ⟨be, ?_, fun i _ => rfl, fun i h1 h2 => absurd h1 (by omega)⟩
    show m_Ref_changes_B107 K (m_Ref_changes_L107 K n) x1 x2 x3 x4 x5 (nI k) zj hard (nI B) wears zq now a f p gv be = _
    unfold m_Ref_changes_B107
    rw [if_pos (cle (by omega) (by omega) (by omega))]
  | succ d ih =>
    intro k n be hk hn
    obtain ⟨n, rfl, hn'⟩ := fuS hn
    obtain ⟨be', i1, i2, i3⟩ := ih (k + 1) n (upd be k (gv k)) (by omega) (by omega)
    refine ⟨be', ?_, fun i hi => ?_, fun i h1 h2 => ?_⟩
    · show m_Ref_changes_B107 K (m_Ref_changes_L107 K n) x1 x2 x3 x4 x5 (nI k) zj hard (nI B) wears zq now a f p gv be = _
      unfold m_Ref_changes_B107
      rw [if_neg (ncle (by omega) (by omega) (by omega)), kg_i (by omega) (by omega), kg_i (by omega) (by omega), nI_clamp (by omega), nI_1]
      exact i1
    · have q := i2 i (by omega)
      rw [pk_un (by omega)] at q; exact q
    · by_cases c : i = k
      · subst c
        have q := i2 i (by omega)
        rw [pk_us] at q; exact q
      · exact i3 i (by omega) h2
/-- what both have found so far -/
def Fnd (B : Nat) (few : Int32) (best bg : Nat → Int32) : Prop := few = -1 ∨ (¬ few < 0 ∧ ∀ i : Nat, i < B → best i = bg i)
theorem lt_of_nle {a b : Int32} (h : ¬ a ≤ b) : b < a := by rw [i32_le] at h; rw [i32_lt]; omega
theorem nlt_of_le {a b : Int32} (h : a ≤ b) : ¬ b < a := by rw [i32_le] at h; rw [i32_lt]; omega
theorem ch_loop {hm : Nat → Nat → Nat} {J B N : Nat} {y2 : Int32} {hard row now bw wears quays zq al : Nat → Int32} {jj ff pp ww qq : Nat → Nat} (hJ : J ≤ 9) (hB : B ≤ 5) (hN : N ≤ 60) (hh : HM hard hm) (hC : Crew J B row now bw wears quays zq jj ff pp ww qq) (hal : ∀ i : Nat, i < B → Mk (aB hm J N jj ff pp ww qq) B al i) (h5 : 5 ^ B ≤ 3125) :
    ∀ (d c e k f1 f2 : Nat) (few a f p : Int32) (o best g bg : Nat → Int32), c + d = 5 ^ B → c ≤ e → e ≤ 5 ^ B → (∀ i : Nat, c ≤ i → i < e → vl B i = false) → (e < 5 ^ B → vl B e = true ∧ E5 (oc B e) o) → k + cv B d c ≤ 120 → d < f1 → d < f2 → Fnd B few best bg →
    ∃ (few' a' f' p' : Int32) (o' best' g' bg' : Nat → Int32), m_Exch_search_L4 f1 (if e < 5 ^ B then 1 else 0) (nI k) (nI B) al o best few = some (o', best', few') ∧ m_Ref_changes_L61 f2 (nI N) y2 (nI (5 ^ B)) few (nI c) (nI J) hard (nI B) wears zq now a f p g bg = m_Ref_changes_B142 y2 few' (nI J) hard (nI B) wears zq now a' f' p' g' bg' ∧ Fnd B few' best' bg' := by
  intro d
  induction d with
  | zero =>
    intro c e k f1 f2 few a f p o best g bg hc he1 he2 hno hyes hk hf1 hf2 hF
    obtain ⟨f1, rfl, -⟩ := fuS hf1
    obtain ⟨f2, rfl, -⟩ := fuS hf2
    refine ⟨few, a, f, p, o, best, g, bg, ?_, ?_, hF⟩
    · show m_Exch_search_B4 (m_Exch_search_L4 f1) (if e < 5 ^ B then 1 else 0) (nI k) (nI B) al o best few = _
      unfold m_Exch_search_B4
      rw [if_neg (show ¬ e < 5 ^ B by omega), if_pos p0]
      by_cases q : (120 : Int32) ≤ nI k
      · rw [if_pos q]
      · rw [if_neg q]
    · show m_Ref_changes_B61 (m_Ref_changes_L61 f2) (nI N) y2 (nI (5 ^ B)) few (nI c) (nI J) hard (nI B) wears zq now a f p g bg = _
      unfold m_Ref_changes_B61
      rw [if_pos (cle (by omega) (by omega) (by omega))]
  | succ d ih =>
    intro c e k f1 f2 few a f p o best g bg hc he1 he2 hno hyes hk hf1 hf2 hF
    obtain ⟨f2, rfl, hf2'⟩ := fuS hf2
    have hcB : c < 5 ^ B := by omega
    obtain ⟨g2, t1, t2⟩ := ck_take hB hcB g
    have ecv : cv B (d + 1) c = (if vl B c = true then 1 else 0) + cv B d (c + 1) := rfl
    have hL : m_Ref_changes_L61 (f2 + 1) (nI N) y2 (nI (5 ^ B)) few (nI c) (nI J) hard (nI B) wears zq now a f p g bg = m_Ref_changes_B61 (m_Ref_changes_L61 f2) (nI N) y2 (nI (5 ^ B)) few (nI c) (nI J) hard (nI B) wears zq now a f p g bg := rfl
    rw [hL]
    unfold m_Ref_changes_B61
    rw [if_neg (ncle (by omega) (by omega) (by omega)), t1, kb2_e]
    cases hv : vl B c with
    | false =>
      rw [hv, if_neg (by decide)] at ecv
      rw [if_neg (show ¬ (false = true) by decide), if_pos p0]
      have hce : c ≠ e := fun q => by
        subst q
        have z := (hyes hcB).1
        rw [hv] at z; cases z
      unfold m_Ref_changes_B136
      rw [nI_1]
      exact ih (c + 1) e k f1 f2 few a f p o best g2 bg (by omega) (by omega) he2 (fun i q1 q2 => hno i (by omega) q2) hyes (by omega) (by omega) (by omega) hF
    | true =>
      rw [hv, if_pos rfl] at ecv
      rw [if_pos rfl, if_neg n1]
      have hce : c = e := by
        rcases Nat.lt_or_ge c e with q | q
        · have z := hno c (Nat.le_refl c) q
          rw [hv] at z; cases z
        · omega
      subst hce
      obtain ⟨f1, rfl, hf1'⟩ := fuS hf1
      obtain ⟨-, eo⟩ := hyes hcB
      obtain ⟨r, s, c1, c2, c3, c4⟩ := ck_cost hB hcB hv eo t2
      obtain ⟨o2, x1, x2⟩ := ck_next hB hcB hv eo
      obtain ⟨y1, y2', y3, y4⟩ := nv_is (B := B) (5 ^ B - (c + 1)) (c + 1)
      have ho : ∀ i : Nat, i < B → o i = nI (dgt B c i) ∧ dgt B c i < B := fun i hi => ⟨(eo i (by omega)).symm.trans (oc_in hi), vl_lt hv i hi⟩
      have hg : ∀ i : Nat, i < B → g2 i = nI (dgt B c i) ∧ dgt B c i < B := fun i hi => ⟨(t2 i hi).symm.trans (oc_in hi), vl_lt hv i hi⟩
      have ia : m_Exch_isAllowed (nI B) al o = some (if ak (aB hm J N jj ff pp ww qq) (dgt B c) B 0 = true then 1 else 0) := ia_loop hB hal ho B 0 FU (by omega) (FU_gt (by omega))
      obtain ⟨a4, f4, p4, aq⟩ := aq_loop hJ hB hN hh hC hg B 0 FU a f p (by omega) (FU_gt (by omega))
      have aq : m_Ref_allAtQuays (nI N) (nI J) hard (nI B) wears zq now a f p g2 = some (if ak (aB hm J N jj ff pp ww qq) (dgt B c) B 0 = true then 1 else 0, a4, f4, p4) := aq
      have fin : ∀ (few1 a1 f1' p1 : Int32) (best1 bg1 : Nat → Int32), Fnd B few1 best1 bg1 → ∃ (few' a' f' p' : Int32) (o' best' g' bg' : Nat → Int32), m_Exch_search_B25 (m_Exch_search_L4 f1) (nI k) (nI B) al o best1 few1 = some (o', best', few') ∧ m_Ref_changes_B136 (m_Ref_changes_L61 f2) (nI N) y2 (nI (5 ^ B)) few1 (nI c) (nI J) hard (nI B) wears zq now a1 f1' p1 g2 bg1 = m_Ref_changes_B142 y2 few' (nI J) hard (nI B) wears zq now a' f' p' g' bg' ∧ Fnd B few' best' bg' := by
        intro few1 a1 f1' p1 best1 bg1 hF1
        unfold m_Exch_search_B25 m_Ref_changes_B136
        rw [x1, kb2_e, nI_1, nI_1]
        exact ih (c + 1) (nx B c) (k + 1) f1 f2 few1 a1 f1' p1 o2 best1 g2 bg1 (by omega) y1 (by show nv B (5 ^ B - (c + 1)) (c + 1) ≤ 5 ^ B; omega) y3 (fun q => ⟨y4 (by have q : nv B (5 ^ B - (c + 1)) (c + 1) < 5 ^ B := q; omega), x2 q⟩) (by omega) (by omega) (by omega) hF1
      have hS : m_Exch_search_L4 (f1 + 1) (if c < 5 ^ B then 1 else 0) (nI k) (nI B) al o best few = m_Exch_search_B4 (m_Exch_search_L4 f1) 1 (nI k) (nI B) al o best few := by rw [if_pos hcB]; rfl
      have ck : ¬ (120 : Int32) ≤ nI k := ncle (a := 120) (by omega) (by omega) (by omega)
      rw [hS]
      unfold m_Exch_search_B4
      rw [if_neg ck, if_neg n1, ia, kb1_e]
      unfold m_Ref_changes_B90
      rw [aq, c4, kb4_e, kb1_e]
      cases cak : ak (aB hm J N jj ff pp ww qq) (dgt B c) B 0 with
      | false =>
        rw [if_neg (show ¬ (false = true) by decide), if_pos p0, if_pos p0]
        obtain ⟨few', a', f', p', o', best', g', bg', j1, j2, j3⟩ := fin few a4 f4 p4 best bg hF
        obtain ⟨few2, a2, f2', p2, o2', best2, g2', bg2, k1, k2, k3⟩ := fin few a f p best bg hF
        by_cases q1 : few < 0
        · rw [if_pos q1]
          exact ⟨few', a', f', p', o', best', g', bg', j1, j2, j3⟩
        · rw [if_neg q1, kb1_e]
          by_cases q2 : few ≤ s
          · rw [if_pos q2]
            exact ⟨few2, a2, f2', p2, o2', best2, g2', bg2, k1, k2, k3⟩
          · rw [if_neg q2]
            exact ⟨few', a', f', p', o', best', g', bg', j1, j2, j3⟩
      | true =>
        rw [if_pos rfl, if_neg n1, if_neg n1]
        unfold m_Exch_compare m_Exch_compare_B27
        rw [c1, kb1_e, c2, kb1_e]
        obtain ⟨be, b1, -, b3⟩ := cp_loop (s := s) (o := o) hB B 0 FU best (by omega) (FU_gt (by omega))
        obtain ⟨be2, d1, -, d3⟩ := rc_loop (x1 := nI N) (x2 := y2) (x3 := nI (5 ^ B)) (x4 := s) (x5 := nI c) (zj := nI J) (a := a4) (f := f4) (p := p4) (hard := hard) (wears := wears) (zq := zq) (now := now) (gv := g2) hB (m_Ref_changes_L61 f2) B 0 FU bg (by omega) (FU_gt (by omega))
        have hF2 : Fnd B s be be2 := Or.inr ⟨c3, fun i hi => by rw [b3 i (Nat.zero_le i) hi, d3 i (Nat.zero_le i) hi, (ho i hi).1, (hg i hi).1]⟩
        obtain ⟨few', a', f', p', o', best', g', bg', j1, j2, j3⟩ := fin s a4 f4 p4 be be2 hF2
        obtain ⟨few2, a2, f2', p2, o2', best2, g2', bg2, k1, k2, k3⟩ := fin few a f p best bg hF
        have b1' : m_Exch_compare_L34 FU 0 (nI B) o best s = some (be, s) := b1
        have d1' : m_Ref_changes_L107 (m_Ref_changes_L61 f2) FU (nI N) y2 (nI (5 ^ B)) s (nI c) 0 (nI J) hard (nI B) wears zq now a4 f4 p4 g2 bg = m_Ref_changes_B136 (m_Ref_changes_L61 f2) (nI N) y2 (nI (5 ^ B)) s (nI c) (nI J) hard (nI B) wears zq now a4 f4 p4 g2 be2 := d1
        rw [b1', d1']
        rcases hF with q | ⟨q1, q2⟩
        · have q' : few < 0 := by rw [q]; decide
          rw [if_pos q, if_pos q', kb2_e]
          exact ⟨few', a', f', p', o', best', g', bg', j1, j2, j3⟩
        · have q3 : ¬ few = -1 := fun z => q1 (by rw [z]; decide)
          rw [if_neg q3, if_neg q1]
          by_cases q4 : few ≤ s
          · rw [if_neg (nlt_of_le q4), if_pos q4, kb2_e]
            exact ⟨few2, a2, f2', p2, o2', best2, g2', bg2, k1, k2, k3⟩
          · rw [if_pos (lt_of_nle q4), if_neg q4, kb2_e]
            exact ⟨few', a', f', p', o', best', g', bg', j1, j2, j3⟩
theorem p5_loop {B : Nat} {x1 x2 zj a f p : Int32} {hard wears zq now g bg : Nat → Int32} (hB : B ≤ 5) :
    ∀ (d k n : Nat), k + d = B → d < n → m_Ref_changes_L36 n x1 x2 (nI (5 ^ k)) (nI k) zj hard (nI B) wears zq now a f p g bg = m_Ref_changes_B55 x1 x2 (nI (5 ^ B)) zj hard (nI B) wears zq now a f p g bg := by
  intro d
  induction d with
  | zero =>
    intro k n hk hn
    obtain ⟨n, rfl, -⟩ := fuS hn
    have hk' : k = B := by omega
    subst hk'
    show m_Ref_changes_B36 (m_Ref_changes_L36 n) x1 x2 (nI (5 ^ k)) (nI k) zj hard (nI k) wears zq now a f p g bg = _
    unfold m_Ref_changes_B36
    rw [if_pos (cle (by omega) (by omega) (Nat.le_refl k))]
  | succ d ih =>
    intro k n hk hn
    obtain ⟨n, rfl, hn'⟩ := fuS hn
    have e5 : nI (5 ^ k) * 5 = nI (5 ^ (k + 1)) := pk_mul (5 ^ k) 5
    show m_Ref_changes_B36 (m_Ref_changes_L36 n) x1 x2 (nI (5 ^ k)) (nI k) zj hard (nI B) wears zq now a f p g bg = _
    unfold m_Ref_changes_B36
    rw [if_neg (ncle (by omega) (by omega) (by omega)), e5, nI_1]
    exact ih (k + 1) n (by omega) (by omega)
theorem chs {B : Nat} {P : Nat → Nat → Prop} (h : ∀ b : Nat, b < B → ∃ x : Nat, P b x) : ∃ F : Nat → Nat, ∀ b : Nat, b < B → P b (F b) :=
  ⟨fun b => if q : b < B then Classical.choose (h b q) else 0, fun b q => by
    show P b (if q : b < B then Classical.choose (h b q) else 0)
    rw [dif_pos q]
    exact Classical.choose_spec (h b q)⟩
theorem p5_le {B : Nat} (hB : B ≤ 5) : 5 ^ B ≤ 3125 := by
  rcases (show B = 0 ∨ B = 1 ∨ B = 2 ∨ B = 3 ∨ B = 4 ∨ B = 5 by omega) with rfl | rfl | rfl | rfl | rfl | rfl
  all_goals omega
theorem id_oc : ∀ B : Nat, B < 6 → nv B (5 ^ B) 0 < 5 ^ B ∧ al5 (oc B (nv B (5 ^ B) 0)) nI 5 = true := by decide +kernel
theorem sim_changes (t_lettersFed : Int32) (t_faultAt : Int32) (t_letters : Nat → Int32) (t_quays : Nat → Int32) (t_here_junctions : Int32) (t_here_cuts : Int32) (t_here_boats : Int32) (t_here_cutA : Nat → Int32) (t_here_cutB : Nat → Int32) (t_here_cutHard : Nat → Int32) (t_here_boatWear : Nat → Int32) (t_here_onward : Nat → Int32) (t_here_onwardHard : Nat → Int32) (t_fleet_row : Nat → Int32) (t_past_next : Int32) (t_past_count : Int32) (t_past_shelf_slots : Int32) (t_past_shelf_rows : Nat → Int32) (t_images_shelf_slots : Int32) (t_images_shelf_rows : Nat → Int32) (t_images_seeds : Nat → Int32) (t_images_kept : Nat → Int32) (t_draws_value : Int32) (t_seen_most : Int32) (t_seen_count : Int32) (t_seen_boats : Nat → Int32) (t_seen_steps : Nat → Int32) (t_seen_junctions : Nat → Int32) (t_book_most : Int32) (t_book_count : Int32) (t_book_boats : Nat → Int32) (t_book_steps : Nat → Int32) (t_book_junctions : Nat → Int32) (t_way_places : Nat → Int32) (t_way_needs : Nat → Int32) (t_way_last : Int32) (t_exchange_boats : Int32) (t_exchange_allowed : Nat → Int32) (t_exchange_order : Nat → Int32) (t_exchange_best : Nat → Int32) (t_exchange_fewest : Int32) (z_junctions : Int32) (z_cuts : Int32) (z_cutOne : Nat → Int32) (z_cutOther : Nat → Int32) (z_cutHard : Nat → Int32) (z_hard : Nat → Int32) (z_boats : Int32) (z_wears : Nat → Int32) (z_quays : Nat → Int32) (z_now : Nat → Int32) (z_seed : Int32) (z_text : Nat → Int32) (z_texted : Int32) (z_faultPlace : Int32) (z_undos : Int32) (z_past : Nat → Int32) (z_seen : Int32) (z_seenOf : Nat → Int32) (z_seenBehind : Nat → Int32) (z_seenAt : Nat → Int32) (z_booked : Int32) (z_bookOf : Nat → Int32) (z_bookAt : Nat → Int32) (z_images : Nat → Int32) (z_isKept : Nat → Int32) (z_at : Int32) (z_from : Int32) (z_pull : Int32) (z_given : Nat → Int32) (z_bestGiven : Nat → Int32) (y1 : Int32) (y2 : Int32) (h : Rel t_lettersFed t_faultAt t_letters t_quays t_here_junctions t_here_cuts t_here_boats t_here_cutA t_here_cutB t_here_cutHard t_here_boatWear t_here_onward t_here_onwardHard t_fleet_row t_past_next t_past_count t_past_shelf_slots t_past_shelf_rows t_images_shelf_slots t_images_shelf_rows t_images_seeds t_images_kept t_draws_value t_seen_most t_seen_count t_seen_boats t_seen_steps t_seen_junctions t_book_most t_book_count t_book_boats t_book_steps t_book_junctions z_junctions z_cuts z_cutOne z_cutOther z_cutHard z_hard z_boats z_wears z_quays z_now z_seed z_text z_texted z_faultPlace z_undos z_past z_seen z_seenOf z_seenBehind z_seenAt z_booked z_bookOf z_bookAt z_images z_isKept) : ∃ (r : Int32) (o_t_way_places : Nat → Int32) (o_t_way_needs : Nat → Int32) (o_t_way_last : Int32) (o_t_exchange_boats : Int32) (o_t_exchange_allowed : Nat → Int32) (o_t_exchange_order : Nat → Int32) (o_t_exchange_best : Nat → Int32) (o_t_exchange_fewest : Int32) (o_z_at : Int32) (o_z_from : Int32) (o_z_pull : Int32) (o_z_given : Nat → Int32) (o_z_bestGiven : Nat → Int32), m_Tb_changes y1 y2 t_quays t_here_boats t_here_boatWear t_here_onward t_here_onwardHard t_fleet_row t_way_places t_way_needs t_way_last t_exchange_boats t_exchange_allowed t_exchange_order t_exchange_best t_exchange_fewest = some (r, o_t_way_places, o_t_way_needs, o_t_way_last, o_t_exchange_boats, o_t_exchange_allowed, o_t_exchange_order, o_t_exchange_best, o_t_exchange_fewest) ∧ m_Ref_changes y1 y2 z_junctions z_hard z_boats z_wears z_quays z_now z_at z_from z_pull z_given z_bestGiven = some (r, o_z_at, o_z_from, o_z_pull, o_z_given, o_z_bestGiven) ∧ Rel t_lettersFed t_faultAt t_letters t_quays t_here_junctions t_here_cuts t_here_boats t_here_cutA t_here_cutB t_here_cutHard t_here_boatWear t_here_onward t_here_onwardHard t_fleet_row t_past_next t_past_count t_past_shelf_slots t_past_shelf_rows t_images_shelf_slots t_images_shelf_rows t_images_seeds t_images_kept t_draws_value t_seen_most t_seen_count t_seen_boats t_seen_steps t_seen_junctions t_book_most t_book_count t_book_boats t_book_steps t_book_junctions z_junctions z_cuts z_cutOne z_cutOther z_cutHard z_hard z_boats z_wears z_quays z_now z_seed z_text z_texted z_faultPlace z_undos z_past z_seen z_seenOf z_seenBehind z_seenAt z_booked z_bookOf z_bookAt z_images z_isKept := by
  have h' := h
  obtain ⟨hT, J, C, B, hm, ⟨⟨hJ, hC, hB⟩, ⟨e1, e2, e3, e4, e5, e6⟩, hc, hw, hh, ht, -⟩, hS, hQ, -⟩ := h
  subst e1 e2 e5 e6
  obtain ⟨jj, hj⟩ := chs hS.1
  obtain ⟨ff, hf⟩ := chs hj
  obtain ⟨pp, hp⟩ := chs hf
  obtain ⟨ww, hww⟩ := chs hw
  obtain ⟨qq, hqq⟩ := chs hQ
  have hCr : Crew J B t_fleet_row z_now t_here_boatWear z_wears t_quays z_quays jj ff pp ww qq := fun b hb => by
    obtain ⟨a1, a2, a3, a4, a5, a6, a7, a8, a9, -⟩ := hp b hb
    exact ⟨⟨a1, a2, a3⟩, ⟨a4, a6, a8⟩, ⟨a5, a7, a9⟩, hww b hb, hqq b hb⟩
  have h5 := p5_le hB
  have core : ∀ N : Nat, N ≤ 60 → (y2 = -1 ∨ vp_in y2 B) → ∃ (r : Int32) (o_t_way_places : Nat → Int32) (o_t_way_needs : Nat → Int32) (o_t_way_last : Int32) (o_t_exchange_boats : Int32) (o_t_exchange_allowed : Nat → Int32) (o_t_exchange_order : Nat → Int32) (o_t_exchange_best : Nat → Int32) (o_t_exchange_fewest : Int32) (o_z_at : Int32) (o_z_from : Int32) (o_z_pull : Int32) (o_z_given : Nat → Int32) (o_z_bestGiven : Nat → Int32),
      kb4 (m_Exch_begin (nI B) t_exchange_boats t_exchange_allowed t_exchange_order t_exchange_fewest) (fun t_exchange_boats_4 t_exchange_allowed_4 t_exchange_order_4 t_exchange_fewest_4 => m_Tb_changes_L48 FU (nI N) y2 0 t_quays (nI B) t_here_boatWear t_here_onward t_here_onwardHard t_fleet_row t_way_places t_way_needs t_way_last t_exchange_boats_4 t_exchange_allowed_4 t_exchange_order_4 t_exchange_best t_exchange_fewest_4) = some (r, o_t_way_places, o_t_way_needs, o_t_way_last, o_t_exchange_boats, o_t_exchange_allowed, o_t_exchange_order, o_t_exchange_best, o_t_exchange_fewest) ∧ m_Ref_changes_L36 FU (nI N) y2 1 0 (nI J) z_hard (nI B) z_wears z_quays z_now z_at z_from z_pull z_given z_bestGiven = some (r, o_z_at, o_z_from, o_z_pull, o_z_given, o_z_bestGiven) := by
    intro N hN hy
    obtain ⟨a0, o0, b1, b2⟩ := begin_i hB t_exchange_boats t_exchange_fewest t_exchange_allowed t_exchange_order
    obtain ⟨la, pl, ne, al, t1, t2⟩ := tk_loop (y2 := y2) (eb := nI B) (ef := -1) (eo := o0) (ebst := t_exchange_best) hJ hB hN hh ht hCr B 0 FU t_way_last t_way_places t_way_needs a0 (by omega) (FU_gt (by omega)) (fun i hi => absurd hi (by omega)) (fun i _ hi => (b2 i hi).1)
    have t1' : m_Tb_changes_L48 FU (nI N) y2 0 t_quays (nI B) t_here_boatWear t_here_onward t_here_onwardHard t_fleet_row t_way_places t_way_needs t_way_last (nI B) a0 o0 t_exchange_best (-1) = m_Tb_changes_B71 y2 t_quays (nI B) t_here_boatWear t_here_onward t_here_onwardHard t_fleet_row pl ne la (nI B) al o0 t_exchange_best (-1) := t1
    have p5 : m_Ref_changes_L36 FU (nI N) y2 1 0 (nI J) z_hard (nI B) z_wears z_quays z_now z_at z_from z_pull z_given z_bestGiven = m_Ref_changes_B55 (nI N) y2 (nI (5 ^ B)) (nI J) z_hard (nI B) z_wears z_quays z_now z_at z_from z_pull z_given z_bestGiven := p5_loop (x1 := nI N) (x2 := y2) hB B 0 FU (by omega) (FU_gt (by omega))
    obtain ⟨i1, i2⟩ := id_oc B (by omega)
    obtain ⟨v1, v2, v3, v4⟩ := nv_is (B := B) (5 ^ B) 0
    have i2 := al5_is 5 i2
    obtain ⟨few', a', f', p', o', best', g', bg', s1, s2, s3⟩ := ch_loop (y2 := y2) hJ hB hN hh hCr t2 h5 (5 ^ B) 0 (nv B (5 ^ B) 0) 0 FU FU (-1) z_at z_from z_pull o0 t_exchange_best z_given z_bestGiven (by omega) (Nat.zero_le _) (by omega) v3 (fun q => ⟨v4 (by omega), fun i hi => (i2 i hi).trans (b2 i hi).2.symm⟩) (by have z := cv_all hB; omega) (FU_gt (by omega)) (FU_gt (by omega)) (Or.inl rfl)
    have s1' : m_Exch_search (nI B) al o0 t_exchange_best (-1) = some (o', best', few') := by rw [if_pos i1] at s1; exact s1
    rw [b1, kb4_e, t1', p5]
    unfold m_Tb_changes_B71 m_Ref_changes_B55
    have s2' : m_Ref_changes_L61 FU (nI N) y2 (nI (5 ^ B)) (-1) 0 (nI J) z_hard (nI B) z_wears z_quays z_now z_at z_from z_pull z_given z_bestGiven = m_Ref_changes_B142 y2 few' (nI J) z_hard (nI B) z_wears z_quays z_now a' f' p' g' bg' := s2
    rw [s1', kb3_e, s2']
    unfold m_Ref_changes_B142 m_Ref_changes_B152
    rcases hy with q | q
    · rw [if_pos q, if_pos q]
      by_cases z : few' < 0
      · rw [if_pos z]; exact ⟨_, _, _, _, _, _, _, _, _, _, _, _, _, _, rfl, rfl⟩
      · rw [if_neg z]; exact ⟨_, _, _, _, _, _, _, _, _, _, _, _, _, _, rfl, rfl⟩
    · obtain ⟨b, hb, rfl⟩ := vp_in_of q (by omega)
      have nb : ¬ nI b = -1 := fun z => by
        have z2 := congrArg Int32.toInt z
        rw [nI_toInt (by omega)] at z2
        have z3 : ((-1 : Int32)).toInt = -1 := by decide
        rw [z3] at z2; omega
      have nb5 : ¬ (5 : Int32) ≤ nI b := ncle (a := 5) (by omega) (by omega) (by omega)
      unfold m_Exch_giverTo
      rw [if_neg nb, if_neg nb, if_neg (nI_pos (by omega)), if_neg nb5, kg_i (by omega) (by omega), kg_i (by omega) (by omega), nI_clamp (by omega)]
      rcases s3 with z | ⟨z1, z2⟩
      · have z' : few' < 0 := by rw [z]; decide
        rw [if_pos z, if_pos z', kb1_e, z]
        exact ⟨_, _, _, _, _, _, _, _, _, _, _, _, _, _, rfl, rfl⟩
      · have z3 : ¬ few' = -1 := fun z => z1 (by rw [z]; decide)
        rw [if_neg z3, if_neg z1, kb1_e, z2 b hb]
        exact ⟨_, _, _, _, _, _, _, _, _, _, _, _, _, _, rfl, rfl⟩
  have hr : (y2 = -1 ∨ vp_in y2 B) → ∃ (r : Int32) (o_t_way_places : Nat → Int32) (o_t_way_needs : Nat → Int32) (o_t_way_last : Int32) (o_t_exchange_boats : Int32) (o_t_exchange_allowed : Nat → Int32) (o_t_exchange_order : Nat → Int32) (o_t_exchange_best : Nat → Int32) (o_t_exchange_fewest : Int32) (o_z_at : Int32) (o_z_from : Int32) (o_z_pull : Int32) (o_z_given : Nat → Int32) (o_z_bestGiven : Nat → Int32),
      m_Tb_changes_B19 y1 y2 t_quays (nI B) t_here_boatWear t_here_onward t_here_onwardHard t_fleet_row t_way_places t_way_needs t_way_last t_exchange_boats t_exchange_allowed t_exchange_order t_exchange_best t_exchange_fewest = some (r, o_t_way_places, o_t_way_needs, o_t_way_last, o_t_exchange_boats, o_t_exchange_allowed, o_t_exchange_order, o_t_exchange_best, o_t_exchange_fewest) ∧ m_Ref_changes_B16 y1 y2 (nI J) z_hard (nI B) z_wears z_quays z_now z_at z_from z_pull z_given z_bestGiven = some (r, o_z_at, o_z_from, o_z_pull, o_z_given, o_z_bestGiven) := by
    intro hy
    unfold m_Tb_changes_B19 m_Ref_changes_B16
    by_cases c1 : 0 ≤ y1.toInt ∧ y1.toInt ≤ 60
    · have a1 : m_Ref_in y1.toInt64 0 60 = some 1 := inN_t (a := 0) (b := 60) (by omega) (by omega) c1.1 c1.2
      obtain ⟨N, hN, rfl⟩ := i32_N (n := 60) (by omega) c1.1 c1.2
      have b1 : nI N ≤ (60 : Int32) := cle (b := 60) (by omega) (by omega) hN
      rw [a1, kb1_e, if_neg n1, if_neg (nI_pos (by omega)), if_pos b1]
      exact core N hN hy
    · have a1 : m_Ref_in y1.toInt64 0 60 = some 0 := inN_f (a := 0) (b := 60) (by omega) (by omega) c1
      rw [a1, kb1_e, if_pos p0]
      by_cases b2 : y1 < 0
      · rw [if_pos b2]; exact ⟨_, _, _, _, _, _, _, _, _, _, _, _, _, _, rfl, rfl⟩
      · have b3 : ¬ y1 ≤ 60 := fun q => c1 ⟨ge0 b2, (le_n (n := 60) (by omega)).mp q⟩
        rw [if_neg b2, if_neg b3]; exact ⟨_, _, _, _, _, _, _, _, _, _, _, _, _, _, rfl, rfl⟩
  unfold m_Tb_changes m_Ref_changes
  by_cases c0 : y2 = -1
  · rw [if_pos c0, if_pos c0]
    obtain ⟨r, w1, w2, w3, w4, w5, w6, w7, w8, w9, w10, w11, w12, w13, q1, q2⟩ := hr (Or.inl c0)
    exact ⟨r, w1, w2, w3, w4, w5, w6, w7, w8, w9, w10, w11, w12, w13, q1, q2, h'⟩
  · rw [if_neg c0, if_neg c0]
    by_cases c : vp_in y2 B
    · rw [hasBoat_t hB c, isBoat_t (by omega) c, kb1_e, kb1_e, if_neg n1, if_neg n1]
      obtain ⟨r, w1, w2, w3, w4, w5, w6, w7, w8, w9, w10, w11, w12, w13, q1, q2⟩ := hr (Or.inr c)
      exact ⟨r, w1, w2, w3, w4, w5, w6, w7, w8, w9, w10, w11, w12, w13, q1, q2, h'⟩
    · rw [hasBoat_f hB c, isBoat_f (by omega) c, kb1_e, kb1_e, if_pos p0, if_pos p0]
      exact ⟨_, _, _, _, _, _, _, _, _, _, _, _, _, _, rfl, rfl, h'⟩
