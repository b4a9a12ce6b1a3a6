/-! ===== a boat's way ===== -/
def ps (hm : Nat → Nat → Nat) (J j f : Nat) : Nat → Nat × Nat
  | 0 => (j, f)
  | k + 1 => if tnx hm J (ps hm J j f k).1 (ps hm J j f k).2 = 0 then ps hm J j f k else (tnx hm J (ps hm J j f k).1 (ps hm J j f k).2 - 1, (ps hm J j f k).1 + 1)
def nd (hm : Nat → Nat → Nat) (J j f w : Nat) : Nat → Nat
  | 0 => 0
  | k + 1 => min 1000 (max (nd hm J j f w k) (tgx hm J (ps hm J j f k).1 (ps hm J j f k).2 + k * w + 1))
theorem ps_in {hm : Nat → Nat → Nat} {J j f : Nat} (hj : j < J) (hf : f ≤ J) : ∀ k : Nat, (ps hm J j f k).1 < J ∧ (ps hm J j f k).2 ≤ J := by
  intro k
  induction k with
  | zero => exact ⟨hj, hf⟩
  | succ k ih =>
    have tl := tnx_le hm J (ps hm J j f k).1 (ps hm J j f k).2
    show (if tnx hm J (ps hm J j f k).1 (ps hm J j f k).2 = 0 then ps hm J j f k else (tnx hm J (ps hm J j f k).1 (ps hm J j f k).2 - 1, (ps hm J j f k).1 + 1)).1 < J ∧ (if tnx hm J (ps hm J j f k).1 (ps hm J j f k).2 = 0 then ps hm J j f k else (tnx hm J (ps hm J j f k).1 (ps hm J j f k).2 - 1, (ps hm J j f k).1 + 1)).2 ≤ J
    by_cases c : tnx hm J (ps hm J j f k).1 (ps hm J j f k).2 = 0
    · rw [if_pos c]; exact ih
    · rw [if_neg c]; exact ⟨by show _ - 1 < J; omega, ih.1⟩
theorem nd_le (hm : Nat → Nat → Nat) (J j f w : Nat) : ∀ k : Nat, nd hm J j f w k ≤ 1000 := by
  intro k
  cases k with
  | zero => exact Nat.zero_le _
  | succ k => exact Nat.min_le_left _ _
theorem nd_mono (hm : Nat → Nat → Nat) (J j f w : Nat) (k : Nat) : nd hm J j f w k ≤ nd hm J j f w (k + 1) := by
  show _ ≤ min 1000 (max (nd hm J j f w k) _)
  have := nd_le hm J j f w k
  omega
theorem nd_step {hm : Nat → Nat → Nat} {J j f w k p : Nat} (hp : p ≤ 999) (h : nd hm J j f w k ≤ p) : nd hm J j f w (k + 1) ≤ p ↔ tgx hm J (ps hm J j f k).1 (ps hm J j f k).2 < p - k * w := by
  show min 1000 (max (nd hm J j f w k) (tgx hm J (ps hm J j f k).1 (ps hm J j f k).2 + k * w + 1)) ≤ p ↔ _
  omega
/-- how many places on, from place k on, within d steps more -/
def gct (n : Nat → Nat) (p : Nat) : Nat → Nat → Nat
  | 0, k => k
  | d + 1, k => if n (k + 1) ≤ p then gct n p d (k + 1) else k
theorem gct_le (n : Nat → Nat) (p : Nat) : ∀ d k : Nat, k ≤ gct n p d k ∧ gct n p d k ≤ k + d := by
  intro d
  induction d with
  | zero => intro k; exact ⟨Nat.le_refl k, Nat.le_refl k⟩
  | succ d ih =>
    intro k
    show k ≤ (if n (k + 1) ≤ p then gct n p d (k + 1) else k) ∧ (if n (k + 1) ≤ p then gct n p d (k + 1) else k) ≤ k + (d + 1)
    by_cases c : n (k + 1) ≤ p
    · rw [if_pos c]; have := ih (k + 1); omega
    · rw [if_neg c]; omega
theorem maxI {a b : Nat} (ha : a < 2 ^ 31) (hb : b < 2 ^ 31) : (if nI a < nI b then nI b else nI a) = nI (max a b) := by
  by_cases c : a < b
  · rw [if_pos (clt ha hb c), Nat.max_eq_right (by omega)]
  · rw [if_neg (nclt ha hb (by omega)), Nat.max_eq_left (by omega)]
theorem min1000 {a : Nat} (ha : a < 2 ^ 31) : (if nI a < (1000 : Int32) then nI a else 1000) = nI (min 1000 a) := by
  by_cases c : a < 1000
  · have c2 : nI a < (1000 : Int32) := clt (b := 1000) ha (by omega) c
    rw [if_pos c2, Nat.min_eq_right (by omega)]
  · have c2 : ¬ nI a < (1000 : Int32) := nclt (b := 1000) ha (by omega) (by omega)
    rw [if_neg c2, Nat.min_eq_left (by omega)]; rfl
theorem lastI {s : Nat} (hs : s ≤ 201) : (if (0 : Int32) < (if (201 : Int32) < nI s then 201 else nI s) then (if (201 : Int32) < nI s then 201 else nI s) else 0) = nI s := by
  have c : ¬ (201 : Int32) < nI s := nclt (a := 201) (by omega) (by omega) hs
  rw [if_neg c]
  by_cases c2 : s = 0
  · subst c2; rfl
  · have c3 : (0 : Int32) < nI s := clt (a := 0) (by omega) (by omega) (by omega)
    rw [if_pos c3]
theorem lay_loop {J j f w L : Nat} {hm : Nat → Nat → Nat} {hard on oh : Nat → Int32} (hJ : J ≤ 9) (hj : j < J) (hf : f ≤ J) (hw : w ≤ 99) (hL : L ≤ 201) (hh : HM hard hm) (ht : TB J hm on oh) :
    ∀ (d k n : Nat) (pl ne : Nat → Int32), k + d = L → d < n → ne k = nI (nd hm J j f w k) → ∃ pl' ne' : Nat → Int32, m_Way_lay_L40 n (nI w) (nI (ps hm J j f k).1) (om (ps hm J j f k).2) (nI k) pl ne (nI L) on oh = some (pl', ne', nI L) ∧ (∀ i : Nat, i ≤ k → pl' i = pl i ∧ ne' i = ne i) ∧ ∀ i : Nat, k < i → i ≤ L → pl' i = nI (ps hm J j f i).1 ∧ ne' i = nI (nd hm J j f w i) := by
  intro d
  induction d with
  | zero =>
    intro k n pl ne hk hn hne
    obtain ⟨g, rfl, -⟩ := fuS hn
    refine ⟨pl, ne, ?_, fun i _ => ⟨rfl, rfl⟩, fun i h1 h2 => absurd h1 (by omega)⟩
    show m_Way_lay_B40 (m_Way_lay_L40 g) (nI w) (nI (ps hm J j f k).1) (om (ps hm J j f k).2) (nI k) pl ne (nI L) on oh = _
    unfold m_Way_lay_B40
    rw [if_pos (cle (by omega) (by omega) (by omega))]
  | succ d ih =>
    intro k n pl ne hk hn hne
    obtain ⟨g, rfl, hg⟩ := fuS hn
    obtain ⟨pj, pf⟩ := ps_in (hm := hm) hj hf k
    have tl := tnx_le hm J (ps hm J j f k).1 (ps hm J j f k).2
    have gl := tgx_le (f := (ps hm J j f k).2) hJ pj hh
    have nl := nd_le hm J j f w k
    have kw : k * w ≤ 201 * 99 := Nat.mul_le_mul (by omega) hw
    have ev : (if (if ne k < nI (tgx hm J (ps hm J j f k).1 (ps hm J j f k).2 + k * w + 1) then nI (tgx hm J (ps hm J j f k).1 (ps hm J j f k).2 + k * w + 1) else ne k) < (1000 : Int32) then (if ne k < nI (tgx hm J (ps hm J j f k).1 (ps hm J j f k).2 + k * w + 1) then nI (tgx hm J (ps hm J j f k).1 (ps hm J j f k).2 + k * w + 1) else ne k) else 1000) = nI (nd hm J j f w (k + 1)) := by
      rw [hne, maxI (by omega) (by omega), min1000 (by omega)]; rfl
    obtain ⟨pl', ne', i1, i2, i3⟩ := ih (k + 1) g (upd pl (k + 1) (nI (ps hm J j f (k + 1)).1)) (upd ne (k + 1) (nI (nd hm J j f w (k + 1)))) (by omega) (by omega) pk_us
    refine ⟨pl', ne', ?_, fun i hi => ?_, fun i h1 h2 => ?_⟩
    · show m_Way_lay_B40 (m_Way_lay_L40 g) (nI w) (nI (ps hm J j f k).1) (om (ps hm J j f k).2) (nI k) pl ne (nI L) on oh = _
      have ex : nI (tgx hm J (ps hm J j f k).1 (ps hm J j f k).2) + nI k * nI w + 1 = nI (tgx hm J (ps hm J j f k).1 (ps hm J j f k).2 + k * w + 1) := by rw [pk_mul, nI_add, nI_1]
      unfold m_Way_lay_B40
      rw [if_neg (ncle (by omega) (by omega) (by omega)), hard_i (by omega) (by omega), kb1_e, goes_i (by omega) (by omega), kb1_e, (ht _ _ pj pf).1, (ht _ _ pj pf).2, ex]
      by_cases c : tnx hm J (ps hm J j f k).1 (ps hm J j f k).2 = 0
      · have e1 : ps hm J j f (k + 1) = ps hm J j f k := by
          show (if tnx hm J (ps hm J j f k).1 (ps hm J j f k).2 = 0 then _ else _) = _
          rw [if_pos c]
        have c1 : om (tnx hm J (ps hm J j f k).1 (ps hm J j f k).2) = -1 := by rw [c, om_0]
        rw [if_pos c1]
        unfold m_Way_lay_B91
        rw [nI_1, kg_i (by omega) (by omega), kg_i (by omega) (by omega), kg_i (by omega) (by omega), nI_clamp (by omega), nI_clamp (by omega), ev]
        rw [e1] at i1; exact i1
      · have e1 : ps hm J j f (k + 1) = (tnx hm J (ps hm J j f k).1 (ps hm J j f k).2 - 1, (ps hm J j f k).1 + 1) := by
          show (if tnx hm J (ps hm J j f k).1 (ps hm J j f k).2 = 0 then _ else _) = _
          rw [if_neg c]
        have c1 : ¬ om (tnx hm J (ps hm J j f k).1 (ps hm J j f k).2) = -1 := by
          rw [← om_0, om_inj (by omega) (by omega)]; exact c
        have et : om (tnx hm J (ps hm J j f k).1 (ps hm J j f k).2) = nI (tnx hm J (ps hm J j f k).1 (ps hm J j f k).2 - 1) := by rw [← om_s]; exact congrArg om (by omega)
        rw [if_neg c1]
        unfold m_Way_lay_B91
        rw [nI_1, kg_i (by omega) (by omega), kg_i (by omega) (by omega), kg_i (by omega) (by omega), nI_clamp (by omega), nI_clamp (by omega), ev, et, ← om_s (ps hm J j f k).1]
        rw [e1] at i1; exact i1
    · have q := i2 i (by omega)
      rw [pk_un (by omega), pk_un (by omega)] at q; exact q
    · by_cases c : i = k + 1
      · subst c
        have q := i2 (k + 1) (Nat.le_refl _)
        rw [pk_us, pk_us] at q; exact q
      · exact i3 i (by omega) h2
/-- the way as the class lays it -/
def WayIs (hm : Nat → Nat → Nat) (J j f w L : Nat) (pl ne : Nat → Int32) : Prop := ∀ i : Nat, i ≤ L → pl i = nI (ps hm J j f i).1 ∧ ne i = nI (nd hm J j f w i)
theorem lay_i {J j f w L : Nat} {hm : Nat → Nat → Nat} {hard on oh : Nat → Int32} (hJ : J ≤ 9) (hj : j < J) (hf : f ≤ J) (hw : w ≤ 99) (hL : L ≤ 201) (hh : HM hard hm) (ht : TB J hm on oh) (pl ne : Nat → Int32) (la : Int32) :
    ∃ pl' ne' : Nat → Int32, m_Way_lay (nI j) (om f) (nI w) (nI L) pl ne la on oh = some (pl', ne', nI L) ∧ WayIs hm J j f w L pl' ne' := by
  obtain ⟨pl', ne', i1, i2, i3⟩ := lay_loop hJ hj hf hw hL hh ht L 0 FU (upd pl 0 (nI j)) (upd ne 0 0) (by omega) (FU_gt (by omega)) (by rw [pk_us]; rfl)
  refine ⟨pl', ne', ?_, fun i hi => ?_⟩
  · have k0 : ∀ K : Option ((Nat → Int32) × (Nat → Int32) × Int32), kg 0 202 K = K := fun K => kg_i (k := 0) (by omega) (by omega)
    unfold m_Way_lay
    rw [k0, k0, c0N, lastI hL]; exact i1
  · by_cases c : i = 0
    · subst c
      have q := i2 0 (Nat.le_refl 0)
      rw [pk_us, pk_us] at q; exact q
    · exact i3 i (by omega) hi
theorem place_i {L i : Nat} {pl : Nat → Int32} (hL : L ≤ 201) (hi : i ≤ L) : m_Way_place (nI i) pl (nI L) = some (pl i) := by
  unfold m_Way_place
  rw [if_neg (nI_pos (by omega)), if_neg (nclt (by omega) (by omega) hi), kg_i (by omega) (by omega), nI_clamp (by omega)]
theorem need_i {L i : Nat} {ne : Nat → Int32} (hL : L ≤ 201) (hi : i ≤ L) : m_Way_need (nI i) ne (nI L) = some (ne i) := by
  unfold m_Way_need
  rw [if_neg (nI_pos (by omega)), if_neg (nclt (by omega) (by omega) hi), kg_i (by omega) (by omega), nI_clamp (by omega)]
theorem need_out {L i : Nat} {ne : Nat → Int32} (hi : L < i) (h31 : i < 2 ^ 31) : m_Way_need (nI i) ne (nI L) = some 1000 := by
  unfold m_Way_need
  rw [if_neg (nI_pos (by omega)), if_pos (clt (by omega) (by omega) hi)]
theorem gone_loop {hm : Nat → Nat → Nat} {J j f w L p N : Nat} {pl ne : Nat → Int32} (hL : L ≤ 201) (hp : p ≤ 999) (hN : N ≤ L) (hw : WayIs hm J j f w L pl ne) :
    ∀ (d k n : Nat), k + d = N → d < n → m_Way_gone_L2 n (nI p) (nI N) (nI k) ne (nI L) = some (nI (gct (nd hm J j f w) p d k)) := by
  intro d
  induction d with
  | zero =>
    intro k n hk hn
    obtain ⟨g, rfl, -⟩ := fuS hn
    show m_Way_gone_B2 (m_Way_gone_L2 g) (nI p) (nI N) (nI k) ne (nI L) = _
    unfold m_Way_gone_B2
    rw [if_pos (cle (by omega) (by omega) (by omega))]; rfl
  | succ d ih =>
    intro k n hk hn
    obtain ⟨g, rfl, hg⟩ := fuS hn
    have nl := nd_le hm J j f w (k + 1)
    show m_Way_gone_B2 (m_Way_gone_L2 g) (nI p) (nI N) (nI k) ne (nI L) = some (nI (if nd hm J j f w (k + 1) ≤ p then gct (nd hm J j f w) p d (k + 1) else k))
    unfold m_Way_gone_B2
    rw [if_neg (ncle (by omega) (by omega) (by omega)), nI_1, need_i hL (by omega), kb1_e, (hw (k + 1) (by omega)).2]
    by_cases c : nd hm J j f w (k + 1) ≤ p
    · rw [if_neg (nclt (by omega) (by omega) c), if_pos c]; exact ih (k + 1) g (by omega) (by omega)
    · rw [if_pos (clt (by omega) (by omega) (by omega)), if_neg c]
theorem gone_i {hm : Nat → Nat → Nat} {J j f w L p N : Nat} {pl ne : Nat → Int32} (hL : L ≤ 201) (hp : p ≤ 999) (hN : N ≤ L) (hw : WayIs hm J j f w L pl ne) : m_Way_gone (nI p) (nI N) ne (nI L) = some (nI (gct (nd hm J j f w) p N 0)) :=
  gone_loop hL hp hN hw N 0 FU (by omega) (FU_gt (by omega))
/-- the reference, at place k of the way, with what the wear has left: one more step -/
theorem go_at {J j f w p k : Nat} {hm : Nat → Nat → Nat} {hard : Nat → Int32} (hJ : J ≤ 9) (hj : j < J) (hf : f ≤ J) (hw : w ≤ 99) (hp : p ≤ 999) (hh : HM hard hm) (hk : nd hm J j f w k ≤ p) :
    m_Ref_go (nI w) (nI J) hard (nI (ps hm J j f k).1) (om (ps hm J j f k).2) (nI (p - k * w)) = if nd hm J j f w (k + 1) ≤ p then some (1, nI (ps hm J j f (k + 1)).1, om (ps hm J j f (k + 1)).2, nI (p - (k + 1) * w)) else some (0, nI (ps hm J j f k).1, om (ps hm J j f k).2, nI (p - k * w)) := by
  obtain ⟨pj, pf⟩ := ps_in (hm := hm) hj hf k
  have st := nd_step (f := f) (j := j) (w := w) (J := J) hp hk
  by_cases c : nd hm J j f w (k + 1) ≤ p
  · have c2 := st.mp c
    have tn := tg_tn (p := p - k * w) (by omega) c2
    have e1 : ps hm J j f (k + 1) = (tnx hm J (ps hm J j f k).1 (ps hm J j f k).2 - 1, (ps hm J j f k).1 + 1) := by
      show (if tnx hm J (ps hm J j f k).1 (ps hm J j f k).2 = 0 then _ else _) = _
      rw [if_neg (by omega)]
    have ew : p - k * w - w = p - (k + 1) * w := by rw [Nat.succ_mul]; omega
    rw [if_pos c, ref_go_t hJ pj pf (by omega) (by omega) hh c2, e1, ew]
  · have c2 := fun q => c (st.mpr q)
    rw [if_neg c, ref_go_f hJ pj pf (by omega) hh c2]
theorem goOn_loop {J j f w p N : Nat} {hm : Nat → Nat → Nat} {hard : Nat → Int32} (hJ : J ≤ 9) (hj : j < J) (hf : f ≤ J) (hw : w ≤ 99) (hp : p ≤ 999) (hN : N < 2 ^ 31) (hh : HM hard hm) :
    ∀ (d k n : Nat), k + d = N → d + 1 < n → nd hm J j f w k ≤ p → m_Ref_goOn_L5 n (nI w) (nI N) 1 (nI k) (nI J) hard (nI (ps hm J j f k).1) (om (ps hm J j f k).2) (nI (p - k * w)) = some (nI (ps hm J j f (gct (nd hm J j f w) p d k)).1, om (ps hm J j f (gct (nd hm J j f w) p d k)).2, nI (p - gct (nd hm J j f w) p d k * w)) := by
  intro d
  induction d with
  | zero =>
    intro k n hk hn hne
    obtain ⟨g, rfl, -⟩ := fuS (show 0 < n by omega)
    show m_Ref_goOn_B5 (m_Ref_goOn_L5 g) (nI w) (nI N) 1 (nI k) (nI J) hard _ _ _ = _
    unfold m_Ref_goOn_B5
    rw [if_pos (cle (by omega) (by omega) (by omega))]; rfl
  | succ d ih =>
    intro k n hk hn hne
    obtain ⟨g, rfl, hg⟩ := fuS hn
    show m_Ref_goOn_B5 (m_Ref_goOn_L5 g) (nI w) (nI N) 1 (nI k) (nI J) hard (nI (ps hm J j f k).1) (om (ps hm J j f k).2) (nI (p - k * w)) = some (nI (ps hm J j f (if nd hm J j f w (k + 1) ≤ p then gct (nd hm J j f w) p d (k + 1) else k)).1, om (ps hm J j f (if nd hm J j f w (k + 1) ≤ p then gct (nd hm J j f w) p d (k + 1) else k)).2, nI (p - (if nd hm J j f w (k + 1) ≤ p then gct (nd hm J j f w) p d (k + 1) else k) * w))
    unfold m_Ref_goOn_B5
    rw [if_neg (ncle (by omega) (by omega) (by omega)), if_neg n1, go_at hJ hj hf hw hp hh hne]
    by_cases c : nd hm J j f w (k + 1) ≤ p
    · rw [if_pos c, if_pos c, kb4_e, nI_1]; exact ih (k + 1) g (by omega) (by omega) c
    · rw [if_neg c, if_neg c, kb4_e, nI_1]
      obtain ⟨g', rfl, -⟩ := fuS (show 0 < g by omega)
      show m_Ref_goOn_B5 (m_Ref_goOn_L5 g') (nI w) (nI N) 0 (nI (k + 1)) (nI J) hard _ _ _ = _
      unfold m_Ref_goOn_B5
      rw [if_pos p0]
      by_cases c2 : nI N ≤ nI (k + 1)
      · rw [if_pos c2]
      · rw [if_neg c2]
theorem goOn_i {J j f w p N : Nat} {hm : Nat → Nat → Nat} {hard : Nat → Int32} (hJ : J ≤ 9) (hj : j < J) (hf : f ≤ J) (hw : w ≤ 99) (hp : p ≤ 999) (hN : N < 4000) (hh : HM hard hm) :
    m_Ref_goOn (nI w) (nI N) (nI J) hard (nI j) (om f) (nI p) = some (nI (ps hm J j f (gct (nd hm J j f w) p N 0)).1, om (ps hm J j f (gct (nd hm J j f w) p N 0)).2, nI (p - gct (nd hm J j f w) p N 0 * w)) := by
  have h := goOn_loop hJ hj hf hw hp (show N < 2 ^ 31 by omega) hh N 0 FU (by omega) (FU_gt (by omega)) (Nat.zero_le p)
  have e : p - 0 * w = p := by omega
  rw [e] at h
  exact h
