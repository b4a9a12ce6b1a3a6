def Ent (J B n : Nat) (bo st ju zo zs zj : Nat → Int32) : Prop := ∀ e : Nat, e < n → ∃ b t j : Nat, b < B ∧ t ≤ 30 ∧ j < J ∧ bo e = nI b ∧ zo e = nI b ∧ st e = nI t ∧ zs e = nI t ∧ ju e = nI j ∧ zj e = nI j
theorem okE_i {hm : Nat → Nat → Nat} {J j b b' t jj k e : Nat} {zo zs zj : Nat → Int32} (hb : b' < 2 ^ 31) (ht : t < 2 ^ 31) (hj : jj < 2 ^ 31) (h1 : zo e = nI b') (h2 : zs e = nI t) (h3 : zj e = nI jj) : okE hm J j b zo zs zj k e = if b' = b then decide ((ps hm J j 0 (min k t)).1 = jj) else true := by
  unfold okE
  rw [h1, h2, h3, nI_clamp hb, nI_clamp ht, nI_clamp hj]
theorem cb_zero {J b n : Nat} {hard now wears zo zs zj way : Nat → Int32} {a ff p : Int32} (hn : n ≤ 6) :
    ∀ (d e n1 : Nat), e + d = n → d < n1 → m_Ref_couldBe_L11 n1 (nI b) 0 (nI e) (nI J) hard wears now a ff p (nI n) zo zs zj way = some (0, a, ff, p, way) := by
  intro d
  induction d with
  | zero =>
    intro e n1 he h1
    obtain ⟨g, rfl, -⟩ := fuS h1
    show m_Ref_couldBe_B11 (m_Ref_couldBe_L11 g) (nI b) 0 (nI e) (nI J) hard wears now a ff p (nI n) zo zs zj way = _
    unfold m_Ref_couldBe_B11
    rw [if_pos (cle (by omega) (by omega) (by omega)), ko_0]
  | succ d ih =>
    intro e n1 he h1
    obtain ⟨g, rfl, hg⟩ := fuS h1
    show m_Ref_couldBe_B11 (m_Ref_couldBe_L11 g) (nI b) 0 (nI e) (nI J) hard wears now a ff p (nI n) zo zs zj way = _
    unfold m_Ref_couldBe_B11 m_Ref_couldBe_B61 m_Ref_couldBe_B62
    rw [if_neg (ncle (by omega) (by omega) (by omega)), if_pos p0, nI_1]; exact ih (e + 1) g (by omega) (by omega)
theorem cb_loop {J B b j k n : Nat} {hm : Nat → Nat → Nat} {hard now wears bo st ju zo zs zj way : Nat → Int32} {a ff p : Int32} (hJ : J ≤ 9) (hB : B ≤ 5) (hj : j < J) (hb : b < 5) (hn : n ≤ 6) (hE : Ent J B n bo st ju zo zs zj) (hway : ∀ i : Nat, i ≤ 30 → way i = nI (ps hm J j 0 (min k i)).1) :
    ∀ (d e n1 : Nat), e + d = n → d < n1 → m_Ref_couldBe_L11 n1 (nI b) 1 (nI e) (nI J) hard wears now a ff p (nI n) zo zs zj way = some ((if fitb (okE hm J j b zo zs zj k) d e = true then 1 else 0), a, ff, p, way) := by
  intro d
  induction d with
  | zero =>
    intro e n1 he h1
    obtain ⟨g, rfl, -⟩ := fuS h1
    show m_Ref_couldBe_B11 (m_Ref_couldBe_L11 g) (nI b) 1 (nI e) (nI J) hard wears now a ff p (nI n) zo zs zj way = _
    unfold m_Ref_couldBe_B11
    rw [if_pos (cle (by omega) (by omega) (by omega)), ko_1]; rfl
  | succ d ih =>
    intro e n1 he h1
    obtain ⟨g, rfl, hg⟩ := fuS h1
    obtain ⟨b', t, jj, hb', ht, hjj, -, a1, -, a2, -, a3⟩ := hE e (by omega)
    have oe := okE_i (hm := hm) (J := J) (j := j) (b := b) (k := k) (e := e) (show b' < 2 ^ 31 by omega) (show t < 2 ^ 31 by omega) (show jj < 2 ^ 31 by omega) a1 a2 a3
    have i1 := ih (e + 1) g (by omega) (by omega)
    have i0 := cb_zero (J := J) (b := b) (hard := hard) (now := now) (wears := wears) (zo := zo) (zs := zs) (zj := zj) (way := way) (a := a) (ff := ff) (p := p) hn d (e + 1) g (by omega) (by omega)
    have ef : fitb (okE hm J j b zo zs zj k) (d + 1) e = (okE hm J j b zo zs zj k e && fitb (okE hm J j b zo zs zj k) d (e + 1)) := rfl
    obtain ⟨pj, -⟩ := ps_in (hm := hm) (f := 0) hj (Nat.zero_le J) (min k t)
    show m_Ref_couldBe_B11 (m_Ref_couldBe_L11 g) (nI b) 1 (nI e) (nI J) hard wears now a ff p (nI n) zo zs zj way = _
    unfold m_Ref_couldBe_B11 m_Ref_couldBe_B61 m_Ref_couldBe_B57 m_Ref_couldBe_B62
    rw [if_neg (ncle (by omega) (by omega) (by omega)), if_neg n1, kg_i (by omega) (by omega), nI_clamp (n := e) (by omega), a1, a2, a3, kg_i (by omega) (by omega), kg_i (by omega) (by omega), kg_i (by omega) (by omega), nI_clamp (n := t) (by omega), hway t ht, nI_1, ef, oe]
    by_cases c : b' = b
    · rw [if_pos (by rw [c]), if_pos c]
      by_cases c2 : (ps hm J j 0 (min k t)).1 = jj
      · rw [if_pos (by rw [c2]), i1, decide_eq_true c2, Bool.true_and]
      · rw [if_neg (nceq (by omega) (by omega) c2), i0, decide_eq_false c2, Bool.false_and]; rfl
    · rw [if_neg (nceq (by omega) (by omega) c), if_neg c, i1, Bool.true_and]
/-- could pull q be, with the reference: by the band that q lies in -/
theorem cb_i {J B b j w q n : Nat} {hm : Nat → Nat → Nat} {hard now wears bo st ju zo zs zj : Nat → Int32} (hJ : J ≤ 9) (hB : B ≤ 5) (hj : j < J) (hw : w ≤ 99) (hq : q ≤ 999) (hb : b < 5) (hn : n ≤ 6) (hh : HM hard hm) (hE : Ent J B n bo st ju zo zs zj) (s1 : now b = nI j) (w2 : wears b = nI w) (a ff p : Int32) (way : Nat → Int32) :
    ∃ (a' f' p' : Int32) (way' : Nat → Int32), m_Ref_couldBe (nI b) (nI q) (nI J) hard wears now a ff p (nI n) zo zs zj way = some ((if fitb (okE hm J j b zo zs zj (gct (nd hm J j 0 w) q 30 0)) n 0 = true then 1 else 0), a', f', p', way') ∧ ∀ i : Nat, i ≤ 30 → way' i = nI (ps hm J j 0 (min (gct (nd hm J j 0 w) q 30 0) i)).1 := by
  obtain ⟨a', f', p', way', h1, h2⟩ := fw_i hJ hj hw hq hb hh s1 w2 a ff p way
  have hway : ∀ i : Nat, i ≤ 30 → way' i = nI (ps hm J j 0 (min (gct (nd hm J j 0 w) q 30 0) i)).1 := by
    intro i hi
    rw [h2 i hi, gct_min 30 i 0 hi, Nat.zero_add, Nat.min_comm]
  refine ⟨a', f', p', way', ?_, hway⟩
  unfold m_Ref_couldBe
  rw [h1, kb4_e]
  exact cb_loop hJ hB hj hb hn hE hway n 0 FU (by omega) (FU_gt (by omega))
theorem minI2 {t k : Nat} (ht : t < 2 ^ 31) (hk : k < 2 ^ 31) : (if nI t < nI k then nI t else nI k) = nI (min k t) := by
  by_cases c : t < k
  · rw [if_pos (clt ht hk c), Nat.min_eq_right (by omega)]
  · rw [if_neg (nclt ht hk (by omega)), Nat.min_eq_left (by omega)]
theorem fits_loop {J B b j w k n : Nat} {hm : Nat → Nat → Nat} {bo st ju zo zs zj pl ne : Nat → Int32} (hJ : J ≤ 9) (hB : B ≤ 5) (hj : j < J) (hb : b < 5) (hn : n ≤ 6) (hk : k ≤ 30) (hE : Ent J B n bo st ju zo zs zj) (hW : WayIs hm J j 0 w 30 pl ne) :
    ∀ (d e n1 : Nat), e + d = n → d < n1 → m_Bands_fits_L3 n1 (nI b) (nI k) (nI e) pl 30 6 6 bo st ju (nI n) = some (if fitb (okE hm J j b zo zs zj k) d e = true then 1 else 0) := by
  intro d
  induction d with
  | zero =>
    intro e n1 he h1
    obtain ⟨g, rfl, -⟩ := fuS h1
    show m_Bands_fits_B3 (m_Bands_fits_L3 g) (nI b) (nI k) (nI e) pl 30 6 6 bo st ju (nI n) = _
    unfold m_Bands_fits_B3
    rw [if_pos (cle (by omega) (by omega) (by omega))]; rfl
  | succ d ih =>
    intro e n1 he h1
    obtain ⟨g, rfl, hg⟩ := fuS h1
    obtain ⟨b', t, jj, hb', ht, hjj, z1, a1, z2, a2, z3, a3⟩ := hE e (by omega)
    have oe := okE_i (hm := hm) (J := J) (j := j) (b := b) (k := k) (e := e) (show b' < 2 ^ 31 by omega) (show t < 2 ^ 31 by omega) (show jj < 2 ^ 31 by omega) a1 a2 a3
    have i1 := ih (e + 1) g (by omega) (by omega)
    have ef : fitb (okE hm J j b zo zs zj k) (d + 1) e = (okE hm J j b zo zs zj k e && fitb (okE hm J j b zo zs zj k) d (e + 1)) := rfl
    obtain ⟨pj, -⟩ := ps_in (hm := hm) (f := 0) hj (Nat.zero_le J) (min k t)
    have x1 : m_Entries_boatIn (nI e) 6 6 bo (nI n) = some (nI b') := by rw [← z1]; exact en_boat (M := 6) (by omega) hn (by omega)
    have x2 : m_Entries_stepsIn (nI e) 6 6 st (nI n) = some (nI t) := by rw [← z2]; exact en_steps (M := 6) (by omega) hn (by omega)
    have x3 : m_Entries_junctionIn (nI e) 6 6 ju (nI n) = some (nI jj) := by rw [← z3]; exact en_junction (M := 6) (by omega) hn (by omega)
    have x4 : m_Way_place (nI (min k t)) pl 30 = some (nI (ps hm J j 0 (min k t)).1) := by rw [← (hW (min k t) (by omega)).1]; exact place_i (L := 30) (by omega) (by omega)
    show m_Bands_fits_B3 (m_Bands_fits_L3 g) (nI b) (nI k) (nI e) pl 30 6 6 bo st ju (nI n) = _
    unfold m_Bands_fits_B3 m_Bands_fits_B50
    rw [if_neg (ncle (by omega) (by omega) (by omega)), x1, kb1_e, x2, kb1_e, minI2 (by omega) (by omega), x4, kb1_e, x3, kb1_e, nI_1, ef, oe]
    by_cases c : b' = b
    · rw [if_pos (by rw [c]), if_pos c]
      by_cases c2 : (ps hm J j 0 (min k t)).1 = jj
      · rw [if_pos (by rw [c2]), i1, decide_eq_true c2, Bool.true_and]
      · rw [if_neg (nceq (by omega) (by omega) c2), decide_eq_false c2, Bool.false_and]; rfl
    · rw [if_neg (nceq (by omega) (by omega) c), if_neg c, i1, Bool.true_and]
def bnd (n : Nat → Nat) (k : Nat) : Nat := if k ≤ 30 then n k else 1000
def bsz (fit : Nat → Bool) (n : Nat → Nat) (k : Nat) : Nat := if fit k = true then bnd n (k + 1) - bnd n k else 0
theorem sort_loop {J B b j w n : Nat} {hm : Nat → Nat → Nat} {bo st ju zo zs zj pl ne : Nat → Int32} (hJ : J ≤ 9) (hB : B ≤ 5) (hj : j < J) (hb : b < 5) (hn : n ≤ 6) (hE : Ent J B n bo st ju zo zs zj) (hW : WayIs hm J j 0 w 30 pl ne) :
    ∀ (d k n1 : Nat) (lo si : Nat → Int32), k + d = 31 → d < n1 → ∃ lo' si' : Nat → Int32, m_Bands_sort_L3 n1 (nI b) (nI k) lo si pl ne 30 6 6 bo st ju (nI n) = some (lo', si') ∧ ∀ i : Nat, (i < k → lo' i = lo i ∧ si' i = si i) ∧ (k ≤ i → i ≤ 30 → lo' i = nI (bnd (nd hm J j 0 w) i) ∧ si' i = nI (bsz (fun k => fitb (okE hm J j b zo zs zj k) n 0) (nd hm J j 0 w) i)) := by
  intro d
  induction d with
  | zero =>
    intro k n1 lo si hk h1
    obtain ⟨g, rfl, -⟩ := fuS h1
    refine ⟨lo, si, ?_, fun i => ⟨fun _ => ⟨rfl, rfl⟩, fun h2 h3 => absurd h3 (by omega)⟩⟩
    show m_Bands_sort_B3 (m_Bands_sort_L3 g) (nI b) (nI k) lo si pl ne 30 6 6 bo st ju (nI n) = _
    have c : (31 : Int32) ≤ nI k := cle (a := 31) (by omega) (by omega) (by omega)
    unfold m_Bands_sort_B3
    rw [if_pos c]
  | succ d ih =>
    intro k n1 lo si hk h1
    obtain ⟨g, rfl, hg⟩ := fuS h1
    have l1 := nd_le hm J j 0 w k
    have l2 := nd_le hm J j 0 w (k + 1)
    have mo := nd_mono hm J j 0 w k
    have b1 : bnd (nd hm J j 0 w) k = nd hm J j 0 w k := by unfold bnd; rw [if_pos (by omega)]
    have hb2 : bnd (nd hm J j 0 w) (k + 1) ≤ 1000 ∧ nd hm J j 0 w k ≤ bnd (nd hm J j 0 w) (k + 1) := by
      unfold bnd
      by_cases q : k + 1 ≤ 30
      · rw [if_pos q]; omega
      · rw [if_neg q]; omega
    have c : ¬ (31 : Int32) ≤ nI k := ncle (a := 31) (by omega) (by omega) (by omega)
    have q2 : m_Way_need (nI k) ne 30 = some (nI (nd hm J j 0 w k)) := by rw [← (hW k (by omega)).2]; exact need_i (L := 30) (by omega) (by omega)
    have q3 : m_Way_need (nI (k + 1)) ne 30 = some (nI (bnd (nd hm J j 0 w) (k + 1))) := by
      unfold bnd
      by_cases q : k + 1 ≤ 30
      · rw [if_pos q, ← (hW (k + 1) (by omega)).2]; exact need_i (L := 30) (by omega) (by omega)
      · rw [if_neg q]; exact need_out (L := 30) (by omega) (by omega)
    have ft : m_Bands_fits (nI b) (nI k) pl 30 6 6 bo st ju (nI n) = _ := fits_loop hJ hB hj hb hn (show k ≤ 30 by omega) hE hW n 0 FU (by omega) (FU_gt (by omega))
    obtain ⟨lo', si', i1, i2⟩ := ih (k + 1) g (upd lo k (nI (bnd (nd hm J j 0 w) k))) (upd si k (nI (bsz (fun k => fitb (okE hm J j b zo zs zj k) n 0) (nd hm J j 0 w) k))) (by omega) (by omega)
    refine ⟨lo', si', ?_, fun i => ⟨fun hi => ?_, fun h2 h3 => ?_⟩⟩
    · show m_Bands_sort_B3 (m_Bands_sort_L3 g) (nI b) (nI k) lo si pl ne 30 6 6 bo st ju (nI n) = _
      unfold m_Bands_sort_B3 m_Bands_sort_B59
      rw [if_neg c, q2, kb1_e, kg_i (by omega) (by omega), ft, kb1_e, nI_clamp (by omega), nI_1, q3, kb1_e, kb1_e, kg_i (by omega) (by omega), kg_i (by omega) (by omega), pk_sub hb2.2]
      by_cases cf : fitb (okE hm J j b zo zs zj k) n 0 = true
      · have e : bsz (fun k => fitb (okE hm J j b zo zs zj k) n 0) (nd hm J j 0 w) k = bnd (nd hm J j 0 w) (k + 1) - nd hm J j 0 w k := by unfold bsz; rw [if_pos cf, b1]
        rw [if_pos cf, if_neg n1, ← e, ← b1]; exact i1
      · have e : bsz (fun k => fitb (okE hm J j b zo zs zj k) n 0) (nd hm J j 0 w) k = 0 := by unfold bsz; rw [if_neg cf]
        rw [e, b1] at i1
        rw [if_neg cf, if_pos p0]; exact i1
    · have q := (i2 i).1 (by omega)
      rw [pk_un (by omega), pk_un (by omega)] at q; exact q
    · by_cases e : i = k
      · subst e
        have q := (i2 i).1 (by omega)
        rw [pk_us, pk_us] at q; exact q
      · exact (i2 i).2 (by omega) h3
