/-! ===== left ===== -/
def sumb (f : Nat → Nat) : Nat → Nat
  | 0 => 0
  | k + 1 => sumb f k + f k
def cq (F : Nat → Bool) : Nat → Nat
  | 0 => 0
  | q + 1 => cq F q + (if F q = true then 1 else 0)
theorem cq_mono (F : Nat → Bool) : ∀ d q : Nat, cq F q ≤ cq F (q + d) := by
  intro d
  induction d with
  | zero => intro q; exact Nat.le_refl _
  | succ d ih => intro q; exact Nat.le_trans (ih q) (Nat.le_add_right _ _)
theorem cq_le (F : Nat → Bool) : ∀ q : Nat, cq F q ≤ q := by
  intro q
  induction q with
  | zero => exact Nat.le_refl 0
  | succ q ih =>
    show cq F q + (if F q = true then 1 else 0) ≤ q + 1
    split <;> omega
theorem bnd_mono {hm : Nat → Nat → Nat} {J j f w : Nat} {k : Nat} (hk : k ≤ 30) : bnd (nd hm J j f w) k ≤ bnd (nd hm J j f w) (k + 1) := by
  unfold bnd
  rw [if_pos hk]
  by_cases c : k + 1 ≤ 30
  · rw [if_pos c]; exact nd_mono hm J j f w k
  · rw [if_neg c]; exact nd_le hm J j f w k
theorem bnd_31 (n : Nat → Nat) : bnd n 31 = 1000 := by unfold bnd; rw [if_neg (by omega)]
theorem bnd_le {hm : Nat → Nat → Nat} {J j f w : Nat} (k : Nat) : bnd (nd hm J j f w) k ≤ 1000 := by
  unfold bnd
  by_cases c : k ≤ 30
  · rw [if_pos c]; exact nd_le hm J j f w k
  · rw [if_neg c]; exact Nat.le_refl _
theorem bnd_in {hm : Nat → Nat → Nat} {J j f w q k : Nat} (hk : k ≤ 30) (h1 : bnd (nd hm J j f w) k ≤ q) (h2 : q < bnd (nd hm J j f w) (k + 1)) : gct (nd hm J j f w) q 30 0 = k := by
  have g := gct_is (n := nd hm J j f w) (q := q) 30 0 (Nat.zero_le q)
  have gl := gct_le (nd hm J j f w) q 30 0
  have h1' : nd hm J j f w k ≤ q := by unfold bnd at h1; rw [if_pos hk] at h1; exact h1
  have h2' : k < 30 → q < nd hm J j f w (k + 1) := by
    intro hk2
    unfold bnd at h2; rw [if_pos (by omega)] at h2; exact h2
  rcases Nat.lt_trichotomy (gct (nd hm J j f w) q 30 0) k with c | c | c
  · have a := g.2 (by omega)
    have b := nd_mono' hm J j f w (k - (gct (nd hm J j f w) q 30 0 + 1)) (gct (nd hm J j f w) q 30 0 + 1)
    rw [show gct (nd hm J j f w) q 30 0 + 1 + (k - (gct (nd hm J j f w) q 30 0 + 1)) = k by omega] at b
    omega
  · exact c
  · have a := g.1
    have a2 := h2' (by omega)
    have b := nd_mono' hm J j f w (gct (nd hm J j f w) q 30 0 - (k + 1)) (k + 1)
    rw [show k + 1 + (gct (nd hm J j f w) q 30 0 - (k + 1)) = gct (nd hm J j f w) q 30 0 by omega] at b
    omega
theorem cq_band {hm : Nat → Nat → Nat} {J j f w : Nat} (fit : Nat → Bool) {k : Nat} (hk : k ≤ 30) (h0 : cq (fun q => fit (gct (nd hm J j f w) q 30 0)) (bnd (nd hm J j f w) k) = sumb (bsz fit (nd hm J j f w)) k) :
    ∀ r : Nat, bnd (nd hm J j f w) k + r ≤ bnd (nd hm J j f w) (k + 1) → cq (fun q => fit (gct (nd hm J j f w) q 30 0)) (bnd (nd hm J j f w) k + r) = sumb (bsz fit (nd hm J j f w)) k + (if fit k = true then r else 0) := by
  intro r
  induction r with
  | zero => intro _; rw [Nat.add_zero, h0]; split <;> rfl
  | succ r ih =>
    intro hr
    have i := ih (by omega)
    have g := bnd_in (hm := hm) (J := J) (j := j) (f := f) (w := w) hk (q := bnd (nd hm J j f w) k + r) (by omega) (by omega)
    show cq (fun q => fit (gct (nd hm J j f w) q 30 0)) (bnd (nd hm J j f w) k + r) + (if fit (gct (nd hm J j f w) (bnd (nd hm J j f w) k + r) 30 0) = true then 1 else 0) = _
    rw [i, g]
    by_cases c : fit k = true
    · rw [if_pos c, if_pos c, if_pos c]; omega
    · rw [if_neg c, if_neg c, if_neg c]
theorem cq_sum {hm : Nat → Nat → Nat} {J j f w : Nat} (fit : Nat → Bool) : ∀ k : Nat, k ≤ 31 → cq (fun q => fit (gct (nd hm J j f w) q 30 0)) (bnd (nd hm J j f w) k) = sumb (bsz fit (nd hm J j f w)) k := by
  intro k
  induction k with
  | zero => intro _; rfl
  | succ k ih =>
    intro hk
    have i := ih (by omega)
    have m := bnd_mono (hm := hm) (J := J) (j := j) (f := f) (w := w) (show k ≤ 30 by omega)
    have b := cq_band fit (show k ≤ 30 by omega) i (bnd (nd hm J j f w) (k + 1) - bnd (nd hm J j f w) k) (by omega)
    rw [show bnd (nd hm J j f w) k + (bnd (nd hm J j f w) (k + 1) - bnd (nd hm J j f w) k) = bnd (nd hm J j f w) (k + 1) by omega] at b
    rw [b]; rfl
/-- the reference's count, pull by pull -/
theorem left_found {J B b j w n i q0 : Nat} {hm : Nat → Nat → Nat} {hard now wears bo st ju zo zs zj : Nat → Int32} (hJ : J ≤ 9) (hB : B ≤ 5) (hj : j < J) (hw : w ≤ 99) (hb : b < 5) (hn : n ≤ 6) (hh : HM hard hm) (hE : Ent J B n bo st ju zo zs zj) (s1 : now b = nI j) (w2 : wears b = nI w)
    (hq0 : q0 < 1000) (hf : fitb (okE hm J j b zo zs zj (gct (nd hm J j 0 w) q0 30 0)) n 0 = true) (hc : cq (fun q => fitb (okE hm J j b zo zs zj (gct (nd hm J j 0 w) q 30 0)) n 0) q0 = i) :
    ∀ (d q n1 : Nat) (a ff p : Int32) (way : Nat → Int32), q + d = q0 → d < n1 → ∃ (a' f' p' : Int32) (way' : Nat → Int32), m_Ref_left_L16 n1 (nI b) (nI i) (nI (cq (fun q => fitb (okE hm J j b zo zs zj (gct (nd hm J j 0 w) q 30 0)) n 0) q)) (nI q) (nI J) hard (nI B) wears now a ff p (nI n) zo zs zj way = some (nI q0, a', f', p', way') := by
  intro d
  induction d with
  | zero =>
    intro q n1 a ff p way hq h1
    obtain ⟨g, rfl, -⟩ := fuS h1
    have e : q = q0 := by omega
    subst e
    obtain ⟨a', f', p', way', c1, -⟩ := cb_i hJ hB hj hw (show q ≤ 999 by omega) hb hn hh hE s1 w2 a ff p way
    refine ⟨a', f', p', way', ?_⟩
    show m_Ref_left_B16 (m_Ref_left_L16 g) (nI b) (nI i) _ (nI q) (nI J) hard (nI B) wears now a ff p (nI n) zo zs zj way = _
    have c : ¬ (999 : Int32) < nI q := nclt (a := 999) (by omega) (by omega) (by omega)
    unfold m_Ref_left_B16
    rw [if_neg c, c1, kb5_e, if_pos hf, if_neg n1, if_pos (by rw [hc])]
  | succ d ih =>
    intro q n1 a ff p way hq h1
    obtain ⟨g, rfl, hg⟩ := fuS h1
    obtain ⟨a1, f1, p1, way1, c1, -⟩ := cb_i hJ hB hj hw (show q ≤ 999 by omega) hb hn hh hE s1 w2 a ff p way
    obtain ⟨a', f', p', way', i1⟩ := ih (q + 1) g a1 f1 p1 way1 (by omega) (by omega)
    refine ⟨a', f', p', way', ?_⟩
    show m_Ref_left_B16 (m_Ref_left_L16 g) (nI b) (nI i) (nI (cq (fun q => fitb (okE hm J j b zo zs zj (gct (nd hm J j 0 w) q 30 0)) n 0) q)) (nI q) (nI J) hard (nI B) wears now a ff p (nI n) zo zs zj way = _
    have c : ¬ (999 : Int32) < nI q := nclt (a := 999) (by omega) (by omega) (by omega)
    have l1 := cq_le (fun q => fitb (okE hm J j b zo zs zj (gct (nd hm J j 0 w) q 30 0)) n 0) q
    have l2 := cq_le (fun q => fitb (okE hm J j b zo zs zj (gct (nd hm J j 0 w) q 30 0)) n 0) q0
    have es : cq (fun q => fitb (okE hm J j b zo zs zj (gct (nd hm J j 0 w) q 30 0)) n 0) (q + 1) = cq (fun q => fitb (okE hm J j b zo zs zj (gct (nd hm J j 0 w) q 30 0)) n 0) q + (if fitb (okE hm J j b zo zs zj (gct (nd hm J j 0 w) q 30 0)) n 0 = true then 1 else 0) := rfl
    unfold m_Ref_left_B16 m_Ref_left_B45
    rw [if_neg c, c1, kb5_e, nI_1, nI_1]
    by_cases cf : fitb (okE hm J j b zo zs zj (gct (nd hm J j 0 w) q 30 0)) n 0 = true
    · have m := cq_mono (fun q => fitb (okE hm J j b zo zs zj (gct (nd hm J j 0 w) q 30 0)) n 0) d (q + 1)
      rw [show q + 1 + d = q0 by omega, hc, es, if_pos cf] at m
      rw [es, if_pos cf] at i1
      rw [if_pos cf, if_neg n1, if_neg (nceq (by omega) (by omega) (by omega))]; exact i1
    · rw [es, if_neg cf, Nat.add_zero] at i1
      rw [if_neg cf, if_pos p0]; exact i1
theorem left_none {J B b j w n : Nat} {y : Int32} {hm : Nat → Nat → Nat} {hard now wears bo st ju zo zs zj : Nat → Int32} (hJ : J ≤ 9) (hB : B ≤ 5) (hj : j < J) (hw : w ≤ 99) (hb : b < 5) (hn : n ≤ 6) (hh : HM hard hm) (hE : Ent J B n bo st ju zo zs zj) (s1 : now b = nI j) (w2 : wears b = nI w)
    (hy : ∀ c : Nat, c < cq (fun q => fitb (okE hm J j b zo zs zj (gct (nd hm J j 0 w) q 30 0)) n 0) 1000 → ¬ nI c = y) :
    ∀ (d q n1 : Nat) (a ff p : Int32) (way : Nat → Int32), q + d = 1000 → d < n1 → ∃ (a' f' p' : Int32) (way' : Nat → Int32), m_Ref_left_L16 n1 (nI b) y (nI (cq (fun q => fitb (okE hm J j b zo zs zj (gct (nd hm J j 0 w) q 30 0)) n 0) q)) (nI q) (nI J) hard (nI B) wears now a ff p (nI n) zo zs zj way = some ((if y = -1 then nI (cq (fun q => fitb (okE hm J j b zo zs zj (gct (nd hm J j 0 w) q 30 0)) n 0) 1000) else -1), a', f', p', way') := by
  intro d
  induction d with
  | zero =>
    intro q n1 a ff p way hq h1
    obtain ⟨g, rfl, -⟩ := fuS h1
    have e : q = 1000 := by omega
    subst e
    refine ⟨a, ff, p, way, ?_⟩
    show m_Ref_left_B16 (m_Ref_left_L16 g) (nI b) y _ (nI 1000) (nI J) hard (nI B) wears now a ff p (nI n) zo zs zj way = _
    unfold m_Ref_left_B16 m_Ref_left_B51
    rw [if_pos (by decide)]
    by_cases c : y = -1
    · rw [if_pos c, if_pos c]
    · rw [if_neg c, if_neg c]
  | succ d ih =>
    intro q n1 a ff p way hq h1
    obtain ⟨g, rfl, hg⟩ := fuS h1
    obtain ⟨a1, f1, p1, way1, c1, -⟩ := cb_i hJ hB hj hw (show q ≤ 999 by omega) hb hn hh hE s1 w2 a ff p way
    obtain ⟨a', f', p', way', i1⟩ := ih (q + 1) g a1 f1 p1 way1 (by omega) (by omega)
    refine ⟨a', f', p', way', ?_⟩
    show m_Ref_left_B16 (m_Ref_left_L16 g) (nI b) y (nI (cq (fun q => fitb (okE hm J j b zo zs zj (gct (nd hm J j 0 w) q 30 0)) n 0) q)) (nI q) (nI J) hard (nI B) wears now a ff p (nI n) zo zs zj way = _
    have c : ¬ (999 : Int32) < nI q := nclt (a := 999) (by omega) (by omega) (by omega)
    have es : cq (fun q => fitb (okE hm J j b zo zs zj (gct (nd hm J j 0 w) q 30 0)) n 0) (q + 1) = cq (fun q => fitb (okE hm J j b zo zs zj (gct (nd hm J j 0 w) q 30 0)) n 0) q + (if fitb (okE hm J j b zo zs zj (gct (nd hm J j 0 w) q 30 0)) n 0 = true then 1 else 0) := rfl
    have m := cq_mono (fun q => fitb (okE hm J j b zo zs zj (gct (nd hm J j 0 w) q 30 0)) n 0) d (q + 1)
    rw [show q + 1 + d = 1000 by omega] at m
    unfold m_Ref_left_B16 m_Ref_left_B45
    rw [if_neg c, c1, kb5_e, nI_1, nI_1]
    by_cases cf : fitb (okE hm J j b zo zs zj (gct (nd hm J j 0 w) q 30 0)) n 0 = true
    · rw [es, if_pos cf] at m
      rw [es, if_pos cf] at i1
      rw [if_pos cf, if_neg n1, if_neg (hy _ (by omega))]; exact i1
    · rw [es, if_neg cf, Nat.add_zero] at i1
      rw [if_neg cf, if_pos p0]; exact i1
