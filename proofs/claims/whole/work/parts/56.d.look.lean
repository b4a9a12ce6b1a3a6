theorem most_loop {J b B n t : Nat} {f : Nat → Nat} {hard wears now zo zs zj way br : Nat → Int32} {x3 x4 a ff p : Int32} (ht : t ≤ 30) (hf : ∀ j : Nat, f j ≤ 1000) (hbr : ∀ j : Nat, j < 9 → br (9 * t + j) = nI (f j))
    (K : Int32 → Int32 → Int32 → Int32 → (Nat → Int32) → Int32 → (Nat → Int32) → (Nat → Int32) → Int32 → Int32 → Int32 → Int32 → (Nat → Int32) → (Nat → Int32) → (Nat → Int32) → (Nat → Int32) → (Nat → Int32) → Option (Int32 × Int32 × Int32 × Int32 × (Nat → Int32) × (Nat → Int32))) :
    ∀ (d j n1 : Nat), j + d = 9 → d < n1 → m_Ref_look_L121 K n1 x3 x4 (nI t) (nI (mx f j)) (nI j) (nI J) hard (nI B) wears now a ff p (nI n) zo zs zj way br = m_Ref_look_B172 K x3 x4 (nI t) (nI (mx f 9)) (nI J) hard (nI B) wears now a ff p (nI n) zo zs zj way br := by
  intro d
  induction d with
  | zero =>
    intro j n1 hk h1
    obtain ⟨g, rfl, -⟩ := fuS h1
    have e : j = 9 := by omega
    subst e
    show m_Ref_look_B121 K (m_Ref_look_L121 K g) x3 x4 (nI t) (nI (mx f 9)) (nI 9) (nI J) hard (nI B) wears now a ff p (nI n) zo zs zj way br = _
    unfold m_Ref_look_B121
    rw [if_pos (by decide)]
  | succ d ih =>
    intro j n1 hk h1
    obtain ⟨g, rfl, hg⟩ := fuS h1
    have ml := mx_le hf j
    have fl := hf j
    have i := ih (j + 1) g (by omega) (by omega)
    have es : mx f (j + 1) = max (mx f j) (f j) := rfl
    show m_Ref_look_B121 K (m_Ref_look_L121 K g) x3 x4 (nI t) (nI (mx f j)) (nI j) (nI J) hard (nI B) wears now a ff p (nI n) zo zs zj way br = _
    have c : ¬ (9 : Int32) ≤ nI j := ncle (a := 9) (by omega) (by omega) (by omega)
    unfold m_Ref_look_B121 m_Ref_look_B164
    rw [if_neg c, m9, nI_add, kg_i (by omega) (by omega), nI_clamp (by omega), hbr j (by omega), kg_i (by omega) (by omega), nI_1]
    by_cases c2 : f j ≤ mx f j
    · rw [if_pos (cle (by omega) (by omega) c2)]
      rw [es, Nat.max_eq_left c2] at i; exact i
    · rw [if_neg (ncle (by omega) (by omega) (by omega))]
      rw [es, Nat.max_eq_right (by omega)] at i; exact i
theorem srch_loop {J b B n tot : Nat} {M : Nat → Nat → Nat} {hard wears now zo zs zj way br : Nat → Int32} {a ff p : Int32} (htot : tot ≤ 1000) (hf : ∀ t j : Nat, M t j ≤ 1000) (hbr : ∀ t j : Nat, t ≤ 30 → j < 9 → br (9 * t + j) = nI (M t j)) :
    ∀ (d k n1 : Nat), k + d = 30 → d < n1 → m_Ref_look_L108 n1 (om (bestN (fun t => mx (M t) 9) tot k).1) (nI (bestN (fun t => mx (M t) 9) tot k).2) (nI (k + 1)) (nI J) hard (nI B) wears now a ff p (nI n) zo zs zj way br = some (om (bestN (fun t => mx (M t) 9) tot 30).1, a, ff, p, way, br) := by
  intro d
  induction d with
  | zero =>
    intro k n1 hk h1
    obtain ⟨g, rfl, -⟩ := fuS h1
    have e : k = 30 := by omega
    subst e
    show m_Ref_look_B108 (m_Ref_look_L108 g) _ _ (nI 31) (nI J) hard (nI B) wears now a ff p (nI n) zo zs zj way br = _
    unfold m_Ref_look_B108
    rw [if_pos (by decide)]
  | succ d ih =>
    intro k n1 hk h1
    obtain ⟨g, rfl, hg⟩ := fuS h1
    have bl := bestN_le (M := fun t => mx (M t) 9) (tot := tot) htot (fun t => mx_le (hf t) 9) k
    have ml := mx_le (hf (k + 1)) 9
    have i := ih (k + 1) g (by omega) (by omega)
    have eb : bestN (fun t => mx (M t) 9) tot (k + 1) = if (bestN (fun t => mx (M t) 9) tot k).2 ≤ mx (M (k + 1)) 9 then bestN (fun t => mx (M t) 9) tot k else (k + 2, mx (M (k + 1)) 9) := rfl
    have mo : m_Ref_look_L121 (m_Ref_look_L108 g) FU (om (bestN (fun t => mx (M t) 9) tot k).1) (nI (bestN (fun t => mx (M t) 9) tot k).2) (nI (k + 1)) 0 0 (nI J) hard (nI B) wears now a ff p (nI n) zo zs zj way br = _ := most_loop (b := 0) (f := M (k + 1)) (show k + 1 ≤ 30 by omega) (hf (k + 1)) (fun j hj => hbr (k + 1) j (by omega) hj) (m_Ref_look_L108 g) 9 0 FU (by omega) (FU_gt (by omega))
    show m_Ref_look_B108 (m_Ref_look_L108 g) (om (bestN (fun t => mx (M t) 9) tot k).1) (nI (bestN (fun t => mx (M t) 9) tot k).2) (nI (k + 1)) (nI J) hard (nI B) wears now a ff p (nI n) zo zs zj way br = _
    have c : ¬ (31 : Int32) ≤ nI (k + 1) := ncle (a := 31) (by omega) (by omega) (by omega)
    unfold m_Ref_look_B108
    rw [if_neg c, mo]
    unfold m_Ref_look_B172 m_Ref_look_B185 m_Ref_look_B200
    by_cases c2 : (bestN (fun t => mx (M t) 9) tot k).2 ≤ mx (M (k + 1)) 9
    · rw [eb, if_pos c2] at i
      have cc : nI (bestN (fun t => mx (M t) 9) tot k).2 ≤ nI (mx (M (k + 1)) 9) := cle (by omega) (by omega) c2
      rw [if_pos cc, if_pos cc, nI_1]; exact i
    · rw [eb, if_neg c2] at i
      have cc : ¬ nI (bestN (fun t => mx (M t) 9) tot k).2 ≤ nI (mx (M (k + 1)) 9) := ncle (by omega) (by omega) (by omega)
      rw [if_neg cc, if_neg cc, nI_1, ← om_s (k + 1)]; exact i
theorem lk_loop {J B b j w n : Nat} {hm : Nat → Nat → Nat} {hard now wears bo st ju zo zs zj : Nat → Int32} (hJ : J ≤ 9) (hB : B ≤ 5) (hj : j < J) (hw : w ≤ 99) (hb : b < 5) (hn : n ≤ 6) (hh : HM hard hm) (hE : Ent J B n bo st ju zo zs zj) (s1 : now b = nI j) (w2 : wears b = nI w) :
    ∀ (d q n1 : Nat) (a ff p : Int32) (way br : Nat → Int32), q + d = 1000 → d < n1 → (∀ t i : Nat, t ≤ 30 → i < 9 → br (9 * t + i) = nI (cq (fun q => fitb (okE hm J j b zo zs zj (gct (nd hm J j 0 w) q 30 0)) n 0 && decide ((ps hm J j 0 (min (gct (nd hm J j 0 w) q 30 0) t)).1 = i)) q)) →
      ∃ (a' f' p' : Int32) (way' br' : Nat → Int32), m_Ref_look_L37 n1 (nI b) (nI (cq (fun q => fitb (okE hm J j b zo zs zj (gct (nd hm J j 0 w) q 30 0)) n 0) q)) (nI q) (nI J) hard (nI B) wears now a ff p (nI n) zo zs zj way br = m_Ref_look_L108 FU (-1) (nI (cq (fun q => fitb (okE hm J j b zo zs zj (gct (nd hm J j 0 w) q 30 0)) n 0) 1000)) 1 (nI J) hard (nI B) wears now a' f' p' (nI n) zo zs zj way' br' ∧ ∀ t i : Nat, t ≤ 30 → i < 9 → br' (9 * t + i) = nI (cq (fun q => fitb (okE hm J j b zo zs zj (gct (nd hm J j 0 w) q 30 0)) n 0 && decide ((ps hm J j 0 (min (gct (nd hm J j 0 w) q 30 0) t)).1 = i)) 1000) := by
  intro d
  induction d with
  | zero =>
    intro q n1 a ff p way br hq h1 hbr
    obtain ⟨g, rfl, -⟩ := fuS h1
    have e : q = 1000 := by omega
    subst e
    refine ⟨a, ff, p, way, br, ?_, hbr⟩
    show m_Ref_look_B37 (m_Ref_look_L37 g) (nI b) _ (nI 1000) (nI J) hard (nI B) wears now a ff p (nI n) zo zs zj way br = _
    unfold m_Ref_look_B37 m_Ref_look_B100
    rw [if_pos (by decide)]
  | succ d ih =>
    intro q n1 a ff p way br hq h1 hbr
    obtain ⟨g, rfl, hg⟩ := fuS h1
    obtain ⟨a1, f1, p1, way1, c1, wy⟩ := cb_i hJ hB hj hw (show q ≤ 999 by omega) hb hn hh hE s1 w2 a ff p way
    have c : ¬ (999 : Int32) < nI q := nclt (a := 999) (by omega) (by omega) (by omega)
    have es : cq (fun q => fitb (okE hm J j b zo zs zj (gct (nd hm J j 0 w) q 30 0)) n 0) (q + 1) = cq (fun q => fitb (okE hm J j b zo zs zj (gct (nd hm J j 0 w) q 30 0)) n 0) q + (if fitb (okE hm J j b zo zs zj (gct (nd hm J j 0 w) q 30 0)) n 0 = true then 1 else 0) := rfl
    have ej : ∀ t i : Nat, cq (fun q => fitb (okE hm J j b zo zs zj (gct (nd hm J j 0 w) q 30 0)) n 0 && decide ((ps hm J j 0 (min (gct (nd hm J j 0 w) q 30 0) t)).1 = i)) (q + 1) = cq (fun q => fitb (okE hm J j b zo zs zj (gct (nd hm J j 0 w) q 30 0)) n 0 && decide ((ps hm J j 0 (min (gct (nd hm J j 0 w) q 30 0) t)).1 = i)) q + (if (fitb (okE hm J j b zo zs zj (gct (nd hm J j 0 w) q 30 0)) n 0 && decide ((ps hm J j 0 (min (gct (nd hm J j 0 w) q 30 0) t)).1 = i)) = true then 1 else 0) := fun t i => rfl
    by_cases cf : fitb (okE hm J j b zo zs zj (gct (nd hm J j 0 w) q 30 0)) n 0 = true
    · obtain ⟨br1, k1, k2⟩ := br_loop (J := J) (b := b) (B := B) (n := n) (q := q) (W := fun t => (ps hm J j 0 (min (gct (nd hm J j 0 w) q 30 0) t)).1) (hard := hard) (wears := wears) (now := now) (zo := zo) (zs := zs) (zj := zj) (way := way1) (x2 := nI (cq (fun q => fitb (okE hm J j b zo zs zj (gct (nd hm J j 0 w) q 30 0)) n 0) q) + 1) (a := a1) (ff := f1) (p := p1) (fun i hi => ⟨wy i hi, by have := (ps_in (hm := hm) (f := 0) hj (Nat.zero_le J) (min (gct (nd hm J j 0 w) q 30 0) i)).1; show (ps hm J j 0 (min (gct (nd hm J j 0 w) q 30 0) i)).1 < 9; omega⟩) (m_Ref_look_L37 g) 31 0 FU br (by omega) (FU_gt (by omega))
      obtain ⟨a', f', p', way', br', i1, i2⟩ := ih (q + 1) g a1 f1 p1 way1 br1 (by omega) (by omega) (fun t i ht hi => by
        rw [k2 t i ht hi, ej t i, hbr t i ht hi, cf, Bool.true_and]
        by_cases z : (ps hm J j 0 (min (gct (nd hm J j 0 w) q 30 0) t)).1 = i
        · rw [if_pos ⟨Nat.zero_le _, z⟩, decide_eq_true z, if_pos rfl, nI_1]
        · rw [if_neg (fun y => z y.2), decide_eq_false z, if_neg (by decide), Nat.add_zero])
      refine ⟨a', f', p', way', br', ?_, i2⟩
      show m_Ref_look_B37 (m_Ref_look_L37 g) (nI b) (nI (cq (fun q => fitb (okE hm J j b zo zs zj (gct (nd hm J j 0 w) q 30 0)) n 0) q)) (nI q) (nI J) hard (nI B) wears now a ff p (nI n) zo zs zj way br = _
      unfold m_Ref_look_B37
      rw [if_neg c, c1, kb5_e, if_pos cf, if_neg n1]
      rw [es, if_pos cf, ← nI_1] at i1
      exact k1.trans i1
    · obtain ⟨a', f', p', way', br', i1, i2⟩ := ih (q + 1) g a1 f1 p1 way1 br (by omega) (by omega) (fun t i ht hi => by
        have z : fitb (okE hm J j b zo zs zj (gct (nd hm J j 0 w) q 30 0)) n 0 = false := by cases h9 : fitb (okE hm J j b zo zs zj (gct (nd hm J j 0 w) q 30 0)) n 0 with | true => exact absurd h9 cf | false => rfl
        rw [ej t i, hbr t i ht hi, z, Bool.false_and, if_neg (by decide), Nat.add_zero])
      refine ⟨a', f', p', way', br', ?_, i2⟩
      show m_Ref_look_B37 (m_Ref_look_L37 g) (nI b) (nI (cq (fun q => fitb (okE hm J j b zo zs zj (gct (nd hm J j 0 w) q 30 0)) n 0) q)) (nI q) (nI J) hard (nI B) wears now a ff p (nI n) zo zs zj way br = _
      unfold m_Ref_look_B37 m_Ref_look_B94
      rw [if_neg c, c1, kb5_e, if_neg cf, if_pos p0, nI_1]
      rw [es, if_neg cf, Nat.add_zero] at i1
      exact i1
