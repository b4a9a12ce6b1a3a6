theorem PT_le {hm : Nat → Nat → Nat} {J jb w : Nat} {fit : Nat → Bool} (hs : sumb (bsz fit (nd hm J jb 0 w)) 31 ≤ 1000) {t j K : Nat} (hK : K ≤ 31) : PT hm J jb w fit t j K ≤ 1000 := by
  have a : PT hm J jb w fit t j K ≤ sumb (bsz fit (nd hm J jb 0 w)) K := sumb_le (fun k => by
    show (if (ps hm J jb 0 (min k t)).1 = j then bsz fit (nd hm J jb 0 w) k else 0) ≤ _
    split <;> omega) K
  have b := sumb_mono (bsz fit (nd hm J jb 0 w)) (31 - K) K
  rw [show K + (31 - K) = 31 by omega] at b
  omega
theorem mx_le {f : Nat → Nat} {M : Nat} (h : ∀ j : Nat, f j ≤ M) : ∀ n : Nat, mx f n ≤ M := by
  intro n
  induction n with
  | zero => exact Nat.zero_le _
  | succ n ih => exact Nat.max_le.mpr ⟨ih, h n⟩
theorem part_loop {hm : Nat → Nat → Nat} {J jb w t : Nat} {fit : Nat → Bool} {si pl ne : Nat → Int32} (hJ : J ≤ 9) (hj : jb < J) (ht : t ≤ 30) (hs : sumb (bsz fit (nd hm J jb 0 w)) 31 ≤ 1000) (hsi : ∀ i : Nat, i ≤ 30 → si i = nI (bsz fit (nd hm J jb 0 w) i)) (hW : WayIs hm J jb 0 w 30 pl ne) :
    ∀ (d k n1 : Nat) (pa : Nat → Int32), k + d = 31 → d < n1 → (∀ i : Nat, i < 9 → pa i = nI (PT hm J jb w fit t i k)) → ∃ pa' : Nat → Int32, m_Bands_greatestPart_L26 n1 (nI t) (nI (mx (fun j => PT hm J jb w fit t j k) 9)) (nI k) si pa pl 30 = some (nI (mx (fun j => PT hm J jb w fit t j 31) 9), pa') := by
  intro d
  induction d with
  | zero =>
    intro k n1 pa hk h1 hpa
    obtain ⟨g, rfl, -⟩ := fuS h1
    have e : k = 31 := by omega
    subst e
    refine ⟨pa, ?_⟩
    show m_Bands_greatestPart_B26 (m_Bands_greatestPart_L26 g) (nI t) _ (nI 31) si pa pl 30 = _
    unfold m_Bands_greatestPart_B26
    rw [if_pos (by decide)]
  | succ d ih =>
    intro k n1 pa hk h1 hpa
    obtain ⟨g, rfl, hg⟩ := fuS h1
    obtain ⟨pj, -⟩ := ps_in (hm := hm) (f := 0) hj (Nat.zero_le J) (min k t)
    have x4 : m_Way_place (nI (min k t)) pl 30 = some (nI (ps hm J jb 0 (min k t)).1) := by rw [← (hW (min k t) (by omega)).1]; exact place_i (L := 30) (by omega) (by omega)
    have c : ¬ (31 : Int32) ≤ nI k := ncle (a := 31) (by omega) (by omega) (by omega)
    have c9 : nI (ps hm J jb 0 (min k t)).1 < (9 : Int32) := clt (b := 9) (by omega) (by omega) (by omega)
    have eP : ∀ i : Nat, PT hm J jb w fit t i (k + 1) = PT hm J jb w fit t i k + (if (ps hm J jb 0 (min k t)).1 = i then bsz fit (nd hm J jb 0 w) k else 0) := fun i => rfl
    have e0 : PT hm J jb w fit t (ps hm J jb 0 (min k t)).1 (k + 1) = PT hm J jb w fit t (ps hm J jb 0 (min k t)).1 k + bsz fit (nd hm J jb 0 w) k := by rw [eP, if_pos rfl]
    have en : ∀ i : Nat, i ≠ (ps hm J jb 0 (min k t)).1 → PT hm J jb w fit t i (k + 1) = PT hm J jb w fit t i k := fun i hi => by rw [eP, if_neg (fun q => hi q.symm), Nat.add_zero]
    have l1 := PT_le (t := t) (j := (ps hm J jb 0 (min k t)).1) (K := k + 1) hs (by omega)
    have l2 := mx_le (f := fun j => PT hm J jb w fit t j k) (M := 1000) (fun j => PT_le hs (by omega)) 9
    have m := mx_upd (f := fun j => PT hm J jb w fit t j k) (g := fun j => PT hm J jb w fit t j (k + 1)) (j0 := (ps hm J jb 0 (min k t)).1) (fun i hi => en i hi) (by show PT hm J jb w fit t _ k ≤ PT hm J jb w fit t _ (k + 1); omega) 9
    rw [if_pos (by omega)] at m
    have m : mx (fun j => PT hm J jb w fit t j (k + 1)) 9 = max (mx (fun j => PT hm J jb w fit t j k) 9) (PT hm J jb w fit t (ps hm J jb 0 (min k t)).1 (k + 1)) := m
    obtain ⟨pa', i1⟩ := ih (k + 1) g (upd pa (ps hm J jb 0 (min k t)).1 (nI (PT hm J jb w fit t (ps hm J jb 0 (min k t)).1 (k + 1)))) (by omega) (by omega) (fun i hi => by
      by_cases q : i = (ps hm J jb 0 (min k t)).1
      · subst q; exact pk_us
      · rw [pk_un q, en i q]; exact hpa i hi)
    refine ⟨pa', ?_⟩
    show m_Bands_greatestPart_B26 (m_Bands_greatestPart_L26 g) (nI t) (nI (mx (fun j => PT hm J jb w fit t j k) 9)) (nI k) si pa pl 30 = _
    unfold m_Bands_greatestPart_B26 m_Bands_greatestPart_B89
    rw [if_neg c, minI2 (by omega) (by omega), x4, kb1_e, if_neg (nI_pos (by omega)), if_pos c9, kg_i (by omega) (by omega), kg_i (by omega) (by omega), kg_i (by omega) (by omega), kg_i (by omega) (by omega), nI_clamp (n := (ps hm J jb 0 (min k t)).1) (by omega), nI_clamp (by omega), pk_us, hpa _ (by omega), hsi k (by omega), nI_add, ← e0, maxI (by omega) (by omega), ← m, nI_1]
    exact i1
theorem great_i {hm : Nat → Nat → Nat} {J jb w t : Nat} {fit : Nat → Bool} {si pl ne : Nat → Int32} (hJ : J ≤ 9) (hj : jb < J) (ht : t ≤ 30) (hs : sumb (bsz fit (nd hm J jb 0 w)) 31 ≤ 1000) (hsi : ∀ i : Nat, i ≤ 30 → si i = nI (bsz fit (nd hm J jb 0 w) i)) (hW : WayIs hm J jb 0 w 30 pl ne) (pa : Nat → Int32) :
    ∃ pa' : Nat → Int32, m_Bands_greatestPart (nI t) si pa pl 30 = some (nI (mx (fun j => PT hm J jb w fit t j 31) 9), pa') := by
  obtain ⟨pa1, z1, z2⟩ := zero_loop (t := t) (si := si) (pl := pl) (la := 30) 9 0 FU pa (by omega) (FU_gt (by omega))
  obtain ⟨pa', i1⟩ := part_loop hJ hj ht hs hsi hW 31 0 FU pa1 (by omega) (FU_gt (by omega)) (fun i hi => by rw [z2 i hi, if_neg (by omega)]; rfl)
  refine ⟨pa', ?_⟩
  have e : mx (fun j => PT hm J jb w fit t j 0) 9 = 0 := mx_0 9
  rw [e] at i1
  unfold m_Bands_greatestPart
  exact z1.trans i1
/-- the best n: with the least of the greatest parts, behind the first k -/
def bestN (M : Nat → Nat) (tot : Nat) : Nat → Nat × Nat
  | 0 => (0, tot)
  | k + 1 => if (bestN M tot k).2 ≤ M (k + 1) then bestN M tot k else (k + 2, M (k + 1))
theorem bestN_le {M : Nat → Nat} {tot : Nat} (h1 : tot ≤ 1000) (h2 : ∀ k : Nat, M k ≤ 1000) : ∀ k : Nat, (bestN M tot k).1 ≤ k + 1 ∧ (bestN M tot k).2 ≤ 1000 := by
  intro k
  induction k with
  | zero => exact ⟨Nat.zero_le _, h1⟩
  | succ k ih =>
    show (if (bestN M tot k).2 ≤ M (k + 1) then bestN M tot k else (k + 2, M (k + 1))).1 ≤ k + 1 + 1 ∧ (if (bestN M tot k).2 ≤ M (k + 1) then bestN M tot k else (k + 2, M (k + 1))).2 ≤ 1000
    by_cases c : (bestN M tot k).2 ≤ M (k + 1)
    · rw [if_pos c]; omega
    · rw [if_neg c]; exact ⟨Nat.le_refl _, h2 (k + 1)⟩
theorem best_loop {hm : Nat → Nat → Nat} {J jb w : Nat} {fit : Nat → Bool} {si pl ne : Nat → Int32} (hJ : J ≤ 9) (hj : jb < J) (hs : sumb (bsz fit (nd hm J jb 0 w)) 31 ≤ 1000) (hsi : ∀ i : Nat, i ≤ 30 → si i = nI (bsz fit (nd hm J jb 0 w) i)) (hW : WayIs hm J jb 0 w 30 pl ne) :
    ∀ (d k n1 : Nat) (pa : Nat → Int32), k + d = 30 → d < n1 → ∃ pa' : Nat → Int32, m_Bands_bestParting_L10 n1 (om (bestN (fun t => mx (fun j => PT hm J jb w fit t j 31) 9) (sumb (bsz fit (nd hm J jb 0 w)) 31) k).1) (nI (bestN (fun t => mx (fun j => PT hm J jb w fit t j 31) 9) (sumb (bsz fit (nd hm J jb 0 w)) 31) k).2) (nI (k + 1)) si pa pl 30 = some (om (bestN (fun t => mx (fun j => PT hm J jb w fit t j 31) 9) (sumb (bsz fit (nd hm J jb 0 w)) 31) 30).1, pa') := by
  intro d
  induction d with
  | zero =>
    intro k n1 pa hk h1
    obtain ⟨g, rfl, -⟩ := fuS h1
    have e : k = 30 := by omega
    subst e
    refine ⟨pa, ?_⟩
    show m_Bands_bestParting_B10 (m_Bands_bestParting_L10 g) _ _ (nI 31) si pa pl 30 = _
    unfold m_Bands_bestParting_B10
    rw [if_pos (by decide)]
  | succ d ih =>
    intro k n1 pa hk h1
    obtain ⟨g, rfl, hg⟩ := fuS h1
    have bl := bestN_le (M := fun t => mx (fun j => PT hm J jb w fit t j 31) 9) (tot := sumb (bsz fit (nd hm J jb 0 w)) 31) hs (fun t => mx_le (fun j => PT_le hs (by omega)) 9) k
    have ml := mx_le (f := fun j => PT hm J jb w fit (k + 1) j 31) (M := 1000) (fun j => PT_le hs (by omega)) 9
    obtain ⟨pa1, g1⟩ := great_i (t := k + 1) hJ hj (by omega) hs hsi hW pa
    obtain ⟨pa', i1⟩ := ih (k + 1) g pa1 (by omega) (by omega)
    refine ⟨pa', ?_⟩
    have c : ¬ (30 : Int32) < nI (k + 1) := nclt (a := 30) (by omega) (by omega) (by omega)
    show m_Bands_bestParting_B10 (m_Bands_bestParting_L10 g) (om (bestN (fun t => mx (fun j => PT hm J jb w fit t j 31) 9) (sumb (bsz fit (nd hm J jb 0 w)) 31) k).1) (nI (bestN (fun t => mx (fun j => PT hm J jb w fit t j 31) 9) (sumb (bsz fit (nd hm J jb 0 w)) 31) k).2) (nI (k + 1)) si pa pl 30 = _
    have eb : bestN (fun t => mx (fun j => PT hm J jb w fit t j 31) 9) (sumb (bsz fit (nd hm J jb 0 w)) 31) (k + 1) = if (bestN (fun t => mx (fun j => PT hm J jb w fit t j 31) 9) (sumb (bsz fit (nd hm J jb 0 w)) 31) k).2 ≤ mx (fun j => PT hm J jb w fit (k + 1) j 31) 9 then bestN (fun t => mx (fun j => PT hm J jb w fit t j 31) 9) (sumb (bsz fit (nd hm J jb 0 w)) 31) k else (k + 2, mx (fun j => PT hm J jb w fit (k + 1) j 31) 9) := rfl
    unfold m_Bands_bestParting_B10 m_Bands_bestParting_B38
    rw [if_neg c, g1, kb2_e, nI_1]
    by_cases c2 : (bestN (fun t => mx (fun j => PT hm J jb w fit t j 31) 9) (sumb (bsz fit (nd hm J jb 0 w)) 31) k).2 ≤ mx (fun j => PT hm J jb w fit (k + 1) j 31) 9
    · rw [eb, if_pos c2] at i1
      rw [if_pos (cle (by omega) (by omega) c2)]; exact i1
    · rw [eb, if_neg c2] at i1
      rw [if_neg (ncle (by omega) (by omega) (by omega)), ← om_s]; exact i1
