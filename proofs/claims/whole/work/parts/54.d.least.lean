/-! ===== least ===== -/
theorem nd_mono' (hm : Nat → Nat → Nat) (J j f w : Nat) : ∀ d k : Nat, nd hm J j f w k ≤ nd hm J j f w (k + d) := by
  intro d
  induction d with
  | zero => intro k; exact Nat.le_refl _
  | succ d ih => intro k; exact Nat.le_trans (ih k) (nd_mono hm J j f w (k + d))
theorem gct_is {n : Nat → Nat} {q : Nat} : ∀ d k : Nat, n k ≤ q → n (gct n q d k) ≤ q ∧ (gct n q d k < k + d → q < n (gct n q d k + 1)) := by
  intro d
  induction d with
  | zero => intro k h; exact ⟨h, fun h2 => absurd h2 (by show ¬ k < k + 0; omega)⟩
  | succ d ih =>
    intro k h
    have e : gct n q (d + 1) k = if n (k + 1) ≤ q then gct n q d (k + 1) else k := rfl
    rw [e]
    by_cases c : n (k + 1) ≤ q
    · rw [if_pos c]; have := ih (k + 1) c; exact ⟨this.1, fun h2 => this.2 (by omega)⟩
    · rw [if_neg c]; exact ⟨h, fun _ => by omega⟩
/-- a pull by which it sits, within 200 steps, at jj -/
def SitsAt (hm : Nat → Nat → Nat) (J j f w q jj : Nat) : Prop := gct (nd hm J j f w) q 201 0 ≤ 200 ∧ (ps hm J j f (gct (nd hm J j f w) q 201 0)).1 = jj
theorem sitsAt_iff {hm : Nat → Nat → Nat} {J j f w q jj : Nat} : SitsAt hm J j f w q jj ↔ ∃ k : Nat, k ≤ 200 ∧ (ps hm J j f k).1 = jj ∧ nd hm J j f w k ≤ q ∧ q < nd hm J j f w (k + 1) := by
  have g := gct_is (n := nd hm J j f w) (q := q) 201 0 (Nat.zero_le q)
  constructor
  · intro h; exact ⟨_, h.1, h.2, g.1, g.2 (by have := h.1; omega)⟩
  · rintro ⟨k, hk, hp, h1, h2⟩
    have e : gct (nd hm J j f w) q 201 0 = k := by
      have gl := gct_le (nd hm J j f w) q 201 0
      rcases Nat.lt_trichotomy (gct (nd hm J j f w) q 201 0) k with c | c | c
      · have a := g.2 (by omega)
        have b := nd_mono' hm J j f w (k - (gct (nd hm J j f w) q 201 0 + 1)) (gct (nd hm J j f w) q 201 0 + 1)
        rw [show gct (nd hm J j f w) q 201 0 + 1 + (k - (gct (nd hm J j f w) q 201 0 + 1)) = k by omega] at b
        omega
      · exact c
      · have a := g.1
        have b := nd_mono' hm J j f w (gct (nd hm J j f w) q 201 0 - (k + 1)) (k + 1)
        rw [show k + 1 + (gct (nd hm J j f w) q 201 0 - (k + 1)) = gct (nd hm J j f w) q 201 0 by omega] at b
        omega
    exact ⟨by rw [e]; exact hk, by rw [e]; exact hp⟩
def MinIs (Q : Nat → Prop) (c : Nat → Nat) (K v : Nat) : Prop := (v = 0 ∧ ∀ k : Nat, k < K → ¬ Q k) ∨ ∃ k : Nat, k < K ∧ Q k ∧ v = c k + 1 ∧ ∀ k' : Nat, k' < K → Q k' → c k ≤ c k'
theorem MinIs.no {Q : Nat → Prop} {c : Nat → Nat} {K v : Nat} (h : MinIs Q c K v) (hq : ¬ Q K) : MinIs Q c (K + 1) v := by
  rcases h with ⟨h1, h2⟩ | ⟨k, h1, h2, h3, h4⟩
  · exact Or.inl ⟨h1, fun k hk => by by_cases e : k = K; (· subst e; exact hq); (· exact h2 k (by omega))⟩
  · exact Or.inr ⟨k, by omega, h2, h3, fun k' hk' hq' => by by_cases e : k' = K; (· subst e; exact absurd hq' hq); (· exact h4 k' (by omega) hq')⟩
theorem MinIs.new {Q : Nat → Prop} {c : Nat → Nat} {K v : Nat} (h : MinIs Q c K v) (hq : Q K) (hv : v = 0 ∨ c K + 1 < v) : MinIs Q c (K + 1) (c K + 1) := by
  refine Or.inr ⟨K, by omega, hq, rfl, fun k' hk' hq' => ?_⟩
  by_cases e : k' = K
  · subst e; exact Nat.le_refl _
  · rcases h with ⟨h1, h2⟩ | ⟨k, h1, h2, h3, h4⟩
    · exact absurd hq' (h2 k' (by omega))
    · have := h4 k' (by omega) hq'; omega
theorem MinIs.old {Q : Nat → Prop} {c : Nat → Nat} {K v : Nat} (h : MinIs Q c K v) (hv : ¬ v = 0) (hle : v ≤ c K + 1) : MinIs Q c (K + 1) v := by
  rcases h with ⟨h1, h2⟩ | ⟨k, h1, h2, h3, h4⟩
  · exact absurd h1 hv
  · exact Or.inr ⟨k, by omega, h2, h3, fun k' hk' hq' => by by_cases e : k' = K; (· subst e; omega); (· exact h4 k' (by omega) hq')⟩
theorem ends_i {hm : Nat → Nat → Nat} {J j f w k jj : Nat} {pl ne : Nat → Int32} (hJ : J ≤ 9) (hj : j < J) (hf : f ≤ J) (hjj : jj < J) (hk : k < 201) (hw : WayIs hm J j f w 201 pl ne) :
    m_Way_endsAt (nI k) (nI jj) pl ne 201 = some (if (ps hm J j f k).1 = jj ∧ nd hm J j f w k < nd hm J j f w (k + 1) then 1 else 0) := by
  obtain ⟨pj, pf⟩ := ps_in (hm := hm) hj hf k
  have l1 := nd_le hm J j f w k
  have l2 := nd_le hm J j f w (k + 1)
  have q1 : m_Way_place (nI k) pl 201 = some (nI (ps hm J j f k).1) := by rw [← (hw k (by omega)).1]; exact place_i (L := 201) (by omega) (by omega)
  have q2 : m_Way_need (nI k) ne 201 = some (nI (nd hm J j f w k)) := by rw [← (hw k (by omega)).2]; exact need_i (L := 201) (by omega) (by omega)
  have q3 : m_Way_need (nI (k + 1)) ne 201 = some (nI (nd hm J j f w (k + 1))) := by rw [← (hw (k + 1) (by omega)).2]; exact need_i (L := 201) (by omega) (by omega)
  unfold m_Way_endsAt
  rw [q1, kb1_e, q2, kb1_e, nI_1, q3, kb1_e]
  by_cases c : (ps hm J j f k).1 = jj
  · rw [if_pos (by rw [c])]
    by_cases c2 : nd hm J j f w k < nd hm J j f w (k + 1)
    · rw [if_neg (ncle (by omega) (by omega) c2), if_pos ⟨c, c2⟩]
    · rw [if_pos (cle (by omega) (by omega) (by omega)), if_neg (fun q => c2 q.2)]
  · rw [if_neg (nceq (by omega) (by omega) c), if_neg (fun q => c q.1)]
theorem sub1I {p q : Nat} (hp : p ≤ 999) (hq : q ≤ 1000) : (if (0 : Int32) < nI p - nI q + 1 then nI p - nI q + 1 else 0) = nI (p + 1 - q) := by
  have e : nI p - nI q + 1 = nI (p + 1) - nI q := by
    rw [← nI_1 p, Int32.sub_eq_add_neg, Int32.sub_eq_add_neg, Int32.add_assoc, Int32.add_assoc, Int32.add_comm (-nI q) 1]
  rw [e, subI (by omega) (by omega)]
theorem less_loop {hm : Nat → Nat → Nat} {J j f w p jj : Nat} {pl ne : Nat → Int32} (hJ : J ≤ 9) (hj : j < J) (hf : f ≤ J) (hjj : jj < J) (hp : p ≤ 999) (hw : WayIs hm J j f w 201 pl ne) :
    ∀ (d k n v : Nat), k + d = 201 → d < n → v ≤ 1001 → MinIs (fun k => (ps hm J j f k).1 = jj ∧ nd hm J j f w k < nd hm J j f w (k + 1) ∧ nd hm J j f w k ≤ p) (fun k => p + 1 - nd hm J j f w (k + 1)) k v → ∃ v' : Nat, v' ≤ 1001 ∧ m_Way_leastLess_L5 n (nI p) (nI jj) (om v) (nI k) pl ne 201 = some (om v') ∧ MinIs (fun k => (ps hm J j f k).1 = jj ∧ nd hm J j f w k < nd hm J j f w (k + 1) ∧ nd hm J j f w k ≤ p) (fun k => p + 1 - nd hm J j f w (k + 1)) 201 v' := by
  intro d
  induction d with
  | zero =>
    intro k n v hk hn hv hM
    obtain ⟨g, rfl, -⟩ := fuS hn
    have hk' : k = 201 := by omega
    subst hk'
    refine ⟨v, hv, ?_, hM⟩
    show m_Way_leastLess_B5 (m_Way_leastLess_L5 g) (nI p) (nI jj) (om v) (nI 201) pl ne 201 = _
    unfold m_Way_leastLess_B5
    rw [if_pos (by decide)]
  | succ d ih =>
    intro k n v hk hn hv hM
    obtain ⟨g, rfl, hg⟩ := fuS hn
    have l1 := nd_le hm J j f w k
    have l2 := nd_le hm J j f w (k + 1)
    have c : ¬ (201 : Int32) ≤ nI k := ncle (a := 201) (by omega) (by omega) (by omega)
    have q2 : m_Way_need (nI k) ne 201 = some (nI (nd hm J j f w k)) := by rw [← (hw k (by omega)).2]; exact need_i (L := 201) (by omega) (by omega)
    have q3 : m_Way_need (nI (k + 1)) ne 201 = some (nI (nd hm J j f w (k + 1))) := by rw [← (hw (k + 1) (by omega)).2]; exact need_i (L := 201) (by omega) (by omega)
    have en := ends_i hJ hj hf hjj (show k < 201 by omega) hw
    have fin : ∀ v1 : Nat, v1 ≤ 1001 → MinIs (fun k => (ps hm J j f k).1 = jj ∧ nd hm J j f w k < nd hm J j f w (k + 1) ∧ nd hm J j f w k ≤ p) (fun k => p + 1 - nd hm J j f w (k + 1)) (k + 1) v1 → m_Way_leastLess_B5 (m_Way_leastLess_L5 g) (nI p) (nI jj) (om v) (nI k) pl ne 201 = m_Way_leastLess_L5 g (nI p) (nI jj) (om v1) (nI (k + 1)) pl ne 201 → ∃ v' : Nat, v' ≤ 1001 ∧ m_Way_leastLess_L5 (g + 1) (nI p) (nI jj) (om v) (nI k) pl ne 201 = some (om v') ∧ MinIs (fun k => (ps hm J j f k).1 = jj ∧ nd hm J j f w k < nd hm J j f w (k + 1) ∧ nd hm J j f w k ≤ p) (fun k => p + 1 - nd hm J j f w (k + 1)) 201 v' := by
      intro v1 hv1 hM1 e
      obtain ⟨v', h1, h2, h3⟩ := ih (k + 1) g v1 (by omega) (by omega) hv1 hM1
      exact ⟨v', h1, by show m_Way_leastLess_B5 (m_Way_leastLess_L5 g) (nI p) (nI jj) (om v) (nI k) pl ne 201 = _; rw [e]; exact h2, h3⟩
    by_cases c1 : (ps hm J j f k).1 = jj ∧ nd hm J j f w k < nd hm J j f w (k + 1)
    · by_cases c2 : nd hm J j f w k ≤ p
      · by_cases c3 : v = 0 ∨ p + 1 - nd hm J j f w (k + 1) + 1 < v
        · refine fin (p + 1 - nd hm J j f w (k + 1) + 1) (by omega) (hM.new ⟨c1.1, c1.2, c2⟩ c3) ?_
          unfold m_Way_leastLess_B5
          rw [if_neg c, en, kb1_e, if_pos c1, if_neg n1, q2, kb1_e, if_pos (cle (by omega) (by omega) c2), nI_1, q3, kb1_e, sub1I hp l2, om_s]
          rcases c3 with c3 | c3
          · subst c3; rw [if_pos om_0]; unfold m_Way_leastLess_B66 m_Way_leastLess_B69; rw [nI_1]
          · have z : ¬ om v = -1 := by rw [← om_0, om_inj (by omega) (by omega)]; omega
            have z2 : ¬ om v ≤ nI (p + 1 - nd hm J j f w (k + 1)) := by rw [← om_s, om_le (by omega) (by omega)]; omega
            rw [if_neg z, if_neg z2]; unfold m_Way_leastLess_B66 m_Way_leastLess_B69; rw [nI_1]
        · refine fin v hv (hM.old (by omega) (by omega)) ?_
          unfold m_Way_leastLess_B5
          have z : ¬ om v = -1 := by rw [← om_0, om_inj (by omega) (by omega)]; omega
          have z2 : om v ≤ nI (p + 1 - nd hm J j f w (k + 1)) := by rw [← om_s, om_le (by omega) (by omega)]; omega
          rw [if_neg c, en, kb1_e, if_pos c1, if_neg n1, q2, kb1_e, if_pos (cle (by omega) (by omega) c2), nI_1, q3, kb1_e, sub1I hp l2, if_neg z, if_pos z2]; unfold m_Way_leastLess_B69; rw [nI_1]
      · refine fin v hv (hM.no (fun q => c2 q.2.2)) ?_
        unfold m_Way_leastLess_B5
        rw [if_neg c, en, kb1_e, if_pos c1, if_neg n1, q2, kb1_e, if_neg (ncle (by omega) (by omega) (by omega))]; unfold m_Way_leastLess_B69; rw [nI_1]
    · refine fin v hv (hM.no (fun q => c1 ⟨q.1, q.2.1⟩)) ?_
      unfold m_Way_leastLess_B5
      rw [if_neg c, en, kb1_e, if_neg c1, if_pos p0]; unfold m_Way_leastLess_B69; rw [nI_1]
theorem more_loop {hm : Nat → Nat → Nat} {J j f w p jj : Nat} {pl ne : Nat → Int32} (hJ : J ≤ 9) (hj : j < J) (hf : f ≤ J) (hjj : jj < J) (hp : p ≤ 999) (hw : WayIs hm J j f w 201 pl ne) :
    ∀ (d k n v : Nat), k + d = 201 → d < n → v ≤ 1001 → MinIs (fun k => (ps hm J j f k).1 = jj ∧ nd hm J j f w k < nd hm J j f w (k + 1) ∧ p < nd hm J j f w (k + 1)) (fun k => nd hm J j f w k - p) k v → ∃ v' : Nat, v' ≤ 1001 ∧ m_Way_leastMore_L5 n (nI p) (nI jj) (om v) (nI k) pl ne 201 = some (om v') ∧ MinIs (fun k => (ps hm J j f k).1 = jj ∧ nd hm J j f w k < nd hm J j f w (k + 1) ∧ p < nd hm J j f w (k + 1)) (fun k => nd hm J j f w k - p) 201 v' := by
  intro d
  induction d with
  | zero =>
    intro k n v hk hn hv hM
    obtain ⟨g, rfl, -⟩ := fuS hn
    have hk' : k = 201 := by omega
    subst hk'
    refine ⟨v, hv, ?_, hM⟩
    show m_Way_leastMore_B5 (m_Way_leastMore_L5 g) (nI p) (nI jj) (om v) (nI 201) pl ne 201 = _
    unfold m_Way_leastMore_B5
    rw [if_pos (by decide)]
  | succ d ih =>
    intro k n v hk hn hv hM
    obtain ⟨g, rfl, hg⟩ := fuS hn
    have l1 := nd_le hm J j f w k
    have l2 := nd_le hm J j f w (k + 1)
    have c : ¬ (201 : Int32) ≤ nI k := ncle (a := 201) (by omega) (by omega) (by omega)
    have q2 : m_Way_need (nI k) ne 201 = some (nI (nd hm J j f w k)) := by rw [← (hw k (by omega)).2]; exact need_i (L := 201) (by omega) (by omega)
    have q3 : m_Way_need (nI (k + 1)) ne 201 = some (nI (nd hm J j f w (k + 1))) := by rw [← (hw (k + 1) (by omega)).2]; exact need_i (L := 201) (by omega) (by omega)
    have en := ends_i hJ hj hf hjj (show k < 201 by omega) hw
    have fin : ∀ v1 : Nat, v1 ≤ 1001 → MinIs (fun k => (ps hm J j f k).1 = jj ∧ nd hm J j f w k < nd hm J j f w (k + 1) ∧ p < nd hm J j f w (k + 1)) (fun k => nd hm J j f w k - p) (k + 1) v1 → m_Way_leastMore_B5 (m_Way_leastMore_L5 g) (nI p) (nI jj) (om v) (nI k) pl ne 201 = m_Way_leastMore_L5 g (nI p) (nI jj) (om v1) (nI (k + 1)) pl ne 201 → ∃ v' : Nat, v' ≤ 1001 ∧ m_Way_leastMore_L5 (g + 1) (nI p) (nI jj) (om v) (nI k) pl ne 201 = some (om v') ∧ MinIs (fun k => (ps hm J j f k).1 = jj ∧ nd hm J j f w k < nd hm J j f w (k + 1) ∧ p < nd hm J j f w (k + 1)) (fun k => nd hm J j f w k - p) 201 v' := by
      intro v1 hv1 hM1 e
      obtain ⟨v', h1, h2, h3⟩ := ih (k + 1) g v1 (by omega) (by omega) hv1 hM1
      exact ⟨v', h1, by show m_Way_leastMore_B5 (m_Way_leastMore_L5 g) (nI p) (nI jj) (om v) (nI k) pl ne 201 = _; rw [e]; exact h2, h3⟩
    by_cases c1 : (ps hm J j f k).1 = jj ∧ nd hm J j f w k < nd hm J j f w (k + 1)
    · by_cases c2 : p < nd hm J j f w (k + 1)
      · by_cases c3 : v = 0 ∨ nd hm J j f w k - p + 1 < v
        · refine fin (nd hm J j f w k - p + 1) (by omega) (hM.new ⟨c1.1, c1.2, c2⟩ c3) ?_
          unfold m_Way_leastMore_B5
          rw [if_neg c, en, kb1_e, if_pos c1, if_neg n1, nI_1, q3, kb1_e, if_pos (clt (by omega) (by omega) c2), q2, kb1_e, subI (by omega) (by omega), om_s]
          rcases c3 with c3 | c3
          · subst c3; rw [if_pos om_0]; unfold m_Way_leastMore_B64 m_Way_leastMore_B67; rw [nI_1]
          · have z : ¬ om v = -1 := by rw [← om_0, om_inj (by omega) (by omega)]; omega
            have z2 : ¬ om v ≤ nI (nd hm J j f w k - p) := by rw [← om_s, om_le (by omega) (by omega)]; omega
            rw [if_neg z, if_neg z2]; unfold m_Way_leastMore_B64 m_Way_leastMore_B67; rw [nI_1]
        · refine fin v hv (hM.old (by omega) (by omega)) ?_
          unfold m_Way_leastMore_B5
          have z : ¬ om v = -1 := by rw [← om_0, om_inj (by omega) (by omega)]; omega
          have z2 : om v ≤ nI (nd hm J j f w k - p) := by rw [← om_s, om_le (by omega) (by omega)]; omega
          rw [if_neg c, en, kb1_e, if_pos c1, if_neg n1, nI_1, q3, kb1_e, if_pos (clt (by omega) (by omega) c2), q2, kb1_e, subI (by omega) (by omega), if_neg z, if_pos z2]; unfold m_Way_leastMore_B67; rw [nI_1]
      · refine fin v hv (hM.no (fun q => c2 q.2.2)) ?_
        unfold m_Way_leastMore_B5
        rw [if_neg c, en, kb1_e, if_pos c1, if_neg n1, nI_1, q3, kb1_e, if_neg (nclt (by omega) (by omega) (by omega))]; unfold m_Way_leastMore_B67; rw [nI_1]
    · refine fin v hv (hM.no (fun q => c1 ⟨q.1, q.2.1⟩)) ?_
      unfold m_Way_leastMore_B5
      rw [if_neg c, en, kb1_e, if_neg c1, if_pos p0]; unfold m_Way_leastMore_B67; rw [nI_1]
theorem sat_i {J B b j f w q jj : Nat} {hm : Nat → Nat → Nat} {hard now wears : Nat → Int32} (hJ : J ≤ 9) (hb : b < 5) (hj : j < J) (hf : f ≤ J) (hjj : jj < J) (hw : w ≤ 99) (hq : q ≤ 999) (hh : HM hard hm) (s1 : now b = nI j) (s2 : now (5 + b) = om f) (w2 : wears b = nI w) (a ff p : Int32) :
    ∃ a' f' p' : Int32, (SitsAt hm J j f w q jj → m_Ref_sitsAt (nI b) (nI q) (nI jj) (nI J) hard wears now a ff p = some (1, a', f', p')) ∧ (¬ SitsAt hm J j f w q jj → m_Ref_sitsAt (nI b) (nI q) (nI jj) (nI J) hard wears now a ff p = some (0, a', f', p')) := by
  have gl := gct_le (nd hm J j f w) q 201 0
  obtain ⟨pj, pf⟩ := ps_in (hm := hm) hj hf (gct (nd hm J j f w) q 201 0)
  refine ⟨nI (ps hm J j f (gct (nd hm J j f w) q 201 0)).1, om (ps hm J j f (gct (nd hm J j f w) q 201 0)).2, nI (q - gct (nd hm J j f w) q 201 0 * w), fun h => ?_, fun h => ?_⟩
  · unfold m_Ref_sitsAt
    rw [board_i hb, kb3_e, kg_i hb (by omega), nI_clamp (by omega), w2, s1, s2, sb_i hJ hj hf hw hq hh, kb4_e, if_pos h.1, om_s, if_neg (nI_pos (by omega)), if_pos (by rw [h.2])]
  · unfold m_Ref_sitsAt
    rw [board_i hb, kb3_e, kg_i hb (by omega), nI_clamp (by omega), w2, s1, s2, sb_i hJ hj hf hw hq hh, kb4_e]
    by_cases c : gct (nd hm J j f w) q 201 0 ≤ 200
    · rw [if_pos c, om_s, if_neg (nI_pos (by omega)), if_neg (nceq (by omega) (by omega) (fun e => h ⟨c, e⟩))]
    · rw [if_neg c, if_pos (by decide)]
theorem find_none {J B b j f w jj M : Nat} {hm : Nat → Nat → Nat} {hard now wears : Nat → Int32} {what : Int32} {qf : Nat → Nat} (hJ : J ≤ 9) (hb : b < 5) (hj : j < J) (hf : f ≤ J) (hjj : jj < J) (hw : w ≤ 99) (hM : M ≤ 999) (hh : HM hard hm) (s1 : now b = nI j) (s2 : now (5 + b) = om f) (w2 : wears b = nI w) (hq : ∀ m : Nat, m ≤ M → qf m ≤ 999)
    (he : ∀ m : Nat, m ≤ M → (if what = 0 then now (10 + b) - nI m else now (10 + b) + nI m) = nI (qf m)) (hno : ∀ m : Nat, m ≤ M → ¬ SitsAt hm J j f w (qf m) jj) :
    ∀ (d k n : Nat) (a ff p : Int32), k + d = M + 1 → d < n → ∃ a' f' p' : Int32, m_Ref_least_L66 n (nI b) (nI jj) what (nI M) (nI k) (nI J) hard (nI B) wears now a ff p = some (-1, a', f', p') := by
  intro d
  induction d with
  | zero =>
    intro k n a ff p hk hn
    obtain ⟨g, rfl, -⟩ := fuS hn
    refine ⟨a, ff, p, ?_⟩
    show m_Ref_least_B66 (m_Ref_least_L66 g) (nI b) (nI jj) what (nI M) (nI k) (nI J) hard (nI B) wears now a ff p = _
    unfold m_Ref_least_B66
    rw [if_pos (clt (by omega) (by omega) (by omega))]
  | succ d ih =>
    intro k n a ff p hk hn
    obtain ⟨g, rfl, hg⟩ := fuS hn
    obtain ⟨a1, f1, p1, -, h0⟩ := sat_i (B := B) hJ hb hj hf hjj hw (hq k (by omega)) hh s1 s2 w2 a ff p
    have h0 := h0 (hno k (by omega))
    obtain ⟨a', f', p', i⟩ := ih (k + 1) g a1 f1 p1 (by omega) (by omega)
    have e := he k (by omega)
    refine ⟨a', f', p', ?_⟩
    show m_Ref_least_B66 (m_Ref_least_L66 g) (nI b) (nI jj) what (nI M) (nI k) (nI J) hard (nI B) wears now a ff p = _
    unfold m_Ref_least_B66 m_Ref_least_B106
    rw [if_neg (nclt (by omega) (by omega) (by omega)), la10, kg_i (by omega) (by omega), kg_i (by omega) (by omega), nI_clamp (by omega)]
    by_cases c : what = 0
    · rw [if_pos c] at e; rw [if_pos c, e, h0, kb4_e, if_pos p0, nI_1]; exact i
    · rw [if_neg c] at e; rw [if_neg c, e, h0, kb4_e, if_pos p0, nI_1]; exact i
theorem find_some {J B b j f w jj M m0 : Nat} {hm : Nat → Nat → Nat} {hard now wears : Nat → Int32} {what : Int32} {qf : Nat → Nat} (hJ : J ≤ 9) (hb : b < 5) (hj : j < J) (hf : f ≤ J) (hjj : jj < J) (hw : w ≤ 99) (hM : M ≤ 999) (hm0 : m0 ≤ M) (hh : HM hard hm) (s1 : now b = nI j) (s2 : now (5 + b) = om f) (w2 : wears b = nI w) (hq : ∀ m : Nat, m ≤ M → qf m ≤ 999)
    (he : ∀ m : Nat, m ≤ M → (if what = 0 then now (10 + b) - nI m else now (10 + b) + nI m) = nI (qf m)) (hno : ∀ m : Nat, m < m0 → ¬ SitsAt hm J j f w (qf m) jj) (hyes : SitsAt hm J j f w (qf m0) jj) :
    ∀ (d k n : Nat) (a ff p : Int32), k + d = m0 → d < n → ∃ a' f' p' : Int32, m_Ref_least_L66 n (nI b) (nI jj) what (nI M) (nI k) (nI J) hard (nI B) wears now a ff p = some (nI m0, a', f', p') := by
  intro d
  induction d with
  | zero =>
    intro k n a ff p hk hn
    obtain ⟨g, rfl, -⟩ := fuS hn
    have hk' : k = m0 := by omega
    subst hk'
    obtain ⟨a1, f1, p1, h1, -⟩ := sat_i (B := B) hJ hb hj hf hjj hw (hq k (by omega)) hh s1 s2 w2 a ff p
    have h1 := h1 hyes
    have e := he k (by omega)
    refine ⟨a1, f1, p1, ?_⟩
    show m_Ref_least_B66 (m_Ref_least_L66 g) (nI b) (nI jj) what (nI M) (nI k) (nI J) hard (nI B) wears now a ff p = _
    unfold m_Ref_least_B66 m_Ref_least_B106
    rw [if_neg (nclt (by omega) (by omega) (by omega)), la10, kg_i (by omega) (by omega), kg_i (by omega) (by omega), nI_clamp (by omega)]
    by_cases c : what = 0
    · rw [if_pos c] at e; rw [if_pos c, e, h1, kb4_e, if_neg n1]
    · rw [if_neg c] at e; rw [if_neg c, e, h1, kb4_e, if_neg n1]
  | succ d ih =>
    intro k n a ff p hk hn
    obtain ⟨g, rfl, hg⟩ := fuS hn
    obtain ⟨a1, f1, p1, -, h0⟩ := sat_i (B := B) hJ hb hj hf hjj hw (hq k (by omega)) hh s1 s2 w2 a ff p
    have h0 := h0 (hno k (by omega))
    obtain ⟨a', f', p', i⟩ := ih (k + 1) g a1 f1 p1 (by omega) (by omega)
    have e := he k (by omega)
    refine ⟨a', f', p', ?_⟩
    show m_Ref_least_B66 (m_Ref_least_L66 g) (nI b) (nI jj) what (nI M) (nI k) (nI J) hard (nI B) wears now a ff p = _
    unfold m_Ref_least_B66 m_Ref_least_B106
    rw [if_neg (nclt (by omega) (by omega) (by omega)), la10, kg_i (by omega) (by omega), kg_i (by omega) (by omega), nI_clamp (by omega)]
    by_cases c : what = 0
    · rw [if_pos c] at e; rw [if_pos c, e, h0, kb4_e, if_pos p0, nI_1]; exact i
    · rw [if_neg c] at e; rw [if_neg c, e, h0, kb4_e, if_pos p0, nI_1]; exact i
