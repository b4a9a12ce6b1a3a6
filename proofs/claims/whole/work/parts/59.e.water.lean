/-! ===== water: what was read is taken ===== -/
theorem t26 {zj zc zb rJ rC rB : Int32} {z1 z2 zH wears quays now r1 r2 rH rA rP rW : Nat → Int32} : ∀ (d k n : Nat) (hard : Nat → Int32), k + d = 81 → d < n → ∃ hard' : Nat → Int32, m_Ref_takeRead_L26 n (nI k) zj zc z1 z2 zH hard zb wears quays now rJ rC r1 r2 rH rB rA rP rW = m_Ref_takeRead_B45 zj zc z1 z2 zH hard' zb wears quays now rJ rC r1 r2 rH rB rA rP rW ∧ (∀ i : Nat, i < k → hard' i = hard i) ∧ ∀ i : Nat, k ≤ i → i < 81 → hard' i = -1 := by
  intro d
  induction d with
  | zero =>
    intro k n hard hk hn
    obtain ⟨n, rfl, -⟩ := fuS hn
    refine ⟨hard, ?_, fun i _ => rfl, fun i h1 h2 => absurd h1 (by omega)⟩
    have c : (81 : Int32) ≤ nI k := cle (a := 81) (by omega) (by omega) (by omega)
    show m_Ref_takeRead_B26 (m_Ref_takeRead_L26 n) (nI k) zj zc z1 z2 zH hard zb wears quays now rJ rC r1 r2 rH rB rA rP rW = _
    unfold m_Ref_takeRead_B26
    rw [if_pos c]
  | succ d ih =>
    intro k n hard hk hn
    obtain ⟨n, rfl, hn'⟩ := fuS hn
    obtain ⟨hard', i1, i2, i3⟩ := ih (k + 1) n (upd hard k (-1)) (by omega) (by omega)
    have c : ¬ (81 : Int32) ≤ nI k := ncle (a := 81) (by omega) (by omega) (by omega)
    refine ⟨hard', ?_, fun i hi => ?_, fun i h1 h2 => ?_⟩
    · show m_Ref_takeRead_B26 (m_Ref_takeRead_L26 n) (nI k) zj zc z1 z2 zH hard zb wears quays now rJ rC r1 r2 rH rB rA rP rW = _
      unfold m_Ref_takeRead_B26
      rw [if_neg c, kg_i (by omega) (by omega), nI_clamp (by omega), nI_1]
      exact i1
    · have q := i2 i (by omega)
      rw [pk_un (by omega)] at q; exact q
    · by_cases q : i = k
      · subst q
        have z := i2 i (by omega)
        rw [pk_us] at z; exact z
      · exact i3 i (by omega) h2
theorem t47 {J C : Nat} {zj zb rJ rC rB : Int32} {wears quays now cA cB cH r1 r2 rH rA rP rW : Nat → Int32} {A B H : Nat → Nat} (hJ : J ≤ 9) (hC : C ≤ 14) (hk : CutOK J C cA cB cH r1 r2 rH A B H) :
    ∀ (d c n : Nat) (z1 z2 zH hard : Nat → Int32), c + d = C → d < n → (∀ i : Nat, i < c → z1 i = r1 i ∧ z2 i = r2 i ∧ zH i = rH i) → (∀ x y : Nat, x < 9 → y < 9 → hard (9 * x + y) = om (hmF A B H c x y)) →
    ∃ z1' z2' zH' hard' : Nat → Int32, m_Ref_takeRead_L47 n (nI c) zj (nI C) z1 z2 zH hard zb wears quays now rJ rC r1 r2 rH rB rA rP rW = m_Ref_takeRead_B151 zj (nI C) z1' z2' zH' hard' zb wears quays now rJ rC r1 r2 rH rB rA rP rW ∧ (∀ i : Nat, i < C → z1' i = r1 i ∧ z2' i = r2 i ∧ zH' i = rH i) ∧ ∀ x y : Nat, x < 9 → y < 9 → hard' (9 * x + y) = om (hmF A B H C x y) := by
  intro d
  induction d with
  | zero =>
    intro c n z1 z2 zH hard hc hn h1 h2
    obtain ⟨n, rfl, -⟩ := fuS hn
    have hc' : c = C := by omega
    subst hc'
    refine ⟨z1, z2, zH, hard, ?_, h1, h2⟩
    show m_Ref_takeRead_B47 (m_Ref_takeRead_L47 n) (nI c) zj (nI c) z1 z2 zH hard zb wears quays now rJ rC r1 r2 rH rB rA rP rW = _
    unfold m_Ref_takeRead_B47
    rw [if_pos (cle (by omega) (by omega) (Nat.le_refl c))]
  | succ d ih =>
    intro c n z1 z2 zH hard hc hn h1 h2
    obtain ⟨n, rfl, hn'⟩ := fuS hn
    obtain ⟨⟨hA, hB, hne, hH⟩, -, ⟨eA, eB, eH⟩⟩ := hk.1 c (by omega)
    have k14 : ∀ K : Option (Int32 × Int32 × (Nat → Int32) × (Nat → Int32) × (Nat → Int32) × (Nat → Int32) × Int32 × (Nat → Int32) × (Nat → Int32) × (Nat → Int32)), kg (nI c) 14 K = K := fun K => kg_i (by omega) (by omega)
    have a1 : (9 : Int32) * nI (A c) + nI (B c) = nI (9 * A c + B c) := by rw [m9, nI_add]
    have a2 : (9 : Int32) * nI (B c) + nI (A c) = nI (9 * B c + A c) := by rw [m9, nI_add]
    obtain ⟨z1', z2', zH', hard', i1, i2, i3⟩ := ih (c + 1) n (upd z1 c (nI (A c))) (upd z2 c (nI (B c))) (upd zH c (nI (H c))) (upd (upd hard (9 * A c + B c) (nI (H c))) (9 * B c + A c) (nI (H c))) (by omega) (by omega) (fun i hi => by
      by_cases q : i = c
      · subst q
        rw [pk_us, pk_us, pk_us]
        exact ⟨eA.symm, eB.symm, eH.symm⟩
      · rw [pk_un q, pk_un q, pk_un q]
        exact h1 i (by omega)) (fun x y hx hy => by
      have e : hmF A B H (c + 1) x y = if (x = A c ∧ y = B c) ∨ (x = B c ∧ y = A c) then H c + 1 else hmF A B H c x y := rfl
      rw [e]
      by_cases q2 : x = B c ∧ y = A c
      · rw [if_pos (Or.inr q2), om_s, q2.1, q2.2, pk_us]
      · rw [pk_un (by omega)]
        by_cases q1 : x = A c ∧ y = B c
        · rw [if_pos (Or.inl q1), om_s, q1.1, q1.2, pk_us]
        · rw [pk_un (by omega), if_neg (by omega)]
          exact h2 x y hx hy)
    refine ⟨z1', z2', zH', hard', ?_, i2, i3⟩
    show m_Ref_takeRead_B47 (m_Ref_takeRead_L47 n) (nI c) zj (nI C) z1 z2 zH hard zb wears quays now rJ rC r1 r2 rH rB rA rP rW = _
    unfold m_Ref_takeRead_B47
    rw [if_neg (ncle (by omega) (by omega) (by omega)), nI_clamp (by omega), pk_us, pk_us, pk_us, eA, eB, eH, a1, a2, k14, k14, k14, k14, k14, k14, k14, k14, k14, kg_i (by omega) (by omega), k14, k14, k14, kg_i (by omega) (by omega), nI_clamp (by omega), nI_clamp (by omega), nI_1]
    exact i1
theorem t153 {zj zc zb rJ rC rB : Int32} {z1 z2 zH hard wears quays r1 r2 rH rA rP rW : Nat → Int32} : ∀ (d k n : Nat) (now : Nat → Int32), k + d = 21 → d < n → ∃ now' : Nat → Int32, m_Ref_takeRead_L153 n (nI k) zj zc z1 z2 zH hard zb wears quays now rJ rC r1 r2 rH rB rA rP rW = m_Ref_takeRead_B172 zj zc z1 z2 zH hard zb wears quays now' rJ rC r1 r2 rH rB rA rP rW ∧ (∀ i : Nat, i < k → now' i = now i) ∧ ∀ i : Nat, k ≤ i → i < 21 → now' i = 0 := by
  intro d
  induction d with
  | zero =>
    intro k n now hk hn
    obtain ⟨n, rfl, -⟩ := fuS hn
    refine ⟨now, ?_, fun i _ => rfl, fun i h1 h2 => absurd h1 (by omega)⟩
    have c : (21 : Int32) ≤ nI k := cle (a := 21) (by omega) (by omega) (by omega)
    show m_Ref_takeRead_B153 (m_Ref_takeRead_L153 n) (nI k) zj zc z1 z2 zH hard zb wears quays now rJ rC r1 r2 rH rB rA rP rW = _
    unfold m_Ref_takeRead_B153
    rw [if_pos c]
  | succ d ih =>
    intro k n now hk hn
    obtain ⟨n, rfl, hn'⟩ := fuS hn
    obtain ⟨now', i1, i2, i3⟩ := ih (k + 1) n (upd now k 0) (by omega) (by omega)
    have c : ¬ (21 : Int32) ≤ nI k := ncle (a := 21) (by omega) (by omega) (by omega)
    refine ⟨now', ?_, fun i hi => ?_, fun i h1 h2 => ?_⟩
    · show m_Ref_takeRead_B153 (m_Ref_takeRead_L153 n) (nI k) zj zc z1 z2 zH hard zb wears quays now rJ rC r1 r2 rH rB rA rP rW = _
      unfold m_Ref_takeRead_B153
      rw [if_neg c, kg_i (by omega) (by omega), nI_clamp (by omega), nI_1]
      exact i1
    · have q := i2 i (by omega)
      rw [pk_un (by omega)] at q; exact q
    · by_cases q : i = k
      · subst q
        have z := i2 i (by omega)
        rw [pk_us] at z; exact z
      · exact i3 i (by omega) h2
/-- a row as a fleet begins in it, up to boat k -/
def Row0 (B k : Nat) (row pa pp : Nat → Int32) : Prop := (∀ i : Nat, i < k → i < B → row i = pa i ∧ row (5 + i) = -1 ∧ row (10 + i) = pp i ∧ row (15 + i) = 0)
theorem t174 {B : Nat} {zj zc rJ rC rB : Int32} {z1 z2 zH hard r1 r2 rH rA rP rW : Nat → Int32} (hB : B ≤ 5) : ∀ (d b n : Nat) (wears quays now : Nat → Int32), b + d = 5 → d < n → Row0 B b now rA rP → (∀ i : Nat, 15 ≤ i → i < 21 → now i = 0) → (∀ i : Nat, i < b → wears i = rW i ∧ quays i = -1) →
    ∃ wears' quays' now' : Nat → Int32, m_Ref_takeRead_L174 n (nI b) zj zc z1 z2 zH hard (nI B) wears quays now rJ rC r1 r2 rH rB rA rP rW = some (zj, zc, z1, z2, zH, hard, nI B, wears', quays', now') ∧ Row0 B 5 now' rA rP ∧ now' 20 = 0 ∧ ∀ i : Nat, i < 5 → wears' i = rW i ∧ quays' i = -1 := by
  intro d
  induction d with
  | zero =>
    intro b n wears quays now hb hn h1 h2 h3
    obtain ⟨n, rfl, -⟩ := fuS hn
    have hb' : b = 5 := by omega
    subst hb'
    refine ⟨wears, quays, now, ?_, h1, h2 20 (by omega) (by omega), h3⟩
    show m_Ref_takeRead_B174 (m_Ref_takeRead_L174 n) (nI 5) zj zc z1 z2 zH hard (nI B) wears quays now rJ rC r1 r2 rH rB rA rP rW = _
    unfold m_Ref_takeRead_B174
    rw [if_pos (by decide)]
  | succ d ih =>
    intro b n wears quays now hb hn h1 h2 h3
    obtain ⟨n, rfl, hn'⟩ := fuS hn
    have c5 : ¬ (5 : Int32) ≤ nI b := ncle (a := 5) (by omega) (by omega) (by omega)
    have k5 : ∀ K : Option (Int32 × Int32 × (Nat → Int32) × (Nat → Int32) × (Nat → Int32) × (Nat → Int32) × Int32 × (Nat → Int32) × (Nat → Int32) × (Nat → Int32)), kg (nI b) 5 K = K := fun K => kg_i (by omega) (by omega)
    have k21 : ∀ K : Option (Int32 × Int32 × (Nat → Int32) × (Nat → Int32) × (Nat → Int32) × (Nat → Int32) × Int32 × (Nat → Int32) × (Nat → Int32) × (Nat → Int32)), kg (nI b) 21 K = K := fun K => kg_i (by omega) (by omega)
    have k215 : ∀ K : Option (Int32 × Int32 × (Nat → Int32) × (Nat → Int32) × (Nat → Int32) × (Nat → Int32) × Int32 × (Nat → Int32) × (Nat → Int32) × (Nat → Int32)), kg (nI (5 + b)) 21 K = K := fun K => kg_i (by omega) (by omega)
    have k210 : ∀ K : Option (Int32 × Int32 × (Nat → Int32) × (Nat → Int32) × (Nat → Int32) × (Nat → Int32) × Int32 × (Nat → Int32) × (Nat → Int32) × (Nat → Int32)), kg (nI (10 + b)) 21 K = K := fun K => kg_i (by omega) (by omega)
    have step : ∀ v1 v2 : Int32, (b < B → v1 = rA b ∧ v2 = rP b) → m_Ref_takeRead_L174 (n + 1) (nI b) zj zc z1 z2 zH hard (nI B) wears quays now rJ rC r1 r2 rH rB rA rP rW = m_Ref_takeRead_L174 n (nI (b + 1)) zj zc z1 z2 zH hard (nI B) (upd wears b (rW b)) (upd quays b (-1)) (upd (upd (upd now b v1) (5 + b) (-1)) (10 + b) v2) rJ rC r1 r2 rH rB rA rP rW → ∃ wears' quays' now' : Nat → Int32, m_Ref_takeRead_L174 (n + 1) (nI b) zj zc z1 z2 zH hard (nI B) wears quays now rJ rC r1 r2 rH rB rA rP rW = some (zj, zc, z1, z2, zH, hard, nI B, wears', quays', now') ∧ Row0 B 5 now' rA rP ∧ now' 20 = 0 ∧ ∀ i : Nat, i < 5 → wears' i = rW i ∧ quays' i = -1 := by
      intro v1 v2 hv e
      rw [e]
      refine ih (b + 1) n _ _ _ (by omega) (by omega) (fun i hi hiB => ?_) (fun i q1 q2 => ?_) (fun i hi => ?_)
      · by_cases q : i = b
        · subst q
          obtain ⟨e1, e2⟩ := hv hiB
          refine ⟨?_, ?_, ?_, ?_⟩
          · rw [pk_un (by omega), pk_un (by omega), pk_us]; exact e1
          · rw [pk_un (by omega), pk_us]
          · rw [pk_us]; exact e2
          · rw [pk_un (by omega), pk_un (by omega), pk_un (by omega)]; exact h2 (15 + i) (by omega) (by omega)
        · obtain ⟨e1, e2, e3, e4⟩ := h1 i (by omega) hiB
          refine ⟨?_, ?_, ?_, ?_⟩
          · rw [pk_un (by omega), pk_un (by omega), pk_un (by omega)]; exact e1
          · rw [pk_un (by omega), pk_un (by omega), pk_un (by omega)]; exact e2
          · rw [pk_un (by omega), pk_un (by omega), pk_un (by omega)]; exact e3
          · rw [pk_un (by omega), pk_un (by omega), pk_un (by omega)]; exact e4
      · rw [pk_un (by omega), pk_un (by omega), pk_un (by omega)]; exact h2 i q1 q2
      · by_cases q : i = b
        · subst q; rw [pk_us, pk_us]; exact ⟨rfl, rfl⟩
        · rw [pk_un (by omega), pk_un (by omega)]; exact h3 i (by omega)
    have eL : m_Ref_takeRead_L174 (n + 1) (nI b) zj zc z1 z2 zH hard (nI B) wears quays now rJ rC r1 r2 rH rB rA rP rW = m_Ref_takeRead_B174 (m_Ref_takeRead_L174 n) (nI b) zj zc z1 z2 zH hard (nI B) wears quays now rJ rC r1 r2 rH rB rA rP rW := rfl
    by_cases cB : b < B
    · refine step (rA b) (rP b) (fun _ => ⟨rfl, rfl⟩) ?_
      rw [eL]
      unfold m_Ref_takeRead_B174 m_Ref_takeRead_B202 m_Ref_takeRead_B238
      have c : ¬ nI B ≤ nI b := ncle (by omega) (by omega) cB
      rw [if_neg c5, if_neg c, if_neg c, la5, la10, k5, k21, k215, k5, k210, k5, k5, k5, nI_clamp (n := b) (by omega), nI_clamp (n := 5 + b) (by omega), nI_clamp (n := 10 + b) (by omega), nI_1]
    · refine step 0 0 (fun q => absurd q cB) ?_
      rw [eL]
      unfold m_Ref_takeRead_B174 m_Ref_takeRead_B202 m_Ref_takeRead_B238
      have c : nI B ≤ nI b := cle (by omega) (by omega) (by omega)
      rw [if_neg c5, if_pos c, if_pos c, la5, la10, k21, k215, k210, k5, k5, k5, nI_clamp (n := b) (by omega), nI_clamp (n := 5 + b) (by omega), nI_clamp (n := 10 + b) (by omega), nI_1]
theorem read_i {J C B : Nat} {zj0 zc0 zb0 : Int32} {z1 z2 zH hard wears quays now cA cB cH r1 r2 rH rA rP rW : Nat → Int32} {A Bq H : Nat → Nat} (hJ : J ≤ 9) (hC : C ≤ 14) (hB : B ≤ 5) (hk : CutOK J C cA cB cH r1 r2 rH A Bq H) :
    ∃ z1' z2' zH' hard' wears' quays' now' : Nat → Int32, m_Ref_takeRead zj0 zc0 z1 z2 zH hard zb0 wears quays now (nI J) (nI C) r1 r2 rH (nI B) rA rP rW = some (nI J, nI C, z1', z2', zH', hard', nI B, wears', quays', now') ∧ (∀ i : Nat, i < C → z1' i = r1 i ∧ z2' i = r2 i ∧ zH' i = rH i) ∧ (∀ x y : Nat, x < 9 → y < 9 → hard' (9 * x + y) = om (hmF A Bq H C x y)) ∧ Row0 B 5 now' rA rP ∧ now' 20 = 0 ∧ ∀ i : Nat, i < 5 → wears' i = rW i ∧ quays' i = -1 := by
  obtain ⟨h26, a1, -, a3⟩ := t26 (zj := nI J) (zc := nI C) (zb := nI B) (rJ := nI J) (rC := nI C) (rB := nI B) (z1 := z1) (z2 := z2) (zH := zH) (wears := wears) (quays := quays) (now := now) (r1 := r1) (r2 := r2) (rH := rH) (rA := rA) (rP := rP) (rW := rW) 81 0 FU hard (by omega) (FU_gt (by omega))
  obtain ⟨z1', z2', zH', hard', b1, b2, b3⟩ := t47 (zj := nI J) (zb := nI B) (rJ := nI J) (rC := nI C) (rB := nI B) (wears := wears) (quays := quays) (now := now) (rA := rA) (rP := rP) (rW := rW) hJ hC hk C 0 FU z1 z2 zH h26 (by omega) (FU_gt (by omega)) (fun i hi => absurd hi (by omega)) (fun x y hx hy => by
    rw [a3 (9 * x + y) (Nat.zero_le _) (by omega)]
    show -1 = om 0
    rw [om_0])
  obtain ⟨now0, c1, -, c3⟩ := t153 (zj := nI J) (zc := nI C) (zb := nI B) (rJ := nI J) (rC := nI C) (rB := nI B) (z1 := z1') (z2 := z2') (zH := zH') (hard := hard') (wears := wears) (quays := quays) (r1 := r1) (r2 := r2) (rH := rH) (rA := rA) (rP := rP) (rW := rW) 21 0 FU now (by omega) (FU_gt (by omega))
  obtain ⟨wears', quays', now', d1, d2, d3, d4⟩ := t174 (zj := nI J) (zc := nI C) (rJ := nI J) (rC := nI C) (rB := nI B) (z1 := z1') (z2 := z2') (zH := zH') (hard := hard') (r1 := r1) (r2 := r2) (rH := rH) (rA := rA) (rP := rP) (rW := rW) hB 5 0 FU wears quays now0 (by omega) (FU_gt (by omega)) (fun i hi => absurd hi (by omega)) (fun i q1 q2 => c3 i (Nat.zero_le i) q2) (fun i hi => absurd hi (by omega))
  exact ⟨z1', z2', zH', hard', wears', quays', now', a1.trans (b1.trans (c1.trans d1)), b2, b3, d2, d3, d4⟩
theorem launch_loop {B : Nat} {bA bP : Nat → Int32} (hB : B ≤ 5) : ∀ (d b n : Nat) (row : Nat → Int32), b + d = 5 → d < n → Row0 B b row bA bP → ∃ row' : Nat → Int32, m_Fleet_launch_L2 n (nI b) row (nI B) bA bP = some row' ∧ Row0 B 5 row' bA bP ∧ row' 20 = 0 := by
  intro d
  induction d with
  | zero =>
    intro b n row hb hn h1
    obtain ⟨n, rfl, -⟩ := fuS hn
    have hb' : b = 5 := by omega
    subst hb'
    refine ⟨upd row 20 0, ?_, fun i hi hiB => ?_, pk_us⟩
    · show m_Fleet_launch_B2 (m_Fleet_launch_L2 n) (nI 5) row (nI B) bA bP = _
      have e20 : (20 : Int32).toNatClampNeg = 20 := by decide
      unfold m_Fleet_launch_B2 m_Fleet_launch_B51
      rw [if_pos (by decide), kg20, e20]
    · obtain ⟨e1, e2, e3, e4⟩ := h1 i hi hiB
      rw [pk_un (by omega), pk_un (by omega), pk_un (by omega), pk_un (by omega)]
      exact ⟨e1, e2, e3, e4⟩
  | succ d ih =>
    intro b n row hb hn h1
    obtain ⟨n, rfl, hn'⟩ := fuS hn
    have c5 : ¬ (5 : Int32) ≤ nI b := ncle (a := 5) (by omega) (by omega) (by omega)
    have eS : ∃ v : Int32, m_Water_startOf (nI b) (nI B) bA = some v ∧ (b < B → v = bA b) := by
      unfold m_Water_startOf
      by_cases c : b < B
      · rw [hasBoat_t hB (vp_nI c (by omega)), kb1_e, if_neg n1, kg_i (by omega) (by omega), nI_clamp (by omega)]
        exact ⟨bA b, rfl, fun _ => rfl⟩
      · rw [hasBoat_f hB (fun q => by
          obtain ⟨k, k1, k2⟩ := vp_in_of q (by omega)
          have := (nI_eq (by omega) (by omega)).mp k2
          omega), kb1_e, if_pos p0]
        exact ⟨-1, rfl, fun q => absurd q c⟩
    have eP : ∃ v : Int32, m_Water_startPullOf (nI b) (nI B) bP = some v ∧ (b < B → v = bP b) := by
      unfold m_Water_startPullOf
      by_cases c : b < B
      · rw [hasBoat_t hB (vp_nI c (by omega)), kb1_e, if_neg n1, kg_i (by omega) (by omega), nI_clamp (by omega)]
        exact ⟨bP b, rfl, fun _ => rfl⟩
      · rw [hasBoat_f hB (fun q => by
          obtain ⟨k, k1, k2⟩ := vp_in_of q (by omega)
          have := (nI_eq (by omega) (by omega)).mp k2
          omega), kb1_e, if_pos p0]
        exact ⟨0, rfl, fun q => absurd q c⟩
    obtain ⟨v1, e1, w1⟩ := eS
    obtain ⟨v2, e2, w2⟩ := eP
    obtain ⟨row', i1, i2, i3⟩ := ih (b + 1) n (upd (upd (upd (upd row b v1) (5 + b) (-1)) (10 + b) v2) (15 + b) 0) (by omega) (by omega) (fun i hi hiB => by
      by_cases q : i = b
      · subst q
        refine ⟨?_, ?_, ?_, ?_⟩
        · rw [pk_un (by omega), pk_un (by omega), pk_un (by omega), pk_us]; exact w1 hiB
        · rw [pk_un (by omega), pk_un (by omega), pk_us]
        · rw [pk_un (by omega), pk_us]; exact w2 hiB
        · rw [pk_us]
      · obtain ⟨f1, f2, f3, f4⟩ := h1 i (by omega) hiB
        refine ⟨?_, ?_, ?_, ?_⟩
        · rw [pk_un (by omega), pk_un (by omega), pk_un (by omega), pk_un (by omega)]; exact f1
        · rw [pk_un (by omega), pk_un (by omega), pk_un (by omega), pk_un (by omega)]; exact f2
        · rw [pk_un (by omega), pk_un (by omega), pk_un (by omega), pk_un (by omega)]; exact f3
        · rw [pk_un (by omega), pk_un (by omega), pk_un (by omega), pk_un (by omega)]; exact f4)
    refine ⟨row', ?_, i2, i3⟩
    show m_Fleet_launch_B2 (m_Fleet_launch_L2 n) (nI b) row (nI B) bA bP = _
    unfold m_Fleet_launch_B2
    rw [if_neg c5, e1, kb1_e, fl_put0 (by omega), kb1_e, fl_put5 (by omega), kb1_e, e2, kb1_e, fl_put10 (by omega), kb1_e, fl_put15 (by omega), kb1_e, nI_1]
    exact i1
theorem forget_i (ke : Nat → Int32) : ∃ ke' : Nat → Int32, m_Images_forget ke = some ke' ∧ ke' 0 = 0 ∧ ke' 1 = 0 := by
  refine ⟨upd (upd ke 0 0) 1 0, ?_, ?_, pk_us⟩
  · have g0 : ¬ (2 : Int32) ≤ 0 := by decide
    have g1 : ¬ (2 : Int32) ≤ 0 + 1 := by decide
    have g2 : (2 : Int32) ≤ 0 + 1 + 1 := by decide
    have k0 : ∀ K : Option (Nat → Int32), kg 0 2 K = K := fun K => kg_i (k := 0) (by omega) (by omega)
    have k1 : ∀ K : Option (Nat → Int32), kg (0 + 1) 2 K = K := fun K => kg_i (k := 1) (by omega) (by omega)
    have c1 : (0 + 1 : Int32).toNatClampNeg = 1 := by decide
    show m_Images_forget_B2 (m_Images_forget_L2 4999) 0 ke = _
    unfold m_Images_forget_B2
    rw [if_neg g0, k0, c0N, nar0]
    show m_Images_forget_B2 (m_Images_forget_L2 4998) (0 + 1) (upd ke 0 0) = _
    unfold m_Images_forget_B2
    rw [if_neg g1, k1, c1, nar0]
    show m_Images_forget_B2 (m_Images_forget_L2 4997) (0 + 1 + 1) (upd (upd ke 0 0) 1 0) = _
    unfold m_Images_forget_B2
    rw [if_pos g2]
  · rw [pk_un (by omega), pk_us]
theorem es_list {J C : Nat} {cA cB cH r1 r2 rH : Nat → Int32} {A B H : Nat → Nat} (hk : CutOK J C cA cB cH r1 r2 rH A B H) : ∀ c : Nat, c ≤ C → ∃ es : List (Nat × Nat), es.length = 2 * c ∧ ∀ a b : Nat, hmF A B H c a b ≠ 0 → (a, b) ∈ es := by
  intro c
  induction c with
  | zero => intro _; exact ⟨[], rfl, fun a b q => absurd rfl q⟩
  | succ c ih =>
    intro hc
    obtain ⟨es, e1, e2⟩ := ih (by omega)
    refine ⟨(A c, B c) :: (B c, A c) :: es, by rw [List.length_cons, List.length_cons, e1]; omega, fun a b q => ?_⟩
    have e : hmF A B H (c + 1) a b = if (a = A c ∧ b = B c) ∨ (a = B c ∧ b = A c) then H c + 1 else hmF A B H c a b := rfl
    rw [e] at q
    by_cases z : (a = A c ∧ b = B c) ∨ (a = B c ∧ b = A c)
    · rcases z with ⟨z1, z2⟩ | ⟨z1, z2⟩
      · rw [z1, z2]; exact List.mem_cons_self
      · rw [z1, z2]; exact List.mem_cons_of_mem _ List.mem_cons_self
    · rw [if_neg z] at q
      exact List.mem_cons_of_mem _ (List.mem_cons_of_mem _ (e2 a b q))
theorem hmF_le {J C : Nat} {cA cB cH r1 r2 rH : Nat → Int32} {A B H : Nat → Nat} (hk : CutOK J C cA cB cH r1 r2 rH A B H) (x y : Nat) : hmF A B H C x y ≤ 100 := by
  rcases Nat.eq_zero_or_pos (hmF A B H C x y) with z | z
  · omega
  · obtain ⟨i, i1, -, i3⟩ := hmF_ex (A := A) (B := B) (H := H) C x y (Nat.ne_of_gt z)
    have := (hk.1 i i1).1.2.2.2
    omega
