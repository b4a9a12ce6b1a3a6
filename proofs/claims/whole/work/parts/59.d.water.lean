/-! ===== water: the way on, found over the cuts ===== -/
def hmF (A B H : Nat → Nat) : Nat → Nat → Nat → Nat
  | 0, _, _ => 0
  | c + 1, x, y => if (x = A c ∧ y = B c) ∨ (x = B c ∧ y = A c) then H c + 1 else hmF A B H c x y
def fst1 (cA cB cH : Nat → Int32) (x1 x2 : Int32) (c : Nat) (s : Int32 × Int32) : Int32 × Int32 :=
  if (if cA c = x1 then cB c else if cB c = x1 then cA c else -1) = -1 then s else if (if cA c = x1 then cB c else if cB c = x1 then cA c else -1) = x2 then s else if cH c < s.2 then ((if cA c = x1 then cB c else if cB c = x1 then cA c else -1), cH c) else if cH c = s.2 then (if s.1 ≤ (if cA c = x1 then cB c else if cB c = x1 then cA c else -1) then s else ((if cA c = x1 then cB c else if cB c = x1 then cA c else -1), cH c)) else s
def fi (cA cB cH : Nat → Int32) (x1 x2 : Int32) : Nat → Nat → Int32 × Int32 → Int32 × Int32
  | 0, _, s => s
  | d + 1, c, s => fi cA cB cH x1 x2 d (c + 1) (fst1 cA cB cH x1 x2 c s)
theorem fow_loop {C : Nat} {cA cB cH on oh : Nat → Int32} {x1 x2 : Int32} (hC : C ≤ 14) : ∀ (d c n : Nat) (s : Int32 × Int32), c + d = C → d < n → m_Water_findOnwardFrom_L10 n x1 x2 s.1 s.2 (nI c) (nI C) cA cB cH on oh = m_Water_findOnwardFrom_B98 x1 x2 (fi cA cB cH x1 x2 d c s).1 (fi cA cB cH x1 x2 d c s).2 (nI C) cA cB cH on oh := by
  intro d
  induction d with
  | zero =>
    intro c n s hc hn
    obtain ⟨n, rfl, -⟩ := fuS hn
    show m_Water_findOnwardFrom_B10 (m_Water_findOnwardFrom_L10 n) x1 x2 s.1 s.2 (nI c) (nI C) cA cB cH on oh = _
    unfold m_Water_findOnwardFrom_B10
    rw [if_pos (cle (by omega) (by omega) (by omega))]; rfl
  | succ d ih =>
    intro c n s hc hn
    obtain ⟨n, rfl, hn'⟩ := fuS hn
    have i := ih (c + 1) n (fst1 cA cB cH x1 x2 c s) (by omega) (by omega)
    have c14 : ¬ (14 : Int32) ≤ nI c := ncle (a := 14) (by omega) (by omega) (by omega)
    have kk : ∀ K : Option ((Nat → Int32) × (Nat → Int32)), kg (nI c) 14 K = K := fun K => kg_i (by omega) (by omega)
    show m_Water_findOnwardFrom_B10 (m_Water_findOnwardFrom_L10 n) x1 x2 s.1 s.2 (nI c) (nI C) cA cB cH on oh = m_Water_findOnwardFrom_B98 x1 x2 (fi cA cB cH x1 x2 d (c + 1) (fst1 cA cB cH x1 x2 c s)).1 (fi cA cB cH x1 x2 d (c + 1) (fst1 cA cB cH x1 x2 c s)).2 (nI C) cA cB cH on oh
    rw [← i]
    unfold m_Water_findOnwardFrom_B10 m_Water_findOnwardFrom_B80 m_Water_findOnwardFrom_B92 fst1
    rw [if_neg (ncle (by omega) (by omega) (by omega)), if_neg c14, other_i hC (by omega), kb1_e, kk, kk, kk, nI_clamp (by omega), nI_1]
    generalize (if cA c = x1 then cB c else if cB c = x1 then cA c else -1) = r
    by_cases c1 : r = -1
    · rw [if_pos c1, if_pos c1]
    · rw [if_neg c1, if_neg c1]
      by_cases c2 : r = x2
      · rw [if_pos c2, if_pos c2]
      · rw [if_neg c2, if_neg c2]
        by_cases c3 : cH c < s.2
        · rw [if_pos c3, if_pos c3]
        · rw [if_neg c3, if_neg c3]
          by_cases c4 : cH c = s.2
          · rw [if_pos c4, if_pos c4]
            by_cases c5 : s.1 ≤ r
            · rw [if_pos c5, if_pos c5]
            · rw [if_neg c5, if_neg c5]
          · rw [if_neg c4, if_neg c4]
theorem om_1 (f : Nat) : om f + 1 = om (f + 1) := by
  rw [om_s]
  show nI f - 1 + 1 = nI f
  exact Int32.sub_add_cancel _ _
theorem ff_i {C j f : Nat} {cA cB cH on oh : Nat → Int32} (hC : C ≤ 14) (hj : j < 9) (hf : f < 10) : m_Water_findOnwardFrom (nI j) (om f) (nI C) cA cB cH on oh = some (upd on (10 * j + f) (fi cA cB cH (nI j) (om f) C 0 (-1, 1000)).1, upd oh (10 * j + f) (fi cA cB cH (nI j) (om f) C 0 (-1, 1000)).2) := by
  have l := fow_loop (on := on) (oh := oh) (x1 := nI j) (x2 := om f) (cA := cA) (cB := cB) (cH := cH) hC C 0 FU (-1, 1000) (by omega) (FU_gt (by omega))
  refine Eq.trans l ?_
  unfold m_Water_findOnwardFrom_B98
  rw [slot_i hj hf, kb1_e, if_neg (nIm1 (by omega)), kg_i (by omega) (by omega), kg_i (by omega) (by omega), nI_clamp (by omega)]
theorem fo_in {C j : Nat} {cA cB cH : Nat → Int32} (hC : C ≤ 14) (hj : j < 9) (K : Int32 → Int32 → (Nat → Int32) → (Nat → Int32) → (Nat → Int32) → (Nat → Int32) → (Nat → Int32) → Option ((Nat → Int32) × (Nat → Int32))) :
    ∀ (d f n : Nat) (on oh : Nat → Int32), f + d = 10 → d < n → ∃ on' oh' : Nat → Int32, m_Water_findOnward_L10 K n (nI j) (om f) (nI C) cA cB cH on oh = m_Water_findOnward_B28 K (nI j) (nI C) cA cB cH on' oh' ∧ (∀ i : Nat, i < 10 * j + f → on' i = on i ∧ oh' i = oh i) ∧ ∀ g : Nat, f ≤ g → g < 10 → on' (10 * j + g) = (fi cA cB cH (nI j) (om g) C 0 (-1, 1000)).1 ∧ oh' (10 * j + g) = (fi cA cB cH (nI j) (om g) C 0 (-1, 1000)).2 := by
  have h9 : (9 : Int32) = om 10 := (om_s 9).symm
  intro d
  induction d with
  | zero =>
    intro f n on oh hf hn
    obtain ⟨n, rfl, -⟩ := fuS hn
    refine ⟨on, oh, ?_, fun i _ => ⟨rfl, rfl⟩, fun g h1 h2 => absurd h1 (by omega)⟩
    show m_Water_findOnward_B10 K (m_Water_findOnward_L10 K n) (nI j) (om f) (nI C) cA cB cH on oh = _
    unfold m_Water_findOnward_B10
    rw [if_pos (show (9 : Int32) ≤ om f by rw [h9, om_le (by omega) (by omega)]; omega)]
  | succ d ih =>
    intro f n on oh hf hn
    obtain ⟨n, rfl, hn'⟩ := fuS hn
    obtain ⟨on', oh', i1, i2, i3⟩ := ih (f + 1) n (upd on (10 * j + f) (fi cA cB cH (nI j) (om f) C 0 (-1, 1000)).1) (upd oh (10 * j + f) (fi cA cB cH (nI j) (om f) C 0 (-1, 1000)).2) (by omega) (by omega)
    refine ⟨on', oh', ?_, fun i hi => ?_, fun g h1 h2 => ?_⟩
    · show m_Water_findOnward_B10 K (m_Water_findOnward_L10 K n) (nI j) (om f) (nI C) cA cB cH on oh = _
      unfold m_Water_findOnward_B10
      rw [if_neg (show ¬ (9 : Int32) ≤ om f by rw [h9, om_le (by omega) (by omega)]; omega), ff_i hC hj (by omega), kb2_e, om_1]
      exact i1
    · obtain ⟨q1, q2⟩ := i2 i (by omega)
      rw [pk_un (by omega)] at q1 q2
      exact ⟨q1, q2⟩
    · by_cases c : g = f
      · subst c
        obtain ⟨q1, q2⟩ := i2 (10 * j + g) (by omega)
        rw [pk_us] at q1 q2
        exact ⟨q1, q2⟩
      · exact i3 g (by omega) h2
theorem fo_out {C : Nat} {cA cB cH : Nat → Int32} (hC : C ≤ 14) : ∀ (d j n : Nat) (on oh : Nat → Int32), j + d = 9 → d < n → ∃ on' oh' : Nat → Int32, m_Water_findOnward_L2 n (nI j) (nI C) cA cB cH on oh = some (on', oh') ∧ (∀ i : Nat, i < 10 * j → on' i = on i ∧ oh' i = oh i) ∧ ∀ k g : Nat, j ≤ k → k < 9 → g < 10 → on' (10 * k + g) = (fi cA cB cH (nI k) (om g) C 0 (-1, 1000)).1 ∧ oh' (10 * k + g) = (fi cA cB cH (nI k) (om g) C 0 (-1, 1000)).2 := by
  intro d
  induction d with
  | zero =>
    intro j n on oh hj hn
    obtain ⟨n, rfl, -⟩ := fuS hn
    refine ⟨on, oh, ?_, fun i _ => ⟨rfl, rfl⟩, fun k g h1 h2 => absurd h1 (by omega)⟩
    show m_Water_findOnward_B2 (m_Water_findOnward_L2 n) (nI j) (nI C) cA cB cH on oh = _
    have c9 : (9 : Int32) ≤ nI j := cle (a := 9) (by omega) (by omega) (by omega)
    unfold m_Water_findOnward_B2
    rw [if_pos c9]
  | succ d ih =>
    intro j n on oh hj hn
    obtain ⟨n, rfl, hn'⟩ := fuS hn
    obtain ⟨on1, oh1, a1, a2, a3⟩ := fo_in (cA := cA) (cB := cB) (cH := cH) hC (show j < 9 by omega) (m_Water_findOnward_L2 n) 10 0 FU on oh (by omega) (FU_gt (by omega))
    obtain ⟨on', oh', i1, i2, i3⟩ := ih (j + 1) n on1 oh1 (by omega) (by omega)
    have c9 : ¬ (9 : Int32) ≤ nI j := ncle (a := 9) (by omega) (by omega) (by omega)
    refine ⟨on', oh', ?_, fun i hi => ?_, fun k g h1 h2 h3 => ?_⟩
    · show m_Water_findOnward_B2 (m_Water_findOnward_L2 n) (nI j) (nI C) cA cB cH on oh = _
      unfold m_Water_findOnward_B2
      rw [if_neg c9]
      refine Eq.trans a1 ?_
      unfold m_Water_findOnward_B28
      rw [nI_1]
      exact i1
    · obtain ⟨q1, q2⟩ := i2 i (by omega)
      obtain ⟨q3, q4⟩ := a2 i (by omega)
      exact ⟨q1.trans q3, q2.trans q4⟩
    · by_cases c : k = j
      · subst c
        obtain ⟨q1, q2⟩ := i2 (10 * k + g) (by omega)
        obtain ⟨q3, q4⟩ := a3 g (by omega) h3
        exact ⟨q1.trans q3, q2.trans q4⟩
      · exact i3 k g (by omega) h2 h3
theorem fo_i {C : Nat} {cA cB cH : Nat → Int32} (hC : C ≤ 14) (on oh : Nat → Int32) : ∃ on' oh' : Nat → Int32, m_Water_findOnward (nI C) cA cB cH on oh = some (on', oh') ∧ ∀ k g : Nat, k < 9 → g < 10 → on' (10 * k + g) = (fi cA cB cH (nI k) (om g) C 0 (-1, 1000)).1 ∧ oh' (10 * k + g) = (fi cA cB cH (nI k) (om g) C 0 (-1, 1000)).2 := by
  obtain ⟨on', oh', h1, -, h3⟩ := fo_out (cA := cA) (cB := cB) (cH := cH) hC 9 0 FU on oh (by omega) (FU_gt (by omega))
  exact ⟨on', oh', h1, fun k g h4 h5 => h3 k g (Nat.zero_le k) h4 h5⟩
/-- the best way on is what no other is before -/
def Best (h : Nat → Nat) (f b : Nat) (k : Nat) : Prop := (b = 0 ∧ ∀ y : Nat, y < k → y + 1 ≠ f → h y = 0) ∨ (0 < b ∧ b ≤ k ∧ b ≠ f ∧ h (b - 1) ≠ 0 ∧ ∀ y : Nat, y < k → y + 1 ≠ f → h y ≠ 0 → h (b - 1) < h y ∨ (h (b - 1) = h y ∧ b - 1 ≤ y))
theorem bst_best (h : Nat → Nat) (f : Nat) : ∀ k : Nat, Best h f (bst h f k) k := by
  intro k
  induction k with
  | zero => exact Or.inl ⟨rfl, fun y q => absurd q (by omega)⟩
  | succ k ih =>
    have e : bst h f (k + 1) = if k + 1 = f ∨ h k = 0 then bst h f k else if bst h f k = 0 ∨ h k < h (bst h f k - 1) then k + 1 else bst h f k := rfl
    rw [e]
    by_cases c : k + 1 = f ∨ h k = 0
    · rw [if_pos c]
      rcases ih with ⟨i1, i2⟩ | ⟨i1, i2, i3, i4, i5⟩
      · refine Or.inl ⟨i1, fun y q1 q2 => ?_⟩
        by_cases q : y = k
        · subst q
          rcases c with c | c
          · exact absurd c q2
          · exact c
        · exact i2 y (by omega) q2
      · refine Or.inr ⟨i1, by omega, i3, i4, fun y q1 q2 q3 => ?_⟩
        by_cases q : y = k
        · subst q
          rcases c with c | c
          · exact absurd c q2
          · exact absurd c q3
        · exact i5 y (by omega) q2 q3
    · rw [if_neg c]
      have c1 : k + 1 ≠ f := fun z => c (Or.inl z)
      have c2 : h k ≠ 0 := fun z => c (Or.inr z)
      by_cases d : bst h f k = 0 ∨ h k < h (bst h f k - 1)
      · rw [if_pos d]
        refine Or.inr ⟨by omega, Nat.le_refl _, c1, by rw [Nat.add_sub_cancel]; exact c2, fun y q1 q2 q3 => ?_⟩
        rw [Nat.add_sub_cancel]
        by_cases q : y = k
        · subst q; exact Or.inr ⟨rfl, Nat.le_refl _⟩
        · rcases ih with ⟨i1, i2⟩ | ⟨i1, i2, i3, i4, i5⟩
          · exact absurd (i2 y (by omega) q2) q3
          · have z := i5 y (by omega) q2 q3
            rcases d with d | d
            · omega
            · left; omega
      · rw [if_neg d]
        rcases ih with ⟨i1, i2⟩ | ⟨i1, i2, i3, i4, i5⟩
        · exact absurd (Or.inl i1) d
        · refine Or.inr ⟨i1, by omega, i3, i4, fun y q1 q2 q3 => ?_⟩
          by_cases q : y = k
          · subst q
            have d2 : ¬ h y < h (bst h f y - 1) := fun z => d (Or.inr z)
            rcases Nat.lt_or_ge (h (bst h f y - 1)) (h y) with z | z
            · exact Or.inl z
            · exact Or.inr ⟨by omega, by omega⟩
          · exact i5 y (by omega) q2 q3
theorem best_u {h : Nat → Nat} {f a b k : Nat} (ha : Best h f a k) (hb : Best h f b k) : a = b := by
  rcases ha with ⟨a1, a2⟩ | ⟨a1, a2, a3, a4, a5⟩
  · rcases hb with ⟨b1, b2⟩ | ⟨b1, b2, b3, b4, b5⟩
    · omega
    · exact absurd (a2 (b - 1) (by omega) (by omega)) b4
  · rcases hb with ⟨b1, b2⟩ | ⟨b1, b2, b3, b4, b5⟩
    · exact absurd (b2 (a - 1) (by omega) (by omega)) a4
    · have z1 := a5 (b - 1) (by omega) (by omega) b4
      have z2 := b5 (a - 1) (by omega) (by omega) a4
      omega
/-- what the loop over the cuts holds, in Nat -/
def fo1 (A B H : Nat → Nat) (j f : Nat) (c : Nat) (s : Nat × Nat) : Nat × Nat :=
  if (if A c = j then B c + 1 else if B c = j then A c + 1 else 0) = 0 then s else if (if A c = j then B c + 1 else if B c = j then A c + 1 else 0) = f then s else if H c < s.2 then ((if A c = j then B c + 1 else if B c = j then A c + 1 else 0), H c) else if H c = s.2 then (if s.1 ≤ (if A c = j then B c + 1 else if B c = j then A c + 1 else 0) then s else ((if A c = j then B c + 1 else if B c = j then A c + 1 else 0), H c)) else s
def fo (A B H : Nat → Nat) (j f : Nat) : Nat → Nat × Nat
  | 0 => (0, 1000)
  | c + 1 => fo1 A B H j f c (fo A B H j f c)
theorem fo1_i {J C j f c b h : Nat} {cA cB cH r1 r2 rH : Nat → Int32} {A B H : Nat → Nat} (hJ : J ≤ 9) (hk : CutOK J C cA cB cH r1 r2 rH A B H) (hc : c < C) (hj : j < 9) (hf : f < 10) (hb : b ≤ 9) (hh : h ≤ 1000) : fst1 cA cB cH (nI j) (om f) c (om b, nI h) = (om (fo1 A B H j f c (b, h)).1, nI (fo1 A B H j f c (b, h)).2) ∧ (fo1 A B H j f c (b, h)).1 ≤ 9 ∧ (fo1 A B H j f c (b, h)).2 ≤ 1000 := by
  obtain ⟨⟨hA, hB, hne, hH⟩, ⟨eA, eB, eH⟩, -⟩ := hk.1 c hc
  have er : (if cA c = nI j then cB c else if cB c = nI j then cA c else -1) = om (if A c = j then B c + 1 else if B c = j then A c + 1 else 0) := by
    rw [eA, eB]
    by_cases c1 : A c = j
    · rw [if_pos (congrArg nI c1), if_pos c1, om_s]
    · rw [if_neg (nceq (by omega) (by omega) c1), if_neg c1]
      by_cases c2 : B c = j
      · rw [if_pos (congrArg nI c2), if_pos c2, om_s]
      · rw [if_neg (nceq (by omega) (by omega) c2), if_neg c2, om_0]
  have ol : (if A c = j then B c + 1 else if B c = j then A c + 1 else 0) ≤ 9 := by
    by_cases c1 : A c = j
    · rw [if_pos c1]; omega
    · rw [if_neg c1]
      by_cases c2 : B c = j
      · rw [if_pos c2]; omega
      · rw [if_neg c2]; omega
  unfold fst1 fo1
  rw [er, eH]
  generalize (if A c = j then B c + 1 else if B c = j then A c + 1 else 0) = o at ol ⊢
  show (if om o = -1 then (om b, nI h) else if om o = om f then (om b, nI h) else if nI (H c) < nI h then (om o, nI (H c)) else if nI (H c) = nI h then (if om b ≤ om o then (om b, nI h) else (om o, nI (H c))) else (om b, nI h)) = (om (if o = 0 then (b, h) else if o = f then (b, h) else if H c < h then (o, H c) else if H c = h then (if b ≤ o then (b, h) else (o, H c)) else (b, h)).1, nI (if o = 0 then (b, h) else if o = f then (b, h) else if H c < h then (o, H c) else if H c = h then (if b ≤ o then (b, h) else (o, H c)) else (b, h)).2) ∧ (if o = 0 then (b, h) else if o = f then (b, h) else if H c < h then (o, H c) else if H c = h then (if b ≤ o then (b, h) else (o, H c)) else (b, h)).1 ≤ 9 ∧ (if o = 0 then (b, h) else if o = f then (b, h) else if H c < h then (o, H c) else if H c = h then (if b ≤ o then (b, h) else (o, H c)) else (b, h)).2 ≤ 1000
  by_cases c1 : o = 0
  · have c1' : om o = -1 := by rw [c1, om_0]
    rw [if_pos c1, if_pos c1']; exact ⟨rfl, hb, hh⟩
  · have c1' : ¬ om o = -1 := by rw [← om_0, om_inj (by omega) (by omega)]; exact c1
    rw [if_neg c1, if_neg c1']
    by_cases c2 : o = f
    · have c2' : om o = om f := congrArg om c2
      rw [if_pos c2, if_pos c2']; exact ⟨rfl, hb, hh⟩
    · have c2' : ¬ om o = om f := by rw [om_inj (by omega) (by omega)]; exact c2
      rw [if_neg c2, if_neg c2']
      by_cases c3 : H c < h
      · rw [if_pos c3, if_pos (clt (by omega) (by omega) c3)]; exact ⟨rfl, ol, by show H c ≤ 1000; omega⟩
      · rw [if_neg c3, if_neg (nclt (by omega) (by omega) (by omega))]
        by_cases c4 : H c = h
        · rw [if_pos c4, if_pos (congrArg nI c4)]
          by_cases c5 : b ≤ o
          · have c5' : om b ≤ om o := (om_le (by omega) (by omega)).mpr c5
            rw [if_pos c5, if_pos c5']; exact ⟨rfl, hb, hh⟩
          · have c5' : ¬ om b ≤ om o := fun z => c5 ((om_le (by omega) (by omega)).mp z)
            rw [if_neg c5, if_neg c5']; exact ⟨rfl, ol, by show H c ≤ 1000; omega⟩
        · rw [if_neg c4, if_neg (nceq (by omega) (by omega) c4)]; exact ⟨rfl, hb, hh⟩
theorem fo_le {J C j f : Nat} {cA cB cH r1 r2 rH : Nat → Int32} {A B H : Nat → Nat} (hJ : J ≤ 9) (hk : CutOK J C cA cB cH r1 r2 rH A B H) (hj : j < 9) (hf : f < 10) : ∀ c : Nat, c ≤ C → (fo A B H j f c).1 ≤ 9 ∧ (fo A B H j f c).2 ≤ 1000 := by
  intro c
  induction c with
  | zero => intro _; exact ⟨by show (0 : Nat) ≤ 9; omega, Nat.le_refl 1000⟩
  | succ c ih =>
    intro hc
    obtain ⟨i1, i2⟩ := ih (by omega)
    exact (fo1_i hJ hk (show c < C by omega) hj hf i1 i2).2
theorem fi_fo {J C j f : Nat} {cA cB cH r1 r2 rH : Nat → Int32} {A B H : Nat → Nat} (hJ : J ≤ 9) (hk : CutOK J C cA cB cH r1 r2 rH A B H) (hj : j < 9) (hf : f < 10) : ∀ d c : Nat, c + d = C → fi cA cB cH (nI j) (om f) d c (om (fo A B H j f c).1, nI (fo A B H j f c).2) = (om (fo A B H j f C).1, nI (fo A B H j f C).2) := by
  intro d
  induction d with
  | zero =>
    intro c hc
    have hc' : c = C := by omega
    rw [hc']; rfl
  | succ d ih =>
    intro c hc
    obtain ⟨i1, i2⟩ := fo_le hJ hk hj hf c (by omega)
    have s := (fo1_i hJ hk (show c < C by omega) hj hf i1 i2).1
    have i := ih (c + 1) (by omega)
    show fi cA cB cH (nI j) (om f) d (c + 1) (fst1 cA cB cH (nI j) (om f) c (om (fo A B H j f c).1, nI (fo A B H j f c).2)) = _
    rw [s]
    exact i
theorem hmF_ex {A B H : Nat → Nat} : ∀ c x y : Nat, hmF A B H c x y ≠ 0 → ∃ i : Nat, i < c ∧ ((x = A i ∧ y = B i) ∨ (x = B i ∧ y = A i)) ∧ hmF A B H c x y ≤ H i + 1 := by
  intro c
  induction c with
  | zero => intro x y h; exact absurd rfl h
  | succ c ih =>
    intro x y h
    have e : hmF A B H (c + 1) x y = if (x = A c ∧ y = B c) ∨ (x = B c ∧ y = A c) then H c + 1 else hmF A B H c x y := rfl
    rw [e] at h ⊢
    by_cases q : (x = A c ∧ y = B c) ∨ (x = B c ∧ y = A c)
    · rw [if_pos q]; exact ⟨c, by omega, q, Nat.le_refl _⟩
    · rw [if_neg q] at h ⊢
      obtain ⟨i, i1, i2, i3⟩ := ih x y h
      exact ⟨i, by omega, i2, i3⟩
/-- one more cut, seen from j -/
theorem hmF_s {A B H : Nat → Nat} {c j : Nat} (hne : A c ≠ B c) (y : Nat) : hmF A B H (c + 1) j y = if y + 1 = (if A c = j then B c + 1 else if B c = j then A c + 1 else 0) then H c + 1 else hmF A B H c j y := by
  have e : hmF A B H (c + 1) j y = if (j = A c ∧ y = B c) ∨ (j = B c ∧ y = A c) then H c + 1 else hmF A B H c j y := rfl
  rw [e]
  by_cases c1 : A c = j
  · rw [if_pos c1]
    by_cases q : y = B c
    · rw [if_pos (Or.inl ⟨c1.symm, q⟩), if_pos (by omega)]
    · rw [if_neg (show ¬ ((j = A c ∧ y = B c) ∨ (j = B c ∧ y = A c)) by omega), if_neg (show ¬ y + 1 = B c + 1 by omega)]
  · rw [if_neg c1]
    by_cases c2 : B c = j
    · rw [if_pos c2]
      by_cases q : y = A c
      · rw [if_pos (Or.inr ⟨c2.symm, q⟩), if_pos (by omega)]
      · rw [if_neg (show ¬ ((j = A c ∧ y = B c) ∨ (j = B c ∧ y = A c)) by omega), if_neg (show ¬ y + 1 = A c + 1 by omega)]
    · rw [if_neg c2, if_neg (show ¬ ((j = A c ∧ y = B c) ∨ (j = B c ∧ y = A c)) by omega), if_neg (show ¬ y + 1 = 0 by omega)]
/-- what the loop holds is the best so far -/
def Bst2 (h : Nat → Nat) (f b g : Nat) : Prop := (b = 0 ∧ g = 1000 ∧ ∀ y : Nat, y + 1 ≠ f → h y = 0) ∨ (0 < b ∧ b ≠ f ∧ h (b - 1) = g + 1 ∧ ∀ y : Nat, y + 1 ≠ f → h y ≠ 0 → g + 1 < h y ∨ (g + 1 = h y ∧ b - 1 ≤ y))
theorem fo_best {J C j f : Nat} {cA cB cH r1 r2 rH : Nat → Int32} {A B H : Nat → Nat} (hk : CutOK J C cA cB cH r1 r2 rH A B H) : ∀ c : Nat, c ≤ C → Bst2 (hmF A B H c j) f (fo A B H j f c).1 (fo A B H j f c).2 := by
  intro c
  induction c with
  | zero => intro _; exact Or.inl ⟨rfl, rfl, fun y _ => rfl⟩
  | succ c ih =>
    intro hc
    have i := ih (by omega)
    obtain ⟨⟨hA, hB, hne, hH⟩, -, -⟩ := hk.1 c (by omega)
    have es := hmF_s (H := H) (j := j) hne
    have hz : ∀ y : Nat, y + 1 = (if A c = j then B c + 1 else if B c = j then A c + 1 else 0) → hmF A B H c j y = 0 := by
      intro y hy
      rcases Nat.eq_zero_or_pos (hmF A B H c j y) with z | z
      · exact z
      · exfalso
        obtain ⟨k, k1, k2, -⟩ := hmF_ex (A := A) (B := B) (H := H) c j y (Nat.ne_of_gt z)
        have dd := hk.2 c k (by omega) k1
        by_cases c1 : A c = j
        · rw [if_pos c1] at hy; omega
        · rw [if_neg c1] at hy
          by_cases c2 : B c = j
          · rw [if_pos c2] at hy; omega
          · rw [if_neg c2] at hy; omega
    show Bst2 (hmF A B H (c + 1) j) f (fo1 A B H j f c (fo A B H j f c)).1 (fo1 A B H j f c (fo A B H j f c)).2
    revert i
    generalize fo A B H j f c = s
    obtain ⟨b, g⟩ := s
    intro i
    have i : Bst2 (hmF A B H c j) f b g := i
    unfold fo1
    generalize (if A c = j then B c + 1 else if B c = j then A c + 1 else 0) = o at es hz ⊢
    have skip : (o = 0 ∨ o = f) → Bst2 (hmF A B H (c + 1) j) f b g := by
      intro ho
      have eq : ∀ y : Nat, y + 1 ≠ f → hmF A B H (c + 1) j y = hmF A B H c j y := fun y hy => by
        rw [es y, if_neg (by omega)]
      rcases i with ⟨i1, i2, i3⟩ | ⟨i1, i2, i3, i4⟩
      · exact Or.inl ⟨i1, i2, fun y hy => by rw [eq y hy]; exact i3 y hy⟩
      · refine Or.inr ⟨i1, i2, by rw [eq (b - 1) (by omega)]; exact i3, fun y hy hn => ?_⟩
        rw [eq y hy] at hn ⊢
        exact i4 y hy hn
    have take : o ≠ 0 → o ≠ f → (H c < g ∨ (H c = g ∧ o < b)) → Bst2 (hmF A B H (c + 1) j) f o (H c) := by
      intro h1 h2 h3
      refine Or.inr ⟨by omega, h2, by rw [es (o - 1), if_pos (by omega)], fun y hy hn => ?_⟩
      rw [es y] at hn ⊢
      by_cases q : y + 1 = o
      · rw [if_pos q]; exact Or.inr ⟨rfl, by omega⟩
      · rw [if_neg q] at hn ⊢
        rcases i with ⟨i1, i2, i3⟩ | ⟨i1, i2, i3, i4⟩
        · exact absurd (i3 y hy) hn
        · have z := i4 y hy hn
          omega
    have stay : o ≠ 0 → o ≠ f → (g < H c ∨ (H c = g ∧ b ≤ o)) → Bst2 (hmF A B H (c + 1) j) f b g := by
      intro h1 h2 h3
      rcases i with ⟨i1, i2, i3⟩ | ⟨i1, i2, i3, i4⟩
      · exfalso; omega
      · have bo : b ≠ o := fun z => by
          have q := hz (b - 1) (by omega)
          omega
        refine Or.inr ⟨i1, i2, by rw [es (b - 1), if_neg (by omega)]; exact i3, fun y hy hn => ?_⟩
        rw [es y] at hn ⊢
        by_cases q : y + 1 = o
        · rw [if_pos q]
          rcases h3 with h3 | h3
          · left; omega
          · right; omega
        · rw [if_neg q] at hn ⊢
          exact i4 y hy hn
    show Bst2 (hmF A B H (c + 1) j) f (if o = 0 then (b, g) else if o = f then (b, g) else if H c < g then (o, H c) else if H c = g then (if b ≤ o then (b, g) else (o, H c)) else (b, g)).1 (if o = 0 then (b, g) else if o = f then (b, g) else if H c < g then (o, H c) else if H c = g then (if b ≤ o then (b, g) else (o, H c)) else (b, g)).2
    by_cases c1 : o = 0
    · rw [if_pos c1]; exact skip (Or.inl c1)
    · rw [if_neg c1]
      by_cases c2 : o = f
      · rw [if_pos c2]; exact skip (Or.inr c2)
      · rw [if_neg c2]
        by_cases c3 : H c < g
        · rw [if_pos c3]; exact take c1 c2 (Or.inl c3)
        · rw [if_neg c3]
          by_cases c4 : H c = g
          · rw [if_pos c4]
            by_cases c5 : b ≤ o
            · rw [if_pos c5]; exact stay c1 c2 (Or.inr ⟨c4, c5⟩)
            · rw [if_neg c5]; exact take c1 c2 (Or.inr ⟨c4, by omega⟩)
          · rw [if_neg c4]; exact stay c1 c2 (Or.inl (by omega))
theorem fo_tn {J C j f : Nat} {cA cB cH r1 r2 rH : Nat → Int32} {A B H : Nat → Nat} (hk : CutOK J C cA cB cH r1 r2 rH A B H) : (fo A B H j f C).1 = tnx (hmF A B H C) J j f ∧ (fo A B H j f C).2 = tgx (hmF A B H C) J j f := by
  have hb := fo_best (j := j) (f := f) hk C (Nat.le_refl C)
  have hlt : ∀ y : Nat, hmF A B H C j y ≠ 0 → y < J := fun y hy => by
    obtain ⟨i, i1, i2, -⟩ := hmF_ex C j y hy
    obtain ⟨⟨hA, hB, -⟩, -⟩ := hk.1 i i1
    omega
  have hB : Best (hmF A B H C j) f (fo A B H j f C).1 J := by
    rcases hb with ⟨b1, b2, b3⟩ | ⟨b1, b2, b3, b4⟩
    · exact Or.inl ⟨b1, fun y _ hy => b3 y hy⟩
    · have q := hlt ((fo A B H j f C).1 - 1) (by omega)
      refine Or.inr ⟨b1, by omega, b2, by omega, fun y _ hy hn => ?_⟩
      rw [b3]
      exact b4 y hy hn
  have e : (fo A B H j f C).1 = tnx (hmF A B H C) J j f := best_u hB (bst_best _ f J)
  refine ⟨e, ?_⟩
  unfold tgx
  rw [← e]
  rcases hb with ⟨b1, b2, b3⟩ | ⟨b1, b2, b3, b4⟩
  · rw [if_pos b1]; exact b2
  · rw [if_neg (by omega), b3, Nat.add_sub_cancel]
