/-! ===== rows put by and brought back ===== -/
theorem m21 (n : Nat) : (21 : Int32) * nI n = nI (21 * n) := pk_mul 21 n
theorem m21r (n : Nat) : nI n * (21 : Int32) = nI (n * 21) := pk_mul n 21
theorem m22 (n : Nat) : (22 : Int32) * nI n = nI (22 * n) := pk_mul 22 n
theorem s21 {k : Nat} (h : 21 ≤ k) : nI k - 21 = nI (k - 21) := pk_sub h
theorem c0N : (0 : Int32).toNatClampNeg = 0 := by decide
theorem c21N : (21 : Int32).toNatClampNeg = 21 := by decide
theorem Ship.congr {J B : Nat} {r n r' n' : Nat → Int32} (hB : B ≤ 5) (h : Ship J B r n) (h1 : ∀ k : Nat, k < 21 → r' k = r k) (h2 : ∀ k : Nat, k < 21 → n' k = n k) : Ship J B r' n' := by
  obtain ⟨hb, S, hS, s1, s2⟩ := h
  refine ⟨fun b hb' => ?_, S, hS, by rw [h1 20 (by omega)]; exact s1, by rw [h2 20 (by omega)]; exact s2⟩
  rw [h1 b (by omega), h2 b (by omega), h1 (5 + b) (by omega), h2 (5 + b) (by omega), h1 (10 + b) (by omega), h2 (10 + b) (by omega), h1 (15 + b) (by omega), h2 (15 + b) (by omega)]
  exact hb b hb'
theorem store_i {x N slots : Nat} {rows row : Nat → Int32} (hx : x < slots) (hs : slots ≤ 20) (hN : x * 21 + 21 ≤ N) (hN2 : N ≤ 420) : m_Shelf_store (nI x) N (nI slots) rows row = some (va_cpy row rows 0 (x * 21) 21) := by
  unfold m_Shelf_store
  have e : ∀ K : Option (Nat → Int32), kcp 0 (nI (x * 21)) 21 21 N K = K := fun K => kcp_i (sp := 0) (dp := x * 21) (n := 21) (by omega) (by omega) (by omega) (by omega)
  rw [if_neg (nI_pos (by omega)), if_neg (ncle (by omega) (by omega) hx), m21r, e, c0N, c21N, nI_clamp (by omega)]
theorem fetch_i {x N slots : Nat} {rows row : Nat → Int32} (hx : x < slots) (hs : slots ≤ 20) (hN : x * 21 + 21 ≤ N) (hN2 : N ≤ 420) : m_Shelf_fetch (nI x) N (nI slots) rows row = some (va_cpy rows row (x * 21) 0 21) := by
  unfold m_Shelf_fetch
  have e : ∀ K : Option (Nat → Int32), kcp (nI (x * 21)) 0 21 N 21 K = K := fun K => kcp_i (sp := x * 21) (dp := 0) (n := 21) (by omega) (by omega) (by omega) (by omega)
  rw [if_neg (nI_pos (by omega)), if_neg (ncle (by omega) (by omega) hx), m21r, e, c0N, c21N, nI_clamp (by omega)]
theorem rem_loop (now : Nat → Int32) {n : Nat} (hn : n < 20) : ∀ (d k f : Nat) (past : Nat → Int32), k + d = 21 → d < f → ∃ past' : Nat → Int32, m_Ref_remember_L52 f (nI k) now (nI n) past = some (nI (n + 1), past') ∧ ∀ j : Nat, past' j = if 21 * n + k ≤ j ∧ j < 21 * n + 21 then now (j - 21 * n) else past j := by
  intro d
  induction d with
  | zero =>
    intro k f past hk hf
    obtain ⟨g, rfl, -⟩ := fuS hf
    refine ⟨past, ?_, fun j => by rw [if_neg (by omega)]⟩
    show m_Ref_remember_B52 (m_Ref_remember_L52 g) (nI k) now (nI n) past = _
    have c : (21 : Int32) ≤ nI k := cle (a := 21) (by omega) (by omega) (by omega)
    unfold m_Ref_remember_B52 m_Ref_remember_B84
    rw [if_pos c, nI_1]
  | succ d ih =>
    intro k f past hk hf
    obtain ⟨g, rfl, hg⟩ := fuS hf
    obtain ⟨past', h1, h2⟩ := ih (k + 1) g (upd past (21 * n + k) (now k)) (by omega) (by omega)
    refine ⟨past', ?_, fun j => ?_⟩
    · show m_Ref_remember_B52 (m_Ref_remember_L52 g) (nI k) now (nI n) past = _
      have c : ¬ (21 : Int32) ≤ nI k := ncle (a := 21) (by omega) (by omega) (by omega)
      unfold m_Ref_remember_B52
      rw [if_neg c, kg_i (by omega) (by omega), m21, nI_add, kg_i (by omega) (by omega), nI_clamp (by omega), nI_clamp (by omega), nI_1]
      exact h1
    · rw [h2 j]
      by_cases c1 : j = 21 * n + k
      · subst c1; rw [if_neg (by omega), if_pos (by omega), pk_us]; exact congrArg now (by omega)
      · by_cases c2 : 21 * n + k ≤ j ∧ j < 21 * n + 21
        · rw [if_pos (by omega), if_pos c2]
        · rw [if_neg (by omega), if_neg c2, pk_un c1]
theorem rem_shift (now : Nat → Int32) : ∀ (d k f : Nat) (past : Nat → Int32), k + d = 420 → 21 ≤ k → d < f → ∃ past' : Nat → Int32, m_Ref_remember_L12 f (nI k) now 20 past = m_Ref_remember_B40 now 20 past' ∧ ∀ j : Nat, past' j = if k - 21 ≤ j ∧ j < 399 then past (j + 21) else past j := by
  intro d
  induction d with
  | zero =>
    intro k f past hk h21 hf
    obtain ⟨g, rfl, -⟩ := fuS hf
    refine ⟨past, ?_, fun j => by rw [if_neg (by omega)]⟩
    show m_Ref_remember_B12 (m_Ref_remember_L12 g) (nI k) now 20 past = _
    have c : (420 : Int32) ≤ nI k := cle (a := 420) (by omega) (by omega) (by omega)
    unfold m_Ref_remember_B12
    rw [if_pos c]
  | succ d ih =>
    intro k f past hk h21 hf
    obtain ⟨g, rfl, hg⟩ := fuS hf
    obtain ⟨past', h1, h2⟩ := ih (k + 1) g (upd past (k - 21) (past k)) (by omega) (by omega) (by omega)
    refine ⟨past', ?_, fun j => ?_⟩
    · show m_Ref_remember_B12 (m_Ref_remember_L12 g) (nI k) now 20 past = _
      have c : ¬ (420 : Int32) ≤ nI k := ncle (a := 420) (by omega) (by omega) (by omega)
      unfold m_Ref_remember_B12
      rw [if_neg c, kg_i (by omega) (by omega), s21 h21, kg_i (by omega) (by omega), nI_clamp (by omega), nI_clamp (by omega), nI_1]
      exact h1
    · rw [h2 j]
      by_cases c1 : j = k - 21
      · rw [if_neg (by omega), if_pos (by omega), c1, pk_us]; exact congrArg past (by omega)
      · by_cases c2 : k - 21 ≤ j ∧ j < 399
        · rw [if_pos (by omega), if_pos c2, pk_un (by omega)]
        · rw [if_neg (by omega), if_neg c2, pk_un c1]
theorem mod20 {a : Nat} (ha : a < 2 ^ 31) : nI a - nI a / 20 * 20 = nI (a % 20) := pk_rem (d := 20) ha (by omega) (by omega)
theorem kz20 {α : Type} {K : Option α} : kz 20 K = K := kz_i (d := 20) (by omega) (by omega)
/-- both put the row by -/
theorem remember_sim {J B : Nat} {next count slots undos : Int32} {rows past row now : Nat → Int32} (hB : B ≤ 5) (h : RPast J B next count slots rows undos past) (hS : Ship J B row now) :
    ∃ (next' count' : Int32) (rows' : Nat → Int32) (undos' : Int32) (past' : Nat → Int32), m_Past_remember next count 420 slots rows row = some (next', count', rows') ∧ m_Ref_remember now undos past = some (undos', past') ∧ RPast J B next' count' slots rows' undos' past' := by
  obtain ⟨rfl, x, n, hx, hn, rfl, rfl, rfl, hr⟩ := h
  have st : m_Shelf_store (nI x) 420 20 rows row = some (va_cpy row rows 0 (x * 21) 21) := store_i (slots := 20) hx (by omega) (by omega) (by omega)
  have new : ∀ k : Nat, k < 21 → va_cpy row rows 0 (x * 21) 21 (21 * x + k) = row k := by
    intro k hk
    rw [pk_cpy_in (by omega) (by omega)]; exact congrArg row (by omega)
  have old : ∀ s k : Nat, k < 21 → s ≠ x → va_cpy row rows 0 (x * 21) 21 (21 * s + k) = rows (21 * s + k) := by
    intro s k hk hs
    rw [pk_cpy_out (by omega)]
  by_cases c : n < 20
  · obtain ⟨past', p1, p2⟩ := rem_loop now c 21 0 FU past (by omega) (FU_gt (by omega))
    refine ⟨nI ((x + 1) % 20), nI (n + 1), va_cpy row rows 0 (x * 21) 21, nI (n + 1), past', ?_, ?_, ⟨rfl, (x + 1) % 20, n + 1, by omega, by omega, rfl, rfl, rfl, fun i hi => ?_⟩⟩
    · have c2 : ¬ (20 : Int32) ≤ nI n := ncle (a := 20) (by omega) (by omega) (by omega)
      unfold m_Past_remember
      rw [st, kb1_e, kz20, if_neg c2, nI_1, nI_1, mod20 (by omega)]
    · have c2 : ¬ nI n = 20 := nceq (b := 20) (by omega) (by omega) (by omega)
      unfold m_Ref_remember m_Ref_remember_B50
      rw [if_neg c2]; exact p1
    · by_cases q : i = n
      · subst q
        have e : ((x + 1) % 20 + 20 - (i + 1) + i) % 20 = x := by omega
        refine hS.congr hB (fun k hk => ?_) (fun k hk => ?_)
        · show va_cpy row rows 0 (x * 21) 21 (21 * (((x + 1) % 20 + 20 - (i + 1) + i) % 20) + k) = row k
          rw [e]; exact new k hk
        · show past' (21 * i + k) = now k
          rw [p2, if_pos (by omega)]; exact congrArg now (by omega)
      · have e : ((x + 1) % 20 + 20 - (n + 1) + i) % 20 = (x + 20 - n + i) % 20 := by omega
        have e2 : (x + 20 - n + i) % 20 ≠ x := by omega
        refine (hr i (by omega)).congr hB (fun k hk => ?_) (fun k hk => ?_)
        · show va_cpy row rows 0 (x * 21) 21 (21 * (((x + 1) % 20 + 20 - (n + 1) + i) % 20) + k) = _
          rw [e]; exact old _ k hk e2
        · show past' (21 * i + k) = past (21 * i + k)
          rw [p2, if_neg (by omega)]
  · have hn20 : n = 20 := by omega
    subst hn20
    obtain ⟨q1, s1, s2⟩ := rem_shift now 399 21 FU past (by omega) (by omega) (FU_gt (by omega))
    obtain ⟨past', p1, p2⟩ := rem_loop now (n := 19) (by omega) 21 0 FU q1 (by omega) (FU_gt (by omega))
    refine ⟨nI ((x + 1) % 20), nI 20, va_cpy row rows 0 (x * 21) 21, nI 20, past', ?_, ?_, ⟨rfl, (x + 1) % 20, 20, by omega, by omega, rfl, rfl, rfl, fun i hi => ?_⟩⟩
    · unfold m_Past_remember
      rw [st, kb1_e, kz20, if_pos (by decide), nI_1, mod20 (by omega)]
    · unfold m_Ref_remember
      rw [if_pos (by decide)]
      have g : m_Ref_remember_L12 FU 21 now (nI 20) past = m_Ref_remember_B40 now 20 q1 := s1
      rw [g]
      unfold m_Ref_remember_B40 m_Ref_remember_B50
      exact p1
    · by_cases q : i = 19
      · subst q
        have e : ((x + 1) % 20 + 20 - 20 + 19) % 20 = x := by omega
        refine hS.congr hB (fun k hk => ?_) (fun k hk => ?_)
        · show va_cpy row rows 0 (x * 21) 21 (21 * (((x + 1) % 20 + 20 - 20 + 19) % 20) + k) = row k
          rw [e]; exact new k hk
        · show past' (21 * 19 + k) = now k
          rw [p2, if_pos (by omega)]; exact congrArg now (by omega)
      · have e : ((x + 1) % 20 + 20 - 20 + i) % 20 = (x + 20 - 20 + (i + 1)) % 20 := by omega
        have e2 : (x + 20 - 20 + (i + 1)) % 20 ≠ x := by omega
        refine (hr (i + 1) (by omega)).congr hB (fun k hk => ?_) (fun k hk => ?_)
        · show va_cpy row rows 0 (x * 21) 21 (21 * (((x + 1) % 20 + 20 - 20 + i) % 20) + k) = _
          rw [e]; exact old _ k hk e2
        · show past' (21 * i + k) = past (21 * (i + 1) + k)
          rw [p2, if_neg (by omega), s2, if_pos (by omega)]; exact congrArg past (by omega)
