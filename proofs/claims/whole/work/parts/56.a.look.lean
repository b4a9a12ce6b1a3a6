/-! ===== look ===== -/
def mx (f : Nat → Nat) : Nat → Nat
  | 0 => 0
  | j + 1 => max (mx f j) (f j)
theorem mx_congr {f g : Nat → Nat} : ∀ n : Nat, (∀ j : Nat, j < n → f j = g j) → mx f n = mx g n := by
  intro n
  induction n with
  | zero => intro _; rfl
  | succ n ih =>
    intro h
    show max (mx f n) (f n) = max (mx g n) (g n)
    rw [ih (fun j hj => h j (by omega)), h n (by omega)]
theorem mx_upd {f g : Nat → Nat} {j0 : Nat} (hne : ∀ j : Nat, j ≠ j0 → g j = f j) (hle : f j0 ≤ g j0) : ∀ n : Nat, mx g n = if j0 < n then max (mx f n) (g j0) else mx f n := by
  intro n
  induction n with
  | zero => rw [if_neg (by omega)]; rfl
  | succ n ih =>
    show max (mx g n) (g n) = if j0 < n + 1 then max (max (mx f n) (f n)) (g j0) else max (mx f n) (f n)
    rw [ih]
    by_cases c : j0 < n
    · rw [if_pos c, if_pos (by omega), hne n (by omega)]; omega
    · by_cases c2 : j0 = n
      · subst c2; rw [if_neg c, if_pos (by omega)]; omega
      · rw [if_neg c, if_neg (by omega), hne n (by omega)]
theorem mx_0 : ∀ n : Nat, mx (fun _ => 0) n = 0 := by
  intro n
  induction n with
  | zero => rfl
  | succ n ih => show max (mx (fun _ => 0) n) 0 = 0; rw [ih]; rfl
/-- pulls of the first K bands that fit and are at j behind t steps -/
def PT (hm : Nat → Nat → Nat) (J jb w : Nat) (fit : Nat → Bool) (t j K : Nat) : Nat := sumb (fun k => if (ps hm J jb 0 (min k t)).1 = j then bsz fit (nd hm J jb 0 w) k else 0) K
theorem sumb_le {f g : Nat → Nat} (h : ∀ k : Nat, f k ≤ g k) : ∀ K : Nat, sumb f K ≤ sumb g K := by
  intro K
  induction K with
  | zero => exact Nat.le_refl 0
  | succ K ih => exact Nat.add_le_add ih (h K)
theorem zero_loop {t : Nat} {si pl : Nat → Int32} {la : Int32} : ∀ (d k n1 : Nat) (pa : Nat → Int32), k + d = 9 → d < n1 → ∃ pa' : Nat → Int32, m_Bands_greatestPart_L2 n1 (nI t) (nI k) si pa pl la = m_Bands_greatestPart_L26 FU (nI t) 0 0 si pa' pl la ∧ ∀ i : Nat, i < 9 → pa' i = if i < k then pa i else 0 := by
  intro d
  induction d with
  | zero =>
    intro k n1 pa hk h1
    obtain ⟨g, rfl, -⟩ := fuS h1
    refine ⟨pa, ?_, fun i hi => by rw [if_pos (by omega)]⟩
    show m_Bands_greatestPart_B2 (m_Bands_greatestPart_L2 g) (nI t) (nI k) si pa pl la = _
    have c : (9 : Int32) ≤ nI k := cle (a := 9) (by omega) (by omega) (by omega)
    unfold m_Bands_greatestPart_B2 m_Bands_greatestPart_B21
    rw [if_pos c]
  | succ d ih =>
    intro k n1 pa hk h1
    obtain ⟨g, rfl, hg⟩ := fuS h1
    obtain ⟨pa', i1, i2⟩ := ih (k + 1) g (upd pa k 0) (by omega) (by omega)
    refine ⟨pa', ?_, fun i hi => ?_⟩
    · show m_Bands_greatestPart_B2 (m_Bands_greatestPart_L2 g) (nI t) (nI k) si pa pl la = _
      have c : ¬ (9 : Int32) ≤ nI k := ncle (a := 9) (by omega) (by omega) (by omega)
      unfold m_Bands_greatestPart_B2
      rw [if_neg c, kg_i (by omega) (by omega), nI_clamp (by omega), nI_1]; exact i1
    · rw [i2 i hi]
      by_cases c : i = k
      · subst c; rw [if_pos (by omega), if_neg (by omega), pk_us]
      · by_cases c2 : i < k
        · rw [if_pos (by omega), if_pos c2, pk_un c]
        · rw [if_neg (by omega), if_neg c2]
