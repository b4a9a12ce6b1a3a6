/-! ===== round: a ring ===== -/
theorem pig {α : Type} [DecidableEq α] : ∀ (n : Nat) (es : List α) (f : Nat → α), es.length ≤ n → (∀ k : Nat, k ≤ n → f k ∈ es) → ∃ i j : Nat, i < j ∧ j ≤ n ∧ f i = f j := by
  intro n
  induction n with
  | zero =>
    intro es f hl hm
    have h := hm 0 (Nat.le_refl 0)
    cases es with
    | nil => exact absurd h List.not_mem_nil
    | cons a t => rw [List.length_cons] at hl; omega
  | succ n ih =>
    intro es f hl hm
    by_cases c : ∃ i : Nat, i ≤ n ∧ f i = f (n + 1)
    · obtain ⟨i, hi, he⟩ := c
      exact ⟨i, n + 1, by omega, Nat.le_refl _, he⟩
    · have hlen := List.length_erase_of_mem (hm (n + 1) (Nat.le_refl _))
      obtain ⟨i, j, h1, h2, h3⟩ := ih (es.erase (f (n + 1))) f (by omega) (fun k hk => (List.mem_erase_of_ne (fun e => c ⟨k, hk, e⟩)).mpr (hm k (by omega)))
      exact ⟨i, j, h1, by omega, h3⟩
theorem ps_s {hm : Nat → Nat → Nat} {J j f a b : Nat} (h : ps hm J j f a = ps hm J j f b) : ps hm J j f (a + 1) = ps hm J j f (b + 1) := by
  show (if tnx hm J (ps hm J j f a).1 (ps hm J j f a).2 = 0 then ps hm J j f a else (tnx hm J (ps hm J j f a).1 (ps hm J j f a).2 - 1, (ps hm J j f a).1 + 1)) = (if tnx hm J (ps hm J j f b).1 (ps hm J j f b).2 = 0 then ps hm J j f b else (tnx hm J (ps hm J j f b).1 (ps hm J j f b).2 - 1, (ps hm J j f b).1 + 1))
  rw [h]
theorem ps_m {hm : Nat → Nat → Nat} {J j f a b : Nat} (h : ps hm J j f a = ps hm J j f b) : ∀ m : Nat, ps hm J j f (a + m) = ps hm J j f (b + m) := by
  intro m
  induction m with
  | zero => exact h
  | succ m ih => exact ps_s ih
theorem ps_per {hm : Nat → Nat → Nat} {J j f i d : Nat} (h : ps hm J j f i = ps hm J j f (i + d)) (k : Nat) (hk : i ≤ k) : ps hm J j f (k + d) = ps hm J j f k := by
  have q := ps_m h (k - i)
  rw [show i + (k - i) = k by omega, show i + d + (k - i) = k + d by omega] at q
  exact q.symm
theorem ps_pers {hm : Nat → Nat → Nat} {J j f i d : Nat} (h : ps hm J j f i = ps hm J j f (i + d)) (k : Nat) (hk : i ≤ k) : ∀ m : Nat, ps hm J j f (k + m * d) = ps hm J j f k := by
  intro m
  induction m with
  | zero => rw [Nat.zero_mul, Nat.add_zero]
  | succ m ih => rw [Nat.succ_mul, ← Nat.add_assoc, ps_per h _ (by omega), ih]
theorem ps_2 {hm : Nat → Nat → Nat} {J j f p k : Nat} (hp : p ≤ 999) (h : tgx hm J (ps hm J j f k).1 (ps hm J j f k).2 < p) : ps hm J j f (k + 1) = (tnx hm J (ps hm J j f k).1 (ps hm J j f k).2 - 1, (ps hm J j f k).1 + 1) := by
  have t := tg_tn hp h
  show (if tnx hm J (ps hm J j f k).1 (ps hm J j f k).2 = 0 then _ else _) = _
  rw [if_neg (by omega)]
theorem nd0 {hm : Nat → Nat → Nat} {J j f p k : Nat} (hp : p ≤ 999) (h : nd hm J j f 0 k ≤ p) : nd hm J j f 0 (k + 1) ≤ p ↔ tgx hm J (ps hm J j f k).1 (ps hm J j f k).2 < p := by
  have q := nd_step (J := J) (j := j) (f := f) (w := 0) hp h
  rw [Nat.mul_zero, Nat.sub_zero] at q
  exact q
theorem on_ring {hm : Nat → Nat → Nat} {J j f p : Nat} {es : List (Nat × Nat)} (hj : j < J) (hf : f ≤ J) (hp : p ≤ 999) (hl : es.length ≤ 28) (he : ∀ a b : Nat, a < J → b < J → hm a b ≠ 0 → (a, b) ∈ es) (h : nd hm J j f 0 100 ≤ p) :
    ∃ i d : Nat, 0 < d ∧ d ≤ 28 ∧ i ≤ 28 ∧ ps hm J j f i = ps hm J j f (i + d) ∧ ∀ k : Nat, tgx hm J (ps hm J j f k).1 (ps hm J j f k).2 < p := by
  have h0 : ∀ k : Nat, k ≤ 100 → nd hm J j f 0 k ≤ p := fun k hk => by
    have q := nd_mono' hm J j f 0 (100 - k) k
    rw [show k + (100 - k) = 100 by omega] at q
    omega
  have h1 : ∀ k : Nat, k < 100 → tgx hm J (ps hm J j f k).1 (ps hm J j f k).2 < p := fun k hk => (nd0 hp (h0 k (by omega))).mp (h0 (k + 1) (by omega))
  obtain ⟨i, i', hi, hi', e⟩ := pig 28 es (fun k => ((ps hm J j f k).1, (ps hm J j f (k + 1)).1)) hl (fun k hk => by
    have t := tg_tn hp (h1 k (by omega))
    have a := ps_in (hm := hm) hj hf k
    have b := ps_in (hm := hm) hj hf (k + 1)
    refine he _ _ a.1 b.1 ?_
    rw [ps_2 hp (h1 k (by omega))]
    exact (bst_ok (hm (ps hm J j f k).1) (ps hm J j f k).2 J (Nat.ne_of_gt t)).1)
  have e1 : (ps hm J j f i).1 = (ps hm J j f i').1 := congrArg Prod.fst e
  have e2 : (ps hm J j f (i + 1)).1 = (ps hm J j f (i' + 1)).1 := congrArg Prod.snd e
  have e3 : ps hm J j f (i + 1) = ps hm J j f (i + 1 + (i' - i)) := by
    rw [show i + 1 + (i' - i) = i' + 1 by omega]
    refine Prod.ext e2 ?_
    rw [ps_2 hp (h1 i (by omega)), ps_2 hp (h1 i' (by omega))]
    show (ps hm J j f i).1 + 1 = (ps hm J j f i').1 + 1
    rw [e1]
  refine ⟨i + 1, i' - i, by omega, by omega, by omega, e3, fun k => ?_⟩
  induction k using Nat.strongRecOn with
  | _ k ih =>
    by_cases c : k < 100
    · exact h1 k c
    · have q := ps_per e3 (k - (i' - i)) (by omega)
      rw [show k - (i' - i) + (i' - i) = k by omega] at q
      rw [q]
      exact ih (k - (i' - i)) (by omega)
theorem nd_all {hm : Nat → Nat → Nat} {J j f p : Nat} (hp : p ≤ 999) (h : ∀ k : Nat, tgx hm J (ps hm J j f k).1 (ps hm J j f k).2 < p) : ∀ k : Nat, nd hm J j f 0 k ≤ p := by
  intro k
  induction k with
  | zero => exact Nat.zero_le _
  | succ k ih => exact (nd0 hp ih).mpr (h k)
theorem gct_all {n : Nat → Nat} {p : Nat} (h : ∀ k : Nat, n k ≤ p) : ∀ d k : Nat, gct n p d k = k + d := by
  intro d
  induction d with
  | zero => intro k; rfl
  | succ d ih =>
    intro k
    show (if n (k + 1) ≤ p then gct n p d (k + 1) else k) = _
    rw [if_pos (h (k + 1)), ih (k + 1)]; omega
theorem la40 (b : Nat) : (40 : Int32) + nI b = nI (40 + b) := nI_add 40 b
theorem round_loop {hm : Nat → Nat → Nat} {J j f p B d0 : Nat} {hard now pl ne : Nat → Int32} (hJ : J ≤ 9) (hj : j < J) (hf : f ≤ J) (hp : p ≤ 999) (hh : HM hard hm) (hw : WayIs hm J j f 0 100 pl ne) (hall : ∀ k : Nat, nd hm J j f 0 k ≤ p) (h2 : ∀ k : Nat, (ps hm J j f (k + 1)).2 = (ps hm J j f k).1 + 1)
    (hd : d0 ≤ 28) (hP : ps hm J j f (40 + d0) = ps hm J j f 40) (hi : ∀ k : Nat, ps hm J j f (40 + k) = ps hm J j f 40 ↔ ps hm J j f (201 + k) = ps hm J j f 201) :
    ∀ (dd k n1 n2 : Nat), k + 1 + dd = d0 → dd < n1 → dd + 1 < n2 → ∃ D : Nat, m_Way_ring_L2 n1 (nI (k + 1)) pl (nI 100) = some (nI D) ∧ m_Ref_round_L43 n2 (nI (ps hm J j f 201).1) (om (ps hm J j f 201).2) (nI k) 0 (nI J) hard (nI B) now (nI (ps hm J j f (201 + k)).1) (om (ps hm J j f (201 + k)).2) (nI (p - (201 + k) * 0)) = some (nI D, nI (ps hm J j f (201 + D)).1, om (ps hm J j f (201 + D)).2, nI (p - (201 + D) * 0)) := by
  intro dd
  induction dd with
  | zero =>
    intro k n1 n2 hk hn1 hn2
    sorry
  | succ dd ih =>
    intro k n1 n2 hk hn1 hn2
    sorry
