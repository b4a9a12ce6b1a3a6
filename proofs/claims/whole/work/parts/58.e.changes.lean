/-! ===== changes: what was counted, read out ===== -/
theorem andT {a b : Bool} (h : (a && b) = true) : a = true ∧ b = true := by
  rw [Bool.and_eq_true] at h; exact h
theorem al5_is {f g : Nat → Int32} : ∀ k : Nat, al5 f g k = true → ∀ i : Nat, i < k → f i = g i := by
  intro k
  induction k with
  | zero => intro _ i hi; exact absurd hi (by omega)
  | succ k ih =>
    intro h i hi
    obtain ⟨h1, h2⟩ := andT h
    by_cases c : i = k
    · subst c; exact of_decide_eq_true h1
    · exact ih h2 i (by omega)
theorem lth_is {B c : Nat} : ∀ k : Nat, lthB B (dls B c k) = true → ∀ i : Nat, i < k → dgt B c i < B := by
  intro k
  induction k with
  | zero => intro _ i hi; exact absurd hi (by omega)
  | succ k ih =>
    intro h i hi
    obtain ⟨h1, h2⟩ := andT h
    by_cases q : i = k
    · subst q; exact Nat.le_of_ble_eq_true h1
    · exact ih h2 i (by omega)
theorem vl_lt {B c : Nat} (h : vl B c = true) (i : Nat) (hi : i < B) : dgt B c i < B := lth_is B (andT h).1 i hi
theorem oc_in {B c i : Nat} (hi : i < B) : oc B c i = nI (dgt B c i) := by
  have q : Nat.blt i B = true := Nat.ble_eq_true_of_le hi
  show nI (if Nat.blt i B = true then dgt B c i else i) = _
  rw [if_pos q]
def nx (B c : Nat) : Nat := nv B (5 ^ B - (c + 1)) (c + 1)
theorem nv_is {B : Nat} : ∀ d c : Nat, c ≤ nv B d c ∧ nv B d c ≤ c + d ∧ (∀ i : Nat, c ≤ i → i < nv B d c → vl B i = false) ∧ (nv B d c < c + d → vl B (nv B d c) = true) := by
  intro d
  induction d with
  | zero => intro c; exact ⟨Nat.le_refl c, Nat.le_refl c, fun i h1 h2 => absurd (show i < c from h2) (by omega), fun h => absurd (show c < c + 0 from h) (by omega)⟩
  | succ d ih =>
    intro c
    have e : nv B (d + 1) c = if vl B c = true then c else nv B d (c + 1) := rfl
    by_cases v : vl B c = true
    · rw [e, if_pos v]
      exact ⟨Nat.le_refl c, by omega, fun i h1 h2 => absurd h1 (by omega), fun _ => v⟩
    · rw [e, if_neg v]
      obtain ⟨i1, i2, i3, i4⟩ := ih (c + 1)
      refine ⟨by omega, by omega, fun i h1 h2 => ?_, fun h => i4 (by omega)⟩
      by_cases q : i = c
      · subst q; cases hv : vl B i with
        | true => exact absurd hv v
        | false => rfl
      · exact i3 i (by omega) h2
theorem ck_take {B c : Nat} (hB : B ≤ 5) (hc : c < 5 ^ B) (g : Nat → Int32) : ∃ g2 : Nat → Int32, m_Ref_takeGiven (nI c) (nI B) g = some (if vl B c then 1 else 0, g2) ∧ ∀ i : Nat, i < B → oc B c i = g2 i := by
  have h := (andT (ckc_all hB hc)).1
  unfold ck1 at h
  cases e : m_Ref_takeGiven (nI c) (nI B) (fun _ => 0) with
  | none => rw [e] at h; cases h
  | some w =>
    obtain ⟨v, g1⟩ := w
    rw [e] at h
    have h : (decide (v = (if vl B c then 1 else 0)) && al5 g1 (oc B c) B) = true := h
    obtain ⟨h1, h2⟩ := andT h
    have h1 := of_decide_eq_true h1
    have h2 := al5_is B h2
    obtain ⟨g2, q1, q2⟩ := tgiven_c (g' := g) hB e
    exact ⟨g2, by rw [q1, h1], fun i hi => (h2 i hi).symm.trans (q2 i hi)⟩
theorem ck_or {B c : Nat} (hB : B ≤ 5) (hc : c < 5 ^ B) (hv : vl B c = true) : ck2 B c (nx B c) = true ∧ ck3 B c = true := by
  have h := (andT (ckc_all hB hc)).2
  rw [hv] at h
  exact andT h
theorem ck_next {B c : Nat} (hB : B ≤ 5) (hc : c < 5 ^ B) (hv : vl B c = true) {o : Nat → Int32} (eo : E5 (oc B c) o) : ∃ o2 : Nat → Int32, m_Exch_nextOrder (nI B) o = some (if nx B c < 5 ^ B then 1 else 0, o2) ∧ (nx B c < 5 ^ B → E5 (oc B (nx B c)) o2) := by
  have h := (ck_or hB hc hv).1
  unfold ck2 at h
  cases e : m_Exch_nextOrder (nI B) (oc B c) with
  | none => rw [e] at h; cases h
  | some w =>
    obtain ⟨v, o1⟩ := w
    rw [e] at h
    have h : (if Nat.blt (nx B c) (5 ^ B) = true then decide (v = 1) && al5 o1 (oc B (nx B c)) 5 else decide (v = 0)) = true := h
    obtain ⟨o2, q1, q2⟩ := nx_c eo e
    refine ⟨o2, ?_, ?_⟩
    · by_cases q : nx B c < 5 ^ B
      · rw [if_pos (show Nat.blt (nx B c) (5 ^ B) = true from Nat.ble_eq_true_of_le q)] at h
        rw [if_pos q, q1, of_decide_eq_true (andT h).1]
      · rw [if_neg (show ¬ Nat.blt (nx B c) (5 ^ B) = true from fun z => q (Nat.le_of_ble_eq_true z))] at h
        rw [if_neg q, q1, of_decide_eq_true h]
    · intro q
      rw [if_pos (show Nat.blt (nx B c) (5 ^ B) = true from Nat.ble_eq_true_of_le q)] at h
      intro i hi
      exact (al5_is 5 (andT h).2 i hi).symm.trans (q2 i hi)
theorem ck_cost {B c : Nat} (hB : B ≤ 5) (hc : c < 5 ^ B) (hv : vl B c = true) {o g : Nat → Int32} (eo : E5 (oc B c) o) (eg : ∀ i : Nat, i < B → oc B c i = g i) : ∃ r s : Int32, m_Exch_rings (nI B) o = some r ∧ nI B - r = s ∧ ¬ s < 0 ∧ m_Ref_changesOf (nI B) g = some s := by
  have h := (ck_or hB hc hv).2
  unfold ck3 at h
  cases e : m_Exch_rings (nI B) (oc B c) with
  | none => rw [e] at h; cases h
  | some r =>
    rw [e] at h
    cases e2 : m_Ref_changesOf (nI B) (oc B c) with
    | none =>
      rw [e2] at h
      have h : false = true := h
      cases h
    | some s =>
      rw [e2] at h
      have h : (decide (nI B - r = s) && !(decide (s < 0))) = true := h
      obtain ⟨h1, h2⟩ := andT h
      refine ⟨r, s, rings_c eo e, of_decide_eq_true h1, fun q => ?_, ?_⟩
      · rw [decide_eq_true q] at h2; cases h2
      · exact cof_c hB eg (fun i hi => ⟨dgt B c i, vl_lt hv i hi, (eg i hi).symm.trans (oc_in hi)⟩) e2
/-! ===== changes: who may take what ===== -/
def ak (A : Nat → Nat → Bool) (dd : Nat → Nat) : Nat → Nat → Bool
  | 0, _ => true
  | d + 1, k => A k (dd k) && ak A dd d (k + 1)
def aB (hm : Nat → Nat → Nat) (J N : Nat) (jj ff pp ww qq : Nat → Nat) (b g : Nat) : Bool := decide (qq b = 0 ∨ (ps hm J (jj b) (ff b) (gct (nd hm J (jj b) (ff b) (ww b)) (pp g) N 0)).1 + 1 = qq b)
def Crew (J B : Nat) (row now bw wears quays zq : Nat → Int32) (jj ff pp ww qq : Nat → Nat) : Prop :=
  ∀ b : Nat, b < B → (jj b < J ∧ ff b ≤ J ∧ pp b ≤ 999) ∧ (row b = nI (jj b) ∧ row (5 + b) = om (ff b) ∧ row (10 + b) = nI (pp b)) ∧ (now b = nI (jj b) ∧ now (5 + b) = om (ff b) ∧ now (10 + b) = nI (pp b)) ∧ (ww b ≤ 99 ∧ bw b = nI (ww b) ∧ wears b = nI (ww b)) ∧ (qq b ≤ J ∧ quays b = om (qq b) ∧ zq b = om (qq b))
theorem bit_or : ∀ m : Nat, m < 32 → ∀ g : Nat, g < 5 → nI m ||| ((1 : Int32) <<< (nI g &&& 31)) = nI (m ||| 2 ^ g) ∧ m ||| 2 ^ g < 32 := by decide +kernel
theorem bit_t : ∀ m : Nat, m < 32 → ∀ g : Nat, g < 5 → decide (((nI m >>> (nI g &&& 31)) &&& 1) = 0) = !(m.testBit g) := by decide +kernel
def Mk (A : Nat → Nat → Bool) (B : Nat) (al : Nat → Int32) (b : Nat) : Prop := ∃ m : Nat, al b = nI m ∧ m < 32 ∧ ∀ i : Nat, m.testBit i = true ↔ i < B ∧ A b i = true
theorem quay_t {q x : Nat} {α : Type} {X Y : α} (hq : q ≤ 9) (hx : x < 9) : (if om q = -1 then X else if om q = nI x then X else Y) = if decide (q = 0 ∨ x + 1 = q) = true then X else Y := by
  by_cases c : q = 0
  · subst c; rw [if_pos om_0, if_pos (decide_eq_true (Or.inl rfl))]
  · have c1 : ¬ om q = -1 := by rw [← om_0, om_inj (by omega) (by omega)]; exact c
    rw [if_neg c1]
    by_cases c2 : x + 1 = q
    · subst c2; rw [if_pos (om_s x), if_pos (decide_eq_true (Or.inr rfl))]
    · have c3 : ¬ om q = nI x := by rw [← om_s, om_inj (by omega) (by omega)]; omega
      rw [if_neg c3, if_neg (fun z => by
        have z := of_decide_eq_true z
        omega)]
theorem quay_t2 {q x : Nat} {α : Type} {X Y : α} (hq : q ≤ 9) (hx : x < 9) : (if om q < 0 then X else if nI x = om q then X else Y) = if decide (q = 0 ∨ x + 1 = q) = true then X else Y := by
  by_cases c : q = 0
  · subst c; rw [if_pos ((om_lt0 (by omega)).mpr rfl), if_pos (decide_eq_true (Or.inl rfl))]
  · have c1 : ¬ om q < 0 := fun z => c ((om_lt0 (by omega)).mp z)
    rw [if_neg c1]
    by_cases c2 : x + 1 = q
    · subst c2; rw [if_pos (om_s x).symm, if_pos (decide_eq_true (Or.inr rfl))]
    · have c3 : ¬ nI x = om q := fun z => by
        have z := (om_eqn (by omega) (by omega)).mp z
        omega
      rw [if_neg c3, if_neg (fun z => by
        have z := of_decide_eq_true z
        omega)]
theorem tp_loop {hm : Nat → Nat → Nat} {J B N b : Nat} {row now bw wears quays zq on oh pl ne : Nat → Int32} {jj ff pp ww qq : Nat → Nat} (hJ : J ≤ 9) (hB : B ≤ 5) (hN : N ≤ 60) (hb : b < B) (hC : Crew J B row now bw wears quays zq jj ff pp ww qq) (hw : WayIs hm J (jj b) (ff b) (ww b) N pl ne) :
    ∀ (d g n m : Nat) (al : Nat → Int32), g + d = B → d < n → al b = nI m → m < 32 → (∀ i : Nat, m.testBit i = true ↔ i < g ∧ aB hm J N jj ff pp ww qq b i = true) → ∃ al' : Nat → Int32, m_Tb_tryPulls_L8 n (nI b) (nI N) (nI g) quays (nI B) bw on oh row pl ne (nI N) al = some (pl, ne, nI N, al') ∧ Mk (aB hm J N jj ff pp ww qq) B al' b ∧ ∀ i : Nat, i ≠ b → al' i = al i := by
  intro d
  induction d with
  | zero =>
    intro g n m al hg hn ea hm32 hbit
    obtain ⟨n, rfl, -⟩ := fuS hn
    have hg' : g = B := by omega
    subst hg'
    refine ⟨al, ?_, ⟨m, ea, hm32, hbit⟩, fun i _ => rfl⟩
    show m_Tb_tryPulls_B8 (m_Tb_tryPulls_L8 n) (nI b) (nI N) (nI g) quays (nI g) bw on oh row pl ne (nI N) al = _
    unfold m_Tb_tryPulls_B8
    rw [if_pos (cle (by omega) (by omega) (Nat.le_refl g))]
  | succ d ih =>
    intro g n m al hg hn ea hm32 hbit
    obtain ⟨n, rfl, hn'⟩ := fuS hn
    obtain ⟨⟨hj, hf, -⟩, -, -, -, ⟨hq, eq1, -⟩⟩ := hC b hb
    obtain ⟨⟨-, -, hp⟩, ⟨-, -, er⟩, -, -, -⟩ := hC g (by omega)
    have gl := gct_le (nd hm J (jj b) (ff b) (ww b)) (pp g) N 0
    have pin := (ps_in (hm := hm) hj hf (gct (nd hm J (jj b) (ff b) (ww b)) (pp g) N 0)).1
    have ko5 : ∀ K : Option ((Nat → Int32) × (Nat → Int32) × Int32 × (Nat → Int32)), kg (nI b) 5 K = K := fun K => kg_i (by omega) (by omega)
    have key : m_Tb_tryPulls_L8 (n + 1) (nI b) (nI N) (nI g) quays (nI B) bw on oh row pl ne (nI N) al = if aB hm J N jj ff pp ww qq b g = true then kb1 (m_Exch_allow (nI b) (nI g) al) (fun a => m_Tb_tryPulls_L8 n (nI b) (nI N) (nI (g + 1)) quays (nI B) bw on oh row pl ne (nI N) a) else m_Tb_tryPulls_L8 n (nI b) (nI N) (nI (g + 1)) quays (nI B) bw on oh row pl ne (nI N) al := by
      show m_Tb_tryPulls_B8 (m_Tb_tryPulls_L8 n) (nI b) (nI N) (nI g) quays (nI B) bw on oh row pl ne (nI N) al = _
      unfold m_Tb_tryPulls_B8 m_Tb_tryPulls_B65 m_Tb_tryPulls_B74
      rw [if_neg (ncle (by omega) (by omega) (by omega)), fl_pull (by omega), kb1_e, er, gone_i (by omega) hp (Nat.le_refl N) hw, kb1_e, place_i (by omega) (by omega), kb1_e, ko5, ko5, nI_clamp (by omega), eq1, (hw _ (by omega)).1, nI_1]
      exact quay_t (by omega) (by omega)
    rw [key]
    by_cases c : aB hm J N jj ff pp ww qq b g = true
    · have hb5 : ¬ (5 : Int32) ≤ nI b := ncle (a := 5) (by omega) (by omega) (by omega)
      have eal : m_Exch_allow (nI b) (nI g) al = some (upd al b (nI (m ||| 2 ^ g))) := by
        unfold m_Exch_allow
        rw [if_neg (nI_pos (by omega)), if_neg hb5, kg_i (by omega) (by omega), kg_i (by omega) (by omega), nI_clamp (by omega), ea, (bit_or m hm32 g (by omega)).1]
      rw [if_pos c, eal, kb1_e]
      obtain ⟨al', i1, i2, i3⟩ := ih (g + 1) n (m ||| 2 ^ g) (upd al b (nI (m ||| 2 ^ g))) (by omega) (by omega) pk_us (bit_or m hm32 g (by omega)).2 (fun i => by
        rw [Nat.testBit_or, Nat.testBit_two_pow, Bool.or_eq_true, decide_eq_true_iff, hbit i]
        constructor
        · rintro (⟨q1, q2⟩ | q)
          · exact ⟨by omega, q2⟩
          · subst q; exact ⟨by omega, c⟩
        · rintro ⟨q1, q2⟩
          by_cases q : g = i
          · exact Or.inr q
          · exact Or.inl ⟨by omega, q2⟩)
      exact ⟨al', i1, i2, fun i hi => (i3 i hi).trans (pk_un (by omega))⟩
    · rw [if_neg c]
      exact ih (g + 1) n m al (by omega) (by omega) ea hm32 (fun i => by
        rw [hbit i]
        constructor
        · rintro ⟨q1, q2⟩; exact ⟨by omega, q2⟩
        · rintro ⟨q1, q2⟩
          by_cases q : i = g
          · subst q; exact absurd q2 c
          · exact ⟨by omega, q2⟩)
theorem tk_loop {hm : Nat → Nat → Nat} {J B N : Nat} {y2 eb ef : Int32} {hard row now bw wears quays zq on oh eo ebst : Nat → Int32} {jj ff pp ww qq : Nat → Nat} (hJ : J ≤ 9) (hB : B ≤ 5) (hN : N ≤ 60) (hh : HM hard hm) (ht : TB J hm on oh) (hC : Crew J B row now bw wears quays zq jj ff pp ww qq) :
    ∀ (d b n : Nat) (la : Int32) (pl ne al : Nat → Int32), b + d = B → d < n → (∀ i : Nat, i < b → Mk (aB hm J N jj ff pp ww qq) B al i) → (∀ i : Nat, b ≤ i → i < 5 → al i = 0) → ∃ (la' : Int32) (pl' ne' al' : Nat → Int32), m_Tb_changes_L48 n (nI N) y2 (nI b) quays (nI B) bw on oh row pl ne la eb al eo ebst ef = m_Tb_changes_B71 y2 quays (nI B) bw on oh row pl' ne' la' eb al' eo ebst ef ∧ ∀ i : Nat, i < B → Mk (aB hm J N jj ff pp ww qq) B al' i := by
  intro d
  induction d with
  | zero =>
    intro b n la pl ne al hb hn h1 h2
    obtain ⟨n, rfl, -⟩ := fuS hn
    have hb' : b = B := by omega
    subst hb'
    refine ⟨la, pl, ne, al, ?_, h1⟩
    show m_Tb_changes_B48 (m_Tb_changes_L48 n) (nI N) y2 (nI b) quays (nI b) bw on oh row pl ne la eb al eo ebst ef = _
    unfold m_Tb_changes_B48
    rw [if_pos (cle (by omega) (by omega) (Nat.le_refl b))]
  | succ d ih =>
    intro b n la pl ne al hb hn h1 h2
    obtain ⟨n, rfl, hn'⟩ := fuS hn
    obtain ⟨⟨hj, hf, hp⟩, ⟨r1, r2, r3⟩, -, ⟨hw9, w1, -⟩, -⟩ := hC b (by omega)
    obtain ⟨pl', ne', l1, l2⟩ := layWay_i (L := N) (p := pp b) hJ hB (show b < B by omega) hj hf hw9 (by omega) hh ht r1 r2 w1 pl ne la
    obtain ⟨al', t1, t2, t3⟩ := tp_loop (on := on) (oh := oh) hJ hB hN (show b < B by omega) hC l2 B 0 FU 0 al (by omega) (FU_gt (by omega)) (h2 b (Nat.le_refl b) (by omega)) (by omega) (fun i => by
      rw [Nat.zero_testBit]
      constructor
      · intro q; cases q
      · rintro ⟨q, -⟩; exact absurd q (by omega))
    obtain ⟨la2, pl2, ne2, al2, i1, i2⟩ := ih (b + 1) n (nI N) pl' ne' al' (by omega) (by omega) (fun i hi => by
      by_cases q : i = b
      · subst q; exact t2
      · obtain ⟨m, q1, q2, q3⟩ := h1 i (by omega)
        exact ⟨m, (t3 i q).trans q1, q2, q3⟩) (fun i q1 q2 => (t3 i (by omega)).trans (h2 i (by omega) q2))
    refine ⟨la2, pl2, ne2, al2, ?_, i2⟩
    have tp : m_Tb_tryPulls (nI b) (nI N) quays (nI B) bw on oh row pl ne la al = some (pl', ne', nI N, al') := by
      unfold m_Tb_tryPulls
      rw [l1, kb3_e]; exact t1
    show m_Tb_changes_B48 (m_Tb_changes_L48 n) (nI N) y2 (nI b) quays (nI B) bw on oh row pl ne la eb al eo ebst ef = _
    unfold m_Tb_changes_B48
    rw [if_neg (ncle (by omega) (by omega) (by omega)), tp, kb4_e, nI_1]
    exact i1
theorem ia_loop {A : Nat → Nat → Bool} {B : Nat} {al o : Nat → Int32} {dd : Nat → Nat} (hB : B ≤ 5) (hal : ∀ i : Nat, i < B → Mk A B al i) (ho : ∀ i : Nat, i < B → o i = nI (dd i) ∧ dd i < B) :
    ∀ (d k n : Nat), k + d = B → d < n → m_Exch_isAllowed_L2 n (nI k) (nI B) al o = some (if ak A dd d k = true then 1 else 0) := by
  intro d
  induction d with
  | zero =>
    intro k n hk hn
    obtain ⟨n, rfl, -⟩ := fuS hn
    show m_Exch_isAllowed_B2 (m_Exch_isAllowed_L2 n) (nI k) (nI B) al o = some (if true = true then 1 else 0)
    unfold m_Exch_isAllowed_B2
    rw [if_pos (cle (by omega) (by omega) (by omega)), if_pos rfl]
  | succ d ih =>
    intro k n hk hn
    obtain ⟨n, rfl, hn'⟩ := fuS hn
    obtain ⟨m, e1, e2, e3⟩ := hal k (by omega)
    obtain ⟨o1, o2⟩ := ho k (by omega)
    have bt := bit_t m e2 (dd k) (by omega)
    have e4 := e3 (dd k)
    show m_Exch_isAllowed_B2 (m_Exch_isAllowed_L2 n) (nI k) (nI B) al o = some (if (A k (dd k) && ak A dd d (k + 1)) = true then 1 else 0)
    unfold m_Exch_isAllowed_B2
    rw [if_neg (ncle (by omega) (by omega) (by omega)), kg_i (by omega) (by omega), kg_i (by omega) (by omega), nI_clamp (by omega), e1, o1]
    cases ca : A k (dd k) with
    | true =>
      rw [e4.mpr ⟨o2, ca⟩] at bt
      rw [if_neg (of_decide_eq_false bt), nI_1, Bool.true_and]
      exact ih (k + 1) n (by omega) (by omega)
    | false =>
      have tb : m.testBit (dd k) = false := by
        cases q : m.testBit (dd k) with
        | false => rfl
        | true => have z := (e4.mp q).2; rw [ca] at z; cases z
      rw [tb] at bt
      rw [if_pos (of_decide_eq_true bt), Bool.false_and, if_neg (by decide)]
theorem aq_loop {hm : Nat → Nat → Nat} {J B N : Nat} {hard row now bw wears quays zq gv : Nat → Int32} {jj ff pp ww qq dd : Nat → Nat} (hJ : J ≤ 9) (hB : B ≤ 5) (hN : N ≤ 60) (hh : HM hard hm) (hC : Crew J B row now bw wears quays zq jj ff pp ww qq) (hg : ∀ i : Nat, i < B → gv i = nI (dd i) ∧ dd i < B) :
    ∀ (d k n : Nat) (a f p : Int32), k + d = B → d + 1 < n → ∃ a' f' p' : Int32, m_Ref_allAtQuays_L4 n (nI N) 1 (nI k) (nI J) hard (nI B) wears zq now a f p gv = some (if ak (aB hm J N jj ff pp ww qq) dd d k = true then 1 else 0, a', f', p') := by
  intro d
  induction d with
  | zero =>
    intro k n a f p hk hn
    obtain ⟨n, rfl, -⟩ := fuS hn
    refine ⟨a, f, p, ?_⟩
    show m_Ref_allAtQuays_B4 (m_Ref_allAtQuays_L4 n) (nI N) 1 (nI k) (nI J) hard (nI B) wears zq now a f p gv = some (if true = true then 1 else 0, a, f, p)
    unfold m_Ref_allAtQuays_B4
    rw [if_pos (cle (by omega) (by omega) (by omega)), ko_1, if_pos rfl]
  | succ d ih =>
    intro k n a f p hk hn
    obtain ⟨n, rfl, hn'⟩ := fuS hn
    obtain ⟨⟨hj, hf, -⟩, -, ⟨s1, s2, -⟩, ⟨hw9, -, w2⟩, ⟨hq, -, eq2⟩⟩ := hC k (by omega)
    obtain ⟨g1, g2⟩ := hg k (by omega)
    obtain ⟨⟨-, -, hp⟩, -, ⟨-, -, s3⟩, -, -⟩ := hC (dd k) g2
    have pin := (ps_in (hm := hm) hj hf (gct (nd hm J (jj k) (ff k) (ww k)) (pp (dd k)) N 0)).1
    have e10 : (10 : Int32) + nI (dd k) = nI (10 + dd k) := la10 (dd k)
    have kk : ∀ K : Option (Int32 × Int32 × Int32 × Int32), kg (nI k) 5 K = K := fun K => kg_i (by omega) (by omega)
    have key : m_Ref_allAtQuays_L4 (n + 1) (nI N) 1 (nI k) (nI J) hard (nI B) wears zq now a f p gv = if aB hm J N jj ff pp ww qq k (dd k) = true then m_Ref_allAtQuays_L4 n (nI N) 1 (nI (k + 1)) (nI J) hard (nI B) wears zq now (nI (ps hm J (jj k) (ff k) (gct (nd hm J (jj k) (ff k) (ww k)) (pp (dd k)) N 0)).1) (om (ps hm J (jj k) (ff k) (gct (nd hm J (jj k) (ff k) (ww k)) (pp (dd k)) N 0)).2) (nI (pp (dd k) - gct (nd hm J (jj k) (ff k) (ww k)) (pp (dd k)) N 0 * ww k)) gv else m_Ref_allAtQuays_L4 n (nI N) 0 (nI (k + 1)) (nI J) hard (nI B) wears zq now (nI (ps hm J (jj k) (ff k) (gct (nd hm J (jj k) (ff k) (ww k)) (pp (dd k)) N 0)).1) (om (ps hm J (jj k) (ff k) (gct (nd hm J (jj k) (ff k) (ww k)) (pp (dd k)) N 0)).2) (nI (pp (dd k) - gct (nd hm J (jj k) (ff k) (ww k)) (pp (dd k)) N 0 * ww k)) gv := by
      show m_Ref_allAtQuays_B4 (m_Ref_allAtQuays_L4 n) (nI N) 1 (nI k) (nI J) hard (nI B) wears zq now a f p gv = _
      unfold m_Ref_allAtQuays_B4 m_Ref_allAtQuays_B72 m_Ref_allAtQuays_B77
      rw [if_neg (ncle (by omega) (by omega) (by omega)), if_neg n1, board_i (by omega), kb3_e, kk, nI_clamp (by omega), g1, e10, kg_i (by omega) (by omega), nI_clamp (by omega), kk, s1, s2, s3, w2, goOn_i hJ hj hf hw9 hp (by omega) hh, kb3_e, kk, kk, eq2, nI_1]
      exact quay_t2 (by omega) (by omega)
    rw [key]
    show ∃ a' f' p' : Int32, _ = some (if (aB hm J N jj ff pp ww qq k (dd k) && ak (aB hm J N jj ff pp ww qq) dd d (k + 1)) = true then 1 else 0, a', f', p')
    cases ca : aB hm J N jj ff pp ww qq k (dd k) with
    | true =>
      rw [if_pos rfl, Bool.true_and]
      exact ih (k + 1) n _ _ _ (by omega) (by omega)
    | false =>
      rw [if_neg (by decide), Bool.false_and, if_neg (by decide)]
      obtain ⟨n2, rfl, -⟩ := fuS (show 0 < n by omega)
      refine ⟨nI (ps hm J (jj k) (ff k) (gct (nd hm J (jj k) (ff k) (ww k)) (pp (dd k)) N 0)).1, om (ps hm J (jj k) (ff k) (gct (nd hm J (jj k) (ff k) (ww k)) (pp (dd k)) N 0)).2, nI (pp (dd k) - gct (nd hm J (jj k) (ff k) (ww k)) (pp (dd k)) N 0 * ww k), ?_⟩
      show m_Ref_allAtQuays_B4 (m_Ref_allAtQuays_L4 n2) (nI N) 0 (nI (k + 1)) (nI J) hard (nI B) wears zq now _ _ _ gv = _
      unfold m_Ref_allAtQuays_B4
      rw [if_pos p0, ko_0]
      by_cases c2 : nI B ≤ nI (k + 1)
      · rw [if_pos c2]
      · rw [if_neg c2]
