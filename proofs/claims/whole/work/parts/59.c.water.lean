/-! ===== water: clause by clause ===== -/
theorem n3I : ¬ (3 : Int32) = 0 ∧ ¬ (3 : Int32) ≤ 0 := by decide
theorem n00 : ¬ (0 : Int32) < 0 := by decide
theorem n10' : ¬ (1 : Int32) < 0 := by decide
theorem n20' : ¬ (2 : Int32) < 0 := by decide
theorem n21 : ¬ (2 : Int32) = 1 := by decide
theorem m10 : (-1 : Int32) < 0 := by decide
theorem clause_i {F q J C B : Nat} {c : Nat → Nat} {tx zx cA cB cH bA bP bW r1 r2 rH rA rP rW : Nat → Int32} (hT : Tx F c tx zx) (hq : q < F) (h32 : c q ≠ 32) (hJ1 : 1 ≤ J) (hJ : J ≤ 9) (hS : St J C B cA cB cH bA bP bW r1 r2 rH rA rP rW) (na fp num nat : Int32) :
    ∃ (pl na' fk fa cuts' boats' : Int32) (cA' cB' cH' bA' bP' bW' : Nat → Int32) (fp' at' num' nat' rJ' rC' rB' : Int32) (r1' r2' rH' rA' rP' rW' : Nat → Int32),
      m_Reader_readClause (nI F) (nI q) na 0 (-1) tx (nI J) (nI C) (nI B) cA cB cH bA bP bW = some (pl, na', fk, fa, cuts', boats', cA', cB', cH', bA', bP', bW') ∧
      m_Ref_takeClause zx (nI F) fp (nI q) num nat (nI J) (nI C) r1 r2 rH (nI B) rA rP rW = some (fk, fp', at', num', nat', rJ', rC', r1', r2', rH', rB', rA', rP', rW') ∧
      ((fk = 0 ∧ fa = -1 ∧ fp' = fp ∧ rJ' = nI J ∧ ∃ q' C' B' : Nat, q < q' ∧ q' ≤ F ∧ pl = nI q' ∧ at' = nI q' ∧ cuts' = nI C' ∧ rC' = nI C' ∧ boats' = nI B' ∧ rB' = nI B' ∧ St J C' B' cA' cB' cH' bA' bP' bW' r1' r2' rH' rA' rP' rW') ∨
       (¬ fk = 0 ∧ ¬ fk ≤ 0 ∧ fa = fp' ∧ (∃ m : Nat, m < 1000 ∧ pl = nI m) ∧ ∃ C' : Nat, C' ≤ 14 ∧ cuts' = nI C')) := by
  have h0 := hT.1
  obtain ⟨hC, hB, ⟨A, Bq, H, hk⟩, hb⟩ := hS
  have l : ltr F c q = nI (c q) := if_pos hq
  have hc := (hT.2 q hq).1
  obtain ⟨-, he⟩ := sk_0 hT (show q ≤ F by omega) (fun _ => h32)
  have nJ : ¬ nI J ≤ 0 := ncle (b := 0) (by omega) (by omega) (by omega)
  have nJ0 : ¬ nI J = 0 := nceq (b := 0) (by omega) (by omega) (by omega)
  unfold m_Reader_readClause m_Ref_takeClause
  rw [lh_i hT (by omega), kb1_e, he, kb2_e, l]
  by_cases c1 : c q = 106
  · have c1' : nI (c q) = (106 : Int32) := by rw [c1]; rfl
    rw [if_pos c1', if_pos c1', note_0, kb2_e]
    unfold m_Ref_takeClause_B36 m_Ref_takeClause_B62 m_Ref_takeClause_B116 m_Ref_fails
    rw [if_neg n00, if_pos le0, if_pos p0, if_neg nJ, if_neg n1I.1, kb2_e, nI_1]
    exact ⟨_, _, _, _, _, _, _, _, _, _, _, _, _, _, _, _, _, _, _, _, _, _, _, _, _, rfl, rfl, Or.inr ⟨n3I.1, n3I.2, rfl, ⟨q + 1, by omega, rfl⟩, C, hC, rfl⟩⟩
  · have c1' : ¬ nI (c q) = (106 : Int32) := nceq (b := 106) (by omega) (by omega) c1
    rw [if_neg c1', if_neg c1']
    by_cases c2 : c q = 99
    · have c2' : nI (c q) = (99 : Int32) := by rw [c2]; rfl
      rw [if_pos c2', if_pos c2']
      unfold m_Ref_takeClause_B36 m_Ref_takeClause_B62
      rw [if_neg n10', if_neg n1I.2, if_neg nJ0, if_neg n1I.1, if_pos rfl]
      unfold m_Ref_takeClause_B116 m_Reader_readClause_B56
      by_cases c14 : C < 14
      · have d1 : nI C < (14 : Int32) := clt (b := 14) (by omega) (by omega) c14
        have d2 : ¬ nI C = (14 : Int32) := nceq (b := 14) (by omega) (by omega) (by omega)
        rw [if_pos d1, if_neg d2, if_pos p0, if_neg n1I.1, if_pos rfl, nI_1]
        obtain ⟨fk1, fp1, at1, num1, nat1, r1', r2', rH', G, R⟩ := cut_i hT (show q + 1 ≤ F by omega) hJ1 hJ c14 hk na fp num nat
        rw [G, kb9_e]
        unfold m_Ref_takeClause_B168 m_Ref_takeClause_B194
        rcases R with ⟨f1, f2, m, na', hm, R⟩ | ⟨f1, f2, s, a, b, h, na', hs1, hs2, e1, ⟨A', B', H', hk'⟩, R⟩
        · rw [R, kb8_e, if_neg f1]
          exact ⟨_, _, _, _, _, _, _, _, _, _, _, _, _, _, _, _, _, _, _, _, _, _, _, _, _, rfl, rfl, Or.inr ⟨f1, f2, rfl, ⟨m, by omega, rfl⟩, C, hC, rfl⟩⟩
        · subst f1 f2 e1
          obtain ⟨t, t1, t2, t3, t4⟩ := sign_i (s := 59) hT hs2 (by omega)
          rw [R, if_pos p0, t3, kb2_e]
          rcases t4 with ⟨z, tF, z2⟩ | ⟨z, z2⟩
          · have z' : ltr F c t = (59 : Int32) := z
            rw [if_pos z', z2, kb3_e, if_pos p0, kb8_e, nI_1]
            exact ⟨_, _, _, _, _, _, _, _, _, _, _, _, _, _, _, _, _, _, _, _, _, _, _, _, _, rfl, rfl, Or.inl ⟨rfl, rfl, rfl, rfl, t + 1, C + 1, B, by omega, by omega, rfl, rfl, rfl, rfl, rfl, rfl, by omega, hB, ⟨A', B', H', hk'⟩, hb⟩⟩
          · have z' : ¬ ltr F c t = (59 : Int32) := z
            unfold m_Ref_fails
            rw [if_neg z', z2, kb3_e, if_neg n1I.1, kb8_e, kb2_e]
            exact ⟨_, _, _, _, _, _, _, _, _, _, _, _, _, _, _, _, _, _, _, _, _, _, _, _, _, rfl, rfl, Or.inr ⟨n1I.1, n1I.2, rfl, ⟨t + 1, by omega, rfl⟩, C, hC, rfl⟩⟩
      · have hC' : C = 14 := by omega
        subst hC'
        have d1 : ¬ nI 14 < (14 : Int32) := by decide
        have d2 : nI 14 = (14 : Int32) := rfl
        unfold m_Ref_fails
        rw [if_neg d1, if_pos d2, if_neg n1I.1, note_0, kb2_e, cut_ff (by omega) n3I.1, kb8_e, kb2_e, nI_1]
        exact ⟨_, _, _, _, _, _, _, _, _, _, _, _, _, _, _, _, _, _, _, _, _, _, _, _, _, rfl, rfl, Or.inr ⟨n3I.1, n3I.2, rfl, ⟨q + 1, by omega, rfl⟩, 14, hC, rfl⟩⟩
    · have c2' : ¬ nI (c q) = (99 : Int32) := nceq (b := 99) (by omega) (by omega) c2
      rw [if_neg c2', if_neg c2']
      by_cases c3 : c q = 98
      · have c3' : nI (c q) = (98 : Int32) := by rw [c3]; rfl
        rw [if_pos c3', if_pos c3']
        unfold m_Ref_takeClause_B36 m_Ref_takeClause_B62
        rw [if_neg n20', if_neg n2I.2, if_neg nJ0, if_neg n2I.1, if_neg n21]
        unfold m_Ref_takeClause_B116 m_Reader_readClause_B84
        by_cases c5 : B < 5
        · have d1 : nI B < (5 : Int32) := clt (b := 5) (by omega) (by omega) c5
          have d2 : ¬ nI B = (5 : Int32) := nceq (b := 5) (by omega) (by omega) (by omega)
          rw [if_pos d1, if_neg d2, if_pos p0, if_neg n2I.1, if_neg n21, nI_1]
          obtain ⟨fk1, fp1, at1, num1, nat1, r1', r2', rH', G, R⟩ := boat_i hT (show q + 1 ≤ F by omega) hJ1 hJ c5 hb na fp num nat
          rw [G, kb9_e]
          unfold m_Ref_takeClause_B168 m_Ref_takeClause_B194
          rcases R with ⟨f1, f2, m, na', hm, R⟩ | ⟨f1, f2, s, a, b, h, na', hs1, hs2, e1, hb', R⟩
          · rw [R, kb8_e, if_neg f1]
            exact ⟨_, _, _, _, _, _, _, _, _, _, _, _, _, _, _, _, _, _, _, _, _, _, _, _, _, rfl, rfl, Or.inr ⟨f1, f2, rfl, ⟨m, by omega, rfl⟩, C, hC, rfl⟩⟩
          · subst f1 f2 e1
            obtain ⟨t, t1, t2, t3, t4⟩ := sign_i (s := 59) hT hs2 (by omega)
            rw [R, if_pos p0, t3, kb2_e]
            rcases t4 with ⟨z, tF, z2⟩ | ⟨z, z2⟩
            · have z' : ltr F c t = (59 : Int32) := z
              rw [if_pos z', z2, kb3_e, if_pos p0, kb8_e, nI_1]
              exact ⟨_, _, _, _, _, _, _, _, _, _, _, _, _, _, _, _, _, _, _, _, _, _, _, _, _, rfl, rfl, Or.inl ⟨rfl, rfl, rfl, rfl, t + 1, C, B + 1, by omega, by omega, rfl, rfl, rfl, rfl, rfl, rfl, hC, by omega, ⟨A, Bq, H, hk⟩, hb'⟩⟩
            · have z' : ¬ ltr F c t = (59 : Int32) := z
              unfold m_Ref_fails
              rw [if_neg z', z2, kb3_e, if_neg n1I.1, kb8_e, kb2_e]
              exact ⟨_, _, _, _, _, _, _, _, _, _, _, _, _, _, _, _, _, _, _, _, _, _, _, _, _, rfl, rfl, Or.inr ⟨n1I.1, n1I.2, rfl, ⟨t + 1, by omega, rfl⟩, C, hC, rfl⟩⟩
        · have hB' : B = 5 := by omega
          subst hB'
          have d1 : ¬ nI 5 < (5 : Int32) := by decide
          have d2 : nI 5 = (5 : Int32) := rfl
          unfold m_Ref_fails
          rw [if_neg d1, if_pos d2, if_neg n1I.1, note_0, kb2_e, boat_ff n3I.1, kb8_e, kb2_e, nI_1]
          exact ⟨_, _, _, _, _, _, _, _, _, _, _, _, _, _, _, _, _, _, _, _, _, _, _, _, _, rfl, rfl, Or.inr ⟨n3I.1, n3I.2, rfl, ⟨q + 1, by omega, rfl⟩, C, hC, rfl⟩⟩
      · have c3' : ¬ nI (c q) = (98 : Int32) := nceq (b := 98) (by omega) (by omega) c3
        unfold m_Ref_takeClause_B36 m_Ref_takeClause_B52 m_Ref_fails
        rw [if_neg c3', if_neg c3', if_pos m10, note_0, kb2_e, kb2_e, nI_1]
        exact ⟨_, _, _, _, _, _, _, _, _, _, _, _, _, _, _, _, _, _, _, _, _, _, _, _, _, rfl, rfl, Or.inr ⟨n1I.1, n1I.2, rfl, ⟨q + 1, by omega, rfl⟩, C, hC, rfl⟩⟩
abbrev T16 : Type := Int32 × Int32 × Int32 × Int32 × Int32 × Int32 × Int32 × Int32 × (Nat → Int32) × (Nat → Int32) × (Nat → Int32) × (Nat → Int32) × (Nat → Int32) × (Nat → Int32) × (Nat → Int32) × (Nat → Int32)
abbrev T29 : Type := Int32 × Int32 × Int32 × (Nat → Int32) × (Nat → Int32) × (Nat → Int32) × (Nat → Int32) × Int32 × (Nat → Int32) × (Nat → Int32) × (Nat → Int32) × Int32 × Int32 × Int32 × Int32 × Int32 × Int32 × Int32 × (Nat → Int32) × (Nat → Int32) × (Nat → Int32) × Int32 × (Nat → Int32) × (Nat → Int32) × (Nat → Int32) × Int32 × Int32 × Int32 × (Nat → Int32)
/-- how the two readings end -/
def Fin (F : Nat) (lt on oh zx : Nat → Int32) (zj zc : Int32) (z1 z2 zH hard : Nat → Int32) (zb : Int32) (wears quays now : Nat → Int32) (un se bo : Int32) (ik : Nat → Int32) (x : Option T16) (y : Option T29) : Prop :=
  ∃ (pl na' fk fa j' cuts' boats' : Int32) (cA' cB' cH' bA' bP' bW' : Nat → Int32) (fp' at' num' nat' rJ' rC' rB' : Int32) (r1' r2' rH' rA' rP' rW' : Nat → Int32),
    x = m_Reader_readText_B75 (nI F) pl na' fk fa lt j' cuts' boats' cA' cB' cH' bA' bP' bW' on oh ∧
    y = m_Ref_water_B46 fk zj zc z1 z2 zH hard zb wears quays now zx (nI F) fp' at' num' nat' rJ' rC' r1' r2' rH' rB' rA' rP' rW' un se bo ik ∧
    ((fk = 0 ∧ fa = -1 ∧ fp' = -1 ∧ ∃ J C B : Nat, J ≤ 9 ∧ j' = nI J ∧ rJ' = nI J ∧ cuts' = nI C ∧ rC' = nI C ∧ boats' = nI B ∧ rB' = nI B ∧ St J C B cA' cB' cH' bA' bP' bW' r1' r2' rH' rA' rP' rW') ∨
     (¬ fk = 0 ∧ ¬ fk ≤ 0 ∧ fa = fp' ∧ ∃ C' : Nat, C' ≤ 14 ∧ cuts' = nI C'))
theorem flt_c {F m : Nat} {c : Nat → Nat} {lt zx cA cB cH bA bP bW on oh : Nat → Int32} {x4 na fk fa j cu bo : Int32} (hT : Tx F c lt zx) (hm : m < 2 ^ 31) (hf : ¬ fk = 0) (n : Nat) : ∃ pl : Int32, m_Reader_readText_L49 (n + 1) x4 (nI F) (nI m) na fk fa lt j cu bo cA cB cH bA bP bW on oh = m_Reader_readText_B75 (nI F) pl na fk fa lt j cu bo cA cB cH bA bP bW on oh := by
  obtain ⟨m', hs⟩ := sk_any hT hm
  have e : m_Reader_readText_L49 (n + 1) x4 (nI F) (nI m) na fk fa lt j cu bo cA cB cH bA bP bW on oh = m_Reader_readText_B49 (m_Reader_readText_L49 n) x4 (nI F) (nI m) na fk fa lt j cu bo cA cB cH bA bP bW on oh := rfl
  rw [e]
  unfold m_Reader_readText_B49 m_Reader_goesOn
  rw [hs, kb1_e, if_neg hf, kb2_e, if_pos p0]
  by_cases q : 240 ≤ x4
  · rw [if_pos q]; exact ⟨nI m, rfl⟩
  · rw [if_neg q]; exact ⟨nI m', rfl⟩
theorem flt_r {zx z1 z2 zH hard wears quays now r1 r2 rH rA rP rW ik : Nat → Int32} {F zj zc zb fp at0 num nat rJ rC rB un se bo fk : Int32} (hf : ¬ fk = 0) (n : Nat) : m_Ref_water_L27 (n + 1) fk zj zc z1 z2 zH hard zb wears quays now zx F fp at0 num nat rJ rC r1 r2 rH rB rA rP rW un se bo ik = m_Ref_water_B46 fk zj zc z1 z2 zH hard zb wears quays now zx F fp at0 num nat rJ rC r1 r2 rH rB rA rP rW un se bo ik := by
  have e : m_Ref_water_L27 (n + 1) fk zj zc z1 z2 zH hard zb wears quays now zx F fp at0 num nat rJ rC r1 r2 rH rB rA rP rW un se bo ik = m_Ref_water_B27 (m_Ref_water_L27 n) fk zj zc z1 z2 zH hard zb wears quays now zx F fp at0 num nat rJ rC r1 r2 rH rB rA rP rW un se bo ik := rfl
  rw [e]
  unfold m_Ref_water_B27
  rw [if_neg hf]
theorem rt_loop {F J : Nat} {c : Nat → Nat} {lt zx on oh z1 z2 zH hard wears quays now ik : Nat → Int32} {zj zc zb un se bo : Int32} (hT : Tx F c lt zx) (hJ1 : 1 ≤ J) (hJ : J ≤ 9) :
    ∀ (d p k n1 n2 C B : Nat) (na num nat : Int32) (cA cB cH bA bP bW r1 r2 rH rA rP rW : Nat → Int32), F ≤ p + d → p ≤ F → k ≤ p → d + 1 < n1 → d + 1 < n2 → St J C B cA cB cH bA bP bW r1 r2 rH rA rP rW →
    Fin F lt on oh zx zj zc z1 z2 zH hard zb wears quays now un se bo ik (m_Reader_readText_L49 n1 (nI k) (nI F) (nI p) na 0 (-1) lt (nI J) (nI C) (nI B) cA cB cH bA bP bW on oh) (m_Ref_water_L27 n2 0 zj zc z1 z2 zH hard zb wears quays now zx (nI F) (-1) (nI p) num nat (nI J) (nI C) r1 r2 rH (nI B) rA rP rW un se bo ik) := by
  have h0 := hT.1
  intro d
  induction d with
  | zero =>
    intro p k n1 n2 C B na num nat cA cB cH bA bP bW r1 r2 rH rA rP rW hd hp hk hn1 hn2 hS
    obtain ⟨n1, rfl, -⟩ := fuS hn1
    obtain ⟨n2, rfl, -⟩ := fuS hn2
    have hpF : p = F := by omega
    subst hpF
    obtain ⟨s, s1, s2, s3, s4, s5⟩ := sk_i hT (Nat.le_refl p)
    have hs : s = p := by omega
    subst hs
    have l : ltr s c s = -1 := if_neg (by omega)
    rw [l] at s5
    refine ⟨nI s, na, 0, -1, nI J, nI C, nI B, cA, cB, cH, bA, bP, bW, -1, nI s, num, nat, nI J, nI C, nI B, r1, r2, rH, rA, rP, rW, ?_, ?_, Or.inl ⟨rfl, rfl, rfl, J, C, B, hJ, rfl, rfl, rfl, rfl, rfl, rfl, hS⟩⟩
    · show m_Reader_readText_B49 (m_Reader_readText_L49 n1) (nI k) (nI s) (nI s) na 0 (-1) lt (nI J) (nI C) (nI B) cA cB cH bA bP bW on oh = _
      unfold m_Reader_readText_B49 m_Reader_goesOn
      rw [s4, kb1_e, if_pos p0, if_pos (cle (by omega) (by omega) (Nat.le_refl s)), kb2_e, if_pos p0]
      by_cases q : (240 : Int32) ≤ nI k
      · rw [if_pos q]
      · rw [if_neg q]
    · show m_Ref_water_B27 (m_Ref_water_L27 n2) 0 zj zc z1 z2 zH hard zb wears quays now zx (nI s) (-1) (nI s) num nat (nI J) (nI C) r1 r2 rH (nI B) rA rP rW un se bo ik = _
      unfold m_Ref_water_B27
      rw [if_pos p0, s5, kb2_e, if_pos m10]
  | succ d ih =>
    intro p k n1 n2 C B na num nat cA cB cH bA bP bW r1 r2 rH rA rP rW hd hp hk hn1 hn2 hS
    obtain ⟨n1, rfl, hn1'⟩ := fuS hn1
    obtain ⟨n2, rfl, hn2'⟩ := fuS hn2
    obtain ⟨s, s1, s2, s3, s4, s5⟩ := sk_i hT hp
    have eC : m_Reader_readText_L49 (n1 + 1) (nI k) (nI F) (nI p) na 0 (-1) lt (nI J) (nI C) (nI B) cA cB cH bA bP bW on oh = m_Reader_readText_B49 (m_Reader_readText_L49 n1) (nI k) (nI F) (nI p) na 0 (-1) lt (nI J) (nI C) (nI B) cA cB cH bA bP bW on oh := rfl
    have eR : m_Ref_water_L27 (n2 + 1) 0 zj zc z1 z2 zH hard zb wears quays now zx (nI F) (-1) (nI p) num nat (nI J) (nI C) r1 r2 rH (nI B) rA rP rW un se bo ik = m_Ref_water_B27 (m_Ref_water_L27 n2) 0 zj zc z1 z2 zH hard zb wears quays now zx (nI F) (-1) (nI p) num nat (nI J) (nI C) r1 r2 rH (nI B) rA rP rW un se bo ik := rfl
    by_cases hs : s < F
    · have k240 : ¬ (240 : Int32) ≤ nI k := ncle (a := 240) (by omega) (by omega) (by omega)
      have l : ltr F c s = nI (c s) := if_pos hs
      have hcs := (hT.2 s hs).1
      obtain ⟨pl, na', fk, fa, cuts', boats', cA', cB', cH', bA', bP', bW', fp', at', num', nat', rJ', rC', rB', r1', r2', rH', rA', rP', rW', K1, K2, K3⟩ := clause_i hT hs (s3 hs) hJ1 hJ hS na (-1) num nat
      have eC2 : m_Reader_readText_L49 (n1 + 1) (nI k) (nI F) (nI p) na 0 (-1) lt (nI J) (nI C) (nI B) cA cB cH bA bP bW on oh = m_Reader_readText_L49 n1 (nI (k + 1)) (nI F) pl na' fk fa lt (nI J) cuts' boats' cA' cB' cH' bA' bP' bW' on oh := by
        rw [eC]
        unfold m_Reader_readText_B49 m_Reader_goesOn
        rw [if_neg k240, s4, kb1_e, if_pos p0, if_neg (ncle (by omega) (by omega) hs), kb2_e, if_neg n1I.1, K1, kb12_e, nI_1]
      have eR2 : m_Ref_water_L27 (n2 + 1) 0 zj zc z1 z2 zH hard zb wears quays now zx (nI F) (-1) (nI p) num nat (nI J) (nI C) r1 r2 rH (nI B) rA rP rW un se bo ik = m_Ref_water_L27 n2 fk zj zc z1 z2 zH hard zb wears quays now zx (nI F) fp' at' num' nat' rJ' rC' r1' r2' rH' rB' rA' rP' rW' un se bo ik := by
        rw [eR]
        unfold m_Ref_water_B27
        rw [if_pos p0, s5, kb2_e, l, if_neg (nI_pos (by omega)), K2, kb14_e]
      rw [eC2, eR2]
      rcases K3 with ⟨f1, f2, f3, f4, q', C', B', u1, u2, u3, u4, u5, u6, u7, u8, u9⟩ | ⟨f1, f2, f3, ⟨m, hm, f4⟩, C', hC', f5⟩
      · subst f1 f2 f3 f4 u3 u4 u5 u6 u7 u8
        exact ih q' (k + 1) n1 n2 C' B' na' num' nat' cA' cB' cH' bA' bP' bW' r1' r2' rH' rA' rP' rW' (by omega) u2 (by omega) (by omega) (by omega) u9
      · subst f4
        obtain ⟨n1', rfl, -⟩ := fuS (show 0 < n1 by omega)
        obtain ⟨n2', rfl, -⟩ := fuS (show 0 < n2 by omega)
        obtain ⟨pl', hpl⟩ := flt_c (x4 := nI (k + 1)) (na := na') (fa := fa) (j := nI J) (cu := cuts') (bo := boats') (cA := cA') (cB := cB') (cH := cH') (bA := bA') (bP := bP') (bW := bW') (on := on) (oh := oh) hT (show m < 2 ^ 31 by omega) f1 n1'
        rw [hpl, flt_r f1 n2']
        exact ⟨pl', na', fk, fa, nI J, cuts', boats', cA', cB', cH', bA', bP', bW', fp', at', num', nat', rJ', rC', rB', r1', r2', rH', rA', rP', rW', rfl, rfl, Or.inr ⟨f1, f2, f3, C', hC', f5⟩⟩
    · have hs' : s = F := by omega
      subst hs'
      have l : ltr s c s = -1 := if_neg hs
      rw [l] at s5
      have eR2 : m_Ref_water_L27 (n2 + 1) 0 zj zc z1 z2 zH hard zb wears quays now zx (nI s) (-1) (nI p) num nat (nI J) (nI C) r1 r2 rH (nI B) rA rP rW un se bo ik = m_Ref_water_B46 0 zj zc z1 z2 zH hard zb wears quays now zx (nI s) (-1) (nI s) num nat (nI J) (nI C) r1 r2 rH (nI B) rA rP rW un se bo ik := by
        rw [eR]
        unfold m_Ref_water_B27
        rw [if_pos p0, s5, kb2_e, if_pos m10]
      have eC2 : ∃ pl : Int32, m_Reader_readText_L49 (n1 + 1) (nI k) (nI s) (nI p) na 0 (-1) lt (nI J) (nI C) (nI B) cA cB cH bA bP bW on oh = m_Reader_readText_B75 (nI s) pl na 0 (-1) lt (nI J) (nI C) (nI B) cA cB cH bA bP bW on oh := by
        rw [eC]
        unfold m_Reader_readText_B49 m_Reader_goesOn
        rw [s4, kb1_e, if_pos p0, if_pos (cle (by omega) (by omega) (Nat.le_refl s)), kb2_e, if_pos p0]
        by_cases q : (240 : Int32) ≤ nI k
        · rw [if_pos q]; exact ⟨_, rfl⟩
        · rw [if_neg q]; exact ⟨_, rfl⟩
      obtain ⟨pl, eC2⟩ := eC2
      exact ⟨pl, na, 0, -1, nI J, nI C, nI B, cA, cB, cH, bA, bP, bW, -1, nI s, num, nat, nI J, nI C, nI B, r1, r2, rH, rA, rP, rW, eC2, eR2, Or.inl ⟨rfl, rfl, rfl, J, C, B, hJ, rfl, rfl, rfl, rfl, rfl, rfl, hS⟩⟩
theorem text_i {F : Nat} {c : Nat → Nat} {lt zx on oh z1 z2 zH hard wears quays now ik cA cB cH bA bP bW r1 r2 rH rA rP rW : Nat → Int32} {zj zc zb un se bo a1 a2 a3 a4 a5 a6 a7 a8 fp0 at0 num nat rJ0 rC0 rB0 : Int32} (hT : Tx F c lt zx) :
    Fin F lt on oh zx zj zc z1 z2 zH hard zb wears quays now un se bo ik (m_Reader_readText (nI F) a1 a2 a3 a4 a5 lt a6 a7 a8 cA cB cH bA bP bW on oh) (m_Ref_water zj zc z1 z2 zH hard zb wears quays now zx (nI F) fp0 at0 num nat rJ0 rC0 r1 r2 rH rB0 rA rP rW un se bo ik) := by
  have h0 := hT.1
  have e240 : (if (240 : Int32) < nI F then 240 else nI F) = nI F := if_neg (nclt (a := 240) (by omega) (by omega) h0)
  obtain ⟨s, s1, s2, s3, s4, s5⟩ := sk_i hT (Nat.zero_le F)
  have s4 : m_Reader_skipBlanks (nI F) 0 lt = some (nI s) := s4
  have s5 : m_Ref_here zx (nI F) 0 = some (ltr F c s, nI s) := s5
  have eR : m_Ref_water zj zc z1 z2 zH hard zb wears quays now zx (nI F) fp0 at0 num nat rJ0 rC0 r1 r2 rH rB0 rA rP rW un se bo ik = m_Ref_water_B27 (m_Ref_water_L27 4999) 0 zj zc z1 z2 zH hard zb wears quays now zx (nI F) (-1) 0 num nat 0 0 r1 r2 rH 0 rA rP rW un se bo ik := rfl
  have hS0 : ∀ J : Nat, St J 0 0 cA cB cH bA bP bW r1 r2 rH rA rP rW := fun J => ⟨by omega, by omega, ⟨fun _ => 0, fun _ => 0, fun _ => 0, fun k q => absurd q (by omega), fun k i q => absurd q (by omega)⟩, fun b q => absurd q (by omega)⟩
  rw [eR]
  unfold m_Ref_water_B27 m_Reader_readText m_Water_empty m_Reader_goesOn
  rw [e240, kb3_e, s4, kb1_e, if_pos p0, if_pos p0, s5, kb2_e]
  by_cases hs : s < F
  · have l : ltr F c s = nI (c s) := if_pos hs
    have hcs := (hT.2 s hs).1
    obtain ⟨t4, t5⟩ := sk_0 hT s2 s3
    rw [if_neg (ncle (by omega) (by omega) hs), kb2_e, if_neg n1I.1, l, if_neg (nI_pos (by omega))]
    unfold m_Ref_takeClause m_Reader_readJunctions
    rw [t5, kb2_e, l]
    by_cases cj : c s = 106
    · have cj' : nI (c s) = (106 : Int32) := by rw [cj]; rfl
      have eS : m_Reader_readSign 106 (nI F) (nI s) 0 (-1) lt = some (nI (s + 1), 0, -1) := by
        unfold m_Reader_readSign m_Reader_readSign_B29
        rw [if_pos p0, t4, kb1_e, lh_i hT (by omega), kb1_e, l, if_pos cj', nI_1]
      obtain ⟨q1, q, fk, fa, fp', v', nm', nt', hq, -, E1, G1, N1⟩ := num_i (lo := 1) (hi := 9) hT (show s + 1 ≤ F by omega) (by omega) (by omega) a3 (-1) num nat
      have E1 : m_Reader_readNumber 1 9 (nI F) (nI (s + 1)) a3 0 (-1) lt = some (v', nI q, nI q1, fk, fa) := E1
      have G1 : m_Ref_takeNumber 1 9 zx (nI F) (-1) (nI (s + 1)) num nat = some (fk, fp', nI q, nm', nt') := G1
      have I1 : m_Ref_takeJunctions zx (nI F) (-1) (nI (s + 1)) num nat 0 = some (fk, fp', nI q, nm', nt', nm') := by
        unfold m_Ref_takeJunctions
        rw [G1, kb5_e]
      unfold m_Ref_takeClause_B36 m_Ref_takeClause_B62 m_Ref_takeClause_B116
      rw [if_pos cj', if_neg n00, if_pos le0, if_pos p0, if_pos le0, if_pos p0, if_pos p0, nI_1, I1, kb6_e, eS, kb3_e, E1, kb5_e]
      unfold m_Ref_takeClause_B168 m_Ref_takeClause_B194 m_Reader_readText_B46
      obtain ⟨na1, nb1⟩ := N1
      rcases nb1 with ⟨a1', a2', a3', a4', a5', J, a6', a7', a8', a9'⟩ | ⟨f1, f2, f3⟩
      · subst a1' a2' a3' a6' a7'
        obtain ⟨t, t1, t2, t3, t4'⟩ := sign_i (s := 59) hT hq (by omega)
        rw [if_pos p0, t3, kb2_e]
        rcases t4' with ⟨z, tF, z2⟩ | ⟨z, z2⟩
        · have z' : ltr F c t = (59 : Int32) := z
          have z2 : m_Reader_readSign 59 (nI F) (nI q) 0 (-1) lt = some (nI (t + 1), 0, -1) := z2
          rw [if_pos z', z2, kb3_e, kb5_e, kb14_e, nI_1]
          exact rt_loop hT a8' a9' F (t + 1) 0 FU 4999 0 0 (nI q1) (nI J) nt' cA cB cH bA bP bW r1 r2 rH rA rP rW (by omega) (by omega) (by omega) (FU_gt (by omega)) (by omega) (hS0 J)
        · have z' : ¬ ltr F c t = (59 : Int32) := z
          have z2 : m_Reader_readSign 59 (nI F) (nI q) 0 (-1) lt = some (nI (t + 1), 1, nI t) := z2
          unfold m_Ref_fails
          rw [if_neg z', z2, kb3_e, kb5_e, kb2_e, kb14_e]
          obtain ⟨pl', hpl⟩ := flt_c (x4 := 0) (na := nI q1) (fa := nI t) (j := nI J) (cu := 0) (bo := 0) (cA := cA) (cB := cB) (cH := cH) (bA := bA) (bP := bP) (bW := bW) (on := on) (oh := oh) hT (show t + 1 < 2 ^ 31 by omega) n1I.1 4999
          have hpl : m_Reader_readText_L49 FU 0 (nI F) (nI (t + 1)) (nI q1) 1 (nI t) lt (nI J) 0 0 cA cB cH bA bP bW on oh = m_Reader_readText_B75 (nI F) pl' (nI q1) 1 (nI t) lt (nI J) 0 0 cA cB cH bA bP bW on oh := hpl
          rw [hpl, flt_r n1I.1 4998]
          exact ⟨pl', _, _, _, _, _, _, _, _, _, _, _, _, _, _, _, _, _, _, _, _, _, _, _, _, _, rfl, rfl, Or.inr ⟨n1I.1, n1I.2, rfl, 0, by omega, rfl⟩⟩
      · subst f3
        rw [if_neg f1, kb14_e, sign_f f1, kb3_e, kb5_e]
        obtain ⟨pl', hpl⟩ := flt_c (x4 := 0) (na := nI q1) (fa := fa) (j := v') (cu := 0) (bo := 0) (cA := cA) (cB := cB) (cH := cH) (bA := bA) (bP := bP) (bW := bW) (on := on) (oh := oh) hT (show q < 2 ^ 31 by omega) f1 4999
        have hpl : m_Reader_readText_L49 FU 0 (nI F) (nI q) (nI q1) fk fa lt v' 0 0 cA cB cH bA bP bW on oh = m_Reader_readText_B75 (nI F) pl' (nI q1) fk fa lt v' 0 0 cA cB cH bA bP bW on oh := hpl
        rw [hpl, flt_r f1 4998]
        exact ⟨pl', _, _, _, _, _, _, _, _, _, _, _, _, _, _, _, _, _, _, _, _, _, _, _, _, _, rfl, rfl, Or.inr ⟨f1, f2, rfl, 0, by omega, rfl⟩⟩
    · have cj' : ¬ nI (c s) = (106 : Int32) := nceq (b := 106) (by omega) (by omega) cj
      have eS : m_Reader_readSign 106 (nI F) (nI s) 0 (-1) lt = some (nI (s + 1), 1, nI s) := by
        unfold m_Reader_readSign m_Reader_readSign_B29
        rw [if_pos p0, t4, kb1_e, lh_i hT (by omega), kb1_e, l, if_neg cj', note_0, kb2_e, nI_1]
      have e36 : ∀ k : Int32, (k < 0 ∨ ¬ k ≤ 0) → m_Ref_takeClause_B36 k zx (nI F) (-1) (nI s) num nat 0 0 r1 r2 rH 0 rA rP rW = some (1, nI s, nI s, num, nat, 0, 0, r1, r2, rH, 0, rA, rP, rW) := by
        intro k hk
        unfold m_Ref_takeClause_B36 m_Ref_takeClause_B52 m_Ref_fails
        rw [kb2_e]
        by_cases q : k < 0
        · rw [if_pos q]
        · rcases hk with hk | hk
          · exact absurd hk q
          · rw [if_neg q, if_neg hk, if_pos p0]
      rw [if_neg cj', e36 1 (Or.inr n1I.2), e36 2 (Or.inr n2I.2), e36 (-1) (Or.inl m10), eS, kb3_e, num_f n1I.1, kb5_e, sign_f n1I.1, kb3_e, kb5_e]
      have ite3 : ∀ (P Q : Prop) [Decidable P] [Decidable Q] (X : Option (Int32 × Int32 × Int32 × Int32 × Int32 × Int32 × Int32 × (Nat → Int32) × (Nat → Int32) × (Nat → Int32) × Int32 × (Nat → Int32) × (Nat → Int32) × (Nat → Int32))), (if P then X else if Q then X else X) = X := by
        intro P Q _ _ X
        by_cases p : P
        · rw [if_pos p]
        · rw [if_neg p]
          by_cases q : Q
          · rw [if_pos q]
          · rw [if_neg q]
      rw [ite3, kb14_e]
      unfold m_Reader_readText_B46
      obtain ⟨pl', hpl⟩ := flt_c (x4 := 0) (na := a3) (fa := nI s) (j := 0) (cu := 0) (bo := 0) (cA := cA) (cB := cB) (cH := cH) (bA := bA) (bP := bP) (bW := bW) (on := on) (oh := oh) hT (show s + 1 < 2 ^ 31 by omega) n1I.1 4999
      have hpl : m_Reader_readText_L49 FU 0 (nI F) (nI (s + 1)) a3 1 (nI s) lt 0 0 0 cA cB cH bA bP bW on oh = m_Reader_readText_B75 (nI F) pl' a3 1 (nI s) lt 0 0 0 cA cB cH bA bP bW on oh := hpl
      rw [hpl, flt_r n1I.1 4998]
      exact ⟨pl', _, _, _, _, _, _, _, _, _, _, _, _, _, _, _, _, _, _, _, _, _, _, _, _, _, rfl, rfl, Or.inr ⟨n1I.1, n1I.2, rfl, 0, by omega, rfl⟩⟩
  · have hs' : s = F := by omega
    subst hs'
    have l : ltr s c s = -1 := if_neg hs
    rw [if_pos (cle (by omega) (by omega) (Nat.le_refl s)), kb2_e, if_pos p0, l, if_pos m10]
    have eC : m_Reader_readText_B46 (nI s) (nI s) a3 0 (-1) lt 0 0 0 cA cB cH bA bP bW on oh = m_Reader_readText_B75 (nI s) (nI s) a3 0 (-1) lt 0 0 0 cA cB cH bA bP bW on oh := by
      show m_Reader_readText_B49 (m_Reader_readText_L49 4999) 0 (nI s) (nI s) a3 0 (-1) lt 0 0 0 cA cB cH bA bP bW on oh = _
      unfold m_Reader_readText_B49 m_Reader_goesOn
      rw [if_neg (by decide), sk_out h0 (Nat.le_refl s) (by omega), kb1_e, if_pos p0, if_pos (cle (by omega) (by omega) (Nat.le_refl s)), kb2_e, if_pos p0]
    rw [eC]
    exact ⟨_, _, _, _, _, _, _, _, _, _, _, _, _, _, _, _, _, _, _, _, _, _, _, _, _, _, rfl, rfl, Or.inl ⟨rfl, rfl, rfl, 0, 0, 0, by omega, rfl, rfl, rfl, rfl, rfl, rfl, hS0 0⟩⟩
