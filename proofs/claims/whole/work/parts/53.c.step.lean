theorem Ship.boat {J B b j f p : Nat} {r n r' n' : Nat → Int32} (hB : B ≤ 5) (h : Ship J B r n) (hb : b < B) (hu : ∀ k : Nat, k ≠ b → k ≠ 5 + b → k ≠ 10 + b → k ≠ 15 + b → r' k = r k ∧ n' k = n k) (hj : j < J) (hf : f ≤ J) (hp : p ≤ 999)
    (a1 : r' b = nI j) (a2 : n' b = nI j) (a3 : r' (5 + b) = om f) (a4 : n' (5 + b) = om f) (a5 : r' (10 + b) = nI p) (a6 : n' (10 + b) = nI p) (a7 : r' (15 + b) = n' (15 + b)) : Ship J B r' n' ∧ r' 20 = r 20 := by
  obtain ⟨h1, S, hS, s1, s2⟩ := h
  have u20 := hu 20 (by omega) (by omega) (by omega) (by omega)
  refine ⟨⟨fun b' hb' => ?_, S, hS, by rw [u20.1]; exact s1, by rw [u20.2]; exact s2⟩, u20.1⟩
  by_cases c : b' = b
  · subst c; exact ⟨j, f, p, hj, hf, hp, a1, a2, a3, a4, a5, a6, a7⟩
  · have v0 := hu b' (by omega) (by omega) (by omega) (by omega)
    have v1 := hu (5 + b') (by omega) (by omega) (by omega) (by omega)
    have v2 := hu (10 + b') (by omega) (by omega) (by omega) (by omega)
    have v3 := hu (15 + b') (by omega) (by omega) (by omega) (by omega)
    rw [v0.1, v0.2, v1.1, v1.2, v2.1, v2.2, v3.1, v3.2]
    exact h1 b' hb'
theorem upd4 (f : Nat → Int32) (a b c d : Nat) (x y z w : Int32) (k : Nat) (h1 : k ≠ a) (h2 : k ≠ b) (h3 : k ≠ c) (h4 : k ≠ d) : upd (upd (upd (upd f a x) b y) c z) d w k = f k := by
  rw [pk_un h4, pk_un h3, pk_un h2, pk_un h1]
/-- one boat goes on, or sits, with both -/
theorem boat_sim {J B b : Nat} {hm : Nat → Nat → Nat} {hard row now on oh bw wears : Nat → Int32} (hJ : J ≤ 9) (hB : B ≤ 5) (hh : HM hard hm) (ht : TB J hm on oh) (hw : ∀ b : Nat, b < B → ∃ w : Nat, w ≤ 99 ∧ bw b = nI w ∧ wears b = nI w) (hS : Ship J B row now) (hb : b < B)
    (K : Int32 → Int32 → (Nat → Int32) → Int32 → (Nat → Int32) → (Nat → Int32) → Int32 → Int32 → Int32 → Option ((Nat → Int32) × Int32 × Int32 × Int32)) (a f p : Int32) :
    ∃ (row' now' : Nat → Int32) (a' f' p' : Int32), m_Fleet_advance (nI b) row (nI B) bw on oh = some row' ∧ m_Ref_stepAll_B2 K (nI b) (nI J) hard (nI B) wears now a f p = K (nI (b + 1)) (nI J) hard (nI B) wears now' a' f' p' ∧ Ship J B row' now' ∧ row' 20 = row 20 := by
  obtain ⟨j, ff, pp, hj, hf, hp, r1, s1, r2, s2, r3, s3, r4⟩ := hS.1 b hb
  obtain ⟨w, hw9, w1, w2⟩ := hw b hb
  have si := issit_i hJ (show b < 5 by omega) hj hf hp hh ht r1 r2 r3
  have c := ncle (a := B) (b := b) (by omega) (by omega) hb
  by_cases e : tgx hm J j ff < pp
  · have tn := tg_tn hp e
    have tl := tnx_le hm J j ff
    have go := ref_go_t (w := w) hJ hj hf hp (by omega) hh e
    have et : om (tnx hm J j ff) = nI (tnx hm J j ff - 1) := by rw [← om_s]; exact congrArg om (by omega)
    have ej : nI j = om (j + 1) := (om_s j).symm
    have g5 : upd (upd row b (om (tnx hm J j ff))) (5 + b) (nI j) (15 + b) = row (15 + b) := by rw [pk_un (by omega), pk_un (by omega)]
    have g10 : upd (upd (upd row b (om (tnx hm J j ff))) (5 + b) (nI j)) (15 + b) (row (15 + b) + 1) (10 + b) = nI pp := by rw [pk_un (by omega), pk_un (by omega), pk_un (by omega), r3]
    have li := lighten_i (b := b) (p := pp) (k := w) (by omega) g10 (by omega) (by omega)
    have adv : m_Fleet_advance (nI b) row (nI B) bw on oh = some (upd (upd (upd (upd row b (om (tnx hm J j ff))) (5 + b) (nI j)) (15 + b) (row (15 + b) + 1)) (10 + b) (nI (pp - w))) := by
      unfold m_Fleet_advance
      rw [si, kb1_e, if_pos e, if_pos p0, fl_at (by omega), kb1_e, fl_from (by omega), kb1_e, r1, r2, goes_i (by omega) (by omega), kb1_e, (ht j ff hj hf).1, fl_put0 (by omega), kb1_e, fl_put5 (by omega), kb1_e, fl_went (by omega), kb1_e, g5, fl_put15 (by omega), kb1_e, wearOf_i hB hb, kb1_e, w1, li, kb1_e]
    have stp : m_Ref_stepAll_B2 K (nI b) (nI J) hard (nI B) wears now a f p = K (nI (b + 1)) (nI J) hard (nI B) wears (upd (upd (upd (upd now (15 + b) (now (15 + b) + 1)) b (nI (tnx hm J j ff - 1))) (5 + b) (om (j + 1))) (10 + b) (nI (pp - w))) (nI (tnx hm J j ff - 1)) (om (j + 1)) (nI (pp - w)) := by
      unfold m_Ref_stepAll_B2 m_Ref_stepAll_B43
      rw [if_neg c, board_i (by omega), kb3_e, la15, kg_i (by omega) (by omega), kg_i (by omega) (by omega), nI_clamp (by omega), nI_clamp (by omega), w2, s1, s2, s3, go, kb4_e, if_neg n1, kg_i (by omega) (by omega), kg_i (by omega) (by omega), la5, kg_i (by omega) (by omega), la10, kg_i (by omega) (by omega), nI_clamp (by omega), nI_clamp (by omega), nI_1]
    refine ⟨_, _, _, _, _, adv, stp, hS.boat hB hb (fun k h1 h2 h3 h4 => ⟨upd4 _ _ _ _ _ _ _ _ _ k h1 h2 h4 h3, upd4 _ _ _ _ _ _ _ _ _ k h4 h1 h2 h3⟩) (j := tnx hm J j ff - 1) (f := j + 1) (p := pp - w) (by omega) (by omega) (by omega) ?_ ?_ ?_ ?_ pk_us pk_us ?_⟩
    · rw [pk_un (by omega), pk_un (by omega), pk_un (by omega), pk_us, et]
    · rw [pk_un (by omega), pk_un (by omega), pk_us]
    · rw [pk_un (by omega), pk_un (by omega), pk_us, ej]
    · rw [pk_un (by omega), pk_us]
    · rw [pk_un (by omega), pk_us, pk_un (by omega), pk_un (by omega), pk_un (by omega), pk_us, r4]
  · have go := ref_go_f (w := w) hJ hj hf hp hh e
    have adv : m_Fleet_advance (nI b) row (nI B) bw on oh = some row := by
      unfold m_Fleet_advance
      rw [si, kb1_e, if_neg e, if_neg n1]
    have stp : m_Ref_stepAll_B2 K (nI b) (nI J) hard (nI B) wears now a f p = K (nI (b + 1)) (nI J) hard (nI B) wears (upd (upd (upd (upd now (15 + b) (now (15 + b) + 0)) b (nI j)) (5 + b) (om ff)) (10 + b) (nI pp)) (nI j) (om ff) (nI pp) := by
      unfold m_Ref_stepAll_B2 m_Ref_stepAll_B43
      rw [if_neg c, board_i (by omega), kb3_e, la15, kg_i (by omega) (by omega), kg_i (by omega) (by omega), nI_clamp (by omega), nI_clamp (by omega), w2, s1, s2, s3, go, kb4_e, if_pos p0, kg_i (by omega) (by omega), kg_i (by omega) (by omega), la5, kg_i (by omega) (by omega), la10, kg_i (by omega) (by omega), nI_clamp (by omega), nI_clamp (by omega), nI_1]
    refine ⟨_, _, _, _, _, adv, stp, hS.boat hB hb (fun k h1 h2 h3 h4 => ⟨rfl, upd4 _ _ _ _ _ _ _ _ _ k h4 h1 h2 h3⟩) hj hf hp r1 ?_ r2 ?_ r3 pk_us ?_⟩
    · rw [pk_un (by omega), pk_un (by omega), pk_us]
    · rw [pk_un (by omega), pk_us]
    · rw [pk_un (by omega), pk_un (by omega), pk_un (by omega), pk_us, r4, Int32.add_zero]
theorem all_loop {J B : Nat} {hm : Nat → Nat → Nat} {hard on oh bw wears : Nat → Int32} (hJ : J ≤ 9) (hB : B ≤ 5) (hh : HM hard hm) (ht : TB J hm on oh) (hw : ∀ b : Nat, b < B → ∃ w : Nat, w ≤ 99 ∧ bw b = nI w ∧ wears b = nI w) :
    ∀ (d k f1 f2 S : Nat) (row now : Nat → Int32) (a f p : Int32), k + d = B → d < f1 → d < f2 → Ship J B row now → row 20 = nI S → S < 9060 → ∃ (row' now' : Nat → Int32) (a' f' p' : Int32), m_Fleet_advanceAll_L2 f1 (nI k) row (nI B) bw on oh = some row' ∧ m_Ref_stepAll_L2 f2 (nI k) (nI J) hard (nI B) wears now a f p = some (now', a', f', p') ∧ Ship J B row' now' ∧ row' 20 = nI (S + 1) := by
  intro d
  induction d with
  | zero =>
    intro k f1 f2 S row now a f p hk h1 h2 hS hs hS9
    obtain ⟨g1, rfl, -⟩ := fuS h1
    obtain ⟨g2, rfl, -⟩ := fuS h2
    have c := cle (a := B) (b := k) (by omega) (by omega) (by omega)
    obtain ⟨hb, S', hS', s1, s2⟩ := hS
    have eS : S = S' := (nI_eq (by omega) (by omega)).mp (hs.symm.trans s1)
    subst eS
    refine ⟨upd row 20 (nI (S + 1)), upd now 20 (nI (S + 1)), a, f, p, ?_, ?_, ⟨fun b hb' => ?_, S + 1, by omega, pk_us, pk_us⟩, pk_us⟩
    · show m_Fleet_advanceAll_B2 (m_Fleet_advanceAll_L2 g1) (nI k) row (nI B) bw on oh = _
      unfold m_Fleet_advanceAll_B2 m_Fleet_advanceAll_B22
      rw [if_pos c, kg20, kg20, c20N, s1, nI_1]
    · show m_Ref_stepAll_B2 (m_Ref_stepAll_L2 g2) (nI k) (nI J) hard (nI B) wears now a f p = _
      unfold m_Ref_stepAll_B2 m_Ref_stepAll_B86
      rw [if_pos c, kg20, kg20, c20N, s2, nI_1]
    · rw [pk_un (by omega), pk_un (by omega), pk_un (by omega), pk_un (by omega), pk_un (by omega), pk_un (by omega), pk_un (by omega), pk_un (by omega)]
      exact hb b hb'
  | succ d ih =>
    intro k f1 f2 S row now a f p hk h1 h2 hS hs hS9
    obtain ⟨g1, rfl, q1⟩ := fuS h1
    obtain ⟨g2, rfl, q2⟩ := fuS h2
    have c := ncle (a := B) (b := k) (by omega) (by omega) (by omega)
    obtain ⟨row1, now1, a1, f1', p1, b1, b2, hS1, hs1⟩ := boat_sim hJ hB hh ht hw hS (show k < B by omega) (m_Ref_stepAll_L2 g2) a f p
    obtain ⟨row', now', a', f', p', i1, i2, i3, i4⟩ := ih (k + 1) g1 g2 S row1 now1 a1 f1' p1 (by omega) (by omega) (by omega) hS1 (hs1.trans hs) hS9
    refine ⟨row', now', a', f', p', ?_, ?_, i3, i4⟩
    · show m_Fleet_advanceAll_B2 (m_Fleet_advanceAll_L2 g1) (nI k) row (nI B) bw on oh = _
      unfold m_Fleet_advanceAll_B2
      rw [if_neg c, b1, kb1_e, nI_1]; exact i1
    · show m_Ref_stepAll_B2 (m_Ref_stepAll_L2 g2) (nI k) (nI J) hard (nI B) wears now a f p = _
      rw [b2]; exact i2
theorem all_sim {J B S : Nat} {hm : Nat → Nat → Nat} {hard on oh bw wears row now : Nat → Int32} (hJ : J ≤ 9) (hB : B ≤ 5) (hh : HM hard hm) (ht : TB J hm on oh) (hw : ∀ b : Nat, b < B → ∃ w : Nat, w ≤ 99 ∧ bw b = nI w ∧ wears b = nI w) (hS : Ship J B row now) (hs : row 20 = nI S) (hS9 : S < 9060) (a f p : Int32) :
    ∃ (row' now' : Nat → Int32) (a' f' p' : Int32), m_Fleet_advanceAll row (nI B) bw on oh = some row' ∧ m_Ref_stepAll (nI J) hard (nI B) wears now a f p = some (now', a', f', p') ∧ Ship J B row' now' ∧ row' 20 = nI (S + 1) :=
  all_loop hJ hB hh ht hw B 0 FU FU S row now a f p (by omega) (FU_gt (by omega)) (FU_gt (by omega)) hS hs hS9
theorem step_loop {J B N : Nat} {hm : Nat → Nat → Nat} {hard on oh bw wears : Nat → Int32} (hJ : J ≤ 9) (hB : B ≤ 5) (hh : HM hard hm) (ht : TB J hm on oh) (hw : ∀ b : Nat, b < B → ∃ w : Nat, w ≤ 99 ∧ bw b = nI w ∧ wears b = nI w) (nx ct sl : Int32) (rows : Nat → Int32) (un : Int32) (past : Nat → Int32) (hN : N ≤ 60) :
    ∀ (d k f1 f2 S : Nat) (row now : Nat → Int32) (a f p : Int32), k + d = N → d < f1 → d < f2 → Ship J B row now → row 20 = nI S → S + d ≤ 9060 → ∃ (r : Int32) (row' now' : Nat → Int32) (a' f' p' : Int32), m_Tb_step_L25 f1 (nI N) (nI k) (nI J) (nI B) bw on oh row nx ct sl rows = some (r, row', nx, ct, rows) ∧ m_Ref_step_L18 f2 (nI N) (nI k) (nI J) hard (nI B) wears now a f p un past = some (r, now', a', f', p', un, past) ∧ Ship J B row' now' := by
  intro d
  induction d with
  | zero =>
    intro k f1 f2 S row now a f p hk h1 h2 hS hs hS9
    obtain ⟨g1, rfl, -⟩ := fuS h1
    obtain ⟨g2, rfl, -⟩ := fuS h2
    have c := cle (a := N) (b := k) (by omega) (by omega) (by omega)
    obtain ⟨r, a', f', p', s1, s2⟩ := sitting_sim hJ hB hh ht hS a f p
    refine ⟨r, row, now, a', f', p', ?_, ?_, hS⟩
    · show m_Tb_step_B25 (m_Tb_step_L25 g1) (nI N) (nI k) (nI J) (nI B) bw on oh row nx ct sl rows = _
      unfold m_Tb_step_B25 m_Tb_step_B47
      rw [if_pos c, s1, kb1_e]
    · show m_Ref_step_B18 (m_Ref_step_L18 g2) (nI N) (nI k) (nI J) hard (nI B) wears now a f p un past = _
      unfold m_Ref_step_B18 m_Ref_step_B33
      rw [if_pos c, s2, kb4_e]
  | succ d ih =>
    intro k f1 f2 S row now a f p hk h1 h2 hS hs hS9
    obtain ⟨g1, rfl, q1⟩ := fuS h1
    obtain ⟨g2, rfl, q2⟩ := fuS h2
    have c := ncle (a := N) (b := k) (by omega) (by omega) (by omega)
    obtain ⟨row1, now1, a1, f1', p1, b1, b2, hS1, hs1⟩ := all_sim hJ hB hh ht hw hS hs (by omega) a f p
    obtain ⟨r, row', now', a', f', p', i1, i2, i3⟩ := ih (k + 1) g1 g2 (S + 1) row1 now1 a1 f1' p1 (by omega) (by omega) (by omega) hS1 hs1 (by omega)
    refine ⟨r, row', now', a', f', p', ?_, ?_, i3⟩
    · show m_Tb_step_B25 (m_Tb_step_L25 g1) (nI N) (nI k) (nI J) (nI B) bw on oh row nx ct sl rows = _
      unfold m_Tb_step_B25
      rw [if_neg c, b1, kb1_e, nI_1]; exact i1
    · show m_Ref_step_B18 (m_Ref_step_L18 g2) (nI N) (nI k) (nI J) hard (nI B) wears now a f p un past = _
      unfold m_Ref_step_B18
      rw [if_neg c, b2, kb4_e, nI_1]; exact i2
/-- the refusal that both share -/
theorem refuse_sim {J S : Nat} {row now : Nat → Int32} (y : Int32) (hJ : J ≤ 9) (r : row 20 = nI S) (n : now 20 = nI S) (hS : S ≤ 9060) :
    (∃ q : Int32, ¬ q = 0 ∧ m_Tb_refusalToGo y (nI J) row = some q ∧ m_Ref_stepsRefused y (nI J) now = some q) ∨ (m_Tb_refusalToGo y (nI J) row = some 0 ∧ m_Ref_stepsRefused y (nI J) now = some 0 ∧ S ≤ 9000 ∧ ∃ N : Nat, N ≤ 60 ∧ y = nI N) := by
  unfold m_Tb_refusalToGo m_Ref_stepsRefused
  by_cases ct : 1 ≤ y.toInt ∧ y.toInt ≤ 60
  · have a1 : m_Ref_in y.toInt64 1 60 = some 1 := inN_t (a := 1) (b := 60) (by omega) (by omega) ct.1 ct.2
    have b1 : ¬ y < 1 := fun q => by have := (lt_n (n := 1) (by omega)).mp q; omega
    have b2 : y ≤ 60 := (le_n (n := 60) (by omega)).mpr ct.2
    obtain ⟨N, hN, rfl⟩ := i32_N (n := 60) (by omega) (by omega) ct.2
    rw [a1, kb1_e, if_neg n1, if_neg b1, if_pos b2, stepsGone_i, kb1_e, kg20, c20N, r, n]
    by_cases cJ : nI J = 0
    · rw [if_pos cJ]; exact Or.inl ⟨_, by decide, rfl, rfl⟩
    · rw [if_neg cJ]
      by_cases cS : S ≤ 9000
      · have c9 : nI S ≤ (9000 : Int32) := cle (b := 9000) (by omega) (by omega) cS
        rw [if_pos c9]; exact Or.inr ⟨rfl, rfl, cS, N, hN, rfl⟩
      · have c9 : ¬ nI S ≤ (9000 : Int32) := ncle (b := 9000) (by omega) (by omega) (by omega)
        rw [if_neg c9]; exact Or.inl ⟨_, by decide, rfl, rfl⟩
  · have a1 : m_Ref_in y.toInt64 1 60 = some 0 := inN_f (a := 1) (b := 60) (by omega) (by omega) ct
    rw [a1, kb1_e, if_pos p0]
    by_cases b1 : y < 1
    · rw [if_pos b1]; exact Or.inl ⟨_, by decide, rfl, rfl⟩
    · have g1 : (1 : Int) ≤ y.toInt := by
        rcases Int.lt_or_le y.toInt 1 with q | q
        · exact absurd ((lt_n (n := 1) (by omega)).mpr q) b1
        · exact q
      have b2 : ¬ y ≤ 60 := fun q => ct ⟨g1, (le_n (n := 60) (by omega)).mp q⟩
      rw [if_neg b1, if_neg b2]; exact Or.inl ⟨_, by decide, rfl, rfl⟩
theorem sim_step (t_lettersFed : Int32) (t_faultAt : Int32) (t_letters : Nat → Int32) (t_quays : Nat → Int32) (t_here_junctions : Int32) (t_here_cuts : Int32) (t_here_boats : Int32) (t_here_cutA : Nat → Int32) (t_here_cutB : Nat → Int32) (t_here_cutHard : Nat → Int32) (t_here_boatWear : Nat → Int32) (t_here_onward : Nat → Int32) (t_here_onwardHard : Nat → Int32) (t_fleet_row : Nat → Int32) (t_past_next : Int32) (t_past_count : Int32) (t_past_shelf_slots : Int32) (t_past_shelf_rows : Nat → Int32) (t_images_shelf_slots : Int32) (t_images_shelf_rows : Nat → Int32) (t_images_seeds : Nat → Int32) (t_images_kept : Nat → Int32) (t_draws_value : Int32) (t_seen_most : Int32) (t_seen_count : Int32) (t_seen_boats : Nat → Int32) (t_seen_steps : Nat → Int32) (t_seen_junctions : Nat → Int32) (t_book_most : Int32) (t_book_count : Int32) (t_book_boats : Nat → Int32) (t_book_steps : Nat → Int32) (t_book_junctions : Nat → Int32) (z_junctions : Int32) (z_cuts : Int32) (z_cutOne : Nat → Int32) (z_cutOther : Nat → Int32) (z_cutHard : Nat → Int32) (z_hard : Nat → Int32) (z_boats : Int32) (z_wears : Nat → Int32) (z_quays : Nat → Int32) (z_now : Nat → Int32) (z_seed : Int32) (z_text : Nat → Int32) (z_texted : Int32) (z_faultPlace : Int32) (z_undos : Int32) (z_past : Nat → Int32) (z_seen : Int32) (z_seenOf : Nat → Int32) (z_seenBehind : Nat → Int32) (z_seenAt : Nat → Int32) (z_booked : Int32) (z_bookOf : Nat → Int32) (z_bookAt : Nat → Int32) (z_images : Nat → Int32) (z_isKept : Nat → Int32) (z_at : Int32) (z_from : Int32) (z_pull : Int32) (y1 : Int32) (h : Rel t_lettersFed t_faultAt t_letters t_quays t_here_junctions t_here_cuts t_here_boats t_here_cutA t_here_cutB t_here_cutHard t_here_boatWear t_here_onward t_here_onwardHard t_fleet_row t_past_next t_past_count t_past_shelf_slots t_past_shelf_rows t_images_shelf_slots t_images_shelf_rows t_images_seeds t_images_kept t_draws_value t_seen_most t_seen_count t_seen_boats t_seen_steps t_seen_junctions t_book_most t_book_count t_book_boats t_book_steps t_book_junctions z_junctions z_cuts z_cutOne z_cutOther z_cutHard z_hard z_boats z_wears z_quays z_now z_seed z_text z_texted z_faultPlace z_undos z_past z_seen z_seenOf z_seenBehind z_seenAt z_booked z_bookOf z_bookAt z_images z_isKept) : ∃ (r : Int32) (o_t_fleet_row : Nat → Int32) (o_t_past_next : Int32) (o_t_past_count : Int32) (o_t_past_shelf_rows : Nat → Int32) (o_z_now : Nat → Int32) (o_z_at : Int32) (o_z_from : Int32) (o_z_pull : Int32) (o_z_undos : Int32) (o_z_past : Nat → Int32), m_Tb_step y1 t_here_junctions t_here_boats t_here_boatWear t_here_onward t_here_onwardHard t_fleet_row t_past_next t_past_count t_past_shelf_slots t_past_shelf_rows = some (r, o_t_fleet_row, o_t_past_next, o_t_past_count, o_t_past_shelf_rows) ∧ m_Ref_step y1 z_junctions z_hard z_boats z_wears z_now z_at z_from z_pull z_undos z_past = some (r, o_z_now, o_z_at, o_z_from, o_z_pull, o_z_undos, o_z_past) ∧ Rel t_lettersFed t_faultAt t_letters t_quays t_here_junctions t_here_cuts t_here_boats t_here_cutA t_here_cutB t_here_cutHard t_here_boatWear t_here_onward t_here_onwardHard o_t_fleet_row o_t_past_next o_t_past_count t_past_shelf_slots o_t_past_shelf_rows t_images_shelf_slots t_images_shelf_rows t_images_seeds t_images_kept t_draws_value t_seen_most t_seen_count t_seen_boats t_seen_steps t_seen_junctions t_book_most t_book_count t_book_boats t_book_steps t_book_junctions z_junctions z_cuts z_cutOne z_cutOther z_cutHard z_hard z_boats z_wears z_quays o_z_now z_seed z_text z_texted z_faultPlace o_z_undos o_z_past z_seen z_seenOf z_seenBehind z_seenAt z_booked z_bookOf z_bookAt z_images z_isKept := by
  have h' := h
  obtain ⟨hT, J, C, B, hm, hW, hS, hQ, hP, hrest⟩ := h
  have hW' := hW
  obtain ⟨⟨hJ, hC, hB⟩, ⟨e1, e2, e3, e4, e5, e6⟩, hc, hw, hh, ht, -⟩ := hW
  subst e1 e2 e5 e6
  obtain ⟨S, hS9, u1, u2⟩ := hS.2
  unfold m_Tb_step m_Ref_step
  rcases refuse_sim y1 hJ u1 u2 hS9 with ⟨q, hq, a1, a2⟩ | ⟨a1, a2, hS0, N, hN, rfl⟩
  · rw [a1, a2, kb1_e, kb1_e, if_neg hq, if_neg hq]
    exact ⟨_, _, _, _, _, _, _, _, _, _, _, rfl, rfl, h'⟩
  · obtain ⟨o1, o2, o3, o4, o5, q1, q2, hP'⟩ := remember_sim hB hP hS
    obtain ⟨r, row', now', a', f', p', i1, i2, i3⟩ := step_loop hJ hB hh ht hw o1 o2 t_past_shelf_slots o3 o4 o5 hN N 0 FU FU S t_fleet_row z_now z_at z_from z_pull (by omega) (FU_gt (by omega)) (FU_gt (by omega)) hS u1 (by omega)
    have i1' : m_Tb_step_L25 FU (nI N) 0 (nI J) (nI B) t_here_boatWear t_here_onward t_here_onwardHard t_fleet_row o1 o2 t_past_shelf_slots o3 = _ := i1
    have i2' : m_Ref_step_L18 FU (nI N) 0 (nI J) z_hard (nI B) z_wears z_now z_at z_from z_pull o4 o5 = _ := i2
    rw [a1, a2, kb1_e, kb1_e, if_pos p0, if_pos p0, q1, q2, kb3_e, kb2_e, i1', i2']
    refine ⟨_, _, _, _, _, _, _, _, _, _, _, rfl, rfl, ?_⟩
    unfold Rel
    exact ⟨hT, J, C, B, hm, hW', i3, hQ, hP', hrest⟩
