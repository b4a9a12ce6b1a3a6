/-- the class's tables tell the same -/
def TB (J : Nat) (hm : Nat → Nat → Nat) (on oh : Nat → Int32) : Prop := ∀ j f : Nat, j < J → f ≤ J → on (10 * j + f) = om (tnx hm J j f) ∧ oh (10 * j + f) = nI (tgx hm J j f)
theorem issit_i {J b j f p : Nat} {hm : Nat → Nat → Nat} {hard row on oh : Nat → Int32} (hJ : J ≤ 9) (hb : b < 5) (hj : j < J) (hf : f ≤ J) (hp : p ≤ 999) (hh : HM hard hm) (ht : TB J hm on oh) (r1 : row b = nI j) (r2 : row (5 + b) = om f) (r3 : row (10 + b) = nI p) :
    m_Fleet_isSitting (nI b) row oh = some (if tgx hm J j f < p then 0 else 1) := by
  have g := tgx_le (f := f) hJ hj hh
  unfold m_Fleet_isSitting
  rw [fl_pull hb, kb1_e, fl_at hb, kb1_e, fl_from hb, kb1_e, r1, r2, r3, hard_i (by omega) (by omega), kb1_e, (ht j f hj hf).2]
  by_cases c : tgx hm J j f < p
  · rw [if_pos c, if_pos (clt (by omega) (by omega) c)]
  · rw [if_neg c, if_neg (nclt (by omega) (by omega) (by omega))]
theorem board_i {b : Nat} {now : Nat → Int32} {a f p : Int32} (hb : b < 5) : m_Ref_board (nI b) now a f p = some (now b, now (5 + b), now (10 + b)) := by
  unfold m_Ref_board
  rw [kg_i (by omega) (by omega), la5, kg_i (by omega) (by omega), la10, kg_i (by omega) (by omega), nI_clamp (by omega), nI_clamp (by omega), nI_clamp (by omega)]
/-- who sits: both sets -/
theorem sit_loop {J B : Nat} {hm : Nat → Nat → Nat} {hard row now on oh : Nat → Int32} (hJ : J ≤ 9) (hB : B ≤ 5) (hh : HM hard hm) (ht : TB J hm on oh) (hS : Ship J B row now) :
    ∀ (d k f1 f2 : Nat) (x a f p : Int32), k + d = B → d < f1 → d < f2 → ∃ r a' f' p' : Int32, m_Fleet_sitting_L4 f1 x (nI k) row (nI B) oh = some r ∧ m_Ref_sitting_L4 f2 x (nI k) (nI J) hard (nI B) now a f p = some (r, a', f', p') := by
  intro d
  induction d with
  | zero =>
    intro k f1 f2 x a f p hk h1 h2
    obtain ⟨g1, rfl, -⟩ := fuS h1
    obtain ⟨g2, rfl, -⟩ := fuS h2
    have c := cle (a := B) (b := k) (by omega) (by omega) (by omega)
    refine ⟨x, a, f, p, ?_, ?_⟩
    · show m_Fleet_sitting_B4 (m_Fleet_sitting_L4 g1) x (nI k) row (nI B) oh = _
      unfold m_Fleet_sitting_B4; rw [if_pos c]
    · show m_Ref_sitting_B4 (m_Ref_sitting_L4 g2) x (nI k) (nI J) hard (nI B) now a f p = _
      unfold m_Ref_sitting_B4; rw [if_pos c]
  | succ d ih =>
    intro k f1 f2 x a f p hk h1 h2
    obtain ⟨g1, rfl, q1⟩ := fuS h1
    obtain ⟨g2, rfl, q2⟩ := fuS h2
    have c := ncle (a := B) (b := k) (by omega) (by omega) (by omega)
    obtain ⟨j, ff, pp, hj, hf, hp, r1, s1, r2, s2, r3, s3, -⟩ := hS.1 k (by omega)
    have si := issit_i hJ (by omega) hj hf hp hh ht r1 r2 r3
    have gt := ref_goesTo hJ hj hf hp hh
    by_cases e : tgx hm J j ff < pp
    · obtain ⟨r, a', f', p', i1, i2⟩ := ih (k + 1) g1 g2 x (nI j) (om ff) (nI pp) (by omega) (by omega) (by omega)
      have tn := tg_tn hp e
      have tl := tnx_le hm J j ff
      refine ⟨r, a', f', p', ?_, ?_⟩
      · show m_Fleet_sitting_B4 (m_Fleet_sitting_L4 g1) x (nI k) row (nI B) oh = _
        unfold m_Fleet_sitting_B4 m_Fleet_sitting_B27
        rw [if_neg c, si, kb1_e, if_pos e, if_pos p0, nI_1]; exact i1
      · show m_Ref_sitting_B4 (m_Ref_sitting_L4 g2) x (nI k) (nI J) hard (nI B) now a f p = _
        unfold m_Ref_sitting_B4 m_Ref_sitting_B32
        rw [if_neg c, board_i (by omega), kb3_e, s1, s2, s3, gt, kb1_e, if_pos e, if_pos ((om_ge0 (by omega)).mpr tn), nI_1, Int32.or_zero]; exact i2
    · obtain ⟨r, a', f', p', i1, i2⟩ := ih (k + 1) g1 g2 (x ||| (1 <<< (nI k &&& 31))) (nI j) (om ff) (nI pp) (by omega) (by omega) (by omega)
      refine ⟨r, a', f', p', ?_, ?_⟩
      · show m_Fleet_sitting_B4 (m_Fleet_sitting_L4 g1) x (nI k) row (nI B) oh = _
        unfold m_Fleet_sitting_B4 m_Fleet_sitting_B27
        rw [if_neg c, si, kb1_e, if_neg e, if_neg n1, nI_1]; exact i1
      · show m_Ref_sitting_B4 (m_Ref_sitting_L4 g2) x (nI k) (nI J) hard (nI B) now a f p = _
        unfold m_Ref_sitting_B4 m_Ref_sitting_B32
        rw [if_neg c, board_i (by omega), kb3_e, s1, s2, s3, gt, kb1_e, if_neg e, if_neg (by rw [om_ge0 (by omega)]; omega), nI_1]; exact i2
theorem sitting_sim {J B : Nat} {hm : Nat → Nat → Nat} {hard row now on oh : Nat → Int32} (hJ : J ≤ 9) (hB : B ≤ 5) (hh : HM hard hm) (ht : TB J hm on oh) (hS : Ship J B row now) (a f p : Int32) :
    ∃ r a' f' p' : Int32, m_Fleet_sitting row (nI B) oh = some r ∧ m_Ref_sitting (nI J) hard (nI B) now a f p = some (r, a', f', p') :=
  sit_loop hJ hB hh ht hS B 0 FU FU 0 a f p (by omega) (FU_gt (by omega)) (FU_gt (by omega))
theorem place_loop {J B : Nat} {row now : Nat → Int32} (hB : B ≤ 5) (hS : Ship J B row now) :
    ∀ (d k f1 f2 : Nat) (x : Int32), k + d = B → d < f1 → d < f2 → ∃ r : Int32, m_Fleet_places_L4 f1 x (nI k) row (nI B) = some r ∧ m_Ref_taken_L4 f2 x (nI k) (nI B) now = some r := by
  intro d
  induction d with
  | zero =>
    intro k f1 f2 x hk h1 h2
    obtain ⟨g1, rfl, -⟩ := fuS h1
    obtain ⟨g2, rfl, -⟩ := fuS h2
    have c := cle (a := B) (b := k) (by omega) (by omega) (by omega)
    refine ⟨x, ?_, ?_⟩
    · show m_Fleet_places_B4 (m_Fleet_places_L4 g1) x (nI k) row (nI B) = _
      unfold m_Fleet_places_B4; rw [if_pos c]
    · show m_Ref_taken_B4 (m_Ref_taken_L4 g2) x (nI k) (nI B) now = _
      unfold m_Ref_taken_B4; rw [if_pos c]
  | succ d ih =>
    intro k f1 f2 x hk h1 h2
    obtain ⟨g1, rfl, q1⟩ := fuS h1
    obtain ⟨g2, rfl, q2⟩ := fuS h2
    have c := ncle (a := B) (b := k) (by omega) (by omega) (by omega)
    obtain ⟨j, ff, pp, hj, hf, hp, r1, s1, -⟩ := hS.1 k (by omega)
    obtain ⟨r, i1, i2⟩ := ih (k + 1) g1 g2 (x ||| (1 <<< (nI j &&& 31))) (by omega) (by omega) (by omega)
    refine ⟨r, ?_, ?_⟩
    · show m_Fleet_places_B4 (m_Fleet_places_L4 g1) x (nI k) row (nI B) = _
      unfold m_Fleet_places_B4
      rw [if_neg c, fl_at (by omega), kb1_e, r1, nI_1]; exact i1
    · show m_Ref_taken_B4 (m_Ref_taken_L4 g2) x (nI k) (nI B) now = _
      unfold m_Ref_taken_B4
      rw [if_neg c, kg_i (by omega) (by omega), nI_clamp (by omega), s1, nI_1]; exact i2
theorem c20N : (20 : Int32).toNatClampNeg = 20 := by decide
theorem kg20 {α : Type} {K : Option α} : kg 20 21 K = K := kg_i (k := 20) (by omega) (by omega)
theorem stepsGone_i (row : Nat → Int32) : m_Fleet_stepsGone row = some (row 20) := by
  unfold m_Fleet_stepsGone
  rw [kg20, c20N]
theorem sim_told (t_lettersFed : Int32) (t_faultAt : Int32) (t_letters : Nat → Int32) (t_quays : Nat → Int32) (t_here_junctions : Int32) (t_here_cuts : Int32) (t_here_boats : Int32) (t_here_cutA : Nat → Int32) (t_here_cutB : Nat → Int32) (t_here_cutHard : Nat → Int32) (t_here_boatWear : Nat → Int32) (t_here_onward : Nat → Int32) (t_here_onwardHard : Nat → Int32) (t_fleet_row : Nat → Int32) (t_past_next : Int32) (t_past_count : Int32) (t_past_shelf_slots : Int32) (t_past_shelf_rows : Nat → Int32) (t_images_shelf_slots : Int32) (t_images_shelf_rows : Nat → Int32) (t_images_seeds : Nat → Int32) (t_images_kept : Nat → Int32) (t_draws_value : Int32) (t_seen_most : Int32) (t_seen_count : Int32) (t_seen_boats : Nat → Int32) (t_seen_steps : Nat → Int32) (t_seen_junctions : Nat → Int32) (t_book_most : Int32) (t_book_count : Int32) (t_book_boats : Nat → Int32) (t_book_steps : Nat → Int32) (t_book_junctions : Nat → Int32) (z_junctions : Int32) (z_cuts : Int32) (z_cutOne : Nat → Int32) (z_cutOther : Nat → Int32) (z_cutHard : Nat → Int32) (z_hard : Nat → Int32) (z_boats : Int32) (z_wears : Nat → Int32) (z_quays : Nat → Int32) (z_now : Nat → Int32) (z_seed : Int32) (z_text : Nat → Int32) (z_texted : Int32) (z_faultPlace : Int32) (z_undos : Int32) (z_past : Nat → Int32) (z_seen : Int32) (z_seenOf : Nat → Int32) (z_seenBehind : Nat → Int32) (z_seenAt : Nat → Int32) (z_booked : Int32) (z_bookOf : Nat → Int32) (z_bookAt : Nat → Int32) (z_images : Nat → Int32) (z_isKept : Nat → Int32) (z_at : Int32) (z_from : Int32) (z_pull : Int32) (y1 : Int32) (h : Rel t_lettersFed t_faultAt t_letters t_quays t_here_junctions t_here_cuts t_here_boats t_here_cutA t_here_cutB t_here_cutHard t_here_boatWear t_here_onward t_here_onwardHard t_fleet_row t_past_next t_past_count t_past_shelf_slots t_past_shelf_rows t_images_shelf_slots t_images_shelf_rows t_images_seeds t_images_kept t_draws_value t_seen_most t_seen_count t_seen_boats t_seen_steps t_seen_junctions t_book_most t_book_count t_book_boats t_book_steps t_book_junctions z_junctions z_cuts z_cutOne z_cutOther z_cutHard z_hard z_boats z_wears z_quays z_now z_seed z_text z_texted z_faultPlace z_undos z_past z_seen z_seenOf z_seenBehind z_seenAt z_booked z_bookOf z_bookAt z_images z_isKept) : ∃ (r : Int32) (o_z_at : Int32) (o_z_from : Int32) (o_z_pull : Int32), m_Tb_told y1 t_lettersFed t_here_junctions t_here_cuts t_here_boats t_here_onwardHard t_fleet_row t_past_count t_seen_count t_book_count = some (r) ∧ m_Ref_told y1 z_junctions z_cuts z_hard z_boats z_now z_texted z_at z_from z_pull z_undos z_seen z_booked = some (r, o_z_at, o_z_from, o_z_pull) ∧ Rel t_lettersFed t_faultAt t_letters t_quays t_here_junctions t_here_cuts t_here_boats t_here_cutA t_here_cutB t_here_cutHard t_here_boatWear t_here_onward t_here_onwardHard t_fleet_row t_past_next t_past_count t_past_shelf_slots t_past_shelf_rows t_images_shelf_slots t_images_shelf_rows t_images_seeds t_images_kept t_draws_value t_seen_most t_seen_count t_seen_boats t_seen_steps t_seen_junctions t_book_most t_book_count t_book_boats t_book_steps t_book_junctions z_junctions z_cuts z_cutOne z_cutOther z_cutHard z_hard z_boats z_wears z_quays z_now z_seed z_text z_texted z_faultPlace z_undos z_past z_seen z_seenOf z_seenBehind z_seenAt z_booked z_bookOf z_bookAt z_images z_isKept := by
  have h' := h
  obtain ⟨⟨hf, F, hF, f1, f2, -⟩, J, C, B, hm, ⟨⟨hJ, hC, hB⟩, ⟨e1, e2, e3, e4, e5, e6⟩, hc, hw, hh, ht, -⟩, hS, hQ, ⟨-, x, n, hx, hn, -, g1, g2, -⟩, hI, hD, ⟨-, n2, hn2, g3, g4, -⟩, ⟨-, n3, hn3, g5, g6, -⟩⟩ := h
  subst e1 e2 e3 e4 e5 e6 f1 f2 g1 g2 g3 g4 g5 g6
  obtain ⟨r1, a', f', p', s1, s2⟩ := sitting_sim hJ hB hh ht hS z_at z_from z_pull
  obtain ⟨r2, t1, t2⟩ := place_loop hB hS B 0 FU FU 0 (by omega) (FU_gt (by omega)) (FU_gt (by omega))
  obtain ⟨S, -, u1, u2⟩ := hS.2
  have t1' : m_Fleet_places t_fleet_row (nI B) = some r2 := t1
  have t2' : m_Ref_taken (nI B) z_now = some r2 := t2
  unfold m_Tb_told m_Ref_told
  rw [stepsGone_i, s1, s2, t1', t2', kb1_e, kb1_e, kb1_e, kb1_e, kb4_e, kg20, c20N, u1, u2]
  by_cases c0 : y1 = 0
  · rw [if_pos c0, if_pos c0]; exact ⟨_, _, _, _, rfl, rfl, h'⟩
  rw [if_neg c0, if_neg c0]
  by_cases c1 : y1 = 1
  · rw [if_pos c1, if_pos c1]; exact ⟨_, _, _, _, rfl, rfl, h'⟩
  rw [if_neg c1, if_neg c1]
  by_cases c2 : y1 = 2
  · rw [if_pos c2, if_pos c2]; exact ⟨_, _, _, _, rfl, rfl, h'⟩
  rw [if_neg c2, if_neg c2]
  by_cases c3 : y1 = 3
  · rw [if_pos c3, if_pos c3]; exact ⟨_, _, _, _, rfl, rfl, h'⟩
  rw [if_neg c3, if_neg c3]
  by_cases c4 : y1 = 4
  · rw [if_pos c4, if_pos c4]; exact ⟨_, _, _, _, rfl, rfl, h'⟩
  rw [if_neg c4, if_neg c4]
  by_cases c5 : y1 = 5
  · rw [if_pos c5, if_pos c5]; exact ⟨_, _, _, _, rfl, rfl, h'⟩
  rw [if_neg c5, if_neg c5]
  by_cases c6 : y1 = 6
  · rw [if_pos c6, if_pos c6]; exact ⟨_, _, _, _, rfl, rfl, h'⟩
  rw [if_neg c6, if_neg c6]
  by_cases c7 : y1 = 7
  · rw [if_pos c7, if_pos c7]; exact ⟨_, _, _, _, rfl, rfl, h'⟩
  rw [if_neg c7, if_neg c7]
  by_cases c8 : y1 = 8
  · rw [if_pos c8, if_pos c8]; exact ⟨_, _, _, _, rfl, rfl, h'⟩
  rw [if_neg c8, if_neg c8]
  by_cases c9 : y1 = 9
  · rw [if_pos c9, if_pos c9]; exact ⟨_, _, _, _, rfl, rfl, h'⟩
  rw [if_neg c9, if_neg c9]; exact ⟨_, _, _, _, rfl, rfl, h'⟩
