/-- the class lays a boat's way -/
theorem layWay_i {J B b j f p L : Nat} {hm : Nat → Nat → Nat} {hard row on oh bw : Nat → Int32} {w : Nat} (hJ : J ≤ 9) (hB : B ≤ 5) (hb : b < B) (hj : j < J) (hf : f ≤ J) (hw : w ≤ 99) (hL : L ≤ 201) (hh : HM hard hm) (ht : TB J hm on oh) (r1 : row b = nI j) (r2 : row (5 + b) = om f) (w1 : bw b = nI w) (pl ne : Nat → Int32) (la : Int32) :
    ∃ pl' ne' : Nat → Int32, m_Tb_layWay (nI b) (nI L) (nI B) bw on oh row pl ne la = some (pl', ne', nI L) ∧ WayIs hm J j f w L pl' ne' := by
  obtain ⟨pl', ne', h1, h2⟩ := lay_i hJ hj hf hw hL hh ht pl ne la
  refine ⟨pl', ne', ?_, h2⟩
  unfold m_Tb_layWay
  rw [fl_at (by omega), kb1_e, fl_from (by omega), kb1_e, wearOf_i hB hb, kb1_e, r1, r2, w1, h1, kb3_e]
theorem sim_where (t_lettersFed : Int32) (t_faultAt : Int32) (t_letters : Nat → Int32) (t_quays : Nat → Int32) (t_here_junctions : Int32) (t_here_cuts : Int32) (t_here_boats : Int32) (t_here_cutA : Nat → Int32) (t_here_cutB : Nat → Int32) (t_here_cutHard : Nat → Int32) (t_here_boatWear : Nat → Int32) (t_here_onward : Nat → Int32) (t_here_onwardHard : Nat → Int32) (t_fleet_row : Nat → Int32) (t_past_next : Int32) (t_past_count : Int32) (t_past_shelf_slots : Int32) (t_past_shelf_rows : Nat → Int32) (t_images_shelf_slots : Int32) (t_images_shelf_rows : Nat → Int32) (t_images_seeds : Nat → Int32) (t_images_kept : Nat → Int32) (t_draws_value : Int32) (t_seen_most : Int32) (t_seen_count : Int32) (t_seen_boats : Nat → Int32) (t_seen_steps : Nat → Int32) (t_seen_junctions : Nat → Int32) (t_book_most : Int32) (t_book_count : Int32) (t_book_boats : Nat → Int32) (t_book_steps : Nat → Int32) (t_book_junctions : Nat → Int32) (t_way_places : Nat → Int32) (t_way_needs : Nat → Int32) (t_way_last : Int32) (z_junctions : Int32) (z_cuts : Int32) (z_cutOne : Nat → Int32) (z_cutOther : Nat → Int32) (z_cutHard : Nat → Int32) (z_hard : Nat → Int32) (z_boats : Int32) (z_wears : Nat → Int32) (z_quays : Nat → Int32) (z_now : Nat → Int32) (z_seed : Int32) (z_text : Nat → Int32) (z_texted : Int32) (z_faultPlace : Int32) (z_undos : Int32) (z_past : Nat → Int32) (z_seen : Int32) (z_seenOf : Nat → Int32) (z_seenBehind : Nat → Int32) (z_seenAt : Nat → Int32) (z_booked : Int32) (z_bookOf : Nat → Int32) (z_bookAt : Nat → Int32) (z_images : Nat → Int32) (z_isKept : Nat → Int32) (z_at : Int32) (z_from : Int32) (z_pull : Int32) (y1 : Int32) (y2 : Int32) (y3 : Int32) (h : Rel t_lettersFed t_faultAt t_letters t_quays t_here_junctions t_here_cuts t_here_boats t_here_cutA t_here_cutB t_here_cutHard t_here_boatWear t_here_onward t_here_onwardHard t_fleet_row t_past_next t_past_count t_past_shelf_slots t_past_shelf_rows t_images_shelf_slots t_images_shelf_rows t_images_seeds t_images_kept t_draws_value t_seen_most t_seen_count t_seen_boats t_seen_steps t_seen_junctions t_book_most t_book_count t_book_boats t_book_steps t_book_junctions z_junctions z_cuts z_cutOne z_cutOther z_cutHard z_hard z_boats z_wears z_quays z_now z_seed z_text z_texted z_faultPlace z_undos z_past z_seen z_seenOf z_seenBehind z_seenAt z_booked z_bookOf z_bookAt z_images z_isKept) : ∃ (r : Int32) (o_t_way_places : Nat → Int32) (o_t_way_needs : Nat → Int32) (o_t_way_last : Int32) (o_z_at : Int32) (o_z_from : Int32) (o_z_pull : Int32), m_Tb_where y1 y2 y3 t_here_boats t_here_boatWear t_here_onward t_here_onwardHard t_fleet_row t_way_places t_way_needs t_way_last = some (r, o_t_way_places, o_t_way_needs, o_t_way_last) ∧ m_Ref_where y1 y2 y3 z_junctions z_hard z_boats z_wears z_now z_at z_from z_pull = some (r, o_z_at, o_z_from, o_z_pull) ∧ Rel t_lettersFed t_faultAt t_letters t_quays t_here_junctions t_here_cuts t_here_boats t_here_cutA t_here_cutB t_here_cutHard t_here_boatWear t_here_onward t_here_onwardHard t_fleet_row t_past_next t_past_count t_past_shelf_slots t_past_shelf_rows t_images_shelf_slots t_images_shelf_rows t_images_seeds t_images_kept t_draws_value t_seen_most t_seen_count t_seen_boats t_seen_steps t_seen_junctions t_book_most t_book_count t_book_boats t_book_steps t_book_junctions z_junctions z_cuts z_cutOne z_cutOther z_cutHard z_hard z_boats z_wears z_quays z_now z_seed z_text z_texted z_faultPlace z_undos z_past z_seen z_seenOf z_seenBehind z_seenAt z_booked z_bookOf z_bookAt z_images z_isKept := by
  have h' := h
  obtain ⟨hT, J, C, B, hm, ⟨⟨hJ, hC, hB⟩, ⟨e1, e2, e3, e4, e5, e6⟩, hc, hw, hh, ht, -⟩, hS, -⟩ := h
  subst e1 e2 e5 e6
  unfold m_Tb_where m_Ref_where
  by_cases c : vp_in y1 B
  · rw [hasBoat_t hB c, isBoat_t (by omega) c, kb1_e, kb1_e, if_neg n1, if_neg n1]
    obtain ⟨b, hb, rfl⟩ := vp_in_of c (by omega)
    by_cases c1 : 0 ≤ y2.toInt ∧ y2.toInt ≤ 60
    · have a1 : m_Ref_in y2.toInt64 0 60 = some 1 := inN_t (a := 0) (b := 60) (by omega) (by omega) c1.1 c1.2
      obtain ⟨N, hN, rfl⟩ := i32_N (n := 60) (by omega) c1.1 c1.2
      have b1 : ¬ (60 : Int32) < nI N := nclt (a := 60) (by omega) (by omega) hN
      rw [a1, kb1_e, if_neg n1, if_neg (nI_pos (by omega)), if_neg b1]
      by_cases c2 : 0 ≤ y3.toInt ∧ y3.toInt ≤ 1
      · have a2 : m_Ref_in y3.toInt64 0 1 = some 1 := inN_t (a := 0) (b := 1) (by omega) (by omega) c2.1 c2.2
        have b2 : ¬ y3 < 0 := by rw [i32_lt, Int32.toInt_zero]; omega
        have b3 : y3 ≤ 1 := (le_n (n := 1) (by omega)).mpr c2.2
        obtain ⟨j, f, p, hj, hf, hp, r1, s1, r2, s2, r3, s3, -⟩ := hS.1 b hb
        obtain ⟨w, hw9, w1, w2⟩ := hw b hb
        obtain ⟨pl', ne', l1, l2⟩ := layWay_i (L := N) (p := p) hJ hB hb hj hf hw9 (by omega) hh ht r1 r2 w1 t_way_places t_way_needs t_way_last
        have gl := gct_le (nd hm J j f w) p N 0
        rw [a2, kb1_e, if_neg n1, if_neg b2, if_pos b3, l1, kb3_e, fl_pull (by omega), kb1_e, r3, gone_i (by omega) hp (Nat.le_refl N) l2, kb1_e, place_i (by omega) (by omega), kb1_e, kb1_e, wearOf_i hB hb, kb1_e, w1, (l2 _ (by omega)).1, board_i (by omega), kb3_e, kg_i (by omega) (by omega), nI_clamp (by omega), w2, s1, s2, s3, goOn_i hJ hj hf hw9 hp (by omega) hh, kb3_e, pk_mul]
        have gw : gct (nd hm J j f w) p N 0 * w ≤ 60 * 99 := Nat.mul_le_mul (by omega) hw9
        rw [subI (by omega) (by omega)]
        by_cases c3 : y3 = 0
        · rw [if_pos c3, if_pos c3]; exact ⟨_, _, _, _, _, _, _, rfl, rfl, h'⟩
        · rw [if_neg c3, if_neg c3]; exact ⟨_, _, _, _, _, _, _, rfl, rfl, h'⟩
      · have a2 : m_Ref_in y3.toInt64 0 1 = some 0 := inN_f (a := 0) (b := 1) (by omega) (by omega) c2
        rw [a2, kb1_e, if_pos p0]
        by_cases b2 : y3 < 0
        · rw [if_pos b2]; exact ⟨_, _, _, _, _, _, _, rfl, rfl, h'⟩
        · have b3 : ¬ y3 ≤ 1 := fun q => c2 ⟨ge0 b2, (le_n (n := 1) (by omega)).mp q⟩
          rw [if_neg b2, if_neg b3]; exact ⟨_, _, _, _, _, _, _, rfl, rfl, h'⟩
    · have a1 : m_Ref_in y2.toInt64 0 60 = some 0 := inN_f (a := 0) (b := 60) (by omega) (by omega) c1
      rw [a1, kb1_e, if_pos p0]
      by_cases b2 : y2 < 0
      · rw [if_pos b2]; exact ⟨_, _, _, _, _, _, _, rfl, rfl, h'⟩
      · have g0 := ge0 b2
        have b3 : (60 : Int32) < y2 := (n_lt (n := 60) (by omega)).mpr (by omega)
        rw [if_neg b2, if_pos b3]; exact ⟨_, _, _, _, _, _, _, rfl, rfl, h'⟩
  · rw [hasBoat_f hB c, isBoat_f (by omega) c, kb1_e, kb1_e, if_pos p0, if_pos p0]
    exact ⟨_, _, _, _, _, _, _, rfl, rfl, h'⟩
/-- until it sits, at most 201 steps -/
theorem sb_loop {J j f w p : Nat} {hm : Nat → Nat → Nat} {hard : Nat → Int32} (hJ : J ≤ 9) (hj : j < J) (hf : f ≤ J) (hw : w ≤ 99) (hp : p ≤ 999) (hh : HM hard hm) :
    ∀ (d k n : Nat), k + d = 201 → d < n → nd hm J j f w k ≤ p → m_Ref_sitsBehind_L2 n (nI w) (nI k) (nI J) hard (nI (ps hm J j f k).1) (om (ps hm J j f k).2) (nI (p - k * w)) = some (om (if gct (nd hm J j f w) p d k ≤ 200 then gct (nd hm J j f w) p d k + 1 else 0), nI (ps hm J j f (gct (nd hm J j f w) p d k)).1, om (ps hm J j f (gct (nd hm J j f w) p d k)).2, nI (p - gct (nd hm J j f w) p d k * w)) := by
  intro d
  induction d with
  | zero =>
    intro k n hk hn hne
    obtain ⟨g, rfl, -⟩ := fuS hn
    have hk' : k = 201 := by omega
    subst hk'
    show m_Ref_sitsBehind_B2 (m_Ref_sitsBehind_L2 g) (nI w) (nI 201) (nI J) hard _ _ _ = _
    unfold m_Ref_sitsBehind_B2 m_Ref_sitsBehind_B23
    rw [if_pos (by decide), if_pos (by decide)]
    have eg : gct (nd hm J j f w) p 0 201 = 201 := rfl
    rw [eg, if_neg (show ¬ (201 : Nat) ≤ 200 by omega), om_0]
  | succ d ih =>
    intro k n hk hn hne
    obtain ⟨g, rfl, hg⟩ := fuS hn
    have c2 : ¬ (200 : Int32) < nI k := nclt (a := 200) (by omega) (by omega) (by omega)
    show m_Ref_sitsBehind_B2 (m_Ref_sitsBehind_L2 g) (nI w) (nI k) (nI J) hard (nI (ps hm J j f k).1) (om (ps hm J j f k).2) (nI (p - k * w)) = _
    have eg : gct (nd hm J j f w) p (d + 1) k = if nd hm J j f w (k + 1) ≤ p then gct (nd hm J j f w) p d (k + 1) else k := rfl
    unfold m_Ref_sitsBehind_B2
    rw [eg, if_neg c2, go_at hJ hj hf hw hp hh hne]
    by_cases c : nd hm J j f w (k + 1) ≤ p
    · rw [if_pos c, if_pos c, kb4_e, if_neg n1, nI_1]; exact ih (k + 1) g (by omega) (by omega) c
    · rw [if_neg c, if_neg c, kb4_e, if_pos p0, if_pos (by omega), om_s]
      unfold m_Ref_sitsBehind_B23
      rw [if_neg c2]
theorem sb_i {J j f w p : Nat} {hm : Nat → Nat → Nat} {hard : Nat → Int32} (hJ : J ≤ 9) (hj : j < J) (hf : f ≤ J) (hw : w ≤ 99) (hp : p ≤ 999) (hh : HM hard hm) :
    m_Ref_sitsBehind (nI w) (nI J) hard (nI j) (om f) (nI p) = some (om (if gct (nd hm J j f w) p 201 0 ≤ 200 then gct (nd hm J j f w) p 201 0 + 1 else 0), nI (ps hm J j f (gct (nd hm J j f w) p 201 0)).1, om (ps hm J j f (gct (nd hm J j f w) p 201 0)).2, nI (p - gct (nd hm J j f w) p 201 0 * w)) := by
  have h := sb_loop hJ hj hf hw hp hh 201 0 FU (by omega) (FU_gt (by omega)) (Nat.zero_le p)
  have e : p - 0 * w = p := by omega
  rw [e] at h
  exact h
theorem sim_sits (t_lettersFed : Int32) (t_faultAt : Int32) (t_letters : Nat → Int32) (t_quays : Nat → Int32) (t_here_junctions : Int32) (t_here_cuts : Int32) (t_here_boats : Int32) (t_here_cutA : Nat → Int32) (t_here_cutB : Nat → Int32) (t_here_cutHard : Nat → Int32) (t_here_boatWear : Nat → Int32) (t_here_onward : Nat → Int32) (t_here_onwardHard : Nat → Int32) (t_fleet_row : Nat → Int32) (t_past_next : Int32) (t_past_count : Int32) (t_past_shelf_slots : Int32) (t_past_shelf_rows : Nat → Int32) (t_images_shelf_slots : Int32) (t_images_shelf_rows : Nat → Int32) (t_images_seeds : Nat → Int32) (t_images_kept : Nat → Int32) (t_draws_value : Int32) (t_seen_most : Int32) (t_seen_count : Int32) (t_seen_boats : Nat → Int32) (t_seen_steps : Nat → Int32) (t_seen_junctions : Nat → Int32) (t_book_most : Int32) (t_book_count : Int32) (t_book_boats : Nat → Int32) (t_book_steps : Nat → Int32) (t_book_junctions : Nat → Int32) (t_way_places : Nat → Int32) (t_way_needs : Nat → Int32) (t_way_last : Int32) (z_junctions : Int32) (z_cuts : Int32) (z_cutOne : Nat → Int32) (z_cutOther : Nat → Int32) (z_cutHard : Nat → Int32) (z_hard : Nat → Int32) (z_boats : Int32) (z_wears : Nat → Int32) (z_quays : Nat → Int32) (z_now : Nat → Int32) (z_seed : Int32) (z_text : Nat → Int32) (z_texted : Int32) (z_faultPlace : Int32) (z_undos : Int32) (z_past : Nat → Int32) (z_seen : Int32) (z_seenOf : Nat → Int32) (z_seenBehind : Nat → Int32) (z_seenAt : Nat → Int32) (z_booked : Int32) (z_bookOf : Nat → Int32) (z_bookAt : Nat → Int32) (z_images : Nat → Int32) (z_isKept : Nat → Int32) (z_at : Int32) (z_from : Int32) (z_pull : Int32) (y1 : Int32) (h : Rel t_lettersFed t_faultAt t_letters t_quays t_here_junctions t_here_cuts t_here_boats t_here_cutA t_here_cutB t_here_cutHard t_here_boatWear t_here_onward t_here_onwardHard t_fleet_row t_past_next t_past_count t_past_shelf_slots t_past_shelf_rows t_images_shelf_slots t_images_shelf_rows t_images_seeds t_images_kept t_draws_value t_seen_most t_seen_count t_seen_boats t_seen_steps t_seen_junctions t_book_most t_book_count t_book_boats t_book_steps t_book_junctions z_junctions z_cuts z_cutOne z_cutOther z_cutHard z_hard z_boats z_wears z_quays z_now z_seed z_text z_texted z_faultPlace z_undos z_past z_seen z_seenOf z_seenBehind z_seenAt z_booked z_bookOf z_bookAt z_images z_isKept) : ∃ (r : Int32) (o_t_way_places : Nat → Int32) (o_t_way_needs : Nat → Int32) (o_t_way_last : Int32) (o_z_at : Int32) (o_z_from : Int32) (o_z_pull : Int32), m_Tb_sits y1 t_here_boats t_here_boatWear t_here_onward t_here_onwardHard t_fleet_row t_way_places t_way_needs t_way_last = some (r, o_t_way_places, o_t_way_needs, o_t_way_last) ∧ m_Ref_sits y1 z_junctions z_hard z_boats z_wears z_now z_at z_from z_pull = some (r, o_z_at, o_z_from, o_z_pull) ∧ Rel t_lettersFed t_faultAt t_letters t_quays t_here_junctions t_here_cuts t_here_boats t_here_cutA t_here_cutB t_here_cutHard t_here_boatWear t_here_onward t_here_onwardHard t_fleet_row t_past_next t_past_count t_past_shelf_slots t_past_shelf_rows t_images_shelf_slots t_images_shelf_rows t_images_seeds t_images_kept t_draws_value t_seen_most t_seen_count t_seen_boats t_seen_steps t_seen_junctions t_book_most t_book_count t_book_boats t_book_steps t_book_junctions z_junctions z_cuts z_cutOne z_cutOther z_cutHard z_hard z_boats z_wears z_quays z_now z_seed z_text z_texted z_faultPlace z_undos z_past z_seen z_seenOf z_seenBehind z_seenAt z_booked z_bookOf z_bookAt z_images z_isKept := by
  have h' := h
  obtain ⟨hT, J, C, B, hm, ⟨⟨hJ, hC, hB⟩, ⟨e1, e2, e3, e4, e5, e6⟩, hc, hw, hh, ht, -⟩, hS, -⟩ := h
  subst e1 e2 e5 e6
  unfold m_Tb_sits m_Ref_sits
  by_cases c : vp_in y1 B
  · rw [hasBoat_t hB c, isBoat_t (by omega) c, kb1_e, kb1_e, if_neg n1, if_neg n1]
    obtain ⟨b, hb, rfl⟩ := vp_in_of c (by omega)
    obtain ⟨j, f, p, hj, hf, hp, r1, s1, r2, s2, r3, s3, -⟩ := hS.1 b hb
    obtain ⟨w, hw9, w1, w2⟩ := hw b hb
    obtain ⟨pl', ne', l1, l2⟩ := layWay_i (L := 201) (p := p) hJ hB hb hj hf hw9 (by omega) hh ht r1 r2 w1 t_way_places t_way_needs t_way_last
    have l1' : m_Tb_layWay (nI b) 201 (nI B) t_here_boatWear t_here_onward t_here_onwardHard t_fleet_row t_way_places t_way_needs t_way_last = some (pl', ne', nI 201) := l1
    have gl := gct_le (nd hm J j f w) p 201 0
    have gg : m_Way_gone (nI p) 201 ne' (nI 201) = some (nI (gct (nd hm J j f w) p 201 0)) := gone_i (by omega) hp (Nat.le_refl 201) l2
    rw [l1', kb3_e, fl_pull (by omega), kb1_e, r3, gg, kb1_e, board_i (by omega), kb3_e, kg_i (by omega) (by omega), nI_clamp (by omega), w2, s1, s2, s3, sb_i hJ hj hf hw9 hp hh, kb4_e]
    by_cases c3 : gct (nd hm J j f w) p 201 0 ≤ 200
    · have c4 : nI (gct (nd hm J j f w) p 201 0) ≤ (200 : Int32) := cle (b := 200) (by omega) (by omega) c3
      rw [if_pos c4, if_pos c3, om_s]; exact ⟨_, _, _, _, _, _, _, rfl, rfl, h'⟩
    · have c4 : ¬ nI (gct (nd hm J j f w) p 201 0) ≤ (200 : Int32) := ncle (b := 200) (by omega) (by omega) (by omega)
      rw [if_neg c4, if_neg c3, om_0]; exact ⟨_, _, _, _, _, _, _, rfl, rfl, h'⟩
  · rw [hasBoat_f hB c, isBoat_f (by omega) c, kb1_e, kb1_e, if_pos p0, if_pos p0]
    exact ⟨_, _, _, _, _, _, _, rfl, rfl, h'⟩
