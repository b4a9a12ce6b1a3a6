theorem sumb_mono (f : Nat → Nat) : ∀ d k : Nat, sumb f k ≤ sumb f (k + d) := by
  intro d
  induction d with
  | zero => intro k; exact Nat.le_refl _
  | succ d ih => intro k; exact Nat.le_trans (ih k) (Nat.le_add_right _ _)
theorem total_loop {f : Nat → Nat} {si : Nat → Int32} (h : ∀ i : Nat, i ≤ 30 → si i = nI (f i)) : ∀ (d k n1 : Nat), k + d = 31 → d < n1 → m_Bands_total_L4 n1 (nI (sumb f k)) (nI k) si = some (nI (sumb f 31)) := by
  intro d
  induction d with
  | zero =>
    intro k n1 hk h1
    obtain ⟨g, rfl, -⟩ := fuS h1
    have e : k = 31 := by omega
    subst e
    show m_Bands_total_B4 (m_Bands_total_L4 g) (nI (sumb f 31)) (nI 31) si = _
    unfold m_Bands_total_B4
    rw [if_pos (by decide)]
  | succ d ih =>
    intro k n1 hk h1
    obtain ⟨g, rfl, hg⟩ := fuS h1
    show m_Bands_total_B4 (m_Bands_total_L4 g) (nI (sumb f k)) (nI k) si = _
    have c : ¬ (31 : Int32) ≤ nI k := ncle (a := 31) (by omega) (by omega) (by omega)
    unfold m_Bands_total_B4
    rw [if_neg c, kg_i (by omega) (by omega), nI_clamp (by omega), h k (by omega), nI_add, nI_1]; exact ih (k + 1) g (by omega) (by omega)
theorem total_i {f : Nat → Nat} {si : Nat → Int32} (h : ∀ i : Nat, i ≤ 30 → si i = nI (f i)) : m_Bands_total si = some (nI (sumb f 31)) := total_loop h 31 0 FU (by omega) (FU_gt (by omega))
theorem pullAt_loop {n : Nat → Nat} {f : Nat → Nat} {lo si : Nat → Int32} {i : Nat} (hl : ∀ i : Nat, i ≤ 30 → lo i = nI (bnd n i)) (h : ∀ i : Nat, i ≤ 30 → si i = nI (f i)) (hi : i < 2 ^ 31) (hs : sumb f 31 ≤ 1000) :
    ∀ (d k n1 : Nat), k + d = 31 → d < n1 → sumb f k ≤ i → (sumb f 31 ≤ i ∧ m_Bands_pullAt_L10 n1 (nI i) (nI (sumb f k)) (nI k) lo si = some (-1)) ∨ ∃ k' : Nat, k' ≤ 30 ∧ sumb f k' ≤ i ∧ i < sumb f (k' + 1) ∧ m_Bands_pullAt_L10 n1 (nI i) (nI (sumb f k)) (nI k) lo si = some (nI (bnd n k' + (i - sumb f k'))) := by
  intro d
  induction d with
  | zero =>
    intro k n1 hk h1 hki
    obtain ⟨g, rfl, -⟩ := fuS h1
    have e : k = 31 := by omega
    subst e
    refine Or.inl ⟨hki, ?_⟩
    show m_Bands_pullAt_B10 (m_Bands_pullAt_L10 g) (nI i) (nI (sumb f 31)) (nI 31) lo si = _
    unfold m_Bands_pullAt_B10
    rw [if_pos (by decide)]
  | succ d ih =>
    intro k n1 hk h1 hki
    obtain ⟨g, rfl, hg⟩ := fuS h1
    have c : ¬ (31 : Int32) ≤ nI k := ncle (a := 31) (by omega) (by omega) (by omega)
    have es : sumb f (k + 1) = sumb f k + f k := rfl
    have m := sumb_mono f d (k + 1)
    rw [show k + 1 + d = 31 by omega] at m
    by_cases q : sumb f (k + 1) ≤ i
    · have st : m_Bands_pullAt_B10 (m_Bands_pullAt_L10 g) (nI i) (nI (sumb f k)) (nI k) lo si = m_Bands_pullAt_L10 g (nI i) (nI (sumb f (k + 1))) (nI (k + 1)) lo si := by
        unfold m_Bands_pullAt_B10
        rw [if_neg c, kg_i (by omega) (by omega), nI_clamp (by omega), h k (by omega), nI_add, ← es, if_pos (cle (by omega) (by omega) q), kg_i (by omega) (by omega), nI_1]
      rcases ih (k + 1) g (by omega) (by omega) q with ⟨a1, a2⟩ | ⟨k', a1, a2, a3, a4⟩
      · exact Or.inl ⟨a1, st.trans a2⟩
      · exact Or.inr ⟨k', a1, a2, a3, st.trans a4⟩
    · refine Or.inr ⟨k, by omega, hki, by omega, ?_⟩
      show m_Bands_pullAt_B10 (m_Bands_pullAt_L10 g) (nI i) (nI (sumb f k)) (nI k) lo si = _
      unfold m_Bands_pullAt_B10 m_Bands_pullAt_B28
      rw [if_neg c, kg_i (by omega) (by omega), nI_clamp (by omega), h k (by omega), nI_add, ← es, if_neg (ncle (by omega) (by omega) (by omega)), kg_i (by omega) (by omega), hl k (by omega), nI_add, pk_sub (by omega)]
      congr 2; omega
/-- the class sorts the pulls -/
theorem sortPulls_i {J B b j w n : Nat} {hm : Nat → Nat → Nat} {hard row on oh bw bo st ju zo zs zj : Nat → Int32} (hJ : J ≤ 9) (hB : B ≤ 5) (hb : b < B) (hj : j < J) (hw : w ≤ 99) (hn : n ≤ 6) (hh : HM hard hm) (ht : TB J hm on oh) (hE : Ent J B n bo st ju zo zs zj) (r1 : row b = nI j) (w1 : bw b = nI w) (pl ne : Nat → Int32) (la : Int32) (lo si : Nat → Int32) :
    ∃ pl' ne' lo' si' : Nat → Int32, m_Tb_sortPulls (nI b) (nI B) bw on oh row 6 bo st ju (nI n) pl ne la lo si = some (pl', ne', 30, lo', si') ∧ WayIs hm J j 0 w 30 pl' ne' ∧ (∀ i : Nat, i ≤ 30 → lo' i = nI (bnd (nd hm J j 0 w) i)) ∧ ∀ i : Nat, i ≤ 30 → si' i = nI (bsz (fun k => fitb (okE hm J j b zo zs zj k) n 0) (nd hm J j 0 w) i) := by
  obtain ⟨pl', ne', h1, h2⟩ := lay_i (L := 30) hJ hj (Nat.zero_le J) hw (by omega) hh ht pl ne la
  obtain ⟨lo', si', g1, g2⟩ := sort_loop hJ hB hj (show b < 5 by omega) hn hE h2 31 0 FU lo si (by omega) (FU_gt (by omega))
  refine ⟨pl', ne', lo', si', ?_, h2, fun i hi => ((g2 i).2 (by omega) hi).1, fun i hi => ((g2 i).2 (by omega) hi).2⟩
  have h1' : m_Way_lay (nI j) (-1) (nI w) 30 pl ne la on oh = some (pl', ne', 30) := by rw [← om_0]; exact h1
  have g1' : m_Bands_sort (nI b) lo si pl' ne' 30 6 6 bo st ju (nI n) = some (lo', si') := g1
  unfold m_Tb_sortPulls
  rw [fl_at (by omega), kb1_e, wearOf_i hB hb, kb1_e, r1, w1, h1', kb3_e, g1', kb2_e]
theorem sim_left (t_lettersFed : Int32) (t_faultAt : Int32) (t_letters : Nat → Int32) (t_quays : Nat → Int32) (t_here_junctions : Int32) (t_here_cuts : Int32) (t_here_boats : Int32) (t_here_cutA : Nat → Int32) (t_here_cutB : Nat → Int32) (t_here_cutHard : Nat → Int32) (t_here_boatWear : Nat → Int32) (t_here_onward : Nat → Int32) (t_here_onwardHard : Nat → Int32) (t_fleet_row : Nat → Int32) (t_past_next : Int32) (t_past_count : Int32) (t_past_shelf_slots : Int32) (t_past_shelf_rows : Nat → Int32) (t_images_shelf_slots : Int32) (t_images_shelf_rows : Nat → Int32) (t_images_seeds : Nat → Int32) (t_images_kept : Nat → Int32) (t_draws_value : Int32) (t_seen_most : Int32) (t_seen_count : Int32) (t_seen_boats : Nat → Int32) (t_seen_steps : Nat → Int32) (t_seen_junctions : Nat → Int32) (t_book_most : Int32) (t_book_count : Int32) (t_book_boats : Nat → Int32) (t_book_steps : Nat → Int32) (t_book_junctions : Nat → Int32) (t_way_places : Nat → Int32) (t_way_needs : Nat → Int32) (t_way_last : Int32) (t_bands_lows : Nat → Int32) (t_bands_sizes : Nat → Int32) (z_junctions : Int32) (z_cuts : Int32) (z_cutOne : Nat → Int32) (z_cutOther : Nat → Int32) (z_cutHard : Nat → Int32) (z_hard : Nat → Int32) (z_boats : Int32) (z_wears : Nat → Int32) (z_quays : Nat → Int32) (z_now : Nat → Int32) (z_seed : Int32) (z_text : Nat → Int32) (z_texted : Int32) (z_faultPlace : Int32) (z_undos : Int32) (z_past : Nat → Int32) (z_seen : Int32) (z_seenOf : Nat → Int32) (z_seenBehind : Nat → Int32) (z_seenAt : Nat → Int32) (z_booked : Int32) (z_bookOf : Nat → Int32) (z_bookAt : Nat → Int32) (z_images : Nat → Int32) (z_isKept : Nat → Int32) (z_at : Int32) (z_from : Int32) (z_pull : Int32) (z_way : Nat → Int32) (y1 : Int32) (y2 : Int32) (h : Rel t_lettersFed t_faultAt t_letters t_quays t_here_junctions t_here_cuts t_here_boats t_here_cutA t_here_cutB t_here_cutHard t_here_boatWear t_here_onward t_here_onwardHard t_fleet_row t_past_next t_past_count t_past_shelf_slots t_past_shelf_rows t_images_shelf_slots t_images_shelf_rows t_images_seeds t_images_kept t_draws_value t_seen_most t_seen_count t_seen_boats t_seen_steps t_seen_junctions t_book_most t_book_count t_book_boats t_book_steps t_book_junctions z_junctions z_cuts z_cutOne z_cutOther z_cutHard z_hard z_boats z_wears z_quays z_now z_seed z_text z_texted z_faultPlace z_undos z_past z_seen z_seenOf z_seenBehind z_seenAt z_booked z_bookOf z_bookAt z_images z_isKept) : ∃ (r : Int32) (o_t_way_places : Nat → Int32) (o_t_way_needs : Nat → Int32) (o_t_way_last : Int32) (o_t_bands_lows : Nat → Int32) (o_t_bands_sizes : Nat → Int32) (o_z_at : Int32) (o_z_from : Int32) (o_z_pull : Int32) (o_z_way : Nat → Int32), m_Tb_left y1 y2 t_here_boats t_here_boatWear t_here_onward t_here_onwardHard t_fleet_row t_seen_most t_seen_boats t_seen_steps t_seen_junctions t_seen_count t_way_places t_way_needs t_way_last t_bands_lows t_bands_sizes = some (r, o_t_way_places, o_t_way_needs, o_t_way_last, o_t_bands_lows, o_t_bands_sizes) ∧ m_Ref_left y1 y2 z_junctions z_hard z_boats z_wears z_now z_at z_from z_pull z_seen z_seenOf z_seenBehind z_seenAt z_way = some (r, o_z_at, o_z_from, o_z_pull, o_z_way) ∧ Rel t_lettersFed t_faultAt t_letters t_quays t_here_junctions t_here_cuts t_here_boats t_here_cutA t_here_cutB t_here_cutHard t_here_boatWear t_here_onward t_here_onwardHard t_fleet_row t_past_next t_past_count t_past_shelf_slots t_past_shelf_rows t_images_shelf_slots t_images_shelf_rows t_images_seeds t_images_kept t_draws_value t_seen_most t_seen_count t_seen_boats t_seen_steps t_seen_junctions t_book_most t_book_count t_book_boats t_book_steps t_book_junctions z_junctions z_cuts z_cutOne z_cutOther z_cutHard z_hard z_boats z_wears z_quays z_now z_seed z_text z_texted z_faultPlace z_undos z_past z_seen z_seenOf z_seenBehind z_seenAt z_booked z_bookOf z_bookAt z_images z_isKept := by
  have h' := h
  obtain ⟨hT, J, C, B, hm, ⟨⟨hJ, hC, hB⟩, ⟨e1, e2, e3, e4, e5, e6⟩, hc, hw, hh, ht, -⟩, hS, hQ, hP, hI, hD, ⟨e7, n, hn, e8, e9, hE⟩, hK⟩ := h
  subst e1 e2 e5 e6 e7 e8 e9
  unfold m_Tb_left m_Ref_left
  by_cases c : vp_in y1 B
  · rw [hasBoat_t hB c, isBoat_t (by omega) c, kb1_e, kb1_e, if_neg n1, if_neg n1]
    obtain ⟨b, hb, rfl⟩ := vp_in_of c (by omega)
    obtain ⟨j, f, p, hj, hf, hp, r1, s1, -⟩ := hS.1 b hb
    obtain ⟨w, hw9, w1, w2⟩ := hw b hb
    obtain ⟨pl', ne', lo', si', q1, q2, q3, q4⟩ := sortPulls_i hJ hB hb hj hw9 hn hh ht hE r1 w1 t_way_places t_way_needs t_way_last t_bands_lows t_bands_sizes
    have tot := total_i q4
    have cs := cq_sum (hm := hm) (J := J) (j := j) (f := 0) (w := w) (fun k => fitb (okE hm J j b z_seenOf z_seenBehind z_seenAt k) n 0)
    have c31 := cs 31 (by omega)
    rw [bnd_31] at c31
    have cl := cq_le (fun q => fitb (okE hm J j b z_seenOf z_seenBehind z_seenAt (gct (nd hm J j 0 w) q 30 0)) n 0) 1000
    have s1000 : sumb (bsz (fun k => fitb (okE hm J j b z_seenOf z_seenBehind z_seenAt k) n 0) (nd hm J j 0 w)) 31 ≤ 1000 := by rw [← c31]; exact cl
    rw [q1, kb5_e]
    by_cases y0 : 0 ≤ y2
    · have y0' : ¬ y2 < 0 := fun q => by rw [i32_lt] at q; rw [i32_le] at y0; omega
      obtain ⟨i, hi, rfl⟩ := nI_of y0'
      rw [if_neg (nIm1 hi)]
      have pa : ∀ r : Int32, m_Bands_pullAt_L10 FU (nI i) (nI (sumb (bsz (fun k => fitb (okE hm J j b z_seenOf z_seenBehind z_seenAt k) n 0) (nd hm J j 0 w)) 0)) (nI 0) lo' si' = some r → m_Bands_pullAt (nI i) lo' si' = some r := by
        intro r hr
        unfold m_Bands_pullAt
        rw [if_pos y0]; exact hr
      rcases pullAt_loop q3 q4 hi s1000 31 0 FU (by omega) (FU_gt (by omega)) (Nat.zero_le i) with ⟨a1, a2⟩ | ⟨k, k1, k2, k3, k4⟩
      · obtain ⟨a', f', p', way', g⟩ := left_none (y := nI i) hJ hB hj hw9 (show b < 5 by omega) hn hh hE s1 w2 (fun cc hcc => nceq (by omega) hi (by rw [c31] at hcc; omega)) 1000 0 FU z_at z_from z_pull z_way (by omega) (FU_gt (by omega))
        rw [if_neg (nIm1 hi)] at g
        have g' : m_Ref_left_L16 FU (nI b) (nI i) 0 0 (nI J) z_hard (nI B) z_wears z_now z_at z_from z_pull (nI n) z_seenOf z_seenBehind z_seenAt z_way = _ := g
        rw [pa _ a2, kb1_e, g']
        exact ⟨_, _, _, _, _, _, _, _, _, _, rfl, rfl, h'⟩
      · have es : sumb (bsz (fun k => fitb (okE hm J j b z_seenOf z_seenBehind z_seenAt k) n 0) (nd hm J j 0 w)) (k + 1) = sumb (bsz (fun k => fitb (okE hm J j b z_seenOf z_seenBehind z_seenAt k) n 0) (nd hm J j 0 w)) k + bsz (fun k => fitb (okE hm J j b z_seenOf z_seenBehind z_seenAt k) n 0) (nd hm J j 0 w) k := rfl
        have fk : fitb (okE hm J j b z_seenOf z_seenBehind z_seenAt k) n 0 = true := by
          by_cases q : fitb (okE hm J j b z_seenOf z_seenBehind z_seenAt k) n 0 = true
          · exact q
          · have z : bsz (fun k => fitb (okE hm J j b z_seenOf z_seenBehind z_seenAt k) n 0) (nd hm J j 0 w) k = 0 := by unfold bsz; rw [if_neg q]
            omega
        have zb : bsz (fun k => fitb (okE hm J j b z_seenOf z_seenBehind z_seenAt k) n 0) (nd hm J j 0 w) k = bnd (nd hm J j 0 w) (k + 1) - bnd (nd hm J j 0 w) k := by unfold bsz; rw [if_pos fk]
        have bl := bnd_le (hm := hm) (J := J) (j := j) (f := 0) (w := w) (k + 1)
        have gb := bnd_in (hm := hm) (J := J) (j := j) (f := 0) (w := w) k1 (q := bnd (nd hm J j 0 w) k + (i - sumb (bsz (fun k => fitb (okE hm J j b z_seenOf z_seenBehind z_seenAt k) n 0) (nd hm J j 0 w)) k)) (by omega) (by omega)
        have cb := cq_band (fun k => fitb (okE hm J j b z_seenOf z_seenBehind z_seenAt k) n 0) k1 (cs k (by omega)) (i - sumb (bsz (fun k => fitb (okE hm J j b z_seenOf z_seenBehind z_seenAt k) n 0) (nd hm J j 0 w)) k) (by omega)
        rw [if_pos fk] at cb
        obtain ⟨a', f', p', way', g⟩ := left_found (i := i) hJ hB hj hw9 (show b < 5 by omega) hn hh hE s1 w2 (show bnd (nd hm J j 0 w) k + (i - sumb (bsz (fun k => fitb (okE hm J j b z_seenOf z_seenBehind z_seenAt k) n 0) (nd hm J j 0 w)) k) < 1000 by omega) (by rw [gb]; exact fk) (by rw [cb]; omega) _ 0 FU z_at z_from z_pull z_way (Nat.zero_add _) (FU_gt (by omega))
        have g' : m_Ref_left_L16 FU (nI b) (nI i) 0 0 (nI J) z_hard (nI B) z_wears z_now z_at z_from z_pull (nI n) z_seenOf z_seenBehind z_seenAt z_way = _ := g
        rw [pa _ k4, kb1_e, g']
        exact ⟨_, _, _, _, _, _, _, _, _, _, rfl, rfl, h'⟩
    · have ylt : y2.toInt < 0 := by
        rw [i32_le, Int32.toInt_zero] at y0; omega
      obtain ⟨a', f', p', way', g⟩ := left_none (y := y2) hJ hB hj hw9 (show b < 5 by omega) hn hh hE s1 w2 (fun cc hcc e => by
        have := congrArg Int32.toInt e
        rw [nI_toInt (by omega)] at this
        omega) 1000 0 FU z_at z_from z_pull z_way (by omega) (FU_gt (by omega))
      have g' : m_Ref_left_L16 FU (nI b) y2 0 0 (nI J) z_hard (nI B) z_wears z_now z_at z_from z_pull (nI n) z_seenOf z_seenBehind z_seenAt z_way = _ := g
      rw [g', c31]
      by_cases cm : y2 = -1
      · rw [if_pos cm, if_pos cm, tot, kb1_e]
        exact ⟨_, _, _, _, _, _, _, _, _, _, rfl, rfl, h'⟩
      · have pz : m_Bands_pullAt y2 lo' si' = some (-1) := by unfold m_Bands_pullAt; rw [if_neg y0]
        rw [if_neg cm, if_neg cm, pz, kb1_e]
        exact ⟨_, _, _, _, _, _, _, _, _, _, rfl, rfl, h'⟩
  · rw [hasBoat_f hB c, isBoat_f (by omega) c, kb1_e, kb1_e, if_pos p0, if_pos p0]
    exact ⟨_, _, _, _, _, _, _, _, _, _, rfl, rfl, h'⟩
