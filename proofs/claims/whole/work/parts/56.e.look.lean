theorem sumb_congr {f g : Nat → Nat} (h : ∀ k : Nat, f k = g k) : ∀ K : Nat, sumb f K = sumb g K := by
  intro K
  induction K with
  | zero => rfl
  | succ K ih => show sumb f K + f K = sumb g K + g K; rw [ih, h K]
theorem cq_PT {hm : Nat → Nat → Nat} {J jb w t i : Nat} (fit : Nat → Bool) : cq (fun q => fit (gct (nd hm J jb 0 w) q 30 0) && decide ((ps hm J jb 0 (min (gct (nd hm J jb 0 w) q 30 0) t)).1 = i)) 1000 = PT hm J jb w fit t i 31 := by
  have s := cq_sum (hm := hm) (J := J) (j := jb) (f := 0) (w := w) (fun k => fit k && decide ((ps hm J jb 0 (min k t)).1 = i)) 31 (by omega)
  rw [bnd_31] at s
  refine s.trans (sumb_congr (fun k => ?_) 31)
  unfold bsz
  by_cases z : (ps hm J jb 0 (min k t)).1 = i
  · rw [if_pos z, decide_eq_true z, Bool.and_true]
  · rw [if_neg z, decide_eq_false z, Bool.and_false, if_neg (by decide)]
theorem sim_look (t_lettersFed : Int32) (t_faultAt : Int32) (t_letters : Nat → Int32) (t_quays : Nat → Int32) (t_here_junctions : Int32) (t_here_cuts : Int32) (t_here_boats : Int32) (t_here_cutA : Nat → Int32) (t_here_cutB : Nat → Int32) (t_here_cutHard : Nat → Int32) (t_here_boatWear : Nat → Int32) (t_here_onward : Nat → Int32) (t_here_onwardHard : Nat → Int32) (t_fleet_row : Nat → Int32) (t_past_next : Int32) (t_past_count : Int32) (t_past_shelf_slots : Int32) (t_past_shelf_rows : Nat → Int32) (t_images_shelf_slots : Int32) (t_images_shelf_rows : Nat → Int32) (t_images_seeds : Nat → Int32) (t_images_kept : Nat → Int32) (t_draws_value : Int32) (t_seen_most : Int32) (t_seen_count : Int32) (t_seen_boats : Nat → Int32) (t_seen_steps : Nat → Int32) (t_seen_junctions : Nat → Int32) (t_book_most : Int32) (t_book_count : Int32) (t_book_boats : Nat → Int32) (t_book_steps : Nat → Int32) (t_book_junctions : Nat → Int32) (t_way_places : Nat → Int32) (t_way_needs : Nat → Int32) (t_way_last : Int32) (t_bands_lows : Nat → Int32) (t_bands_sizes : Nat → Int32) (t_bands_parts : Nat → Int32) (z_junctions : Int32) (z_cuts : Int32) (z_cutOne : Nat → Int32) (z_cutOther : Nat → Int32) (z_cutHard : Nat → Int32) (z_hard : Nat → Int32) (z_boats : Int32) (z_wears : Nat → Int32) (z_quays : Nat → Int32) (z_now : Nat → Int32) (z_seed : Int32) (z_text : Nat → Int32) (z_texted : Int32) (z_faultPlace : Int32) (z_undos : Int32) (z_past : Nat → Int32) (z_seen : Int32) (z_seenOf : Nat → Int32) (z_seenBehind : Nat → Int32) (z_seenAt : Nat → Int32) (z_booked : Int32) (z_bookOf : Nat → Int32) (z_bookAt : Nat → Int32) (z_images : Nat → Int32) (z_isKept : Nat → Int32) (z_at : Int32) (z_from : Int32) (z_pull : Int32) (z_way : Nat → Int32) (z_brings : Nat → Int32) (y1 : Int32) (h : Rel t_lettersFed t_faultAt t_letters t_quays t_here_junctions t_here_cuts t_here_boats t_here_cutA t_here_cutB t_here_cutHard t_here_boatWear t_here_onward t_here_onwardHard t_fleet_row t_past_next t_past_count t_past_shelf_slots t_past_shelf_rows t_images_shelf_slots t_images_shelf_rows t_images_seeds t_images_kept t_draws_value t_seen_most t_seen_count t_seen_boats t_seen_steps t_seen_junctions t_book_most t_book_count t_book_boats t_book_steps t_book_junctions z_junctions z_cuts z_cutOne z_cutOther z_cutHard z_hard z_boats z_wears z_quays z_now z_seed z_text z_texted z_faultPlace z_undos z_past z_seen z_seenOf z_seenBehind z_seenAt z_booked z_bookOf z_bookAt z_images z_isKept) : ∃ (r : Int32) (o_t_way_places : Nat → Int32) (o_t_way_needs : Nat → Int32) (o_t_way_last : Int32) (o_t_bands_lows : Nat → Int32) (o_t_bands_sizes : Nat → Int32) (o_t_bands_parts : Nat → Int32) (o_z_at : Int32) (o_z_from : Int32) (o_z_pull : Int32) (o_z_way : Nat → Int32) (o_z_brings : Nat → Int32), m_Tb_look y1 t_here_boats t_here_boatWear t_here_onward t_here_onwardHard t_fleet_row t_seen_most t_seen_boats t_seen_steps t_seen_junctions t_seen_count t_way_places t_way_needs t_way_last t_bands_lows t_bands_sizes t_bands_parts = some (r, o_t_way_places, o_t_way_needs, o_t_way_last, o_t_bands_lows, o_t_bands_sizes, o_t_bands_parts) ∧ m_Ref_look y1 z_junctions z_hard z_boats z_wears z_now z_at z_from z_pull z_seen z_seenOf z_seenBehind z_seenAt z_way z_brings = some (r, o_z_at, o_z_from, o_z_pull, o_z_way, o_z_brings) ∧ Rel t_lettersFed t_faultAt t_letters t_quays t_here_junctions t_here_cuts t_here_boats t_here_cutA t_here_cutB t_here_cutHard t_here_boatWear t_here_onward t_here_onwardHard t_fleet_row t_past_next t_past_count t_past_shelf_slots t_past_shelf_rows t_images_shelf_slots t_images_shelf_rows t_images_seeds t_images_kept t_draws_value t_seen_most t_seen_count t_seen_boats t_seen_steps t_seen_junctions t_book_most t_book_count t_book_boats t_book_steps t_book_junctions z_junctions z_cuts z_cutOne z_cutOther z_cutHard z_hard z_boats z_wears z_quays z_now z_seed z_text z_texted z_faultPlace z_undos z_past z_seen z_seenOf z_seenBehind z_seenAt z_booked z_bookOf z_bookAt z_images z_isKept := by
  have h' := h
  obtain ⟨hT, J, C, B, hm, ⟨⟨hJ, hC, hB⟩, ⟨e1, e2, e3, e4, e5, e6⟩, hc, hw, hh, ht, -⟩, hS, hQ, hP, hI, hD, ⟨e7, n, hn, e8, e9, hE⟩, hK⟩ := h
  subst e1 e2 e5 e6 e7 e8 e9
  unfold m_Tb_look m_Ref_look
  by_cases c : vp_in y1 B
  · rw [hasBoat_t hB c, isBoat_t (by omega) c, kb1_e, kb1_e, if_neg n1, if_neg n1]
    obtain ⟨b, hb, rfl⟩ := vp_in_of c (by omega)
    obtain ⟨j, f, p, hj, hf, hp, r1, s1, -⟩ := hS.1 b hb
    obtain ⟨w, hw9, w1, w2⟩ := hw b hb
    obtain ⟨pl', ne', lo', si', q1, q2, q3, q4⟩ := sortPulls_i hJ hB hb hj hw9 hn hh ht hE r1 w1 t_way_places t_way_needs t_way_last t_bands_lows t_bands_sizes
    have tot := total_i q4
    have c31 := cq_sum (hm := hm) (J := J) (j := j) (f := 0) (w := w) (fun k => fitb (okE hm J j b z_seenOf z_seenBehind z_seenAt k) n 0) 31 (by omega)
    rw [bnd_31] at c31
    have cl := cq_le (fun q => fitb (okE hm J j b z_seenOf z_seenBehind z_seenAt (gct (nd hm J j 0 w) q 30 0)) n 0) 1000
    have s1000 : sumb (bsz (fun k => fitb (okE hm J j b z_seenOf z_seenBehind z_seenAt k) n 0) (nd hm J j 0 w)) 31 ≤ 1000 := by rw [← c31]; exact cl
    obtain ⟨pa', b1⟩ := best_loop hJ hj s1000 q4 q2 30 0 FU t_bands_parts (by omega) (FU_gt (by omega))
    have b1' : m_Bands_bestParting si' t_bands_parts pl' 30 = some (om (bestN (fun t => mx (fun j' => PT hm J j w (fun k => fitb (okE hm J j b z_seenOf z_seenBehind z_seenAt k) n 0) t j' 31) 9) (sumb (bsz (fun k => fitb (okE hm J j b z_seenOf z_seenBehind z_seenAt k) n 0) (nd hm J j 0 w)) 31) 30).1, pa') := by
      unfold m_Bands_bestParting
      rw [tot, kb1_e, ← om_0]; exact b1
    obtain ⟨br1, z1, z2⟩ := bz_loop (J := J) (b := b) (B := B) (n := n) (hard := z_hard) (wears := z_wears) (now := z_now) (zo := z_seenOf) (zs := z_seenBehind) (zj := z_seenAt) (way := z_way) (a := z_at) (ff := z_from) (p := z_pull) 279 0 FU z_brings (by omega) (FU_gt (by omega))
    obtain ⟨a', f', p', way', br', i1, i2⟩ := lk_loop hJ hB hj hw9 (show b < 5 by omega) hn hh hE s1 w2 1000 0 FU z_at z_from z_pull z_way br1 (by omega) (FU_gt (by omega)) (fun t i ht' hi => by rw [z2 (9 * t + i) (by omega), if_neg (by omega)]; rfl)
    have sr := srch_loop (J := J) (b := b) (B := B) (n := n) (hard := z_hard) (wears := z_wears) (now := z_now) (zo := z_seenOf) (zs := z_seenBehind) (zj := z_seenAt) (way := way') (br := br') (a := a') (ff := f') (p := p') (M := fun t i => PT hm J j w (fun k => fitb (okE hm J j b z_seenOf z_seenBehind z_seenAt k) n 0) t i 31) s1000 (fun t i => PT_le s1000 (by omega)) (fun t i ht' hi => by rw [i2 t i ht' hi]; exact congrArg nI (cq_PT (hm := hm) (J := J) (jb := j) (w := w) (t := t) (i := i) (fun k => fitb (okE hm J j b z_seenOf z_seenBehind z_seenAt k) n 0))) 30 0 FU (by omega) (FU_gt (by omega))
    have sr' : m_Ref_look_L108 FU (-1) (nI (sumb (bsz (fun k => fitb (okE hm J j b z_seenOf z_seenBehind z_seenAt k) n 0) (nd hm J j 0 w)) 31)) 1 (nI J) z_hard (nI B) z_wears z_now a' f' p' (nI n) z_seenOf z_seenBehind z_seenAt way' br' = _ := by rw [← om_0]; exact sr
    rw [c31] at i1
    have al : m_Ref_look_L13 FU (nI b) 0 (nI J) z_hard (nI B) z_wears z_now z_at z_from z_pull (nI n) z_seenOf z_seenBehind z_seenAt z_way z_brings = _ := z1.trans (i1.trans sr')
    rw [q1, kb5_e, b1', kb2_e, al]
    exact ⟨_, _, _, _, _, _, _, _, _, _, _, _, rfl, rfl, h'⟩
  · rw [hasBoat_f hB c, isBoat_f (by omega) c, kb1_e, kb1_e, if_pos p0, if_pos p0]
    exact ⟨_, _, _, _, _, _, _, _, _, _, _, _, rfl, rfl, h'⟩
