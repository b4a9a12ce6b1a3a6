theorem sim_least (t_lettersFed : Int32) (t_faultAt : Int32) (t_letters : Nat → Int32) (t_quays : Nat → Int32) (t_here_junctions : Int32) (t_here_cuts : Int32) (t_here_boats : Int32) (t_here_cutA : Nat → Int32) (t_here_cutB : Nat → Int32) (t_here_cutHard : Nat → Int32) (t_here_boatWear : Nat → Int32) (t_here_onward : Nat → Int32) (t_here_onwardHard : Nat → Int32) (t_fleet_row : Nat → Int32) (t_past_next : Int32) (t_past_count : Int32) (t_past_shelf_slots : Int32) (t_past_shelf_rows : Nat → Int32) (t_images_shelf_slots : Int32) (t_images_shelf_rows : Nat → Int32) (t_images_seeds : Nat → Int32) (t_images_kept : Nat → Int32) (t_draws_value : Int32) (t_seen_most : Int32) (t_seen_count : Int32) (t_seen_boats : Nat → Int32) (t_seen_steps : Nat → Int32) (t_seen_junctions : Nat → Int32) (t_book_most : Int32) (t_book_count : Int32) (t_book_boats : Nat → Int32) (t_book_steps : Nat → Int32) (t_book_junctions : Nat → Int32) (t_way_places : Nat → Int32) (t_way_needs : Nat → Int32) (t_way_last : Int32) (z_junctions : Int32) (z_cuts : Int32) (z_cutOne : Nat → Int32) (z_cutOther : Nat → Int32) (z_cutHard : Nat → Int32) (z_hard : Nat → Int32) (z_boats : Int32) (z_wears : Nat → Int32) (z_quays : Nat → Int32) (z_now : Nat → Int32) (z_seed : Int32) (z_text : Nat → Int32) (z_texted : Int32) (z_faultPlace : Int32) (z_undos : Int32) (z_past : Nat → Int32) (z_seen : Int32) (z_seenOf : Nat → Int32) (z_seenBehind : Nat → Int32) (z_seenAt : Nat → Int32) (z_booked : Int32) (z_bookOf : Nat → Int32) (z_bookAt : Nat → Int32) (z_images : Nat → Int32) (z_isKept : Nat → Int32) (z_at : Int32) (z_from : Int32) (z_pull : Int32) (y1 : Int32) (y2 : Int32) (y3 : Int32) (h : Rel t_lettersFed t_faultAt t_letters t_quays t_here_junctions t_here_cuts t_here_boats t_here_cutA t_here_cutB t_here_cutHard t_here_boatWear t_here_onward t_here_onwardHard t_fleet_row t_past_next t_past_count t_past_shelf_slots t_past_shelf_rows t_images_shelf_slots t_images_shelf_rows t_images_seeds t_images_kept t_draws_value t_seen_most t_seen_count t_seen_boats t_seen_steps t_seen_junctions t_book_most t_book_count t_book_boats t_book_steps t_book_junctions z_junctions z_cuts z_cutOne z_cutOther z_cutHard z_hard z_boats z_wears z_quays z_now z_seed z_text z_texted z_faultPlace z_undos z_past z_seen z_seenOf z_seenBehind z_seenAt z_booked z_bookOf z_bookAt z_images z_isKept) : ∃ (r : Int32) (o_t_way_places : Nat → Int32) (o_t_way_needs : Nat → Int32) (o_t_way_last : Int32) (o_z_at : Int32) (o_z_from : Int32) (o_z_pull : Int32), m_Tb_least y1 y2 y3 t_here_junctions t_here_boats t_here_boatWear t_here_onward t_here_onwardHard t_fleet_row t_way_places t_way_needs t_way_last = some (r, o_t_way_places, o_t_way_needs, o_t_way_last) ∧ m_Ref_least y1 y2 y3 z_junctions z_hard z_boats z_wears z_now z_at z_from z_pull = some (r, o_z_at, o_z_from, o_z_pull) ∧ Rel t_lettersFed t_faultAt t_letters t_quays t_here_junctions t_here_cuts t_here_boats t_here_cutA t_here_cutB t_here_cutHard t_here_boatWear t_here_onward t_here_onwardHard t_fleet_row t_past_next t_past_count t_past_shelf_slots t_past_shelf_rows t_images_shelf_slots t_images_shelf_rows t_images_seeds t_images_kept t_draws_value t_seen_most t_seen_count t_seen_boats t_seen_steps t_seen_junctions t_book_most t_book_count t_book_boats t_book_steps t_book_junctions z_junctions z_cuts z_cutOne z_cutOther z_cutHard z_hard z_boats z_wears z_quays z_now z_seed z_text z_texted z_faultPlace z_undos z_past z_seen z_seenOf z_seenBehind z_seenAt z_booked z_bookOf z_bookAt z_images z_isKept := by
  have h' := h
  obtain ⟨hT, J, C, B, hm, ⟨⟨hJ, hC, hB⟩, ⟨e1, e2, e3, e4, e5, e6⟩, hc, hw, hh, ht, -⟩, hS, -⟩ := h
  subst e1 e2 e5 e6
  unfold m_Tb_least m_Ref_least
  by_cases c : vp_in y1 B
  · rw [hasBoat_t hB c, isBoat_t (by omega) c, kb1_e, kb1_e, if_neg n1, if_neg n1]
    obtain ⟨b, hb, rfl⟩ := vp_in_of c (by omega)
    by_cases cj : vp_in y2 J
    · rw [hasJunction_t (by omega) cj, isJunction_t (by omega) cj, kb1_e, kb1_e, if_neg n1, if_neg n1]
      obtain ⟨jj, hjj, rfl⟩ := vp_in_of cj (by omega)
      by_cases c2 : 0 ≤ y3.toInt ∧ y3.toInt ≤ 1
      · have a2 : m_Ref_in y3.toInt64 0 1 = some 1 := inN_t (a := 0) (b := 1) (by omega) (by omega) c2.1 c2.2
        have b2 : ¬ y3 < 0 := by rw [i32_lt, Int32.toInt_zero]; omega
        have b3 : y3 ≤ 1 := (le_n (n := 1) (by omega)).mpr c2.2
        obtain ⟨j, f, p, hj, hf, hp, r1, s1, r2, s2, r3, s3, -⟩ := hS.1 b hb
        obtain ⟨w, hw9, w1, w2⟩ := hw b hb
        obtain ⟨pl', ne', l1, l2⟩ := layWay_i (L := 201) (p := p) hJ hB hb hj hf hw9 (by omega) hh ht r1 r2 w1 t_way_places t_way_needs t_way_last
        have l1' : m_Tb_layWay (nI b) 201 (nI B) t_here_boatWear t_here_onward t_here_onwardHard t_fleet_row t_way_places t_way_needs t_way_last = some (pl', ne', 201) := l1
        rw [a2, kb1_e, if_neg n1, if_neg b2, if_pos b3, l1', kb3_e, fl_pull (by omega), kb1_e, kb1_e, r3, la10, kg_i (by omega) (by omega), kg_i (by omega) (by omega), nI_clamp (by omega), s3]
        by_cases c3 : y3 = 0
        · subst c3
          obtain ⟨v, hv, x1, x2⟩ := less_loop hJ hj hf hjj hp l2 201 0 FU 0 (by omega) (FU_gt (by omega)) (by omega) (Or.inl ⟨rfl, fun k hk => absurd hk (by omega)⟩)
          have x1' : m_Way_leastLess (nI p) (nI jj) pl' ne' 201 = some (om v) := by
            unfold m_Way_leastLess; rw [← om_0]; exact x1
          have he : ∀ m : Nat, m ≤ p → (if (0 : Int32) = 0 then z_now (10 + b) - nI m else z_now (10 + b) + nI m) = nI (p - m) := fun m hm' => by rw [if_pos p0, s3, pk_sub hm']
          rw [if_pos p0, if_pos p0, x1', kb1_e]
          unfold m_Ref_least_B61
          rcases x2 with ⟨rfl, hno⟩ | ⟨k, hk, ⟨k1, k2, k3⟩, rfl, hmin⟩
          · obtain ⟨a', f', p', i⟩ := find_none (B := B) (qf := fun m => p - m) hJ (show b < 5 by omega) hj hf hjj hw9 hp hh s1 s2 w2 (fun m _ => by show p - m ≤ 999; omega) he (fun m hm' hs => by
              obtain ⟨k, hk, q1, q2, q3⟩ := sitsAt_iff.mp hs
              have q2 : nd hm J j f w k ≤ p - m := q2
              have q3 : p - m < nd hm J j f w (k + 1) := q3
              exact hno k (by omega) ⟨q1, by omega, by omega⟩) (p + 1) 0 FU z_at z_from z_pull (by omega) (FU_gt (by omega))
            have i' : m_Ref_least_L66 FU (nI b) (nI jj) 0 (nI p) 0 (nI J) z_hard (nI B) z_wears z_now z_at z_from z_pull = _ := i
            rw [i', om_0]; exact ⟨_, _, _, _, _, _, _, rfl, rfl, h'⟩
          · have hmin' : ∀ k' : Nat, k' < 201 → (ps hm J j f k').1 = jj ∧ nd hm J j f w k' < nd hm J j f w (k' + 1) ∧ nd hm J j f w k' ≤ p → p + 1 - nd hm J j f w (k + 1) ≤ p + 1 - nd hm J j f w (k' + 1) := hmin
            obtain ⟨a', f', p', i⟩ := find_some (B := B) (M := p) (m0 := p + 1 - nd hm J j f w (k + 1)) (qf := fun m => p - m) hJ (show b < 5 by omega) hj hf hjj hw9 hp (by omega) hh s1 s2 w2 (fun m _ => by show p - m ≤ 999; omega) he (fun m hm' hs => by
              obtain ⟨k', hk', q1, q2, q3⟩ := sitsAt_iff.mp hs
              have q2 : nd hm J j f w k' ≤ p - m := q2
              have q3 : p - m < nd hm J j f w (k' + 1) := q3
              have := hmin' k' (by omega) ⟨q1, by omega, by omega⟩
              omega) (sitsAt_iff.mpr ⟨k, by omega, k1, by show nd hm J j f w k ≤ p - (p + 1 - nd hm J j f w (k + 1)); omega, by show p - (p + 1 - nd hm J j f w (k + 1)) < nd hm J j f w (k + 1); omega⟩) (p + 1 - nd hm J j f w (k + 1)) 0 FU z_at z_from z_pull (by omega) (FU_gt (by omega))
            have i' : m_Ref_least_L66 FU (nI b) (nI jj) 0 (nI p) 0 (nI J) z_hard (nI B) z_wears z_now z_at z_from z_pull = _ := i
            rw [i', om_s]; exact ⟨_, _, _, _, _, _, _, rfl, rfl, h'⟩
        · obtain ⟨v, hv, x1, x2⟩ := more_loop hJ hj hf hjj hp l2 201 0 FU 0 (by omega) (FU_gt (by omega)) (by omega) (Or.inl ⟨rfl, fun k hk => absurd hk (by omega)⟩)
          have x1' : m_Way_leastMore (nI p) (nI jj) pl' ne' 201 = some (om v) := by
            unfold m_Way_leastMore; rw [← om_0]; exact x1
          have e9 : (999 : Int32) - nI p = nI (999 - p) := pk_sub (a := 999) hp
          have he : ∀ m : Nat, m ≤ 999 - p → (if y3 = 0 then z_now (10 + b) - nI m else z_now (10 + b) + nI m) = nI (p + m) := fun m hm' => by rw [if_neg c3, s3, nI_add]
          rw [if_neg c3, if_neg c3, x1', kb1_e, e9]
          unfold m_Ref_least_B61
          have nl := fun k => nd_le hm J j f w k
          rcases x2 with ⟨rfl, hno⟩ | ⟨k, hk, ⟨k1, k2, k3⟩, rfl, hmin⟩
          · obtain ⟨a', f', p', i⟩ := find_none (B := B) (M := 999 - p) (qf := fun m => p + m) hJ (show b < 5 by omega) hj hf hjj hw9 (by omega) hh s1 s2 w2 (fun m _ => by show p + m ≤ 999; omega) he (fun m hm' hs => by
              obtain ⟨k, hk, q1, q2, q3⟩ := sitsAt_iff.mp hs
              have q2 : nd hm J j f w k ≤ p + m := q2
              have q3 : p + m < nd hm J j f w (k + 1) := q3
              exact hno k (by omega) ⟨q1, by omega, by omega⟩) (999 - p + 1) 0 FU z_at z_from z_pull (by omega) (FU_gt (by omega))
            have i' : m_Ref_least_L66 FU (nI b) (nI jj) y3 (nI (999 - p)) 0 (nI J) z_hard (nI B) z_wears z_now z_at z_from z_pull = _ := i
            rw [i', om_0]; exact ⟨_, _, _, _, _, _, _, rfl, rfl, h'⟩
          · have hmin' : ∀ k' : Nat, k' < 201 → (ps hm J j f k').1 = jj ∧ nd hm J j f w k' < nd hm J j f w (k' + 1) ∧ p < nd hm J j f w (k' + 1) → nd hm J j f w k - p ≤ nd hm J j f w k' - p := hmin
            have nk := nl (k + 1)
            obtain ⟨a', f', p', i⟩ := find_some (B := B) (M := 999 - p) (m0 := nd hm J j f w k - p) (qf := fun m => p + m) hJ (show b < 5 by omega) hj hf hjj hw9 (by omega) (by omega) hh s1 s2 w2 (fun m _ => by show p + m ≤ 999; omega) he (fun m hm' hs => by
              obtain ⟨k', hk', q1, q2, q3⟩ := sitsAt_iff.mp hs
              have q2 : nd hm J j f w k' ≤ p + m := q2
              have q3 : p + m < nd hm J j f w (k' + 1) := q3
              have := hmin' k' (by omega) ⟨q1, by omega, by omega⟩
              omega) (sitsAt_iff.mpr ⟨k, by omega, k1, by show nd hm J j f w k ≤ p + (nd hm J j f w k - p); omega, by show p + (nd hm J j f w k - p) < nd hm J j f w (k + 1); omega⟩) (nd hm J j f w k - p) 0 FU z_at z_from z_pull (by omega) (FU_gt (by omega))
            have i' : m_Ref_least_L66 FU (nI b) (nI jj) y3 (nI (999 - p)) 0 (nI J) z_hard (nI B) z_wears z_now z_at z_from z_pull = _ := i
            rw [i', om_s]; exact ⟨_, _, _, _, _, _, _, rfl, rfl, h'⟩
      · have a2 : m_Ref_in y3.toInt64 0 1 = some 0 := inN_f (a := 0) (b := 1) (by omega) (by omega) c2
        rw [a2, kb1_e, if_pos p0]
        by_cases b2 : y3 < 0
        · rw [if_pos b2]; exact ⟨_, _, _, _, _, _, _, rfl, rfl, h'⟩
        · have b3 : ¬ y3 ≤ 1 := fun q => c2 ⟨ge0 b2, (le_n (n := 1) (by omega)).mp q⟩
          rw [if_neg b2, if_neg b3]; exact ⟨_, _, _, _, _, _, _, rfl, rfl, h'⟩
    · rw [hasJunction_f (by omega) cj, isJunction_f (by omega) cj, kb1_e, kb1_e, if_pos p0, if_pos p0]
      exact ⟨_, _, _, _, _, _, _, rfl, rfl, h'⟩
  · rw [hasBoat_f hB c, isBoat_f (by omega) c, kb1_e, kb1_e, if_pos p0, if_pos p0]
    exact ⟨_, _, _, _, _, _, _, rfl, rfl, h'⟩
