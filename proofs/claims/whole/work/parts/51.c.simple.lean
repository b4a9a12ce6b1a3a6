theorem n1 : ¬ (1 : Int32) = 0 := by decide
theorem p0 : (0 : Int32) = 0 := rfl
theorem la5 (b : Nat) : (5 : Int32) + nI b = nI (5 + b) := nI_add 5 b
theorem la10 (b : Nat) : (10 : Int32) + nI b = nI (10 + b) := nI_add 10 b
theorem la15 (b : Nat) : (15 : Int32) + nI b = nI (15 + b) := nI_add 15 b
theorem rel_init (oq : Nat → Int32) (hoq : m_Tb_forgetQuays (fun _ => 0) = some oq) : Rel 0 (-1) (fun _ => 0) oq 0 0 0 (fun _ => 0) (fun _ => 0) (fun _ => 0) (fun _ => 0) (fun _ => 0) (fun _ => 0) (fun _ => 0) 0 0 20 (fun _ => 0) 2 (fun _ => 0) (fun _ => 0) (fun _ => 0) 0 6 0 (fun _ => 0) (fun _ => 0) (fun _ => 0) 15 0 (fun _ => 0) (fun _ => 0) (fun _ => 0) 0 0 (fun _ => 0) (fun _ => 0) (fun _ => 0) (fun _ => 0) 0 (fun _ => 0) (fun _ => 0) (fun _ => 0) 0 (fun _ => 0) 0 (-1) 0 (fun _ => 0) 0 (fun _ => 0) (fun _ => 0) (fun _ => 0) 0 (fun _ => 0) (fun _ => 0) (fun _ => 0) (fun _ => 0) := by
  unfold Rel
  refine ⟨⟨rfl, 0, by omega, rfl, rfl, fun k hk => absurd hk (by omega)⟩, 0, 0, 0, fun _ _ => 1, ⟨⟨by omega, by omega, by omega⟩, ⟨rfl, rfl, rfl, rfl, rfl, rfl⟩, fun c hc => absurd hc (by omega), fun c hc => absurd hc (by omega), fun a b _ _ => ⟨(by decide : (0 : Int32) = om 1), (by decide : 1 ≤ 100)⟩, fun j f hj => absurd hj (by omega), [], by decide, fun a b ha => absurd ha (by omega)⟩, ⟨fun c hc => absurd hc (by omega), 0, by omega, rfl, rfl⟩, fun c hc => absurd hc (by omega), ⟨rfl, 0, 0, by omega, by omega, rfl, rfl, rfl, fun c hc => absurd hc (by omega)⟩, ⟨rfl, fun i hi => Or.inl ⟨rfl, rfl⟩⟩, ⟨0, by omega, rfl, rfl⟩, ⟨rfl, 0, by omega, rfl, rfl, fun c hc => absurd hc (by omega)⟩, ⟨rfl, 0, by omega, rfl, rfl, fun c hc => absurd hc (by omega)⟩⟩
theorem sim_boat (t_lettersFed : Int32) (t_faultAt : Int32) (t_letters : Nat → Int32) (t_quays : Nat → Int32) (t_here_junctions : Int32) (t_here_cuts : Int32) (t_here_boats : Int32) (t_here_cutA : Nat → Int32) (t_here_cutB : Nat → Int32) (t_here_cutHard : Nat → Int32) (t_here_boatWear : Nat → Int32) (t_here_onward : Nat → Int32) (t_here_onwardHard : Nat → Int32) (t_fleet_row : Nat → Int32) (t_past_next : Int32) (t_past_count : Int32) (t_past_shelf_slots : Int32) (t_past_shelf_rows : Nat → Int32) (t_images_shelf_slots : Int32) (t_images_shelf_rows : Nat → Int32) (t_images_seeds : Nat → Int32) (t_images_kept : Nat → Int32) (t_draws_value : Int32) (t_seen_most : Int32) (t_seen_count : Int32) (t_seen_boats : Nat → Int32) (t_seen_steps : Nat → Int32) (t_seen_junctions : Nat → Int32) (t_book_most : Int32) (t_book_count : Int32) (t_book_boats : Nat → Int32) (t_book_steps : Nat → Int32) (t_book_junctions : Nat → Int32) (z_junctions : Int32) (z_cuts : Int32) (z_cutOne : Nat → Int32) (z_cutOther : Nat → Int32) (z_cutHard : Nat → Int32) (z_hard : Nat → Int32) (z_boats : Int32) (z_wears : Nat → Int32) (z_quays : Nat → Int32) (z_now : Nat → Int32) (z_seed : Int32) (z_text : Nat → Int32) (z_texted : Int32) (z_faultPlace : Int32) (z_undos : Int32) (z_past : Nat → Int32) (z_seen : Int32) (z_seenOf : Nat → Int32) (z_seenBehind : Nat → Int32) (z_seenAt : Nat → Int32) (z_booked : Int32) (z_bookOf : Nat → Int32) (z_bookAt : Nat → Int32) (z_images : Nat → Int32) (z_isKept : Nat → Int32) (y1 : Int32) (y2 : Int32) (h : Rel t_lettersFed t_faultAt t_letters t_quays t_here_junctions t_here_cuts t_here_boats t_here_cutA t_here_cutB t_here_cutHard t_here_boatWear t_here_onward t_here_onwardHard t_fleet_row t_past_next t_past_count t_past_shelf_slots t_past_shelf_rows t_images_shelf_slots t_images_shelf_rows t_images_seeds t_images_kept t_draws_value t_seen_most t_seen_count t_seen_boats t_seen_steps t_seen_junctions t_book_most t_book_count t_book_boats t_book_steps t_book_junctions z_junctions z_cuts z_cutOne z_cutOther z_cutHard z_hard z_boats z_wears z_quays z_now z_seed z_text z_texted z_faultPlace z_undos z_past z_seen z_seenOf z_seenBehind z_seenAt z_booked z_bookOf z_bookAt z_images z_isKept) : ∃ (r : Int32), m_Tb_boat y1 y2 t_quays t_here_boats t_here_boatWear t_fleet_row = some (r) ∧ m_Ref_boat y1 y2 z_boats z_wears z_quays z_now = some (r) ∧ Rel t_lettersFed t_faultAt t_letters t_quays t_here_junctions t_here_cuts t_here_boats t_here_cutA t_here_cutB t_here_cutHard t_here_boatWear t_here_onward t_here_onwardHard t_fleet_row t_past_next t_past_count t_past_shelf_slots t_past_shelf_rows t_images_shelf_slots t_images_shelf_rows t_images_seeds t_images_kept t_draws_value t_seen_most t_seen_count t_seen_boats t_seen_steps t_seen_junctions t_book_most t_book_count t_book_boats t_book_steps t_book_junctions z_junctions z_cuts z_cutOne z_cutOther z_cutHard z_hard z_boats z_wears z_quays z_now z_seed z_text z_texted z_faultPlace z_undos z_past z_seen z_seenOf z_seenBehind z_seenAt z_booked z_bookOf z_bookAt z_images z_isKept := by
  have h' := h
  obtain ⟨hT, J, C, B, hm, ⟨⟨hJ, hC, hB⟩, ⟨e1, e2, e3, e4, e5, e6⟩, hc, hw, -⟩, hS, hQ, hrest⟩ := h
  subst e5 e6
  by_cases c : vp_in y1 B
  · have cx := hasBoat_t hB c
    have cm := isBoat_t (by omega) c
    obtain ⟨b, hb, rfl⟩ := vp_in_of c (by omega)
    obtain ⟨j, f, p, hj, hf, hp, r1, s1, r2, s2, r3, s3, r4⟩ := hS.1 b hb
    obtain ⟨w, hw1, w1, w2⟩ := hw b hb
    obtain ⟨q, hq, q1, q2⟩ := hQ b hb
    unfold m_Tb_boat m_Ref_boat
    have k5 : ∀ K : Option Int32, kg (nI b) 5 K = K := fun K => kg_i (by omega) (by omega)
    have k0 : ∀ K : Option Int32, kg (nI b) 21 K = K := fun K => kg_i (by omega) (by omega)
    have k1 : ∀ K : Option Int32, kg (nI (5 + b)) 21 K = K := fun K => kg_i (by omega) (by omega)
    have k2 : ∀ K : Option Int32, kg (nI (10 + b)) 21 K = K := fun K => kg_i (by omega) (by omega)
    have k3 : ∀ K : Option Int32, kg (nI (15 + b)) 21 K = K := fun K => kg_i (by omega) (by omega)
    have f1 := fl_at (row := t_fleet_row) (show b < 5 by omega)
    have f2 := fl_from (row := t_fleet_row) (show b < 5 by omega)
    have f3 := fl_pull (row := t_fleet_row) (show b < 5 by omega)
    have f4 := fl_went (row := t_fleet_row) (show b < 5 by omega)
    have f5 := wearOf_i (bw := t_here_boatWear) hB hb
    have v0 := nI_clamp (n := b) (by omega)
    have v1 := nI_clamp (n := 5 + b) (by omega)
    have v2 := nI_clamp (n := 10 + b) (by omega)
    have v3 := nI_clamp (n := 15 + b) (by omega)
    rw [cx, cm, kb1_e, kb1_e, if_neg n1, if_neg n1]
    simp only [la5, la10, la15, k5, k0, k1, k2, k3, f1, f2, f3, f4, f5, v0, v1, v2, v3, kb1_e, r1, s1, r2, s2, r3, s3, r4, w1, w2, q1, q2]
    by_cases c0 : y2 = 0
    · exact ⟨nI j, by rw [if_pos c0], by rw [if_pos c0], h'⟩
    by_cases c1 : y2 = 1
    · exact ⟨om f, by rw [if_neg c0, if_pos c1], by rw [if_neg c0, if_pos c1], h'⟩
    by_cases c2 : y2 = 2
    · exact ⟨nI p, by rw [if_neg c0, if_neg c1, if_pos c2], by rw [if_neg c0, if_neg c1, if_pos c2], h'⟩
    by_cases c3 : y2 = 3
    · exact ⟨nI w, by rw [if_neg c0, if_neg c1, if_neg c2, if_pos c3], by rw [if_neg c0, if_neg c1, if_neg c2, if_pos c3], h'⟩
    by_cases c4 : y2 = 4
    · exact ⟨z_now (15 + b), by rw [if_neg c0, if_neg c1, if_neg c2, if_neg c3, if_pos c4], by rw [if_neg c0, if_neg c1, if_neg c2, if_neg c3, if_pos c4], h'⟩
    by_cases c5 : y2 = 5
    · exact ⟨om q, by rw [if_neg c0, if_neg c1, if_neg c2, if_neg c3, if_neg c4, if_pos c5], by rw [if_neg c0, if_neg c1, if_neg c2, if_neg c3, if_neg c4, if_pos c5], h'⟩
    · exact ⟨-1000000002, by rw [if_neg c0, if_neg c1, if_neg c2, if_neg c3, if_neg c4, if_neg c5], by rw [if_neg c0, if_neg c1, if_neg c2, if_neg c3, if_neg c4, if_neg c5], h'⟩
  · refine ⟨-1000000001, ?_, ?_, h'⟩
    · unfold m_Tb_boat; rw [hasBoat_f hB c, kb1_e, if_pos p0]
    · unfold m_Ref_boat; rw [isBoat_f (by omega) c, kb1_e, if_pos p0]
theorem sim_see (t_lettersFed : Int32) (t_faultAt : Int32) (t_letters : Nat → Int32) (t_quays : Nat → Int32) (t_here_junctions : Int32) (t_here_cuts : Int32) (t_here_boats : Int32) (t_here_cutA : Nat → Int32) (t_here_cutB : Nat → Int32) (t_here_cutHard : Nat → Int32) (t_here_boatWear : Nat → Int32) (t_here_onward : Nat → Int32) (t_here_onwardHard : Nat → Int32) (t_fleet_row : Nat → Int32) (t_past_next : Int32) (t_past_count : Int32) (t_past_shelf_slots : Int32) (t_past_shelf_rows : Nat → Int32) (t_images_shelf_slots : Int32) (t_images_shelf_rows : Nat → Int32) (t_images_seeds : Nat → Int32) (t_images_kept : Nat → Int32) (t_draws_value : Int32) (t_seen_most : Int32) (t_seen_count : Int32) (t_seen_boats : Nat → Int32) (t_seen_steps : Nat → Int32) (t_seen_junctions : Nat → Int32) (t_book_most : Int32) (t_book_count : Int32) (t_book_boats : Nat → Int32) (t_book_steps : Nat → Int32) (t_book_junctions : Nat → Int32) (z_junctions : Int32) (z_cuts : Int32) (z_cutOne : Nat → Int32) (z_cutOther : Nat → Int32) (z_cutHard : Nat → Int32) (z_hard : Nat → Int32) (z_boats : Int32) (z_wears : Nat → Int32) (z_quays : Nat → Int32) (z_now : Nat → Int32) (z_seed : Int32) (z_text : Nat → Int32) (z_texted : Int32) (z_faultPlace : Int32) (z_undos : Int32) (z_past : Nat → Int32) (z_seen : Int32) (z_seenOf : Nat → Int32) (z_seenBehind : Nat → Int32) (z_seenAt : Nat → Int32) (z_booked : Int32) (z_bookOf : Nat → Int32) (z_bookAt : Nat → Int32) (z_images : Nat → Int32) (z_isKept : Nat → Int32) (y1 : Int32) (y2 : Int32) (y3 : Int32) (h : Rel t_lettersFed t_faultAt t_letters t_quays t_here_junctions t_here_cuts t_here_boats t_here_cutA t_here_cutB t_here_cutHard t_here_boatWear t_here_onward t_here_onwardHard t_fleet_row t_past_next t_past_count t_past_shelf_slots t_past_shelf_rows t_images_shelf_slots t_images_shelf_rows t_images_seeds t_images_kept t_draws_value t_seen_most t_seen_count t_seen_boats t_seen_steps t_seen_junctions t_book_most t_book_count t_book_boats t_book_steps t_book_junctions z_junctions z_cuts z_cutOne z_cutOther z_cutHard z_hard z_boats z_wears z_quays z_now z_seed z_text z_texted z_faultPlace z_undos z_past z_seen z_seenOf z_seenBehind z_seenAt z_booked z_bookOf z_bookAt z_images z_isKept) : ∃ (r : Int32) (o_t_seen_boats : Nat → Int32) (o_t_seen_steps : Nat → Int32) (o_t_seen_junctions : Nat → Int32) (o_t_seen_count : Int32) (o_z_seen : Int32) (o_z_seenOf : Nat → Int32) (o_z_seenBehind : Nat → Int32) (o_z_seenAt : Nat → Int32), m_Tb_see y1 y2 y3 t_here_junctions t_here_boats t_seen_most t_seen_boats t_seen_steps t_seen_junctions t_seen_count = some (r, o_t_seen_boats, o_t_seen_steps, o_t_seen_junctions, o_t_seen_count) ∧ m_Ref_see y1 y2 y3 z_junctions z_boats z_seen z_seenOf z_seenBehind z_seenAt = some (r, o_z_seen, o_z_seenOf, o_z_seenBehind, o_z_seenAt) ∧ Rel t_lettersFed t_faultAt t_letters t_quays t_here_junctions t_here_cuts t_here_boats t_here_cutA t_here_cutB t_here_cutHard t_here_boatWear t_here_onward t_here_onwardHard t_fleet_row t_past_next t_past_count t_past_shelf_slots t_past_shelf_rows t_images_shelf_slots t_images_shelf_rows t_images_seeds t_images_kept t_draws_value t_seen_most o_t_seen_count o_t_seen_boats o_t_seen_steps o_t_seen_junctions t_book_most t_book_count t_book_boats t_book_steps t_book_junctions z_junctions z_cuts z_cutOne z_cutOther z_cutHard z_hard z_boats z_wears z_quays z_now z_seed z_text z_texted z_faultPlace z_undos z_past o_z_seen o_z_seenOf o_z_seenBehind o_z_seenAt z_booked z_bookOf z_bookAt z_images z_isKept := by
  have h' := h
  obtain ⟨hT, J, C, B, hm, hW, hS, hQ, hP, hI, hD, ⟨m1, n, hn, e7, e8, he⟩, hK⟩ := h
  have hW' := hW
  obtain ⟨⟨hJ, hC, hB⟩, ⟨e1, e2, e3, e4, e5, e6⟩, -⟩ := hW
  subst e1 e2 e5 e6 m1 e7 e8
  by_cases c : vp_in y1 B
  · have cx := hasBoat_t hB c
    have cm := isBoat_t (by omega) c
    by_cases cj : vp_in y3 J
    · have cjx := hasJunction_t (by omega) cj
      have cjm := isJunction_t (by omega) cj
      unfold m_Tb_see m_Ref_see
      rw [cx, cm, kb1_e, kb1_e, if_neg n1, if_neg n1, cjx, cjm, kb1_e, kb1_e, if_neg n1, if_neg n1]
      by_cases ct : 0 ≤ y2.toInt ∧ y2.toInt ≤ 30
      · have a1 : m_Ref_in y2.toInt64 0 30 = some 1 := inN_t (a := 0) (b := 30) (by omega) (by omega) ct.1 ct.2
        have b1 : ¬ y2 < 0 := by rw [i32_lt, Int32.toInt_zero]; omega
        have b2 : y2 ≤ 30 := (le_n (n := 30) (by omega)).mpr ct.2
        rw [a1, kb1_e, if_neg b1, if_pos b2, if_neg (show ¬ (1 : Int32) = 0 by decide)]
        obtain ⟨b, hb, rfl⟩ := vp_in_of c (by omega)
        obtain ⟨j, hj, rfl⟩ := vp_in_of cj (by omega)
        obtain ⟨t, ht, rfl⟩ := i32_N (n := 30) (by omega) ct.1 ct.2
        by_cases cn : n < 6
        · have g : m_Entries_add (nI b) (nI t) (nI j) 6 6 t_seen_boats t_seen_steps t_seen_junctions (nI n) = _ := en_add_t (M := 6) cn (by omega)
          have g2 : ¬ nI n = 6 := nceq (b := 6) (by omega) (by omega) (by omega)
          rw [g, kb5_e, if_neg n1, if_neg g2, kg_i cn (by omega), kg_i cn (by omega), kg_i cn (by omega), nI_clamp (by omega), nI_1]
          refine ⟨_, _, _, _, _, _, _, _, _, rfl, rfl, ?_⟩
          unfold Rel
          refine ⟨hT, J, C, B, hm, hW', hS, hQ, hP, hI, hD, ⟨rfl, n + 1, by omega, rfl, rfl, fun e hee => ?_⟩, hK⟩
          by_cases q : e = n
          · subst q; exact ⟨b, t, j, hb, ht, hj, pk_us, pk_us, pk_us, pk_us, pk_us, pk_us⟩
          · rw [pk_un q, pk_un q, pk_un q, pk_un q, pk_un q, pk_un q]; exact he e (by omega)
        · have hn6 : n = 6 := by omega
          subst hn6
          have g : m_Entries_add (nI b) (nI t) (nI j) 6 6 t_seen_boats t_seen_steps t_seen_junctions (nI 6) = _ := en_add_f (M := 6) (by omega) (by omega)
          rw [g, kb5_e, if_pos p0, if_pos (by decide)]
          exact ⟨_, _, _, _, _, _, _, _, _, rfl, rfl, h'⟩
      · have a1 : m_Ref_in y2.toInt64 0 30 = some 0 := inN_f (a := 0) (b := 30) (by omega) (by omega) ct
        rw [a1, kb1_e, if_pos p0]
        by_cases b1 : y2 < 0
        · rw [if_pos b1]; exact ⟨_, _, _, _, _, _, _, _, _, rfl, rfl, h'⟩
        · have b2 : ¬ y2 ≤ 30 := fun q => ct ⟨ge0 b1, (le_n (n := 30) (by omega)).mp q⟩
          rw [if_neg b1, if_neg b2]; exact ⟨_, _, _, _, _, _, _, _, _, rfl, rfl, h'⟩
    · unfold m_Tb_see m_Ref_see
      rw [cx, cm, kb1_e, kb1_e, if_neg n1, if_neg n1, hasJunction_f (by omega) cj, isJunction_f (by omega) cj, kb1_e, kb1_e, if_pos p0, if_pos p0]
      exact ⟨_, _, _, _, _, _, _, _, _, rfl, rfl, h'⟩
  · unfold m_Tb_see m_Ref_see
    rw [hasBoat_f hB c, isBoat_f (by omega) c, kb1_e, kb1_e, if_pos p0, if_pos p0]
    exact ⟨_, _, _, _, _, _, _, _, _, rfl, rfl, h'⟩
theorem sim_write (t_lettersFed : Int32) (t_faultAt : Int32) (t_letters : Nat → Int32) (t_quays : Nat → Int32) (t_here_junctions : Int32) (t_here_cuts : Int32) (t_here_boats : Int32) (t_here_cutA : Nat → Int32) (t_here_cutB : Nat → Int32) (t_here_cutHard : Nat → Int32) (t_here_boatWear : Nat → Int32) (t_here_onward : Nat → Int32) (t_here_onwardHard : Nat → Int32) (t_fleet_row : Nat → Int32) (t_past_next : Int32) (t_past_count : Int32) (t_past_shelf_slots : Int32) (t_past_shelf_rows : Nat → Int32) (t_images_shelf_slots : Int32) (t_images_shelf_rows : Nat → Int32) (t_images_seeds : Nat → Int32) (t_images_kept : Nat → Int32) (t_draws_value : Int32) (t_seen_most : Int32) (t_seen_count : Int32) (t_seen_boats : Nat → Int32) (t_seen_steps : Nat → Int32) (t_seen_junctions : Nat → Int32) (t_book_most : Int32) (t_book_count : Int32) (t_book_boats : Nat → Int32) (t_book_steps : Nat → Int32) (t_book_junctions : Nat → Int32) (z_junctions : Int32) (z_cuts : Int32) (z_cutOne : Nat → Int32) (z_cutOther : Nat → Int32) (z_cutHard : Nat → Int32) (z_hard : Nat → Int32) (z_boats : Int32) (z_wears : Nat → Int32) (z_quays : Nat → Int32) (z_now : Nat → Int32) (z_seed : Int32) (z_text : Nat → Int32) (z_texted : Int32) (z_faultPlace : Int32) (z_undos : Int32) (z_past : Nat → Int32) (z_seen : Int32) (z_seenOf : Nat → Int32) (z_seenBehind : Nat → Int32) (z_seenAt : Nat → Int32) (z_booked : Int32) (z_bookOf : Nat → Int32) (z_bookAt : Nat → Int32) (z_images : Nat → Int32) (z_isKept : Nat → Int32) (y1 : Int32) (y2 : Int32) (h : Rel t_lettersFed t_faultAt t_letters t_quays t_here_junctions t_here_cuts t_here_boats t_here_cutA t_here_cutB t_here_cutHard t_here_boatWear t_here_onward t_here_onwardHard t_fleet_row t_past_next t_past_count t_past_shelf_slots t_past_shelf_rows t_images_shelf_slots t_images_shelf_rows t_images_seeds t_images_kept t_draws_value t_seen_most t_seen_count t_seen_boats t_seen_steps t_seen_junctions t_book_most t_book_count t_book_boats t_book_steps t_book_junctions z_junctions z_cuts z_cutOne z_cutOther z_cutHard z_hard z_boats z_wears z_quays z_now z_seed z_text z_texted z_faultPlace z_undos z_past z_seen z_seenOf z_seenBehind z_seenAt z_booked z_bookOf z_bookAt z_images z_isKept) : ∃ (r : Int32) (o_t_book_boats : Nat → Int32) (o_t_book_steps : Nat → Int32) (o_t_book_junctions : Nat → Int32) (o_t_book_count : Int32) (o_z_booked : Int32) (o_z_bookOf : Nat → Int32) (o_z_bookAt : Nat → Int32), m_Tb_write y1 y2 t_here_junctions t_here_boats t_book_most t_book_boats t_book_steps t_book_junctions t_book_count = some (r, o_t_book_boats, o_t_book_steps, o_t_book_junctions, o_t_book_count) ∧ m_Ref_write y1 y2 z_junctions z_boats z_booked z_bookOf z_bookAt = some (r, o_z_booked, o_z_bookOf, o_z_bookAt) ∧ Rel t_lettersFed t_faultAt t_letters t_quays t_here_junctions t_here_cuts t_here_boats t_here_cutA t_here_cutB t_here_cutHard t_here_boatWear t_here_onward t_here_onwardHard t_fleet_row t_past_next t_past_count t_past_shelf_slots t_past_shelf_rows t_images_shelf_slots t_images_shelf_rows t_images_seeds t_images_kept t_draws_value t_seen_most t_seen_count t_seen_boats t_seen_steps t_seen_junctions t_book_most o_t_book_count o_t_book_boats o_t_book_steps o_t_book_junctions z_junctions z_cuts z_cutOne z_cutOther z_cutHard z_hard z_boats z_wears z_quays z_now z_seed z_text z_texted z_faultPlace z_undos z_past z_seen z_seenOf z_seenBehind z_seenAt o_z_booked o_z_bookOf o_z_bookAt z_images z_isKept := by
  have h' := h
  obtain ⟨hT, J, C, B, hm, hW, hS, hQ, hP, hI, hD, hE, ⟨m1, n, hn, e7, e8, he⟩⟩ := h
  have hW' := hW
  obtain ⟨⟨hJ, hC, hB⟩, ⟨e1, e2, e3, e4, e5, e6⟩, -⟩ := hW
  subst e1 e2 e5 e6 m1 e7 e8
  by_cases c : vp_in y1 B
  · have cx := hasBoat_t hB c
    have cm := isBoat_t (by omega) c
    by_cases cj : vp_in y2 J
    · have cjx := hasJunction_t (by omega) cj
      have cjm := isJunction_t (by omega) cj
      unfold m_Tb_write m_Ref_write
      rw [cx, cm, kb1_e, kb1_e, if_neg n1, if_neg n1, cjx, cjm, kb1_e, kb1_e, if_neg n1, if_neg n1]
      obtain ⟨b, hb, rfl⟩ := vp_in_of c (by omega)
      obtain ⟨j, hj, rfl⟩ := vp_in_of cj (by omega)
      by_cases cn : n < 15
      · have g : m_Entries_add (nI b) 0 (nI j) 15 15 t_book_boats t_book_steps t_book_junctions (nI n) = _ := en_add_t (M := 15) cn (by omega)
        have g2 : ¬ nI n = 15 := nceq (b := 15) (by omega) (by omega) (by omega)
        rw [g, kb5_e, if_neg n1, if_neg g2, kg_i cn (by omega), kg_i cn (by omega), nI_clamp (by omega), nI_1]
        refine ⟨_, _, _, _, _, _, _, _, rfl, rfl, ?_⟩
        unfold Rel
        refine ⟨hT, J, C, B, hm, hW', hS, hQ, hP, hI, hD, hE, ⟨rfl, n + 1, by omega, rfl, rfl, fun e hee => ?_⟩⟩
        by_cases q : e = n
        · subst q; exact ⟨b, j, hb, hj, pk_us, pk_us, pk_us, pk_us⟩
        · rw [pk_un q, pk_un q, pk_un q, pk_un q]; exact he e (by omega)
      · have hn6 : n = 15 := by omega
        subst hn6
        have g : m_Entries_add (nI b) 0 (nI j) 15 15 t_book_boats t_book_steps t_book_junctions (nI 15) = _ := en_add_f (M := 15) (by omega) (by omega)
        rw [g, kb5_e, if_pos p0, if_pos (by decide)]
        exact ⟨_, _, _, _, _, _, _, _, rfl, rfl, h'⟩
    · unfold m_Tb_write m_Ref_write
      rw [cx, cm, kb1_e, kb1_e, if_neg n1, if_neg n1, hasJunction_f (by omega) cj, isJunction_f (by omega) cj, kb1_e, kb1_e, if_pos p0, if_pos p0]
      exact ⟨_, _, _, _, _, _, _, _, rfl, rfl, h'⟩
  · unfold m_Tb_write m_Ref_write
    rw [hasBoat_f hB c, isBoat_f (by omega) c, kb1_e, kb1_e, if_pos p0, if_pos p0]
    exact ⟨_, _, _, _, _, _, _, _, rfl, rfl, h'⟩
theorem judge_loop {J B n : Nat} {row now bo ju zo zj : Nat → Int32} (hB : B ≤ 5) (hS : Ship J B row now) (hn : n ≤ 15) (he : ∀ e : Nat, e < n → ∃ b j : Nat, b < B ∧ j < J ∧ bo e = nI b ∧ zo e = nI b ∧ ju e = nI j ∧ zj e = nI j) :
    ∀ (d k f1 f2 : Nat), k + d = n → d < f1 → d < f2 → ∃ r : Int32, m_Tb_judge_L2 f1 (nI k) row 15 bo ju (nI n) = some r ∧ m_Ref_judge_L2 f2 (nI k) now (nI n) zo zj = some r := by
  intro d
  induction d with
  | zero =>
    intro k f1 f2 hk h1 h2
    obtain ⟨g1, rfl, -⟩ := fuS h1
    obtain ⟨g2, rfl, -⟩ := fuS h2
    have c := cle (a := n) (b := k) (by omega) (by omega) (by omega)
    refine ⟨-1, ?_, ?_⟩
    · show m_Tb_judge_B2 (m_Tb_judge_L2 g1) (nI k) row 15 bo ju (nI n) = _
      unfold m_Tb_judge_B2; rw [if_pos c]
    · show m_Ref_judge_B2 (m_Ref_judge_L2 g2) (nI k) now (nI n) zo zj = _
      unfold m_Ref_judge_B2; rw [if_pos c]
  | succ d ih =>
    intro k f1 f2 hk h1 h2
    obtain ⟨g1, rfl, q1⟩ := fuS h1
    obtain ⟨g2, rfl, q2⟩ := fuS h2
    have c := ncle (a := n) (b := k) (by omega) (by omega) (by omega)
    obtain ⟨b, j, hb, hj, a1, a2, a3, a4⟩ := he k (by omega)
    obtain ⟨jj, f, p, hjj, -, -, r1, s1, -⟩ := hS.1 b hb
    obtain ⟨r, i1, i2⟩ := ih (k + 1) g1 g2 (by omega) (by omega) (by omega)
    have x1 : m_Entries_boatIn (nI k) 15 15 bo (nI n) = some (nI b) := by rw [← a1]; exact en_boat (M := 15) (by omega) hn (by omega)
    have x2 : m_Entries_junctionIn (nI k) 15 15 ju (nI n) = some (nI j) := by rw [← a3]; exact en_junction (M := 15) (by omega) hn (by omega)
    by_cases q : nI jj = nI j
    · refine ⟨r, ?_, ?_⟩
      · show m_Tb_judge_B2 (m_Tb_judge_L2 g1) (nI k) row 15 bo ju (nI n) = _
        unfold m_Tb_judge_B2
        rw [if_neg c, x1, kb1_e, fl_at (by omega), kb1_e, x2, kb1_e, r1, if_pos q, nI_1]; exact i1
      · show m_Ref_judge_B2 (m_Ref_judge_L2 g2) (nI k) now (nI n) zo zj = _
        unfold m_Ref_judge_B2
        rw [if_neg c, nI_clamp (n := k) (by omega), a2, a4, kg_i (by omega) (by omega), kg_i (by omega) (by omega), kg_i (by omega) (by omega), nI_clamp (n := b) (by omega), s1, if_pos q, nI_1]; exact i2
    · refine ⟨nI k, ?_, ?_⟩
      · show m_Tb_judge_B2 (m_Tb_judge_L2 g1) (nI k) row 15 bo ju (nI n) = _
        unfold m_Tb_judge_B2
        rw [if_neg c, x1, kb1_e, fl_at (by omega), kb1_e, x2, kb1_e, r1, if_neg q]
      · show m_Ref_judge_B2 (m_Ref_judge_L2 g2) (nI k) now (nI n) zo zj = _
        unfold m_Ref_judge_B2
        rw [if_neg c, nI_clamp (n := k) (by omega), a2, a4, kg_i (by omega) (by omega), kg_i (by omega) (by omega), kg_i (by omega) (by omega), nI_clamp (n := b) (by omega), s1, if_neg q]
theorem sim_judge (t_lettersFed : Int32) (t_faultAt : Int32) (t_letters : Nat → Int32) (t_quays : Nat → Int32) (t_here_junctions : Int32) (t_here_cuts : Int32) (t_here_boats : Int32) (t_here_cutA : Nat → Int32) (t_here_cutB : Nat → Int32) (t_here_cutHard : Nat → Int32) (t_here_boatWear : Nat → Int32) (t_here_onward : Nat → Int32) (t_here_onwardHard : Nat → Int32) (t_fleet_row : Nat → Int32) (t_past_next : Int32) (t_past_count : Int32) (t_past_shelf_slots : Int32) (t_past_shelf_rows : Nat → Int32) (t_images_shelf_slots : Int32) (t_images_shelf_rows : Nat → Int32) (t_images_seeds : Nat → Int32) (t_images_kept : Nat → Int32) (t_draws_value : Int32) (t_seen_most : Int32) (t_seen_count : Int32) (t_seen_boats : Nat → Int32) (t_seen_steps : Nat → Int32) (t_seen_junctions : Nat → Int32) (t_book_most : Int32) (t_book_count : Int32) (t_book_boats : Nat → Int32) (t_book_steps : Nat → Int32) (t_book_junctions : Nat → Int32) (z_junctions : Int32) (z_cuts : Int32) (z_cutOne : Nat → Int32) (z_cutOther : Nat → Int32) (z_cutHard : Nat → Int32) (z_hard : Nat → Int32) (z_boats : Int32) (z_wears : Nat → Int32) (z_quays : Nat → Int32) (z_now : Nat → Int32) (z_seed : Int32) (z_text : Nat → Int32) (z_texted : Int32) (z_faultPlace : Int32) (z_undos : Int32) (z_past : Nat → Int32) (z_seen : Int32) (z_seenOf : Nat → Int32) (z_seenBehind : Nat → Int32) (z_seenAt : Nat → Int32) (z_booked : Int32) (z_bookOf : Nat → Int32) (z_bookAt : Nat → Int32) (z_images : Nat → Int32) (z_isKept : Nat → Int32)  (h : Rel t_lettersFed t_faultAt t_letters t_quays t_here_junctions t_here_cuts t_here_boats t_here_cutA t_here_cutB t_here_cutHard t_here_boatWear t_here_onward t_here_onwardHard t_fleet_row t_past_next t_past_count t_past_shelf_slots t_past_shelf_rows t_images_shelf_slots t_images_shelf_rows t_images_seeds t_images_kept t_draws_value t_seen_most t_seen_count t_seen_boats t_seen_steps t_seen_junctions t_book_most t_book_count t_book_boats t_book_steps t_book_junctions z_junctions z_cuts z_cutOne z_cutOther z_cutHard z_hard z_boats z_wears z_quays z_now z_seed z_text z_texted z_faultPlace z_undos z_past z_seen z_seenOf z_seenBehind z_seenAt z_booked z_bookOf z_bookAt z_images z_isKept) : ∃ (r : Int32), m_Tb_judge t_fleet_row t_book_most t_book_boats t_book_junctions t_book_count = some (r) ∧ m_Ref_judge z_now z_booked z_bookOf z_bookAt = some (r) ∧ Rel t_lettersFed t_faultAt t_letters t_quays t_here_junctions t_here_cuts t_here_boats t_here_cutA t_here_cutB t_here_cutHard t_here_boatWear t_here_onward t_here_onwardHard t_fleet_row t_past_next t_past_count t_past_shelf_slots t_past_shelf_rows t_images_shelf_slots t_images_shelf_rows t_images_seeds t_images_kept t_draws_value t_seen_most t_seen_count t_seen_boats t_seen_steps t_seen_junctions t_book_most t_book_count t_book_boats t_book_steps t_book_junctions z_junctions z_cuts z_cutOne z_cutOther z_cutHard z_hard z_boats z_wears z_quays z_now z_seed z_text z_texted z_faultPlace z_undos z_past z_seen z_seenOf z_seenBehind z_seenAt z_booked z_bookOf z_bookAt z_images z_isKept := by
  have h' := h
  obtain ⟨hT, J, C, B, hm, hW, hS, hQ, hP, hI, hD, hE, ⟨m1, n, hn, e7, e8, he⟩⟩ := h
  subst m1 e7 e8
  obtain ⟨r, a, b⟩ := judge_loop hW.1.2.2 hS hn he n 0 FU FU (by omega) (FU_gt (by omega)) (FU_gt (by omega))
  exact ⟨r, a, b, h'⟩
theorem towed_loop {J B : Nat} {row now : Nat → Int32} (hB : B ≤ 5) (hS : Ship J B row now) {b : Nat} (hb : b < B) :
    ∀ (d k f1 f2 : Nat) (x2 : Int32), k + d = B → d < f1 → d < f2 → ∃ r : Int32, m_Tb_towed_L18 f1 (nI b) x2 (nI k) (nI B) row = some r ∧ m_Ref_towed_L15 f2 (nI b) x2 (nI k) (nI B) now = some r := by
  intro d
  induction d with
  | zero =>
    intro k f1 f2 x2 hk h1 h2
    obtain ⟨g1, rfl, -⟩ := fuS h1
    obtain ⟨g2, rfl, -⟩ := fuS h2
    have c := cle (a := B) (b := k) (by omega) (by omega) (by omega)
    obtain ⟨j, f, p, -, -, -, -, -, -, -, r3, s3, -⟩ := hS.1 b hb
    by_cases z : x2 = 0
    · refine ⟨0, ?_, ?_⟩
      · show m_Tb_towed_B18 (m_Tb_towed_L18 g1) (nI b) x2 (nI k) (nI B) row = _
        unfold m_Tb_towed_B18 m_Tb_towed_B46; rw [if_pos c, if_pos z]
      · show m_Ref_towed_B15 (m_Ref_towed_L15 g2) (nI b) x2 (nI k) (nI B) now = _
        unfold m_Ref_towed_B15 m_Ref_towed_B41; rw [if_pos c, if_pos z]
    · refine ⟨nI p * 1000 / x2, ?_, ?_⟩
      · show m_Tb_towed_B18 (m_Tb_towed_L18 g1) (nI b) x2 (nI k) (nI B) row = _
        unfold m_Tb_towed_B18 m_Tb_towed_B46; rw [if_pos c, if_neg z, fl_pull (by omega), kb1_e, r3]; unfold kz; rw [if_neg z]
      · show m_Ref_towed_B15 (m_Ref_towed_L15 g2) (nI b) x2 (nI k) (nI B) now = _
        unfold m_Ref_towed_B15 m_Ref_towed_B41; rw [if_pos c, if_neg z, la10, kg_i (by omega) (by omega), nI_clamp (by omega), s3]; unfold kz; rw [if_neg z]
  | succ d ih =>
    intro k f1 f2 x2 hk h1 h2
    obtain ⟨g1, rfl, q1⟩ := fuS h1
    obtain ⟨g2, rfl, q2⟩ := fuS h2
    have c := ncle (a := B) (b := k) (by omega) (by omega) (by omega)
    obtain ⟨j, f, p, -, -, -, -, -, -, -, r3, s3, -⟩ := hS.1 k (by omega)
    obtain ⟨r, i1, i2⟩ := ih (k + 1) g1 g2 (x2 + nI p) (by omega) (by omega) (by omega)
    refine ⟨r, ?_, ?_⟩
    · show m_Tb_towed_B18 (m_Tb_towed_L18 g1) (nI b) x2 (nI k) (nI B) row = _
      unfold m_Tb_towed_B18; rw [if_neg c, fl_pull (by omega), kb1_e, r3, nI_1]; exact i1
    · show m_Ref_towed_B15 (m_Ref_towed_L15 g2) (nI b) x2 (nI k) (nI B) now = _
      unfold m_Ref_towed_B15; rw [if_neg c, la10, kg_i (by omega) (by omega), nI_clamp (by omega), s3, nI_1]; exact i2
theorem sim_towed (t_lettersFed : Int32) (t_faultAt : Int32) (t_letters : Nat → Int32) (t_quays : Nat → Int32) (t_here_junctions : Int32) (t_here_cuts : Int32) (t_here_boats : Int32) (t_here_cutA : Nat → Int32) (t_here_cutB : Nat → Int32) (t_here_cutHard : Nat → Int32) (t_here_boatWear : Nat → Int32) (t_here_onward : Nat → Int32) (t_here_onwardHard : Nat → Int32) (t_fleet_row : Nat → Int32) (t_past_next : Int32) (t_past_count : Int32) (t_past_shelf_slots : Int32) (t_past_shelf_rows : Nat → Int32) (t_images_shelf_slots : Int32) (t_images_shelf_rows : Nat → Int32) (t_images_seeds : Nat → Int32) (t_images_kept : Nat → Int32) (t_draws_value : Int32) (t_seen_most : Int32) (t_seen_count : Int32) (t_seen_boats : Nat → Int32) (t_seen_steps : Nat → Int32) (t_seen_junctions : Nat → Int32) (t_book_most : Int32) (t_book_count : Int32) (t_book_boats : Nat → Int32) (t_book_steps : Nat → Int32) (t_book_junctions : Nat → Int32) (z_junctions : Int32) (z_cuts : Int32) (z_cutOne : Nat → Int32) (z_cutOther : Nat → Int32) (z_cutHard : Nat → Int32) (z_hard : Nat → Int32) (z_boats : Int32) (z_wears : Nat → Int32) (z_quays : Nat → Int32) (z_now : Nat → Int32) (z_seed : Int32) (z_text : Nat → Int32) (z_texted : Int32) (z_faultPlace : Int32) (z_undos : Int32) (z_past : Nat → Int32) (z_seen : Int32) (z_seenOf : Nat → Int32) (z_seenBehind : Nat → Int32) (z_seenAt : Nat → Int32) (z_booked : Int32) (z_bookOf : Nat → Int32) (z_bookAt : Nat → Int32) (z_images : Nat → Int32) (z_isKept : Nat → Int32) (y1 : Int32) (h : Rel t_lettersFed t_faultAt t_letters t_quays t_here_junctions t_here_cuts t_here_boats t_here_cutA t_here_cutB t_here_cutHard t_here_boatWear t_here_onward t_here_onwardHard t_fleet_row t_past_next t_past_count t_past_shelf_slots t_past_shelf_rows t_images_shelf_slots t_images_shelf_rows t_images_seeds t_images_kept t_draws_value t_seen_most t_seen_count t_seen_boats t_seen_steps t_seen_junctions t_book_most t_book_count t_book_boats t_book_steps t_book_junctions z_junctions z_cuts z_cutOne z_cutOther z_cutHard z_hard z_boats z_wears z_quays z_now z_seed z_text z_texted z_faultPlace z_undos z_past z_seen z_seenOf z_seenBehind z_seenAt z_booked z_bookOf z_bookAt z_images z_isKept) : ∃ (r : Int32), m_Tb_towed y1 t_here_boats t_fleet_row = some (r) ∧ m_Ref_towed y1 z_boats z_now = some (r) ∧ Rel t_lettersFed t_faultAt t_letters t_quays t_here_junctions t_here_cuts t_here_boats t_here_cutA t_here_cutB t_here_cutHard t_here_boatWear t_here_onward t_here_onwardHard t_fleet_row t_past_next t_past_count t_past_shelf_slots t_past_shelf_rows t_images_shelf_slots t_images_shelf_rows t_images_seeds t_images_kept t_draws_value t_seen_most t_seen_count t_seen_boats t_seen_steps t_seen_junctions t_book_most t_book_count t_book_boats t_book_steps t_book_junctions z_junctions z_cuts z_cutOne z_cutOther z_cutHard z_hard z_boats z_wears z_quays z_now z_seed z_text z_texted z_faultPlace z_undos z_past z_seen z_seenOf z_seenBehind z_seenAt z_booked z_bookOf z_bookAt z_images z_isKept := by
  have h' := h
  obtain ⟨hT, J, C, B, hm, ⟨⟨hJ, hC, hB⟩, ⟨e1, e2, e3, e4, e5, e6⟩, -⟩, hS, -⟩ := h
  subst e5 e6
  by_cases c : vp_in y1 B
  · have cx := hasBoat_t hB c
    have cm := isBoat_t (by omega) c
    obtain ⟨b, hb, rfl⟩ := vp_in_of c (by omega)
    obtain ⟨r, a1, a2⟩ := towed_loop hB hS hb B 0 FU FU 0 (by omega) (FU_gt (by omega)) (FU_gt (by omega))
    unfold m_Tb_towed m_Ref_towed
    rw [cx, cm, kb1_e, kb1_e, if_neg n1, if_neg n1]
    exact ⟨r, a1, a2, h'⟩
  · unfold m_Tb_towed m_Ref_towed
    rw [hasBoat_f hB c, isBoat_f (by omega) c, kb1_e, kb1_e, if_pos p0, if_pos p0]
    exact ⟨_, rfl, rfl, h'⟩
