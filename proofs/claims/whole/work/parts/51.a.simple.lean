theorem l64 {n : Nat} (h : n < 2 ^ 63) : (lN n).toInt = (n : Int) := pk_lT h
theorem inN_t {y : Int32} {a b : Nat} (ha : a < 2 ^ 31) (hb : b < 2 ^ 31) (h1 : (a : Int) ≤ y.toInt) (h2 : y.toInt ≤ b) : m_Ref_in y.toInt64 (lN a) (lN b) = some 1 := by
  rw [ref_inI, if_pos]
  rw [l64 (by omega), l64 (by omega)]; exact ⟨h1, h2⟩
theorem inN_f {y : Int32} {a b : Nat} (ha : a < 2 ^ 31) (hb : b < 2 ^ 31) (h : ¬ ((a : Int) ≤ y.toInt ∧ y.toInt ≤ b)) : m_Ref_in y.toInt64 (lN a) (lN b) = some 0 := by
  rw [ref_inI, if_neg]
  rw [l64 (by omega), l64 (by omega)]; exact h
theorem ge0 {y : Int32} (h : ¬ y < 0) : 0 ≤ y.toInt := by
  rw [i32_lt, Int32.toInt_zero] at h; omega
theorem lt0 {y : Int32} (h : y < 0) : y.toInt < 0 := by
  rw [i32_lt, Int32.toInt_zero] at h; exact h
theorem le_n {y : Int32} {n : Nat} (hn : n < 2 ^ 31) : y ≤ nI n ↔ y.toInt ≤ n := by rw [i32_le, nI_toInt hn]
theorem lt_n {y : Int32} {n : Nat} (hn : n < 2 ^ 31) : y < nI n ↔ y.toInt < n := by rw [i32_lt, nI_toInt hn]
theorem n_le {y : Int32} {n : Nat} (hn : n < 2 ^ 31) : nI n ≤ y ↔ (n : Int) ≤ y.toInt := by rw [i32_le, nI_toInt hn]
theorem n_lt {y : Int32} {n : Nat} (hn : n < 2 ^ 31) : nI n < y ↔ (n : Int) < y.toInt := by rw [i32_lt, nI_toInt hn]
/-- an int between 0 and n, as a number -/
theorem i32_N {y : Int32} {n : Nat} (hn : n < 2 ^ 31) (h0 : 0 ≤ y.toInt) (h1 : y.toInt ≤ n) : ∃ k : Nat, k ≤ n ∧ y = nI k := by
  refine ⟨y.toInt.toNat, by omega, ?_⟩
  rw [i32_eq, nI_toInt (by omega)]; omega
theorem sim_fault (t_lettersFed : Int32) (t_faultAt : Int32) (t_letters : Nat → Int32) (t_quays : Nat → Int32) (t_here_junctions : Int32) (t_here_cuts : Int32) (t_here_boats : Int32) (t_here_cutA : Nat → Int32) (t_here_cutB : Nat → Int32) (t_here_cutHard : Nat → Int32) (t_here_boatWear : Nat → Int32) (t_here_onward : Nat → Int32) (t_here_onwardHard : Nat → Int32) (t_fleet_row : Nat → Int32) (t_past_next : Int32) (t_past_count : Int32) (t_past_shelf_slots : Int32) (t_past_shelf_rows : Nat → Int32) (t_images_shelf_slots : Int32) (t_images_shelf_rows : Nat → Int32) (t_images_seeds : Nat → Int32) (t_images_kept : Nat → Int32) (t_draws_value : Int32) (t_seen_most : Int32) (t_seen_count : Int32) (t_seen_boats : Nat → Int32) (t_seen_steps : Nat → Int32) (t_seen_junctions : Nat → Int32) (t_book_most : Int32) (t_book_count : Int32) (t_book_boats : Nat → Int32) (t_book_steps : Nat → Int32) (t_book_junctions : Nat → Int32) (z_junctions : Int32) (z_cuts : Int32) (z_cutOne : Nat → Int32) (z_cutOther : Nat → Int32) (z_cutHard : Nat → Int32) (z_hard : Nat → Int32) (z_boats : Int32) (z_wears : Nat → Int32) (z_quays : Nat → Int32) (z_now : Nat → Int32) (z_seed : Int32) (z_text : Nat → Int32) (z_texted : Int32) (z_faultPlace : Int32) (z_undos : Int32) (z_past : Nat → Int32) (z_seen : Int32) (z_seenOf : Nat → Int32) (z_seenBehind : Nat → Int32) (z_seenAt : Nat → Int32) (z_booked : Int32) (z_bookOf : Nat → Int32) (z_bookAt : Nat → Int32) (z_images : Nat → Int32) (z_isKept : Nat → Int32)  (h : Rel t_lettersFed t_faultAt t_letters t_quays t_here_junctions t_here_cuts t_here_boats t_here_cutA t_here_cutB t_here_cutHard t_here_boatWear t_here_onward t_here_onwardHard t_fleet_row t_past_next t_past_count t_past_shelf_slots t_past_shelf_rows t_images_shelf_slots t_images_shelf_rows t_images_seeds t_images_kept t_draws_value t_seen_most t_seen_count t_seen_boats t_seen_steps t_seen_junctions t_book_most t_book_count t_book_boats t_book_steps t_book_junctions z_junctions z_cuts z_cutOne z_cutOther z_cutHard z_hard z_boats z_wears z_quays z_now z_seed z_text z_texted z_faultPlace z_undos z_past z_seen z_seenOf z_seenBehind z_seenAt z_booked z_bookOf z_bookAt z_images z_isKept) : ∃ (r : Int32), m_Tb_fault t_faultAt = some (r) ∧ m_Ref_fault z_faultPlace = some (r) ∧ Rel t_lettersFed t_faultAt t_letters t_quays t_here_junctions t_here_cuts t_here_boats t_here_cutA t_here_cutB t_here_cutHard t_here_boatWear t_here_onward t_here_onwardHard t_fleet_row t_past_next t_past_count t_past_shelf_slots t_past_shelf_rows t_images_shelf_slots t_images_shelf_rows t_images_seeds t_images_kept t_draws_value t_seen_most t_seen_count t_seen_boats t_seen_steps t_seen_junctions t_book_most t_book_count t_book_boats t_book_steps t_book_junctions z_junctions z_cuts z_cutOne z_cutOther z_cutHard z_hard z_boats z_wears z_quays z_now z_seed z_text z_texted z_faultPlace z_undos z_past z_seen z_seenOf z_seenBehind z_seenAt z_booked z_bookOf z_bookAt z_images z_isKept := by
  obtain ⟨hT, hrest⟩ := h
  refine ⟨t_faultAt, rfl, ?_, by unfold Rel; exact ⟨hT, hrest⟩⟩
  rw [hT.1]; rfl
theorem sim_feed (t_lettersFed : Int32) (t_faultAt : Int32) (t_letters : Nat → Int32) (t_quays : Nat → Int32) (t_here_junctions : Int32) (t_here_cuts : Int32) (t_here_boats : Int32) (t_here_cutA : Nat → Int32) (t_here_cutB : Nat → Int32) (t_here_cutHard : Nat → Int32) (t_here_boatWear : Nat → Int32) (t_here_onward : Nat → Int32) (t_here_onwardHard : Nat → Int32) (t_fleet_row : Nat → Int32) (t_past_next : Int32) (t_past_count : Int32) (t_past_shelf_slots : Int32) (t_past_shelf_rows : Nat → Int32) (t_images_shelf_slots : Int32) (t_images_shelf_rows : Nat → Int32) (t_images_seeds : Nat → Int32) (t_images_kept : Nat → Int32) (t_draws_value : Int32) (t_seen_most : Int32) (t_seen_count : Int32) (t_seen_boats : Nat → Int32) (t_seen_steps : Nat → Int32) (t_seen_junctions : Nat → Int32) (t_book_most : Int32) (t_book_count : Int32) (t_book_boats : Nat → Int32) (t_book_steps : Nat → Int32) (t_book_junctions : Nat → Int32) (z_junctions : Int32) (z_cuts : Int32) (z_cutOne : Nat → Int32) (z_cutOther : Nat → Int32) (z_cutHard : Nat → Int32) (z_hard : Nat → Int32) (z_boats : Int32) (z_wears : Nat → Int32) (z_quays : Nat → Int32) (z_now : Nat → Int32) (z_seed : Int32) (z_text : Nat → Int32) (z_texted : Int32) (z_faultPlace : Int32) (z_undos : Int32) (z_past : Nat → Int32) (z_seen : Int32) (z_seenOf : Nat → Int32) (z_seenBehind : Nat → Int32) (z_seenAt : Nat → Int32) (z_booked : Int32) (z_bookOf : Nat → Int32) (z_bookAt : Nat → Int32) (z_images : Nat → Int32) (z_isKept : Nat → Int32) (y1 : Int32) (h : Rel t_lettersFed t_faultAt t_letters t_quays t_here_junctions t_here_cuts t_here_boats t_here_cutA t_here_cutB t_here_cutHard t_here_boatWear t_here_onward t_here_onwardHard t_fleet_row t_past_next t_past_count t_past_shelf_slots t_past_shelf_rows t_images_shelf_slots t_images_shelf_rows t_images_seeds t_images_kept t_draws_value t_seen_most t_seen_count t_seen_boats t_seen_steps t_seen_junctions t_book_most t_book_count t_book_boats t_book_steps t_book_junctions z_junctions z_cuts z_cutOne z_cutOther z_cutHard z_hard z_boats z_wears z_quays z_now z_seed z_text z_texted z_faultPlace z_undos z_past z_seen z_seenOf z_seenBehind z_seenAt z_booked z_bookOf z_bookAt z_images z_isKept) : ∃ (r : Int32) (o_t_letters : Nat → Int32) (o_t_lettersFed : Int32) (o_z_text : Nat → Int32) (o_z_texted : Int32), m_Tb_feed y1 t_letters t_lettersFed = some (r, o_t_letters, o_t_lettersFed) ∧ m_Ref_feed y1 z_text z_texted = some (r, o_z_text, o_z_texted) ∧ Rel o_t_lettersFed t_faultAt o_t_letters t_quays t_here_junctions t_here_cuts t_here_boats t_here_cutA t_here_cutB t_here_cutHard t_here_boatWear t_here_onward t_here_onwardHard t_fleet_row t_past_next t_past_count t_past_shelf_slots t_past_shelf_rows t_images_shelf_slots t_images_shelf_rows t_images_seeds t_images_kept t_draws_value t_seen_most t_seen_count t_seen_boats t_seen_steps t_seen_junctions t_book_most t_book_count t_book_boats t_book_steps t_book_junctions z_junctions z_cuts z_cutOne z_cutOther z_cutHard z_hard z_boats z_wears z_quays z_now z_seed o_z_text o_z_texted z_faultPlace z_undos z_past z_seen z_seenOf z_seenBehind z_seenAt z_booked z_bookOf z_bookAt z_images z_isKept := by
  obtain ⟨⟨hf, F, hF, e1, e2, hc⟩, hrest⟩ := h
  subst e1 e2
  by_cases c1 : y1 < 0
  · refine ⟨-1000000002, t_letters, nI F, z_text, nI F, ?_, ?_, by unfold Rel; exact ⟨⟨hf, F, hF, rfl, rfl, hc⟩, hrest⟩⟩
    · unfold m_Tb_feed; rw [if_pos c1]
    · have e : m_Ref_in y1.toInt64 0 255 = some 0 := inN_f (a := 0) (b := 255) (by omega) (by omega) (by have := lt0 c1; omega)
      unfold m_Ref_feed; rw [e, kb1_e, if_pos rfl]
  by_cases c2 : y1 ≤ 255
  · have c2' := (le_n (n := 255) (by omega)).mp c2
    obtain ⟨k, hk, rfl⟩ := i32_N (n := 255) (by omega) (ge0 c1) c2'
    have e : m_Ref_in (nI k).toInt64 0 255 = some 1 := inN_t (a := 0) (b := 255) (by omega) (by omega) (ge0 c1) c2'
    by_cases c3 : F < 240
    · refine ⟨nI F + 1, upd t_letters F (nI k), nI F + 1, upd z_text F (nI k), nI F + 1, ?_, ?_, ?_⟩
      · have c4 : nI F < 240 := (lt_n (n := 240) (by omega)).mpr (by rw [nI_toInt (by omega)]; omega)
        unfold m_Tb_feed
        rw [if_neg c1, if_pos c2, if_neg (nI_pos (by omega)), if_pos c4, kg_i c3 (by omega), nI_clamp (by omega)]
      · have c4 : ¬ nI F = 240 := fun q => by
          have q : nI F = nI 240 := q
          rw [nI_eq (by omega) (by omega)] at q; omega
        unfold m_Ref_feed
        rw [e, kb1_e, if_neg (by decide), if_neg c4, kg_i c3 (by omega), nI_clamp (by omega)]
      · unfold Rel
        refine ⟨⟨hf, F + 1, by omega, nI_1 F, nI_1 F, fun j hj => ?_⟩, hrest⟩
        by_cases q : j = F
        · subst q; exact ⟨k, by omega, pk_us, pk_us⟩
        · rw [pk_un q, pk_un q]; exact hc j (by omega)
    · have hF' : F = 240 := by omega
      subst hF'
      refine ⟨-1000000004, t_letters, nI 240, z_text, nI 240, ?_, ?_, by unfold Rel; exact ⟨⟨hf, 240, hF, rfl, rfl, hc⟩, hrest⟩⟩
      · unfold m_Tb_feed
        rw [if_neg c1, if_pos c2, if_neg (by decide), if_neg (by decide)]
      · unfold m_Ref_feed
        rw [e, kb1_e, if_neg (by decide), if_pos (by decide)]
  · refine ⟨-1000000002, t_letters, nI F, z_text, nI F, ?_, ?_, by unfold Rel; exact ⟨⟨hf, F, hF, rfl, rfl, hc⟩, hrest⟩⟩
    · unfold m_Tb_feed; rw [if_neg c1, if_neg c2]
    · have e : m_Ref_in y1.toInt64 0 255 = some 0 := inN_f (a := 0) (b := 255) (by omega) (by omega) (fun q => c2 ((le_n (n := 255) (by omega)).mpr q.2))
      unfold m_Ref_feed; rw [e, kb1_e, if_pos rfl]
theorem sim_seed (t_lettersFed : Int32) (t_faultAt : Int32) (t_letters : Nat → Int32) (t_quays : Nat → Int32) (t_here_junctions : Int32) (t_here_cuts : Int32) (t_here_boats : Int32) (t_here_cutA : Nat → Int32) (t_here_cutB : Nat → Int32) (t_here_cutHard : Nat → Int32) (t_here_boatWear : Nat → Int32) (t_here_onward : Nat → Int32) (t_here_onwardHard : Nat → Int32) (t_fleet_row : Nat → Int32) (t_past_next : Int32) (t_past_count : Int32) (t_past_shelf_slots : Int32) (t_past_shelf_rows : Nat → Int32) (t_images_shelf_slots : Int32) (t_images_shelf_rows : Nat → Int32) (t_images_seeds : Nat → Int32) (t_images_kept : Nat → Int32) (t_draws_value : Int32) (t_seen_most : Int32) (t_seen_count : Int32) (t_seen_boats : Nat → Int32) (t_seen_steps : Nat → Int32) (t_seen_junctions : Nat → Int32) (t_book_most : Int32) (t_book_count : Int32) (t_book_boats : Nat → Int32) (t_book_steps : Nat → Int32) (t_book_junctions : Nat → Int32) (z_junctions : Int32) (z_cuts : Int32) (z_cutOne : Nat → Int32) (z_cutOther : Nat → Int32) (z_cutHard : Nat → Int32) (z_hard : Nat → Int32) (z_boats : Int32) (z_wears : Nat → Int32) (z_quays : Nat → Int32) (z_now : Nat → Int32) (z_seed : Int32) (z_text : Nat → Int32) (z_texted : Int32) (z_faultPlace : Int32) (z_undos : Int32) (z_past : Nat → Int32) (z_seen : Int32) (z_seenOf : Nat → Int32) (z_seenBehind : Nat → Int32) (z_seenAt : Nat → Int32) (z_booked : Int32) (z_bookOf : Nat → Int32) (z_bookAt : Nat → Int32) (z_images : Nat → Int32) (z_isKept : Nat → Int32) (y1 : Int32) (h : Rel t_lettersFed t_faultAt t_letters t_quays t_here_junctions t_here_cuts t_here_boats t_here_cutA t_here_cutB t_here_cutHard t_here_boatWear t_here_onward t_here_onwardHard t_fleet_row t_past_next t_past_count t_past_shelf_slots t_past_shelf_rows t_images_shelf_slots t_images_shelf_rows t_images_seeds t_images_kept t_draws_value t_seen_most t_seen_count t_seen_boats t_seen_steps t_seen_junctions t_book_most t_book_count t_book_boats t_book_steps t_book_junctions z_junctions z_cuts z_cutOne z_cutOther z_cutHard z_hard z_boats z_wears z_quays z_now z_seed z_text z_texted z_faultPlace z_undos z_past z_seen z_seenOf z_seenBehind z_seenAt z_booked z_bookOf z_bookAt z_images z_isKept) : ∃ (r : Int32) (o_t_draws_value : Int32) (o_z_seed : Int32), m_Tb_seed y1 t_draws_value = some (r, o_t_draws_value) ∧ m_Ref_seed y1 z_seed = some (r, o_z_seed) ∧ Rel t_lettersFed t_faultAt t_letters t_quays t_here_junctions t_here_cuts t_here_boats t_here_cutA t_here_cutB t_here_cutHard t_here_boatWear t_here_onward t_here_onwardHard t_fleet_row t_past_next t_past_count t_past_shelf_slots t_past_shelf_rows t_images_shelf_slots t_images_shelf_rows t_images_seeds t_images_kept o_t_draws_value t_seen_most t_seen_count t_seen_boats t_seen_steps t_seen_junctions t_book_most t_book_count t_book_boats t_book_steps t_book_junctions z_junctions z_cuts z_cutOne z_cutOther z_cutHard z_hard z_boats z_wears z_quays z_now o_z_seed z_text z_texted z_faultPlace z_undos z_past z_seen z_seenOf z_seenBehind z_seenAt z_booked z_bookOf z_bookAt z_images z_isKept := by
  obtain ⟨hT, J, C, B, hm, hW, hS, hQ, hP, hI, ⟨v, hv, rfl, rfl⟩, hE, hB⟩ := h
  by_cases c : 0 ≤ y1
  · have c0 : ¬ y1 < 0 := fun q => by rw [i32_lt] at q; rw [i32_le] at c; omega
    obtain ⟨k, hk, rfl⟩ := nI_of c0
    refine ⟨nI v, nI k, nI k, ?_, ?_, by unfold Rel; exact ⟨hT, J, C, B, hm, hW, hS, hQ, hP, hI, ⟨k, hk, rfl, rfl⟩, hE, hB⟩⟩
    · unfold m_Tb_seed; rw [if_pos c]
    · unfold m_Ref_seed; rw [if_pos c]
  · refine ⟨-1000000002, nI v, nI v, ?_, ?_, by unfold Rel; exact ⟨hT, J, C, B, hm, hW, hS, hQ, hP, hI, ⟨v, hv, rfl, rfl⟩, hE, hB⟩⟩
    · unfold m_Tb_seed; rw [if_neg c]
    · unfold m_Ref_seed; rw [if_neg c]
theorem sim_tear (t_lettersFed : Int32) (t_faultAt : Int32) (t_letters : Nat → Int32) (t_quays : Nat → Int32) (t_here_junctions : Int32) (t_here_cuts : Int32) (t_here_boats : Int32) (t_here_cutA : Nat → Int32) (t_here_cutB : Nat → Int32) (t_here_cutHard : Nat → Int32) (t_here_boatWear : Nat → Int32) (t_here_onward : Nat → Int32) (t_here_onwardHard : Nat → Int32) (t_fleet_row : Nat → Int32) (t_past_next : Int32) (t_past_count : Int32) (t_past_shelf_slots : Int32) (t_past_shelf_rows : Nat → Int32) (t_images_shelf_slots : Int32) (t_images_shelf_rows : Nat → Int32) (t_images_seeds : Nat → Int32) (t_images_kept : Nat → Int32) (t_draws_value : Int32) (t_seen_most : Int32) (t_seen_count : Int32) (t_seen_boats : Nat → Int32) (t_seen_steps : Nat → Int32) (t_seen_junctions : Nat → Int32) (t_book_most : Int32) (t_book_count : Int32) (t_book_boats : Nat → Int32) (t_book_steps : Nat → Int32) (t_book_junctions : Nat → Int32) (z_junctions : Int32) (z_cuts : Int32) (z_cutOne : Nat → Int32) (z_cutOther : Nat → Int32) (z_cutHard : Nat → Int32) (z_hard : Nat → Int32) (z_boats : Int32) (z_wears : Nat → Int32) (z_quays : Nat → Int32) (z_now : Nat → Int32) (z_seed : Int32) (z_text : Nat → Int32) (z_texted : Int32) (z_faultPlace : Int32) (z_undos : Int32) (z_past : Nat → Int32) (z_seen : Int32) (z_seenOf : Nat → Int32) (z_seenBehind : Nat → Int32) (z_seenAt : Nat → Int32) (z_booked : Int32) (z_bookOf : Nat → Int32) (z_bookAt : Nat → Int32) (z_images : Nat → Int32) (z_isKept : Nat → Int32)  (h : Rel t_lettersFed t_faultAt t_letters t_quays t_here_junctions t_here_cuts t_here_boats t_here_cutA t_here_cutB t_here_cutHard t_here_boatWear t_here_onward t_here_onwardHard t_fleet_row t_past_next t_past_count t_past_shelf_slots t_past_shelf_rows t_images_shelf_slots t_images_shelf_rows t_images_seeds t_images_kept t_draws_value t_seen_most t_seen_count t_seen_boats t_seen_steps t_seen_junctions t_book_most t_book_count t_book_boats t_book_steps t_book_junctions z_junctions z_cuts z_cutOne z_cutOther z_cutHard z_hard z_boats z_wears z_quays z_now z_seed z_text z_texted z_faultPlace z_undos z_past z_seen z_seenOf z_seenBehind z_seenAt z_booked z_bookOf z_bookAt z_images z_isKept) : ∃ (r : Int32) (o_t_seen_count : Int32) (o_t_book_count : Int32) (o_z_seen : Int32) (o_z_booked : Int32), m_Tb_tear t_seen_count t_book_count = some (r, o_t_seen_count, o_t_book_count) ∧ m_Ref_tear z_seen z_booked = some (r, o_z_seen, o_z_booked) ∧ Rel t_lettersFed t_faultAt t_letters t_quays t_here_junctions t_here_cuts t_here_boats t_here_cutA t_here_cutB t_here_cutHard t_here_boatWear t_here_onward t_here_onwardHard t_fleet_row t_past_next t_past_count t_past_shelf_slots t_past_shelf_rows t_images_shelf_slots t_images_shelf_rows t_images_seeds t_images_kept t_draws_value t_seen_most o_t_seen_count t_seen_boats t_seen_steps t_seen_junctions t_book_most o_t_book_count t_book_boats t_book_steps t_book_junctions z_junctions z_cuts z_cutOne z_cutOther z_cutHard z_hard z_boats z_wears z_quays z_now z_seed z_text z_texted z_faultPlace z_undos z_past o_z_seen z_seenOf z_seenBehind z_seenAt o_z_booked z_bookOf z_bookAt z_images z_isKept := by
  obtain ⟨hT, J, C, B, hm, hW, hS, hQ, hP, hI, hD, ⟨m1, n, hn, rfl, rfl, he⟩, ⟨m2, k, hk, rfl, rfl, hb⟩⟩ := h
  refine ⟨nI n + nI k, 0, 0, 0, 0, rfl, rfl, ?_⟩
  unfold Rel
  exact ⟨hT, J, C, B, hm, hW, hS, hQ, hP, hI, hD, ⟨m1, 0, by omega, rfl, rfl, fun e he => absurd he (by omega)⟩, ⟨m2, 0, by omega, rfl, rfl, fun e he => absurd he (by omega)⟩⟩
theorem sim_cut (t_lettersFed : Int32) (t_faultAt : Int32) (t_letters : Nat → Int32) (t_quays : Nat → Int32) (t_here_junctions : Int32) (t_here_cuts : Int32) (t_here_boats : Int32) (t_here_cutA : Nat → Int32) (t_here_cutB : Nat → Int32) (t_here_cutHard : Nat → Int32) (t_here_boatWear : Nat → Int32) (t_here_onward : Nat → Int32) (t_here_onwardHard : Nat → Int32) (t_fleet_row : Nat → Int32) (t_past_next : Int32) (t_past_count : Int32) (t_past_shelf_slots : Int32) (t_past_shelf_rows : Nat → Int32) (t_images_shelf_slots : Int32) (t_images_shelf_rows : Nat → Int32) (t_images_seeds : Nat → Int32) (t_images_kept : Nat → Int32) (t_draws_value : Int32) (t_seen_most : Int32) (t_seen_count : Int32) (t_seen_boats : Nat → Int32) (t_seen_steps : Nat → Int32) (t_seen_junctions : Nat → Int32) (t_book_most : Int32) (t_book_count : Int32) (t_book_boats : Nat → Int32) (t_book_steps : Nat → Int32) (t_book_junctions : Nat → Int32) (z_junctions : Int32) (z_cuts : Int32) (z_cutOne : Nat → Int32) (z_cutOther : Nat → Int32) (z_cutHard : Nat → Int32) (z_hard : Nat → Int32) (z_boats : Int32) (z_wears : Nat → Int32) (z_quays : Nat → Int32) (z_now : Nat → Int32) (z_seed : Int32) (z_text : Nat → Int32) (z_texted : Int32) (z_faultPlace : Int32) (z_undos : Int32) (z_past : Nat → Int32) (z_seen : Int32) (z_seenOf : Nat → Int32) (z_seenBehind : Nat → Int32) (z_seenAt : Nat → Int32) (z_booked : Int32) (z_bookOf : Nat → Int32) (z_bookAt : Nat → Int32) (z_images : Nat → Int32) (z_isKept : Nat → Int32) (y1 : Int32) (y2 : Int32) (h : Rel t_lettersFed t_faultAt t_letters t_quays t_here_junctions t_here_cuts t_here_boats t_here_cutA t_here_cutB t_here_cutHard t_here_boatWear t_here_onward t_here_onwardHard t_fleet_row t_past_next t_past_count t_past_shelf_slots t_past_shelf_rows t_images_shelf_slots t_images_shelf_rows t_images_seeds t_images_kept t_draws_value t_seen_most t_seen_count t_seen_boats t_seen_steps t_seen_junctions t_book_most t_book_count t_book_boats t_book_steps t_book_junctions z_junctions z_cuts z_cutOne z_cutOther z_cutHard z_hard z_boats z_wears z_quays z_now z_seed z_text z_texted z_faultPlace z_undos z_past z_seen z_seenOf z_seenBehind z_seenAt z_booked z_bookOf z_bookAt z_images z_isKept) : ∃ (r : Int32), m_Tb_cut y1 y2 t_here_cuts t_here_cutA t_here_cutB t_here_cutHard = some (r) ∧ m_Ref_cut y1 y2 z_cuts z_cutOne z_cutOther z_cutHard = some (r) ∧ Rel t_lettersFed t_faultAt t_letters t_quays t_here_junctions t_here_cuts t_here_boats t_here_cutA t_here_cutB t_here_cutHard t_here_boatWear t_here_onward t_here_onwardHard t_fleet_row t_past_next t_past_count t_past_shelf_slots t_past_shelf_rows t_images_shelf_slots t_images_shelf_rows t_images_seeds t_images_kept t_draws_value t_seen_most t_seen_count t_seen_boats t_seen_steps t_seen_junctions t_book_most t_book_count t_book_boats t_book_steps t_book_junctions z_junctions z_cuts z_cutOne z_cutOther z_cutHard z_hard z_boats z_wears z_quays z_now z_seed z_text z_texted z_faultPlace z_undos z_past z_seen z_seenOf z_seenBehind z_seenAt z_booked z_bookOf z_bookAt z_images z_isKept := by
  have h' := h
  obtain ⟨hT, J, C, B, hm, ⟨⟨hJ, hC, hB⟩, ⟨e1, e2, e3, e4, e5, e6⟩, hc, hw⟩, hrest⟩ := h
  subst e3 e4
  by_cases c : vp_in y1 C
  · have hin := c
    obtain ⟨k, hk, rfl⟩ := vp_in_of c (by omega)
    have e : m_Ref_in (nI k).toInt64 0 ((nI C - 1).toInt64) = some 1 := by
      rw [ref_inI, if_pos]
      rw [nI_m1 (by omega), nI_toInt (by omega)]
      have : (0 : Int64).toInt = 0 := by decide
      omega
    by_cases c0 : y2 = 0
    · refine ⟨t_here_cutA k, ?_, ?_, h'⟩
      · unfold m_Tb_cut; rw [hasCut_t hC hin, kb1_e, if_neg (by decide), if_pos c0, kg_i (by omega) (by omega), nI_clamp (by omega)]
      · unfold m_Ref_cut; rw [e, kb1_e, if_neg (by decide)]; simp only [c0, if_true, kg_i (show k < 14 by omega) (by omega : (14 : Nat) < 2 ^ 31), nI_clamp (show k < 2 ^ 31 by omega), (hc k hk).1]
    · by_cases c1 : y2 = 1
      · refine ⟨t_here_cutB k, ?_, ?_, h'⟩
        · unfold m_Tb_cut; rw [hasCut_t hC hin, kb1_e, if_neg (by decide), if_neg c0, if_pos c1, kg_i (by omega) (by omega), nI_clamp (by omega)]
        · unfold m_Ref_cut; rw [e, kb1_e, if_neg (by decide)]; simp only [if_neg c0, if_pos c1, kg_i (show k < 14 by omega) (by omega : (14 : Nat) < 2 ^ 31), nI_clamp (show k < 2 ^ 31 by omega), (hc k hk).2.1]
      · by_cases c2 : y2 = 2
        · refine ⟨t_here_cutHard k, ?_, ?_, h'⟩
          · unfold m_Tb_cut; rw [hasCut_t hC hin, kb1_e, if_neg (by decide), if_neg c0, if_neg c1, if_pos c2, kg_i (by omega) (by omega), nI_clamp (by omega)]
          · unfold m_Ref_cut; rw [e, kb1_e, if_neg (by decide)]; simp only [if_neg c0, if_neg c1, if_pos c2, kg_i (show k < 14 by omega) (by omega : (14 : Nat) < 2 ^ 31), nI_clamp (show k < 2 ^ 31 by omega), (hc k hk).2.2]
        · refine ⟨-1000000002, ?_, ?_, h'⟩
          · unfold m_Tb_cut; rw [hasCut_t hC hin, kb1_e, if_neg (by decide), if_neg c0, if_neg c1, if_neg c2]
          · unfold m_Ref_cut; rw [e, kb1_e, if_neg (by decide)]; simp only [if_neg c0, if_neg c1, if_neg c2]
  · refine ⟨-1000000001, ?_, ?_, h'⟩
    · unfold m_Tb_cut; rw [hasCut_f hC c, kb1_e, if_pos rfl]
    · have e : m_Ref_in y1.toInt64 0 ((nI C - 1).toInt64) = some 0 := by
        rw [ref_inI, if_neg]
        rw [nI_m1 (by omega)]
        have : (0 : Int64).toInt = 0 := by decide
        intro q
        exact c (vp_in_iff.mpr (by omega))
      unfold m_Ref_cut; rw [e, kb1_e, if_pos rfl]
