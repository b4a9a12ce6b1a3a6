theorem subI {p k : Nat} (hp : p < 2 ^ 30) (hk : k < 2 ^ 30) : (if (0 : Int32) < nI p - nI k then nI p - nI k else 0) = nI (p - k) := by
  have e := pk_sub_toInt hp hk
  by_cases c : k < p
  · have c2 : (0 : Int32) < nI p - nI k := by rw [i32_lt, e, Int32.toInt_zero]; omega
    rw [if_pos c2, pk_sub (by omega)]
  · have c2 : ¬ (0 : Int32) < nI p - nI k := by rw [i32_lt, e, Int32.toInt_zero]; omega
    rw [if_neg c2, Nat.sub_eq_zero_of_le (by omega)]; rfl
theorem minI {p k : Nat} (hp : p < 2 ^ 30) (hk : k < 2 ^ 30) : (if nI p + nI k < (999 : Int32) then nI p + nI k else 999) = nI (min 999 (p + k)) := by
  rw [nI_add]
  by_cases c : p + k < 999
  · have c2 : nI (p + k) < (999 : Int32) := clt (b := 999) (by omega) (by omega) c
    rw [if_pos c2, Nat.min_eq_right (by omega)]
  · have c2 : ¬ nI (p + k) < (999 : Int32) := nclt (b := 999) (by omega) (by omega) (by omega)
    rw [if_neg c2, Nat.min_eq_left (by omega)]; rfl
theorem lighter_i {p k : Nat} (hp : p < 2 ^ 30) (hk : k < 2 ^ 30) : m_Ref_lighter (nI p) (nI k) = some (nI (p - k)) := by
  unfold m_Ref_lighter
  by_cases c : p ≤ k
  · rw [if_pos (cle (by omega) (by omega) c), Nat.sub_eq_zero_of_le c]; rfl
  · rw [if_neg (ncle (by omega) (by omega) (by omega)), pk_sub (by omega)]
theorem heavier_i {p k : Nat} (hp : p < 2 ^ 30) (hk : k < 2 ^ 30) : m_Ref_heavier (nI p) (nI k) = some (nI (min 999 (p + k))) := by
  unfold m_Ref_heavier
  rw [nI_add]
  by_cases c : 999 ≤ p + k
  · have c2 : (999 : Int32) ≤ nI (p + k) := cle (a := 999) (by omega) (by omega) c
    rw [if_pos c2, Nat.min_eq_left c]; rfl
  · have c2 : ¬ (999 : Int32) ≤ nI (p + k) := ncle (a := 999) (by omega) (by omega) (by omega)
    rw [if_neg c2, Nat.min_eq_right (by omega)]
theorem fl_put10 {b : Nat} {v : Int32} {row : Nat → Int32} (hb : b < 5) : m_Fleet_put 10 (nI b) v row = some (upd row (10 + b) v) := fl_put (p := 10) (by omega) hb
theorem fl_put5 {b : Nat} {v : Int32} {row : Nat → Int32} (hb : b < 5) : m_Fleet_put 5 (nI b) v row = some (upd row (5 + b) v) := fl_put (p := 5) (by omega) hb
theorem fl_put15 {b : Nat} {v : Int32} {row : Nat → Int32} (hb : b < 5) : m_Fleet_put 15 (nI b) v row = some (upd row (15 + b) v) := fl_put (p := 15) (by omega) hb
theorem fl_put0 {b : Nat} {v : Int32} {row : Nat → Int32} (hb : b < 5) : m_Fleet_put 0 (nI b) v row = some (upd row b v) := by
  have e : m_Fleet_put 0 (nI b) v row = some (upd row (0 + b) v) := fl_put (p := 0) (by omega) hb
  rw [Nat.zero_add] at e; exact e
theorem lighten_i {b p k : Nat} {row : Nat → Int32} (hb : b < 5) (hr : row (10 + b) = nI p) (hp : p < 2 ^ 30) (hk : k < 2 ^ 30) : m_Fleet_lighten (nI b) (nI k) row = some (upd row (10 + b) (nI (p - k))) := by
  unfold m_Fleet_lighten
  rw [fl_pull hb, kb1_e, hr, subI hp hk, fl_put10 hb, kb1_e]
theorem load_i {b p k : Nat} {row : Nat → Int32} (hb : b < 5) (hr : row (10 + b) = nI p) (hp : p < 2 ^ 30) (hk : k < 2 ^ 30) : m_Fleet_load (nI b) (nI k) row = some (upd row (10 + b) (nI (min 999 (p + k)))) := by
  unfold m_Fleet_load
  rw [fl_pull hb, kb1_e, hr, minI hp hk, fl_put10 hb, kb1_e]
theorem Ship.pull {J B b p : Nat} {r n : Nat → Int32} (hB : B ≤ 5) (h : Ship J B r n) (hb : b < B) (hp : p ≤ 999) : Ship J B (upd r (10 + b) (nI p)) (upd n (10 + b) (nI p)) := by
  obtain ⟨h1, S, hS, s1, s2⟩ := h
  refine ⟨fun b' hb' => ?_, S, hS, by rw [pk_un (by omega)]; exact s1, by rw [pk_un (by omega)]; exact s2⟩
  obtain ⟨j, f, q, hj, hf, hq, a1, a2, a3, a4, a5, a6, a7⟩ := h1 b' hb'
  by_cases c : b' = b
  · subst c
    exact ⟨j, f, p, hj, hf, hp, by rw [pk_un (by omega)]; exact a1, by rw [pk_un (by omega)]; exact a2, by rw [pk_un (by omega)]; exact a3, by rw [pk_un (by omega)]; exact a4, pk_us, pk_us, by rw [pk_un (by omega), pk_un (by omega)]; exact a7⟩
  · exact ⟨j, f, q, hj, hf, hq, by rw [pk_un (by omega)]; exact a1, by rw [pk_un (by omega)]; exact a2, by rw [pk_un (by omega)]; exact a3, by rw [pk_un (by omega)]; exact a4, by rw [pk_un (by omega)]; exact a5, by rw [pk_un (by omega)]; exact a6, by rw [pk_un (by omega), pk_un (by omega)]; exact a7⟩
theorem Ship.frm {J B b f : Nat} {r n : Nat → Int32} (hB : B ≤ 5) (h : Ship J B r n) (hb : b < B) (hf : f ≤ J) : Ship J B (upd r (5 + b) (om f)) (upd n (5 + b) (om f)) := by
  obtain ⟨h1, S, hS, s1, s2⟩ := h
  refine ⟨fun b' hb' => ?_, S, hS, by rw [pk_un (by omega)]; exact s1, by rw [pk_un (by omega)]; exact s2⟩
  obtain ⟨j, f', q, hj, hf', hq, a1, a2, a3, a4, a5, a6, a7⟩ := h1 b' hb'
  by_cases c : b' = b
  · subst c
    exact ⟨j, f, q, hj, hf, hq, by rw [pk_un (by omega)]; exact a1, by rw [pk_un (by omega)]; exact a2, pk_us, pk_us, by rw [pk_un (by omega)]; exact a5, by rw [pk_un (by omega)]; exact a6, by rw [pk_un (by omega), pk_un (by omega)]; exact a7⟩
  · exact ⟨j, f', q, hj, hf', hq, by rw [pk_un (by omega)]; exact a1, by rw [pk_un (by omega)]; exact a2, by rw [pk_un (by omega)]; exact a3, by rw [pk_un (by omega)]; exact a4, by rw [pk_un (by omega)]; exact a5, by rw [pk_un (by omega)]; exact a6, by rw [pk_un (by omega), pk_un (by omega)]; exact a7⟩
theorem sim_forgive (t_lettersFed : Int32) (t_faultAt : Int32) (t_letters : Nat → Int32) (t_quays : Nat → Int32) (t_here_junctions : Int32) (t_here_cuts : Int32) (t_here_boats : Int32) (t_here_cutA : Nat → Int32) (t_here_cutB : Nat → Int32) (t_here_cutHard : Nat → Int32) (t_here_boatWear : Nat → Int32) (t_here_onward : Nat → Int32) (t_here_onwardHard : Nat → Int32) (t_fleet_row : Nat → Int32) (t_past_next : Int32) (t_past_count : Int32) (t_past_shelf_slots : Int32) (t_past_shelf_rows : Nat → Int32) (t_images_shelf_slots : Int32) (t_images_shelf_rows : Nat → Int32) (t_images_seeds : Nat → Int32) (t_images_kept : Nat → Int32) (t_draws_value : Int32) (t_seen_most : Int32) (t_seen_count : Int32) (t_seen_boats : Nat → Int32) (t_seen_steps : Nat → Int32) (t_seen_junctions : Nat → Int32) (t_book_most : Int32) (t_book_count : Int32) (t_book_boats : Nat → Int32) (t_book_steps : Nat → Int32) (t_book_junctions : Nat → Int32) (z_junctions : Int32) (z_cuts : Int32) (z_cutOne : Nat → Int32) (z_cutOther : Nat → Int32) (z_cutHard : Nat → Int32) (z_hard : Nat → Int32) (z_boats : Int32) (z_wears : Nat → Int32) (z_quays : Nat → Int32) (z_now : Nat → Int32) (z_seed : Int32) (z_text : Nat → Int32) (z_texted : Int32) (z_faultPlace : Int32) (z_undos : Int32) (z_past : Nat → Int32) (z_seen : Int32) (z_seenOf : Nat → Int32) (z_seenBehind : Nat → Int32) (z_seenAt : Nat → Int32) (z_booked : Int32) (z_bookOf : Nat → Int32) (z_bookAt : Nat → Int32) (z_images : Nat → Int32) (z_isKept : Nat → Int32) (y1 : Int32) (y2 : Int32) (h : Rel t_lettersFed t_faultAt t_letters t_quays t_here_junctions t_here_cuts t_here_boats t_here_cutA t_here_cutB t_here_cutHard t_here_boatWear t_here_onward t_here_onwardHard t_fleet_row t_past_next t_past_count t_past_shelf_slots t_past_shelf_rows t_images_shelf_slots t_images_shelf_rows t_images_seeds t_images_kept t_draws_value t_seen_most t_seen_count t_seen_boats t_seen_steps t_seen_junctions t_book_most t_book_count t_book_boats t_book_steps t_book_junctions z_junctions z_cuts z_cutOne z_cutOther z_cutHard z_hard z_boats z_wears z_quays z_now z_seed z_text z_texted z_faultPlace z_undos z_past z_seen z_seenOf z_seenBehind z_seenAt z_booked z_bookOf z_bookAt z_images z_isKept) : ∃ (r : Int32) (o_t_fleet_row : Nat → Int32) (o_t_past_next : Int32) (o_t_past_count : Int32) (o_t_past_shelf_rows : Nat → Int32) (o_z_now : Nat → Int32) (o_z_undos : Int32) (o_z_past : Nat → Int32), m_Tb_forgive y1 y2 t_here_boats t_fleet_row t_past_next t_past_count t_past_shelf_slots t_past_shelf_rows = some (r, o_t_fleet_row, o_t_past_next, o_t_past_count, o_t_past_shelf_rows) ∧ m_Ref_forgive y1 y2 z_boats z_now z_undos z_past = some (r, o_z_now, o_z_undos, o_z_past) ∧ Rel t_lettersFed t_faultAt t_letters t_quays t_here_junctions t_here_cuts t_here_boats t_here_cutA t_here_cutB t_here_cutHard t_here_boatWear t_here_onward t_here_onwardHard o_t_fleet_row o_t_past_next o_t_past_count t_past_shelf_slots o_t_past_shelf_rows t_images_shelf_slots t_images_shelf_rows t_images_seeds t_images_kept t_draws_value t_seen_most t_seen_count t_seen_boats t_seen_steps t_seen_junctions t_book_most t_book_count t_book_boats t_book_steps t_book_junctions z_junctions z_cuts z_cutOne z_cutOther z_cutHard z_hard z_boats z_wears z_quays o_z_now z_seed z_text z_texted z_faultPlace o_z_undos o_z_past z_seen z_seenOf z_seenBehind z_seenAt z_booked z_bookOf z_bookAt z_images z_isKept := by
  have h' := h
  obtain ⟨hT, J, C, B, hm, hW, hS, hQ, hP, hrest⟩ := h
  have hW' := hW
  obtain ⟨⟨hJ, hC, hB⟩, ⟨e1, e2, e3, e4, e5, e6⟩, -⟩ := hW
  subst e5 e6
  unfold m_Tb_forgive m_Ref_forgive
  by_cases c : vp_in y1 B
  · rw [hasBoat_t hB c, isBoat_t (by omega) c, kb1_e, kb1_e, if_neg n1, if_neg n1]
    obtain ⟨b, hb, rfl⟩ := vp_in_of c (by omega)
    by_cases ct : 1 ≤ y2.toInt ∧ y2.toInt ≤ 999
    · have a1 : m_Ref_in y2.toInt64 1 999 = some 1 := inN_t (a := 1) (b := 999) (by omega) (by omega) ct.1 ct.2
      have b1 : ¬ y2 < 1 := fun q => by have := (lt_n (n := 1) (by omega)).mp q; omega
      have b2 : y2 ≤ 999 := (le_n (n := 999) (by omega)).mpr ct.2
      obtain ⟨k, hk, rfl⟩ := i32_N (n := 999) (by omega) (by omega) ct.2
      obtain ⟨o1, o2, o3, o4, o5, q1, q2, hP'⟩ := remember_sim hB hP hS
      obtain ⟨j, f, p, hj, hf, hp, -, -, -, -, r3, s3, -⟩ := hS.1 b hb
      rw [a1, kb1_e, if_neg b1, if_pos b2, if_neg n1, q1, q2, kb3_e, kb2_e, lighten_i (by omega) r3 (by omega) (by omega), kb1_e, fl_pull (by omega), kb1_e, pk_us, la10, kg_i (by omega) (by omega), nI_clamp (by omega), s3, lighter_i (by omega) (by omega), kb1_e, kg_i (by omega) (by omega), kg_i (by omega) (by omega), pk_us]
      refine ⟨_, _, _, _, _, _, _, _, rfl, rfl, ?_⟩
      unfold Rel
      exact ⟨hT, J, C, B, hm, hW', hS.pull hB hb (by omega), hQ, hP', hrest⟩
    · have a1 : m_Ref_in y2.toInt64 1 999 = some 0 := inN_f (a := 1) (b := 999) (by omega) (by omega) ct
      rw [a1, kb1_e, if_pos p0]
      by_cases b1 : y2 < 1
      · rw [if_pos b1]; exact ⟨_, _, _, _, _, _, _, _, rfl, rfl, h'⟩
      · have g1 : (1 : Int) ≤ y2.toInt := by
          rcases Int.lt_or_le y2.toInt 1 with q | q
          · exact absurd ((lt_n (n := 1) (by omega)).mpr q) b1
          · exact q
        have b2 : ¬ y2 ≤ 999 := fun q => ct ⟨g1, (le_n (n := 999) (by omega)).mp q⟩
        rw [if_neg b1, if_neg b2]; exact ⟨_, _, _, _, _, _, _, _, rfl, rfl, h'⟩
  · rw [hasBoat_f hB c, isBoat_f (by omega) c, kb1_e, kb1_e, if_pos p0, if_pos p0]
    exact ⟨_, _, _, _, _, _, _, _, rfl, rfl, h'⟩
theorem sim_weigh (t_lettersFed : Int32) (t_faultAt : Int32) (t_letters : Nat → Int32) (t_quays : Nat → Int32) (t_here_junctions : Int32) (t_here_cuts : Int32) (t_here_boats : Int32) (t_here_cutA : Nat → Int32) (t_here_cutB : Nat → Int32) (t_here_cutHard : Nat → Int32) (t_here_boatWear : Nat → Int32) (t_here_onward : Nat → Int32) (t_here_onwardHard : Nat → Int32) (t_fleet_row : Nat → Int32) (t_past_next : Int32) (t_past_count : Int32) (t_past_shelf_slots : Int32) (t_past_shelf_rows : Nat → Int32) (t_images_shelf_slots : Int32) (t_images_shelf_rows : Nat → Int32) (t_images_seeds : Nat → Int32) (t_images_kept : Nat → Int32) (t_draws_value : Int32) (t_seen_most : Int32) (t_seen_count : Int32) (t_seen_boats : Nat → Int32) (t_seen_steps : Nat → Int32) (t_seen_junctions : Nat → Int32) (t_book_most : Int32) (t_book_count : Int32) (t_book_boats : Nat → Int32) (t_book_steps : Nat → Int32) (t_book_junctions : Nat → Int32) (z_junctions : Int32) (z_cuts : Int32) (z_cutOne : Nat → Int32) (z_cutOther : Nat → Int32) (z_cutHard : Nat → Int32) (z_hard : Nat → Int32) (z_boats : Int32) (z_wears : Nat → Int32) (z_quays : Nat → Int32) (z_now : Nat → Int32) (z_seed : Int32) (z_text : Nat → Int32) (z_texted : Int32) (z_faultPlace : Int32) (z_undos : Int32) (z_past : Nat → Int32) (z_seen : Int32) (z_seenOf : Nat → Int32) (z_seenBehind : Nat → Int32) (z_seenAt : Nat → Int32) (z_booked : Int32) (z_bookOf : Nat → Int32) (z_bookAt : Nat → Int32) (z_images : Nat → Int32) (z_isKept : Nat → Int32) (y1 : Int32) (y2 : Int32) (h : Rel t_lettersFed t_faultAt t_letters t_quays t_here_junctions t_here_cuts t_here_boats t_here_cutA t_here_cutB t_here_cutHard t_here_boatWear t_here_onward t_here_onwardHard t_fleet_row t_past_next t_past_count t_past_shelf_slots t_past_shelf_rows t_images_shelf_slots t_images_shelf_rows t_images_seeds t_images_kept t_draws_value t_seen_most t_seen_count t_seen_boats t_seen_steps t_seen_junctions t_book_most t_book_count t_book_boats t_book_steps t_book_junctions z_junctions z_cuts z_cutOne z_cutOther z_cutHard z_hard z_boats z_wears z_quays z_now z_seed z_text z_texted z_faultPlace z_undos z_past z_seen z_seenOf z_seenBehind z_seenAt z_booked z_bookOf z_bookAt z_images z_isKept) : ∃ (r : Int32) (o_t_fleet_row : Nat → Int32) (o_t_past_next : Int32) (o_t_past_count : Int32) (o_t_past_shelf_rows : Nat → Int32) (o_z_now : Nat → Int32) (o_z_undos : Int32) (o_z_past : Nat → Int32), m_Tb_weigh y1 y2 t_here_boats t_fleet_row t_past_next t_past_count t_past_shelf_slots t_past_shelf_rows = some (r, o_t_fleet_row, o_t_past_next, o_t_past_count, o_t_past_shelf_rows) ∧ m_Ref_weigh y1 y2 z_boats z_now z_undos z_past = some (r, o_z_now, o_z_undos, o_z_past) ∧ Rel t_lettersFed t_faultAt t_letters t_quays t_here_junctions t_here_cuts t_here_boats t_here_cutA t_here_cutB t_here_cutHard t_here_boatWear t_here_onward t_here_onwardHard o_t_fleet_row o_t_past_next o_t_past_count t_past_shelf_slots o_t_past_shelf_rows t_images_shelf_slots t_images_shelf_rows t_images_seeds t_images_kept t_draws_value t_seen_most t_seen_count t_seen_boats t_seen_steps t_seen_junctions t_book_most t_book_count t_book_boats t_book_steps t_book_junctions z_junctions z_cuts z_cutOne z_cutOther z_cutHard z_hard z_boats z_wears z_quays o_z_now z_seed z_text z_texted z_faultPlace o_z_undos o_z_past z_seen z_seenOf z_seenBehind z_seenAt z_booked z_bookOf z_bookAt z_images z_isKept := by
  have h' := h
  obtain ⟨hT, J, C, B, hm, hW, hS, hQ, hP, hrest⟩ := h
  have hW' := hW
  obtain ⟨⟨hJ, hC, hB⟩, ⟨e1, e2, e3, e4, e5, e6⟩, -⟩ := hW
  subst e5 e6
  unfold m_Tb_weigh m_Ref_weigh
  by_cases c : vp_in y1 B
  · rw [hasBoat_t hB c, isBoat_t (by omega) c, kb1_e, kb1_e, if_neg n1, if_neg n1]
    obtain ⟨b, hb, rfl⟩ := vp_in_of c (by omega)
    by_cases ct : 1 ≤ y2.toInt ∧ y2.toInt ≤ 999
    · have a1 : m_Ref_in y2.toInt64 1 999 = some 1 := inN_t (a := 1) (b := 999) (by omega) (by omega) ct.1 ct.2
      have b1 : ¬ y2 < 1 := fun q => by have := (lt_n (n := 1) (by omega)).mp q; omega
      have b2 : y2 ≤ 999 := (le_n (n := 999) (by omega)).mpr ct.2
      obtain ⟨k, hk, rfl⟩ := i32_N (n := 999) (by omega) (by omega) ct.2
      obtain ⟨o1, o2, o3, o4, o5, q1, q2, hP'⟩ := remember_sim hB hP hS
      obtain ⟨j, f, p, hj, hf, hp, -, -, -, -, r3, s3, -⟩ := hS.1 b hb
      rw [a1, kb1_e, if_neg b1, if_pos b2, if_neg n1, q1, q2, kb3_e, kb2_e, load_i (by omega) r3 (by omega) (by omega), kb1_e, fl_pull (by omega), kb1_e, pk_us, la10, kg_i (by omega) (by omega), nI_clamp (by omega), s3, heavier_i (by omega) (by omega), kb1_e, kg_i (by omega) (by omega), kg_i (by omega) (by omega), pk_us]
      refine ⟨_, _, _, _, _, _, _, _, rfl, rfl, ?_⟩
      unfold Rel
      exact ⟨hT, J, C, B, hm, hW', hS.pull hB hb (by omega), hQ, hP', hrest⟩
    · have a1 : m_Ref_in y2.toInt64 1 999 = some 0 := inN_f (a := 1) (b := 999) (by omega) (by omega) ct
      rw [a1, kb1_e, if_pos p0]
      by_cases b1 : y2 < 1
      · rw [if_pos b1]; exact ⟨_, _, _, _, _, _, _, _, rfl, rfl, h'⟩
      · have g1 : (1 : Int) ≤ y2.toInt := by
          rcases Int.lt_or_le y2.toInt 1 with q | q
          · exact absurd ((lt_n (n := 1) (by omega)).mpr q) b1
          · exact q
        have b2 : ¬ y2 ≤ 999 := fun q => ct ⟨g1, (le_n (n := 999) (by omega)).mp q⟩
        rw [if_neg b1, if_neg b2]; exact ⟨_, _, _, _, _, _, _, _, rfl, rfl, h'⟩
  · rw [hasBoat_f hB c, isBoat_f (by omega) c, kb1_e, kb1_e, if_pos p0, if_pos p0]
    exact ⟨_, _, _, _, _, _, _, _, rfl, rfl, h'⟩
theorem sim_turn (t_lettersFed : Int32) (t_faultAt : Int32) (t_letters : Nat → Int32) (t_quays : Nat → Int32) (t_here_junctions : Int32) (t_here_cuts : Int32) (t_here_boats : Int32) (t_here_cutA : Nat → Int32) (t_here_cutB : Nat → Int32) (t_here_cutHard : Nat → Int32) (t_here_boatWear : Nat → Int32) (t_here_onward : Nat → Int32) (t_here_onwardHard : Nat → Int32) (t_fleet_row : Nat → Int32) (t_past_next : Int32) (t_past_count : Int32) (t_past_shelf_slots : Int32) (t_past_shelf_rows : Nat → Int32) (t_images_shelf_slots : Int32) (t_images_shelf_rows : Nat → Int32) (t_images_seeds : Nat → Int32) (t_images_kept : Nat → Int32) (t_draws_value : Int32) (t_seen_most : Int32) (t_seen_count : Int32) (t_seen_boats : Nat → Int32) (t_seen_steps : Nat → Int32) (t_seen_junctions : Nat → Int32) (t_book_most : Int32) (t_book_count : Int32) (t_book_boats : Nat → Int32) (t_book_steps : Nat → Int32) (t_book_junctions : Nat → Int32) (z_junctions : Int32) (z_cuts : Int32) (z_cutOne : Nat → Int32) (z_cutOther : Nat → Int32) (z_cutHard : Nat → Int32) (z_hard : Nat → Int32) (z_boats : Int32) (z_wears : Nat → Int32) (z_quays : Nat → Int32) (z_now : Nat → Int32) (z_seed : Int32) (z_text : Nat → Int32) (z_texted : Int32) (z_faultPlace : Int32) (z_undos : Int32) (z_past : Nat → Int32) (z_seen : Int32) (z_seenOf : Nat → Int32) (z_seenBehind : Nat → Int32) (z_seenAt : Nat → Int32) (z_booked : Int32) (z_bookOf : Nat → Int32) (z_bookAt : Nat → Int32) (z_images : Nat → Int32) (z_isKept : Nat → Int32) (y1 : Int32) (h : Rel t_lettersFed t_faultAt t_letters t_quays t_here_junctions t_here_cuts t_here_boats t_here_cutA t_here_cutB t_here_cutHard t_here_boatWear t_here_onward t_here_onwardHard t_fleet_row t_past_next t_past_count t_past_shelf_slots t_past_shelf_rows t_images_shelf_slots t_images_shelf_rows t_images_seeds t_images_kept t_draws_value t_seen_most t_seen_count t_seen_boats t_seen_steps t_seen_junctions t_book_most t_book_count t_book_boats t_book_steps t_book_junctions z_junctions z_cuts z_cutOne z_cutOther z_cutHard z_hard z_boats z_wears z_quays z_now z_seed z_text z_texted z_faultPlace z_undos z_past z_seen z_seenOf z_seenBehind z_seenAt z_booked z_bookOf z_bookAt z_images z_isKept) : ∃ (r : Int32) (o_t_fleet_row : Nat → Int32) (o_t_past_next : Int32) (o_t_past_count : Int32) (o_t_past_shelf_rows : Nat → Int32) (o_z_now : Nat → Int32) (o_z_undos : Int32) (o_z_past : Nat → Int32), m_Tb_turn y1 t_here_boats t_fleet_row t_past_next t_past_count t_past_shelf_slots t_past_shelf_rows = some (r, o_t_fleet_row, o_t_past_next, o_t_past_count, o_t_past_shelf_rows) ∧ m_Ref_turn y1 z_boats z_now z_undos z_past = some (r, o_z_now, o_z_undos, o_z_past) ∧ Rel t_lettersFed t_faultAt t_letters t_quays t_here_junctions t_here_cuts t_here_boats t_here_cutA t_here_cutB t_here_cutHard t_here_boatWear t_here_onward t_here_onwardHard o_t_fleet_row o_t_past_next o_t_past_count t_past_shelf_slots o_t_past_shelf_rows t_images_shelf_slots t_images_shelf_rows t_images_seeds t_images_kept t_draws_value t_seen_most t_seen_count t_seen_boats t_seen_steps t_seen_junctions t_book_most t_book_count t_book_boats t_book_steps t_book_junctions z_junctions z_cuts z_cutOne z_cutOther z_cutHard z_hard z_boats z_wears z_quays o_z_now z_seed z_text z_texted z_faultPlace o_z_undos o_z_past z_seen z_seenOf z_seenBehind z_seenAt z_booked z_bookOf z_bookAt z_images z_isKept := by
  have h' := h
  obtain ⟨hT, J, C, B, hm, hW, hS, hQ, hP, hrest⟩ := h
  have hW' := hW
  obtain ⟨⟨hJ, hC, hB⟩, ⟨e1, e2, e3, e4, e5, e6⟩, -⟩ := hW
  subst e5 e6
  unfold m_Tb_turn m_Ref_turn
  by_cases c : vp_in y1 B
  · rw [hasBoat_t hB c, isBoat_t (by omega) c, kb1_e, kb1_e, if_neg n1, if_neg n1]
    obtain ⟨b, hb, rfl⟩ := vp_in_of c (by omega)
    obtain ⟨o1, o2, o3, o4, o5, q1, q2, hP'⟩ := remember_sim hB hP hS
    obtain ⟨j, f, p, hj, hf, hp, -, -, r2, s2, -⟩ := hS.1 b hb
    have g : m_Fleet_comeFromNowhere (nI b) t_fleet_row = some (upd t_fleet_row (5 + b) (-1)) := by
      unfold m_Fleet_comeFromNowhere; rw [fl_put5 (by omega), kb1_e]
    rw [q1, q2, kb3_e, kb2_e, fl_from (by omega), kb1_e, g, kb1_e, la5, kg_i (by omega) (by omega), kg_i (by omega) (by omega), nI_clamp (by omega), r2, s2, ← om_0]
    refine ⟨_, _, _, _, _, _, _, _, rfl, rfl, ?_⟩
    unfold Rel
    exact ⟨hT, J, C, B, hm, hW', hS.frm hB hb (by omega), hQ, hP', hrest⟩
  · rw [hasBoat_f hB c, isBoat_f (by omega) c, kb1_e, kb1_e, if_pos p0, if_pos p0]
    exact ⟨_, _, _, _, _, _, _, _, rfl, rfl, h'⟩
theorem sim_change (t_lettersFed : Int32) (t_faultAt : Int32) (t_letters : Nat → Int32) (t_quays : Nat → Int32) (t_here_junctions : Int32) (t_here_cuts : Int32) (t_here_boats : Int32) (t_here_cutA : Nat → Int32) (t_here_cutB : Nat → Int32) (t_here_cutHard : Nat → Int32) (t_here_boatWear : Nat → Int32) (t_here_onward : Nat → Int32) (t_here_onwardHard : Nat → Int32) (t_fleet_row : Nat → Int32) (t_past_next : Int32) (t_past_count : Int32) (t_past_shelf_slots : Int32) (t_past_shelf_rows : Nat → Int32) (t_images_shelf_slots : Int32) (t_images_shelf_rows : Nat → Int32) (t_images_seeds : Nat → Int32) (t_images_kept : Nat → Int32) (t_draws_value : Int32) (t_seen_most : Int32) (t_seen_count : Int32) (t_seen_boats : Nat → Int32) (t_seen_steps : Nat → Int32) (t_seen_junctions : Nat → Int32) (t_book_most : Int32) (t_book_count : Int32) (t_book_boats : Nat → Int32) (t_book_steps : Nat → Int32) (t_book_junctions : Nat → Int32) (z_junctions : Int32) (z_cuts : Int32) (z_cutOne : Nat → Int32) (z_cutOther : Nat → Int32) (z_cutHard : Nat → Int32) (z_hard : Nat → Int32) (z_boats : Int32) (z_wears : Nat → Int32) (z_quays : Nat → Int32) (z_now : Nat → Int32) (z_seed : Int32) (z_text : Nat → Int32) (z_texted : Int32) (z_faultPlace : Int32) (z_undos : Int32) (z_past : Nat → Int32) (z_seen : Int32) (z_seenOf : Nat → Int32) (z_seenBehind : Nat → Int32) (z_seenAt : Nat → Int32) (z_booked : Int32) (z_bookOf : Nat → Int32) (z_bookAt : Nat → Int32) (z_images : Nat → Int32) (z_isKept : Nat → Int32) (y1 : Int32) (y2 : Int32) (h : Rel t_lettersFed t_faultAt t_letters t_quays t_here_junctions t_here_cuts t_here_boats t_here_cutA t_here_cutB t_here_cutHard t_here_boatWear t_here_onward t_here_onwardHard t_fleet_row t_past_next t_past_count t_past_shelf_slots t_past_shelf_rows t_images_shelf_slots t_images_shelf_rows t_images_seeds t_images_kept t_draws_value t_seen_most t_seen_count t_seen_boats t_seen_steps t_seen_junctions t_book_most t_book_count t_book_boats t_book_steps t_book_junctions z_junctions z_cuts z_cutOne z_cutOther z_cutHard z_hard z_boats z_wears z_quays z_now z_seed z_text z_texted z_faultPlace z_undos z_past z_seen z_seenOf z_seenBehind z_seenAt z_booked z_bookOf z_bookAt z_images z_isKept) : ∃ (r : Int32) (o_t_fleet_row : Nat → Int32) (o_t_past_next : Int32) (o_t_past_count : Int32) (o_t_past_shelf_rows : Nat → Int32) (o_z_now : Nat → Int32) (o_z_undos : Int32) (o_z_past : Nat → Int32), m_Tb_change y1 y2 t_here_boats t_fleet_row t_past_next t_past_count t_past_shelf_slots t_past_shelf_rows = some (r, o_t_fleet_row, o_t_past_next, o_t_past_count, o_t_past_shelf_rows) ∧ m_Ref_change y1 y2 z_boats z_now z_undos z_past = some (r, o_z_now, o_z_undos, o_z_past) ∧ Rel t_lettersFed t_faultAt t_letters t_quays t_here_junctions t_here_cuts t_here_boats t_here_cutA t_here_cutB t_here_cutHard t_here_boatWear t_here_onward t_here_onwardHard o_t_fleet_row o_t_past_next o_t_past_count t_past_shelf_slots o_t_past_shelf_rows t_images_shelf_slots t_images_shelf_rows t_images_seeds t_images_kept t_draws_value t_seen_most t_seen_count t_seen_boats t_seen_steps t_seen_junctions t_book_most t_book_count t_book_boats t_book_steps t_book_junctions z_junctions z_cuts z_cutOne z_cutOther z_cutHard z_hard z_boats z_wears z_quays o_z_now z_seed z_text z_texted z_faultPlace o_z_undos o_z_past z_seen z_seenOf z_seenBehind z_seenAt z_booked z_bookOf z_bookAt z_images z_isKept := by
  have h' := h
  obtain ⟨hT, J, C, B, hm, hW, hS, hQ, hP, hrest⟩ := h
  have hW' := hW
  obtain ⟨⟨hJ, hC, hB⟩, ⟨e1, e2, e3, e4, e5, e6⟩, -⟩ := hW
  subst e5 e6
  unfold m_Tb_change m_Ref_change
  by_cases c : vp_in y1 B
  · rw [hasBoat_t hB c, isBoat_t (by omega) c, kb1_e, kb1_e, if_neg n1, if_neg n1]
    obtain ⟨a, ha, rfl⟩ := vp_in_of c (by omega)
    by_cases c2 : vp_in y2 B
    · rw [hasBoat_t hB c2, isBoat_t (by omega) c2, kb1_e, kb1_e, if_neg n1, if_neg n1]
      obtain ⟨b, hb, rfl⟩ := vp_in_of c2 (by omega)
      by_cases c3 : nI a = nI b
      · rw [if_pos c3, if_pos c3]; exact ⟨_, _, _, _, _, _, _, _, rfl, rfl, h'⟩
      · have c4 : a ≠ b := fun q => c3 (by rw [q])
        obtain ⟨o1, o2, o3, o4, o5, q1, q2, hP'⟩ := remember_sim hB hP hS
        obtain ⟨j, f, p, hj, hf, hp, -, -, -, -, r3, s3, -⟩ := hS.1 a ha
        obtain ⟨j', f', p', hj', hf', hp', -, -, -, -, r3', s3', -⟩ := hS.1 b hb
        have g : m_Fleet_swapPulls (nI a) (nI b) t_fleet_row = some (upd (upd t_fleet_row (10 + a) (nI p')) (10 + b) (nI p)) := by
          unfold m_Fleet_swapPulls
          rw [fl_pull (by omega), fl_pull (by omega), kb1_e, kb1_e, fl_put10 (by omega), kb1_e, fl_put10 (by omega), kb1_e, r3, r3']
        have g2 : upd (upd t_fleet_row (10 + a) (nI p')) (10 + b) (nI p) (10 + a) = nI p' := by rw [pk_un (by omega), pk_us]
        have g3 : upd (upd z_now (10 + a) (nI p')) (10 + b) (nI p) (10 + a) = nI p' := by rw [pk_un (by omega), pk_us]
        rw [if_neg c3, if_neg c3, q1, q2, kb3_e, kb2_e, g, kb1_e, fl_pull (by omega), kb1_e, g2, la10, la10, kg_i (by omega) (by omega), kg_i (by omega) (by omega), kg_i (by omega) (by omega), kg_i (by omega) (by omega), kg_i (by omega) (by omega), nI_clamp (by omega), nI_clamp (by omega), s3, s3', g3]
        refine ⟨_, _, _, _, _, _, _, _, rfl, rfl, ?_⟩
        unfold Rel
        exact ⟨hT, J, C, B, hm, hW', (hS.pull hB ha hp').pull hB hb hp, hQ, hP', hrest⟩
    · rw [hasBoat_f hB c2, isBoat_f (by omega) c2, kb1_e, kb1_e, if_pos p0, if_pos p0]
      exact ⟨_, _, _, _, _, _, _, _, rfl, rfl, h'⟩
  · rw [hasBoat_f hB c, isBoat_f (by omega) c, kb1_e, kb1_e, if_pos p0, if_pos p0]
    exact ⟨_, _, _, _, _, _, _, _, rfl, rfl, h'⟩
