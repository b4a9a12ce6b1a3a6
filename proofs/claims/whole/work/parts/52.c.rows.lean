theorem nar1 : vp_nar .boolean 1 = 1 := by decide
theorem nar0 : vp_nar .boolean 0 = 0 := by decide
theorem undo_loop (past : Nat → Int32) {n : Nat} (hn : n < 20) : ∀ (d k f : Nat) (now : Nat → Int32), k + d = 21 → d < f → ∃ now' : Nat → Int32, m_Ref_undo_L22 f (nI k) now (nI n) past = some (nI n, now', nI n) ∧ ∀ j : Nat, now' j = if k ≤ j ∧ j < 21 then past (21 * n + j) else now j := by
  intro d
  induction d with
  | zero =>
    intro k f now hk hf
    obtain ⟨g, rfl, -⟩ := fuS hf
    refine ⟨now, ?_, fun j => by rw [if_neg (by omega)]⟩
    show m_Ref_undo_B22 (m_Ref_undo_L22 g) (nI k) now (nI n) past = _
    have c : (21 : Int32) ≤ nI k := cle (a := 21) (by omega) (by omega) (by omega)
    unfold m_Ref_undo_B22 m_Ref_undo_B54
    rw [if_pos c]
  | succ d ih =>
    intro k f now hk hf
    obtain ⟨g, rfl, hg⟩ := fuS hf
    obtain ⟨now', h1, h2⟩ := ih (k + 1) g (upd now k (past (21 * n + k))) (by omega) (by omega)
    refine ⟨now', ?_, fun j => ?_⟩
    · show m_Ref_undo_B22 (m_Ref_undo_L22 g) (nI k) now (nI n) past = _
      have c : ¬ (21 : Int32) ≤ nI k := ncle (a := 21) (by omega) (by omega) (by omega)
      unfold m_Ref_undo_B22
      rw [if_neg c, m21, nI_add, kg_i (by omega) (by omega), kg_i (by omega) (by omega), nI_clamp (n := 21 * n + k) (by omega), nI_clamp (by omega), nI_1]
      exact h1
    · rw [h2 j]
      by_cases c1 : j = k
      · subst c1; rw [if_neg (by omega), if_pos (by omega), pk_us]
      · by_cases c2 : k ≤ j ∧ j < 21
        · rw [if_pos (by omega), if_pos c2]
        · rw [if_neg (by omega), if_neg c2, pk_un c1]
theorem sim_undo (t_lettersFed : Int32) (t_faultAt : Int32) (t_letters : Nat → Int32) (t_quays : Nat → Int32) (t_here_junctions : Int32) (t_here_cuts : Int32) (t_here_boats : Int32) (t_here_cutA : Nat → Int32) (t_here_cutB : Nat → Int32) (t_here_cutHard : Nat → Int32) (t_here_boatWear : Nat → Int32) (t_here_onward : Nat → Int32) (t_here_onwardHard : Nat → Int32) (t_fleet_row : Nat → Int32) (t_past_next : Int32) (t_past_count : Int32) (t_past_shelf_slots : Int32) (t_past_shelf_rows : Nat → Int32) (t_images_shelf_slots : Int32) (t_images_shelf_rows : Nat → Int32) (t_images_seeds : Nat → Int32) (t_images_kept : Nat → Int32) (t_draws_value : Int32) (t_seen_most : Int32) (t_seen_count : Int32) (t_seen_boats : Nat → Int32) (t_seen_steps : Nat → Int32) (t_seen_junctions : Nat → Int32) (t_book_most : Int32) (t_book_count : Int32) (t_book_boats : Nat → Int32) (t_book_steps : Nat → Int32) (t_book_junctions : Nat → Int32) (z_junctions : Int32) (z_cuts : Int32) (z_cutOne : Nat → Int32) (z_cutOther : Nat → Int32) (z_cutHard : Nat → Int32) (z_hard : Nat → Int32) (z_boats : Int32) (z_wears : Nat → Int32) (z_quays : Nat → Int32) (z_now : Nat → Int32) (z_seed : Int32) (z_text : Nat → Int32) (z_texted : Int32) (z_faultPlace : Int32) (z_undos : Int32) (z_past : Nat → Int32) (z_seen : Int32) (z_seenOf : Nat → Int32) (z_seenBehind : Nat → Int32) (z_seenAt : Nat → Int32) (z_booked : Int32) (z_bookOf : Nat → Int32) (z_bookAt : Nat → Int32) (z_images : Nat → Int32) (z_isKept : Nat → Int32)  (h : Rel t_lettersFed t_faultAt t_letters t_quays t_here_junctions t_here_cuts t_here_boats t_here_cutA t_here_cutB t_here_cutHard t_here_boatWear t_here_onward t_here_onwardHard t_fleet_row t_past_next t_past_count t_past_shelf_slots t_past_shelf_rows t_images_shelf_slots t_images_shelf_rows t_images_seeds t_images_kept t_draws_value t_seen_most t_seen_count t_seen_boats t_seen_steps t_seen_junctions t_book_most t_book_count t_book_boats t_book_steps t_book_junctions z_junctions z_cuts z_cutOne z_cutOther z_cutHard z_hard z_boats z_wears z_quays z_now z_seed z_text z_texted z_faultPlace z_undos z_past z_seen z_seenOf z_seenBehind z_seenAt z_booked z_bookOf z_bookAt z_images z_isKept) : ∃ (r : Int32) (o_t_fleet_row : Nat → Int32) (o_t_past_next : Int32) (o_t_past_count : Int32) (o_z_now : Nat → Int32) (o_z_undos : Int32), m_Tb_undo t_fleet_row t_past_next t_past_count t_past_shelf_slots t_past_shelf_rows = some (r, o_t_fleet_row, o_t_past_next, o_t_past_count) ∧ m_Ref_undo z_now z_undos z_past = some (r, o_z_now, o_z_undos) ∧ Rel t_lettersFed t_faultAt t_letters t_quays t_here_junctions t_here_cuts t_here_boats t_here_cutA t_here_cutB t_here_cutHard t_here_boatWear t_here_onward t_here_onwardHard o_t_fleet_row o_t_past_next o_t_past_count t_past_shelf_slots t_past_shelf_rows t_images_shelf_slots t_images_shelf_rows t_images_seeds t_images_kept t_draws_value t_seen_most t_seen_count t_seen_boats t_seen_steps t_seen_junctions t_book_most t_book_count t_book_boats t_book_steps t_book_junctions z_junctions z_cuts z_cutOne z_cutOther z_cutHard z_hard z_boats z_wears z_quays o_z_now z_seed z_text z_texted z_faultPlace o_z_undos z_past z_seen z_seenOf z_seenBehind z_seenAt z_booked z_bookOf z_bookAt z_images z_isKept := by
  have h' := h
  obtain ⟨hT, J, C, B, hm, hW, hS, hQ, hP, hrest⟩ := h
  have hB := hW.1.2.2
  obtain ⟨rfl, x, n, hx, hn, rfl, rfl, rfl, hr⟩ := hP
  unfold m_Tb_undo m_Ref_undo
  by_cases c : n = 0
  · subst c
    rw [if_neg (by decide), if_pos (by decide)]
    exact ⟨_, _, _, _, _, _, rfl, rfl, h'⟩
  · have c1 : (1 : Int32) ≤ nI n := cle (a := 1) (by omega) (by omega) (by omega)
    have c2 : ¬ nI n = 0 := nI_ne0 (by omega) (by omega)
    have e20 : nI x + 20 - 1 = nI (x + 19) := by
      have q : nI x + 20 = nI (x + 20) := nI_add x 20
      rw [q]; exact nI_pred (x + 19)
    have hs : (x + 19) % 20 < 20 := by omega
    have ft : m_Shelf_fetch (nI ((x + 19) % 20)) 420 20 t_past_shelf_rows t_fleet_row = some (va_cpy t_past_shelf_rows t_fleet_row ((x + 19) % 20 * 21) 0 21) := fetch_i (slots := 20) hs (by omega) (by omega) (by omega)
    have en : nI n - 1 = nI (n - 1) := pk_sub (b := 1) (by omega)
    have bb : m_Past_bringBack (nI x) (nI n) 420 20 t_past_shelf_rows t_fleet_row = some (nI ((x + 19) % 20), nI (n - 1), va_cpy t_past_shelf_rows t_fleet_row ((x + 19) % 20 * 21) 0 21) := by
      unfold m_Past_bringBack
      rw [if_pos c1, kz20, e20, mod20 (by omega), ft, kb1_e, en]
    obtain ⟨now', p1, p2⟩ := undo_loop z_past (n := n - 1) (by omega) 21 0 FU z_now (by omega) (FU_gt (by omega))
    have p1' : m_Ref_undo_L22 FU 0 z_now (nI (n - 1)) z_past = some (nI (n - 1), now', nI (n - 1)) := p1
    rw [if_pos c1, bb, kb3_e, if_neg c2, en, p1']
    refine ⟨_, _, _, _, _, _, rfl, rfl, ?_⟩
    unfold Rel
    refine ⟨hT, J, C, B, hm, hW, (hr (n - 1) (by omega)).congr hB (fun k hk => ?_) (fun k hk => ?_), hQ, ⟨rfl, (x + 19) % 20, n - 1, hs, by omega, rfl, rfl, rfl, fun i hi => ?_⟩, hrest⟩
    · show va_cpy t_past_shelf_rows t_fleet_row ((x + 19) % 20 * 21) 0 21 k = t_past_shelf_rows (21 * ((x + 20 - n + (n - 1)) % 20) + k)
      rw [pk_cpy_in (by omega) (by omega)]
      have e : (x + 20 - n + (n - 1)) % 20 = (x + 19) % 20 := by omega
      rw [e]; exact congrArg t_past_shelf_rows (by omega)
    · show now' k = z_past (21 * (n - 1) + k)
      rw [p2, if_pos (by omega)]
    · have e : ((x + 19) % 20 + 20 - (n - 1) + i) % 20 = (x + 20 - n + i) % 20 := by omega
      refine (hr i (by omega)).congr hB (fun k hk => ?_) (fun k hk => rfl)
      show t_past_shelf_rows (21 * (((x + 19) % 20 + 20 - (n - 1) + i) % 20) + k) = _
      rw [e]
theorem keep_loop (now : Nat → Int32) (seed undos : Int32) (isK : Nat → Int32) {i : Nat} (hi : i < 2) : ∀ (d k f : Nat) (img : Nat → Int32), k + d = 21 → d < f → ∃ img' : Nat → Int32, m_Ref_keep_L15 f (nI i) (nI k) now seed undos img isK = some (1, 0, upd img' (22 * i + 21) seed, upd isK i 1) ∧ ∀ j : Nat, img' j = if 22 * i + k ≤ j ∧ j < 22 * i + 21 then now (j - 22 * i) else img j := by
  intro d
  induction d with
  | zero =>
    intro k f img hk hf
    obtain ⟨g, rfl, -⟩ := fuS hf
    refine ⟨img, ?_, fun j => by rw [if_neg (by omega)]⟩
    show m_Ref_keep_B15 (m_Ref_keep_L15 g) (nI i) (nI k) now seed undos img isK = _
    have c : (21 : Int32) ≤ nI k := cle (a := 21) (by omega) (by omega) (by omega)
    have e : (22 : Int32) * nI i + 21 = nI (22 * i + 21) := by rw [m22]; exact nI_add (22 * i) 21
    unfold m_Ref_keep_B15 m_Ref_keep_B44
    rw [if_pos c, e, kg_i (by omega) (by omega), kg_i hi (by omega), nI_clamp (by omega), nI_clamp (by omega), nar1]
  | succ d ih =>
    intro k f img hk hf
    obtain ⟨g, rfl, hg⟩ := fuS hf
    obtain ⟨img', h1, h2⟩ := ih (k + 1) g (upd img (22 * i + k) (now k)) (by omega) (by omega)
    refine ⟨img', ?_, fun j => ?_⟩
    · show m_Ref_keep_B15 (m_Ref_keep_L15 g) (nI i) (nI k) now seed undos img isK = _
      have c : ¬ (21 : Int32) ≤ nI k := ncle (a := 21) (by omega) (by omega) (by omega)
      unfold m_Ref_keep_B15
      rw [if_neg c, kg_i (by omega) (by omega), m22, nI_add, kg_i (by omega) (by omega), nI_clamp (n := 22 * i + k) (by omega), nI_clamp (by omega), nI_1]
      exact h1
    · rw [h2 j]
      by_cases c1 : j = 22 * i + k
      · subst c1; rw [if_neg (by omega), if_pos (by omega), pk_us]; exact congrArg now (by omega)
      · by_cases c2 : 22 * i + k ≤ j ∧ j < 22 * i + 21
        · rw [if_pos (by omega), if_pos c2]
        · rw [if_neg (by omega), if_neg c2, pk_un c1]
theorem back_loop (img : Nat → Int32) (seed undos : Int32) (isK : Nat → Int32) {i : Nat} (hi : i < 2) : ∀ (d k f : Nat) (now : Nat → Int32), k + d = 21 → d < f → ∃ now' : Nat → Int32, m_Ref_goBack_L27 f (nI i) (nI k) now seed undos img isK = some (1, now', img (22 * i + 21), 0) ∧ ∀ j : Nat, now' j = if k ≤ j ∧ j < 21 then img (22 * i + j) else now j := by
  intro d
  induction d with
  | zero =>
    intro k f now hk hf
    obtain ⟨g, rfl, -⟩ := fuS hf
    refine ⟨now, ?_, fun j => by rw [if_neg (by omega)]⟩
    show m_Ref_goBack_B27 (m_Ref_goBack_L27 g) (nI i) (nI k) now seed undos img isK = _
    have c : (21 : Int32) ≤ nI k := cle (a := 21) (by omega) (by omega) (by omega)
    have e : (22 : Int32) * nI i + 21 = nI (22 * i + 21) := by rw [m22]; exact nI_add (22 * i) 21
    unfold m_Ref_goBack_B27 m_Ref_goBack_B56
    rw [if_pos c, e, kg_i (by omega) (by omega), nI_clamp (by omega)]
  | succ d ih =>
    intro k f now hk hf
    obtain ⟨g, rfl, hg⟩ := fuS hf
    obtain ⟨now', h1, h2⟩ := ih (k + 1) g (upd now k (img (22 * i + k))) (by omega) (by omega)
    refine ⟨now', ?_, fun j => ?_⟩
    · show m_Ref_goBack_B27 (m_Ref_goBack_L27 g) (nI i) (nI k) now seed undos img isK = _
      have c : ¬ (21 : Int32) ≤ nI k := ncle (a := 21) (by omega) (by omega) (by omega)
      unfold m_Ref_goBack_B27
      rw [if_neg c, m22, nI_add, kg_i (by omega) (by omega), kg_i (by omega) (by omega), nI_clamp (n := 22 * i + k) (by omega), nI_clamp (by omega), nI_1]
      exact h1
    · rw [h2 j]
      by_cases c1 : j = k
      · subst c1; rw [if_neg (by omega), if_pos (by omega), pk_us]
      · by_cases c2 : k ≤ j ∧ j < 21
        · rw [if_pos (by omega), if_pos c2]
        · rw [if_neg (by omega), if_neg c2, pk_un c1]
theorem sim_keep (t_lettersFed : Int32) (t_faultAt : Int32) (t_letters : Nat → Int32) (t_quays : Nat → Int32) (t_here_junctions : Int32) (t_here_cuts : Int32) (t_here_boats : Int32) (t_here_cutA : Nat → Int32) (t_here_cutB : Nat → Int32) (t_here_cutHard : Nat → Int32) (t_here_boatWear : Nat → Int32) (t_here_onward : Nat → Int32) (t_here_onwardHard : Nat → Int32) (t_fleet_row : Nat → Int32) (t_past_next : Int32) (t_past_count : Int32) (t_past_shelf_slots : Int32) (t_past_shelf_rows : Nat → Int32) (t_images_shelf_slots : Int32) (t_images_shelf_rows : Nat → Int32) (t_images_seeds : Nat → Int32) (t_images_kept : Nat → Int32) (t_draws_value : Int32) (t_seen_most : Int32) (t_seen_count : Int32) (t_seen_boats : Nat → Int32) (t_seen_steps : Nat → Int32) (t_seen_junctions : Nat → Int32) (t_book_most : Int32) (t_book_count : Int32) (t_book_boats : Nat → Int32) (t_book_steps : Nat → Int32) (t_book_junctions : Nat → Int32) (z_junctions : Int32) (z_cuts : Int32) (z_cutOne : Nat → Int32) (z_cutOther : Nat → Int32) (z_cutHard : Nat → Int32) (z_hard : Nat → Int32) (z_boats : Int32) (z_wears : Nat → Int32) (z_quays : Nat → Int32) (z_now : Nat → Int32) (z_seed : Int32) (z_text : Nat → Int32) (z_texted : Int32) (z_faultPlace : Int32) (z_undos : Int32) (z_past : Nat → Int32) (z_seen : Int32) (z_seenOf : Nat → Int32) (z_seenBehind : Nat → Int32) (z_seenAt : Nat → Int32) (z_booked : Int32) (z_bookOf : Nat → Int32) (z_bookAt : Nat → Int32) (z_images : Nat → Int32) (z_isKept : Nat → Int32) (y1 : Int32) (h : Rel t_lettersFed t_faultAt t_letters t_quays t_here_junctions t_here_cuts t_here_boats t_here_cutA t_here_cutB t_here_cutHard t_here_boatWear t_here_onward t_here_onwardHard t_fleet_row t_past_next t_past_count t_past_shelf_slots t_past_shelf_rows t_images_shelf_slots t_images_shelf_rows t_images_seeds t_images_kept t_draws_value t_seen_most t_seen_count t_seen_boats t_seen_steps t_seen_junctions t_book_most t_book_count t_book_boats t_book_steps t_book_junctions z_junctions z_cuts z_cutOne z_cutOther z_cutHard z_hard z_boats z_wears z_quays z_now z_seed z_text z_texted z_faultPlace z_undos z_past z_seen z_seenOf z_seenBehind z_seenAt z_booked z_bookOf z_bookAt z_images z_isKept) : ∃ (r : Int32) (o_t_past_count : Int32) (o_t_images_seeds : Nat → Int32) (o_t_images_kept : Nat → Int32) (o_t_images_shelf_rows : Nat → Int32) (o_z_undos : Int32) (o_z_images : Nat → Int32) (o_z_isKept : Nat → Int32), m_Tb_keep y1 t_fleet_row t_past_count t_images_seeds t_images_kept t_images_shelf_slots t_images_shelf_rows t_draws_value = some (r, o_t_past_count, o_t_images_seeds, o_t_images_kept, o_t_images_shelf_rows) ∧ m_Ref_keep y1 z_now z_seed z_undos z_images z_isKept = some (r, o_z_undos, o_z_images, o_z_isKept) ∧ Rel t_lettersFed t_faultAt t_letters t_quays t_here_junctions t_here_cuts t_here_boats t_here_cutA t_here_cutB t_here_cutHard t_here_boatWear t_here_onward t_here_onwardHard t_fleet_row t_past_next o_t_past_count t_past_shelf_slots t_past_shelf_rows t_images_shelf_slots o_t_images_shelf_rows o_t_images_seeds o_t_images_kept t_draws_value t_seen_most t_seen_count t_seen_boats t_seen_steps t_seen_junctions t_book_most t_book_count t_book_boats t_book_steps t_book_junctions z_junctions z_cuts z_cutOne z_cutOther z_cutHard z_hard z_boats z_wears z_quays z_now z_seed z_text z_texted z_faultPlace o_z_undos z_past z_seen z_seenOf z_seenBehind z_seenAt z_booked z_bookOf z_bookAt o_z_images o_z_isKept := by
  have h' := h
  obtain ⟨hT, J, C, B, hm, hW, hS, hQ, hP, hI, hD, hrest⟩ := h
  have hB := hW.1.2.2
  obtain ⟨rfl, hI⟩ := hI
  obtain ⟨v, hv, rfl, rfl⟩ := hD
  unfold m_Tb_keep m_Ref_keep
  by_cases c : vp_in y1 2
  · obtain ⟨i, hi, rfl⟩ := vp_in_of c (by omega)
    have a1 : m_Ref_in (nI i).toInt64 0 1 = some 1 := inN_t (a := 0) (b := 1) (by omega) (by omega) (by rw [nI_toInt (by omega)]; omega) (by rw [nI_toInt (by omega)]; omega)
    have b1 : nI i < (2 : Int32) := clt (b := 2) (by omega) (by omega) hi
    have st : m_Shelf_store (nI i) 42 2 t_images_shelf_rows t_fleet_row = some (va_cpy t_fleet_row t_images_shelf_rows 0 (i * 21) 21) := store_i (slots := 2) hi (by omega) (by omega) (by omega)
    have kp : m_Images_keepIn (nI i) t_images_seeds t_images_kept 42 2 t_images_shelf_rows t_fleet_row (nI v) = some (upd t_images_seeds i (nI v), upd t_images_kept i 1, va_cpy t_fleet_row t_images_shelf_rows 0 (i * 21) 21) := by
      unfold m_Images_keepIn
      rw [if_neg (nI_pos (by omega)), if_pos b1, st, kb1_e, kg_i hi (by omega), kg_i hi (by omega), nI_clamp (by omega), nar1]
    obtain ⟨img', p1, p2⟩ := keep_loop z_now (nI v) z_undos z_isKept hi 21 0 FU z_images (by omega) (FU_gt (by omega))
    have p1' : m_Ref_keep_L15 FU (nI i) 0 z_now (nI v) z_undos z_images z_isKept = _ := p1
    have pf : m_Past_forget t_past_count = some 0 := rfl
    rw [if_neg (nI_pos (by omega)), if_pos b1, kp, kb3_e, pf, kb1_e, a1, kb1_e, if_neg n1, p1']
    refine ⟨_, _, _, _, _, _, _, _, rfl, rfl, ?_⟩
    unfold Rel
    obtain ⟨rfl, x, n, hx, hn, rfl, rfl, rfl, hr⟩ := hP
    refine ⟨hT, J, C, B, hm, hW, hS, hQ, ⟨rfl, x, 0, hx, by omega, rfl, rfl, rfl, fun i hi => absurd hi (by omega)⟩, ⟨rfl, fun i' hi' => ?_⟩, ⟨v, hv, rfl, rfl⟩, hrest⟩
    by_cases q : i' = i
    · subst q
      refine Or.inr ⟨pk_us, pk_us, hS.congr hB (fun k hk => ?_) (fun k hk => ?_), v, hv, pk_us, pk_us⟩
      · show va_cpy t_fleet_row t_images_shelf_rows 0 (i' * 21) 21 (21 * i' + k) = t_fleet_row k
        rw [pk_cpy_in (by omega) (by omega)]; exact congrArg t_fleet_row (by omega)
      · show upd img' (22 * i' + 21) (nI v) (22 * i' + k) = z_now k
        rw [pk_un (by omega), p2, if_pos (by omega)]; exact congrArg z_now (by omega)
    · rw [pk_un q, pk_un q, pk_un q]
      rcases hI i' hi' with hz | ⟨z1, z2, z3, w, hw, z4, z5⟩
      · exact Or.inl hz
      · refine Or.inr ⟨z1, z2, z3.congr hB (fun k hk => ?_) (fun k hk => ?_), w, hw, z4, ?_⟩
        · show va_cpy t_fleet_row t_images_shelf_rows 0 (i * 21) 21 (21 * i' + k) = _
          rw [pk_cpy_out (by omega)]
        · show upd img' (22 * i + 21) (nI v) (22 * i' + k) = _
          rw [pk_un (by omega), p2, if_neg (by omega)]
        · rw [pk_un (by omega), p2, if_neg (by omega)]; exact z5
  · have cc := fun q => c (vp_in_iff.mpr q)
    have a1 : m_Ref_in y1.toInt64 0 1 = some 0 := inN_f (a := 0) (b := 1) (by omega) (by omega) (fun q => cc ⟨by omega, by omega⟩)
    rw [a1, kb1_e, if_pos p0]
    by_cases b1 : y1 < 0
    · rw [if_pos b1]; exact ⟨_, _, _, _, _, _, _, _, rfl, rfl, h'⟩
    · have b2 : ¬ y1 < 2 := fun q => cc ⟨ge0 b1, (lt_n (n := 2) (by omega)).mp q⟩
      rw [if_neg b1, if_neg b2]; exact ⟨_, _, _, _, _, _, _, _, rfl, rfl, h'⟩
theorem sim_goBack (t_lettersFed : Int32) (t_faultAt : Int32) (t_letters : Nat → Int32) (t_quays : Nat → Int32) (t_here_junctions : Int32) (t_here_cuts : Int32) (t_here_boats : Int32) (t_here_cutA : Nat → Int32) (t_here_cutB : Nat → Int32) (t_here_cutHard : Nat → Int32) (t_here_boatWear : Nat → Int32) (t_here_onward : Nat → Int32) (t_here_onwardHard : Nat → Int32) (t_fleet_row : Nat → Int32) (t_past_next : Int32) (t_past_count : Int32) (t_past_shelf_slots : Int32) (t_past_shelf_rows : Nat → Int32) (t_images_shelf_slots : Int32) (t_images_shelf_rows : Nat → Int32) (t_images_seeds : Nat → Int32) (t_images_kept : Nat → Int32) (t_draws_value : Int32) (t_seen_most : Int32) (t_seen_count : Int32) (t_seen_boats : Nat → Int32) (t_seen_steps : Nat → Int32) (t_seen_junctions : Nat → Int32) (t_book_most : Int32) (t_book_count : Int32) (t_book_boats : Nat → Int32) (t_book_steps : Nat → Int32) (t_book_junctions : Nat → Int32) (z_junctions : Int32) (z_cuts : Int32) (z_cutOne : Nat → Int32) (z_cutOther : Nat → Int32) (z_cutHard : Nat → Int32) (z_hard : Nat → Int32) (z_boats : Int32) (z_wears : Nat → Int32) (z_quays : Nat → Int32) (z_now : Nat → Int32) (z_seed : Int32) (z_text : Nat → Int32) (z_texted : Int32) (z_faultPlace : Int32) (z_undos : Int32) (z_past : Nat → Int32) (z_seen : Int32) (z_seenOf : Nat → Int32) (z_seenBehind : Nat → Int32) (z_seenAt : Nat → Int32) (z_booked : Int32) (z_bookOf : Nat → Int32) (z_bookAt : Nat → Int32) (z_images : Nat → Int32) (z_isKept : Nat → Int32) (y1 : Int32) (h : Rel t_lettersFed t_faultAt t_letters t_quays t_here_junctions t_here_cuts t_here_boats t_here_cutA t_here_cutB t_here_cutHard t_here_boatWear t_here_onward t_here_onwardHard t_fleet_row t_past_next t_past_count t_past_shelf_slots t_past_shelf_rows t_images_shelf_slots t_images_shelf_rows t_images_seeds t_images_kept t_draws_value t_seen_most t_seen_count t_seen_boats t_seen_steps t_seen_junctions t_book_most t_book_count t_book_boats t_book_steps t_book_junctions z_junctions z_cuts z_cutOne z_cutOther z_cutHard z_hard z_boats z_wears z_quays z_now z_seed z_text z_texted z_faultPlace z_undos z_past z_seen z_seenOf z_seenBehind z_seenAt z_booked z_bookOf z_bookAt z_images z_isKept) : ∃ (r : Int32) (o_t_fleet_row : Nat → Int32) (o_t_past_count : Int32) (o_t_draws_value : Int32) (o_z_now : Nat → Int32) (o_z_seed : Int32) (o_z_undos : Int32), m_Tb_goBack y1 t_fleet_row t_past_count t_images_seeds t_images_kept t_images_shelf_slots t_images_shelf_rows t_draws_value = some (r, o_t_fleet_row, o_t_past_count, o_t_draws_value) ∧ m_Ref_goBack y1 z_now z_seed z_undos z_images z_isKept = some (r, o_z_now, o_z_seed, o_z_undos) ∧ Rel t_lettersFed t_faultAt t_letters t_quays t_here_junctions t_here_cuts t_here_boats t_here_cutA t_here_cutB t_here_cutHard t_here_boatWear t_here_onward t_here_onwardHard o_t_fleet_row t_past_next o_t_past_count t_past_shelf_slots t_past_shelf_rows t_images_shelf_slots t_images_shelf_rows t_images_seeds t_images_kept o_t_draws_value t_seen_most t_seen_count t_seen_boats t_seen_steps t_seen_junctions t_book_most t_book_count t_book_boats t_book_steps t_book_junctions z_junctions z_cuts z_cutOne z_cutOther z_cutHard z_hard z_boats z_wears z_quays o_z_now o_z_seed z_text z_texted z_faultPlace o_z_undos z_past z_seen z_seenOf z_seenBehind z_seenAt z_booked z_bookOf z_bookAt z_images z_isKept := by
  have h' := h
  obtain ⟨hT, J, C, B, hm, hW, hS, hQ, hP, hI, hD, hrest⟩ := h
  have hB := hW.1.2.2
  have hI' := hI
  obtain ⟨rfl, hI⟩ := hI
  unfold m_Tb_goBack m_Ref_goBack
  by_cases c : vp_in y1 2
  · obtain ⟨i, hi, rfl⟩ := vp_in_of c (by omega)
    have a1 : m_Ref_in (nI i).toInt64 0 1 = some 1 := inN_t (a := 0) (b := 1) (by omega) (by omega) (by rw [nI_toInt (by omega)]; omega) (by rw [nI_toInt (by omega)]; omega)
    have b1 : nI i < (2 : Int32) := clt (b := 2) (by omega) (by omega) hi
    have b2 : ¬ (2 : Int32) ≤ nI i := ncle (a := 2) (by omega) (by omega) hi
    rcases hI i hi with ⟨z1, z2⟩ | ⟨z1, z2, z3, w, hw, z4, z5⟩
    · have ik : m_Images_isKept (nI i) t_images_kept = some 0 := by
        unfold m_Images_isKept
        rw [if_neg (nI_pos (by omega)), if_neg b2, kg_i hi (by omega), nI_clamp (by omega), z1, if_pos p0]
      rw [if_neg (nI_pos (by omega)), if_pos b1, ik, kb1_e, if_pos p0, a1, kb1_e, if_neg n1, kg_i hi (by omega), nI_clamp (by omega), z2, if_pos p0]
      exact ⟨_, _, _, _, _, _, _, rfl, rfl, h'⟩
    · have ik : m_Images_isKept (nI i) t_images_kept = some 1 := by
        unfold m_Images_isKept
        rw [if_neg (nI_pos (by omega)), if_neg b2, kg_i hi (by omega), nI_clamp (by omega), z1, if_neg n1]
      have ft : m_Shelf_fetch (nI i) 42 2 t_images_shelf_rows t_fleet_row = some (va_cpy t_images_shelf_rows t_fleet_row (i * 21) 0 21) := fetch_i (slots := 2) hi (by omega) (by omega) (by omega)
      have bb : m_Images_bringBack (nI i) t_images_seeds t_images_kept 42 2 t_images_shelf_rows t_fleet_row t_draws_value = some (va_cpy t_images_shelf_rows t_fleet_row (i * 21) 0 21, nI w) := by
        unfold m_Images_bringBack
        rw [ik, kb1_e, if_neg n1, ft, kb1_e, kg_i hi (by omega), nI_clamp (by omega), z4]
      obtain ⟨now', p1, p2⟩ := back_loop z_images z_seed z_undos z_isKept hi 21 0 FU z_now (by omega) (FU_gt (by omega))
      have p1' : m_Ref_goBack_L27 FU (nI i) 0 z_now z_seed z_undos z_images z_isKept = _ := p1
      have pf : m_Past_forget t_past_count = some 0 := rfl
      rw [if_neg (nI_pos (by omega)), if_pos b1, ik, kb1_e, if_neg n1, bb, kb2_e, pf, kb1_e, a1, kb1_e, if_neg n1, kg_i hi (by omega), nI_clamp (by omega), z2, if_neg n1, p1', z5]
      refine ⟨_, _, _, _, _, _, _, rfl, rfl, ?_⟩
      unfold Rel
      obtain ⟨rfl, x, n, hx, hn, rfl, rfl, rfl, hr⟩ := hP
      refine ⟨hT, J, C, B, hm, hW, z3.congr hB (fun k hk => ?_) (fun k hk => ?_), hQ, ⟨rfl, x, 0, hx, by omega, rfl, rfl, rfl, fun i hi => absurd hi (by omega)⟩, hI', ⟨w, hw, rfl, rfl⟩, hrest⟩
      · show va_cpy t_images_shelf_rows t_fleet_row (i * 21) 0 21 k = t_images_shelf_rows (21 * i + k)
        rw [pk_cpy_in (by omega) (by omega)]; exact congrArg t_images_shelf_rows (by omega)
      · show now' k = z_images (22 * i + k)
        rw [p2, if_pos (by omega)]
  · have cc := fun q => c (vp_in_iff.mpr q)
    have a1 : m_Ref_in y1.toInt64 0 1 = some 0 := inN_f (a := 0) (b := 1) (by omega) (by omega) (fun q => cc ⟨by omega, by omega⟩)
    rw [a1, kb1_e, if_pos p0]
    by_cases b1 : y1 < 0
    · rw [if_pos b1]; exact ⟨_, _, _, _, _, _, _, rfl, rfl, h'⟩
    · have b2 : ¬ y1 < 2 := fun q => cc ⟨ge0 b1, (lt_n (n := 2) (by omega)).mp q⟩
      rw [if_neg b1, if_neg b2]; exact ⟨_, _, _, _, _, _, _, rfl, rfl, h'⟩
