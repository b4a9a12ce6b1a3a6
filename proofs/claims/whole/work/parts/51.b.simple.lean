theorem n10 : ((1 : Int32) = 0) ↔ False := by decide
theorem cle {a b : Nat} (ha : a < 2 ^ 31) (hb : b < 2 ^ 31) (h : a ≤ b) : nI a ≤ nI b := (nI_leI ha hb).mpr h
theorem ncle {a b : Nat} (ha : a < 2 ^ 31) (hb : b < 2 ^ 31) (h : b < a) : ¬ nI a ≤ nI b := fun q => absurd ((nI_leI ha hb).mp q) (by omega)
theorem clt {a b : Nat} (ha : a < 2 ^ 31) (hb : b < 2 ^ 31) (h : a < b) : nI a < nI b := (nI_ltI ha hb).mpr h
theorem nclt {a b : Nat} (ha : a < 2 ^ 31) (hb : b < 2 ^ 31) (h : b ≤ a) : ¬ nI a < nI b := fun q => absurd ((nI_ltI ha hb).mp q) (by omega)
theorem nceq {a b : Nat} (ha : a < 2 ^ 31) (hb : b < 2 ^ 31) (h : a ≠ b) : ¬ nI a = nI b := fun q => h ((nI_eq ha hb).mp q)
theorem FU_gt {n : Nat} (h : n < 5000) : n < FU := h
theorem fuS {n d : Nat} (h : d < n) : ∃ g : Nat, n = g + 1 ∧ d ≤ g := ⟨n - 1, by omega, by omega⟩
/-! the class's fleet: a boat's four numbers -/
theorem fl_get {p b : Nat} {row : Nat → Int32} (hp : p ≤ 15) (hb : b < 5) : m_Fleet_get (nI p) (nI b) row = some (row (p + b)) := by
  unfold m_Fleet_get
  have c : ¬ (5 : Int32) ≤ nI b := by show ¬ nI 5 ≤ nI b; rw [nI_leI (by omega) (by omega)]; omega
  rw [if_neg (nI_pos (by omega)), if_neg c, nI_add, kg_i (by omega) (by omega), nI_clamp (by omega)]
theorem fl_put {p b : Nat} {v : Int32} {row : Nat → Int32} (hp : p ≤ 15) (hb : b < 5) : m_Fleet_put (nI p) (nI b) v row = some (upd row (p + b) v) := by
  unfold m_Fleet_put
  have c : ¬ (5 : Int32) ≤ nI b := by show ¬ nI 5 ≤ nI b; rw [nI_leI (by omega) (by omega)]; omega
  rw [if_neg (nI_pos (by omega)), if_neg c, nI_add, kg_i (by omega) (by omega), nI_clamp (by omega)]
theorem fl_at {b : Nat} {row : Nat → Int32} (hb : b < 5) : m_Fleet_at (nI b) row = some (row b) := by
  have e : m_Fleet_get 0 (nI b) row = some (row (0 + b)) := fl_get (p := 0) (by omega) hb
  unfold m_Fleet_at; rw [e, kb1_e, Nat.zero_add]
theorem fl_from {b : Nat} {row : Nat → Int32} (hb : b < 5) : m_Fleet_from (nI b) row = some (row (5 + b)) := by
  have e : m_Fleet_get 5 (nI b) row = some (row (5 + b)) := fl_get (p := 5) (by omega) hb
  unfold m_Fleet_from; rw [e, kb1_e]
theorem fl_pull {b : Nat} {row : Nat → Int32} (hb : b < 5) : m_Fleet_pull (nI b) row = some (row (10 + b)) := by
  have e : m_Fleet_get 10 (nI b) row = some (row (10 + b)) := fl_get (p := 10) (by omega) hb
  unfold m_Fleet_pull; rw [e, kb1_e]
theorem fl_went {b : Nat} {row : Nat → Int32} (hb : b < 5) : m_Fleet_went (nI b) row = some (row (15 + b)) := by
  have e : m_Fleet_get 15 (nI b) row = some (row (15 + b)) := fl_get (p := 15) (by omega) hb
  unfold m_Fleet_went; rw [e, kb1_e]
theorem wearOf_i {b B : Nat} {bw : Nat → Int32} (hB : B ≤ 5) (hb : b < B) : m_Water_wearOf (nI b) (nI B) bw = some (bw b) := by
  unfold m_Water_wearOf
  rw [hasBoat_t hB (vp_nI hb (by omega)), kb1_e, if_neg (by decide), kg_i (by omega) (by omega), nI_clamp (by omega)]
/-! entries -/
theorem en_has {e n M : Nat} (h : e < n) (hM : n ≤ M) (h31 : M < 2 ^ 31) : m_Entries_has (nI e) (nI M) (nI n) = some 1 := by
  unfold m_Entries_has
  rw [if_neg (nI_pos (by omega)), if_neg (by rw [nI_leI (by omega) (by omega)]; omega), if_neg (by rw [nI_leI (by omega) (by omega)]; omega)]
theorem en_boat {e n M : Nat} {bo : Nat → Int32} (h : e < n) (hM : n ≤ M) (h31 : M < 2 ^ 31) : m_Entries_boatIn (nI e) M (nI M) bo (nI n) = some (bo e) := by
  unfold m_Entries_boatIn
  rw [en_has h hM h31, kb1_e, if_neg (by decide), kg_i (by omega) h31, nI_clamp (by omega)]
theorem en_steps {e n M : Nat} {bo : Nat → Int32} (h : e < n) (hM : n ≤ M) (h31 : M < 2 ^ 31) : m_Entries_stepsIn (nI e) M (nI M) bo (nI n) = some (bo e) := by
  unfold m_Entries_stepsIn
  rw [en_has h hM h31, kb1_e, if_neg (by decide), kg_i (by omega) h31, nI_clamp (by omega)]
theorem en_junction {e n M : Nat} {bo : Nat → Int32} (h : e < n) (hM : n ≤ M) (h31 : M < 2 ^ 31) : m_Entries_junctionIn (nI e) M (nI M) bo (nI n) = some (bo e) := by
  unfold m_Entries_junctionIn
  rw [en_has h hM h31, kb1_e, if_neg (by decide), kg_i (by omega) h31, nI_clamp (by omega)]
theorem en_add_t {n M : Nat} {bo st ju : Nat → Int32} {a b c : Int32} (h : n < M) (h31 : M < 2 ^ 31) : m_Entries_add a b c M (nI M) bo st ju (nI n) = some (1, upd bo n a, upd st n b, upd ju n c, nI (n + 1)) := by
  unfold m_Entries_add
  rw [if_neg (nI_pos (by omega)), if_pos (by rw [nI_ltI (by omega) (by omega)]; exact h), kg_i h h31, kg_i h h31, kg_i h h31, nI_clamp (by omega), nI_1]
theorem en_add_f {n M : Nat} {bo st ju : Nat → Int32} {a b c : Int32} (h : M ≤ n) (h31 : n < 2 ^ 31) : m_Entries_add a b c M (nI M) bo st ju (nI n) = some (0, bo, st, ju, nI n) := by
  unfold m_Entries_add
  rw [if_neg (nI_pos (by omega)), if_neg (by rw [nI_ltI (by omega) (by omega)]; omega)]
/-! quays forgotten -/
theorem fq_loop : ∀ (d k n : Nat) (q : Nat → Int32), k + d = 5 → d < n → ∃ oq : Nat → Int32, m_Tb_forgetQuays_L2 n (nI k) q = some oq ∧ ∀ b : Nat, b < 5 → oq b = if b < k then q b else -1 := by
  intro d
  induction d with
  | zero =>
    intro k n q hk hn
    obtain ⟨g, rfl, hg⟩ := fuS hn
    refine ⟨q, ?_, fun b hb => by rw [if_pos (by omega)]⟩
    show m_Tb_forgetQuays_B2 (m_Tb_forgetQuays_L2 g) (nI k) q = _
    unfold m_Tb_forgetQuays_B2
    have c : (5 : Int32) ≤ nI k := cle (a := 5) (by omega) (by omega) (by omega)
    rw [if_pos c]
  | succ d ih =>
    intro k n q hk hn
    obtain ⟨g, rfl, hg⟩ := fuS hn
    obtain ⟨oq, h1, h2⟩ := ih (k + 1) g (upd q k (-1)) (by omega) (by omega)
    refine ⟨oq, ?_, fun b hb => ?_⟩
    · show m_Tb_forgetQuays_B2 (m_Tb_forgetQuays_L2 g) (nI k) q = _
      unfold m_Tb_forgetQuays_B2
      have c : ¬ (5 : Int32) ≤ nI k := ncle (a := 5) (by omega) (by omega) (by omega)
      rw [if_neg c, kg_i (by omega) (by omega), nI_clamp (by omega), nI_1]
      exact h1
    · rw [h2 b hb]
      by_cases c : b < k
      · rw [if_pos (by omega), if_pos c, pk_un (by omega)]
      · rw [if_neg c]
        by_cases c2 : b = k
        · subst c2; rw [if_pos (by omega), pk_us]
        · rw [if_neg (by omega)]
theorem fq_all (q : Nat → Int32) : ∃ oq : Nat → Int32, m_Tb_forgetQuays q = some oq ∧ ∀ b : Nat, b < 5 → oq b = -1 := by
  obtain ⟨oq, h1, h2⟩ := fq_loop 5 0 FU q (by omega) (FU_gt (by omega))
  exact ⟨oq, h1, fun b hb => by rw [h2 b hb, if_neg (by omega)]⟩
theorem init_quays : ∃ oq : Nat → Int32, m_Tb_forgetQuays (fun _ => 0) = some oq := by
  obtain ⟨oq, h1, -⟩ := fq_all (fun _ => 0)
  exact ⟨oq, h1⟩
theorem bst_0 (f : Nat) : ∀ k : Nat, bst (fun _ => 0) f k = 0 := by
  intro k
  induction k with
  | zero => rfl
  | succ k ih => unfold bst; rw [if_pos (Or.inr rfl), ih]
/-! mercy: the same loop twice -/
theorem mercy_loop : ∀ (n : Nat) (x1 x2 : Int32) (x3 : Int64) (x5 : Int32), m_Tb_mercy_L30 n x1 x2 x3 x5 = m_Ref_mercy_L34 n x1 x2 x3 x5 := by
  intro n
  induction n with
  | zero => intros; rfl
  | succ n ih =>
    intro x1 x2 x3 x5
    show m_Tb_mercy_B30 (m_Tb_mercy_L30 n) x1 x2 x3 x5 = m_Ref_mercy_B34 (m_Ref_mercy_L34 n) x1 x2 x3 x5
    unfold m_Tb_mercy_B30 m_Ref_mercy_B34
    rw [ih]; rfl
theorem mercy_ends : ∀ (d k n N : Nat) (x2 : Int32) (x3 : Int64), k + d = N → N < 2 ^ 31 → d < n → ∃ r : Int32, m_Ref_mercy_L34 n (nI N) x2 x3 (nI k) = some r := by
  intro d
  induction d with
  | zero =>
    intro k n N x2 x3 hk hN hn
    obtain ⟨g, rfl, hg⟩ := fuS hn
    refine ⟨x3.toInt32, ?_⟩
    show m_Ref_mercy_B34 (m_Ref_mercy_L34 g) (nI N) x2 x3 (nI k) = _
    unfold m_Ref_mercy_B34
    rw [if_pos (by rw [nI_leI (by omega) (by omega)]; omega)]; rfl
  | succ d ih =>
    intro k n N x2 x3 hk hN hn
    obtain ⟨g, rfl, hg⟩ := fuS hn
    obtain ⟨r, h⟩ := ih (k + 1) g N x2 (x3 * (100 - x2).toInt64 / 100) (by omega) hN (by omega)
    refine ⟨r, ?_⟩
    show m_Ref_mercy_B34 (m_Ref_mercy_L34 g) (nI N) x2 x3 (nI k) = _
    unfold m_Ref_mercy_B34
    rw [if_neg (by rw [nI_leI (by omega) (by omega)]; omega), kzl_i (by decide), nI_1]
    exact h
theorem sim_mercy (t_lettersFed : Int32) (t_faultAt : Int32) (t_letters : Nat → Int32) (t_quays : Nat → Int32) (t_here_junctions : Int32) (t_here_cuts : Int32) (t_here_boats : Int32) (t_here_cutA : Nat → Int32) (t_here_cutB : Nat → Int32) (t_here_cutHard : Nat → Int32) (t_here_boatWear : Nat → Int32) (t_here_onward : Nat → Int32) (t_here_onwardHard : Nat → Int32) (t_fleet_row : Nat → Int32) (t_past_next : Int32) (t_past_count : Int32) (t_past_shelf_slots : Int32) (t_past_shelf_rows : Nat → Int32) (t_images_shelf_slots : Int32) (t_images_shelf_rows : Nat → Int32) (t_images_seeds : Nat → Int32) (t_images_kept : Nat → Int32) (t_draws_value : Int32) (t_seen_most : Int32) (t_seen_count : Int32) (t_seen_boats : Nat → Int32) (t_seen_steps : Nat → Int32) (t_seen_junctions : Nat → Int32) (t_book_most : Int32) (t_book_count : Int32) (t_book_boats : Nat → Int32) (t_book_steps : Nat → Int32) (t_book_junctions : Nat → Int32) (z_junctions : Int32) (z_cuts : Int32) (z_cutOne : Nat → Int32) (z_cutOther : Nat → Int32) (z_cutHard : Nat → Int32) (z_hard : Nat → Int32) (z_boats : Int32) (z_wears : Nat → Int32) (z_quays : Nat → Int32) (z_now : Nat → Int32) (z_seed : Int32) (z_text : Nat → Int32) (z_texted : Int32) (z_faultPlace : Int32) (z_undos : Int32) (z_past : Nat → Int32) (z_seen : Int32) (z_seenOf : Nat → Int32) (z_seenBehind : Nat → Int32) (z_seenAt : Nat → Int32) (z_booked : Int32) (z_bookOf : Nat → Int32) (z_bookAt : Nat → Int32) (z_images : Nat → Int32) (z_isKept : Nat → Int32) (y1 : Int32) (y2 : Int32) (h : Rel t_lettersFed t_faultAt t_letters t_quays t_here_junctions t_here_cuts t_here_boats t_here_cutA t_here_cutB t_here_cutHard t_here_boatWear t_here_onward t_here_onwardHard t_fleet_row t_past_next t_past_count t_past_shelf_slots t_past_shelf_rows t_images_shelf_slots t_images_shelf_rows t_images_seeds t_images_kept t_draws_value t_seen_most t_seen_count t_seen_boats t_seen_steps t_seen_junctions t_book_most t_book_count t_book_boats t_book_steps t_book_junctions z_junctions z_cuts z_cutOne z_cutOther z_cutHard z_hard z_boats z_wears z_quays z_now z_seed z_text z_texted z_faultPlace z_undos z_past z_seen z_seenOf z_seenBehind z_seenAt z_booked z_bookOf z_bookAt z_images z_isKept) : ∃ (r : Int32), m_Tb_mercy y1 y2 = some (r) ∧ m_Ref_mercy y1 y2 = some (r) ∧ Rel t_lettersFed t_faultAt t_letters t_quays t_here_junctions t_here_cuts t_here_boats t_here_cutA t_here_cutB t_here_cutHard t_here_boatWear t_here_onward t_here_onwardHard t_fleet_row t_past_next t_past_count t_past_shelf_slots t_past_shelf_rows t_images_shelf_slots t_images_shelf_rows t_images_seeds t_images_kept t_draws_value t_seen_most t_seen_count t_seen_boats t_seen_steps t_seen_junctions t_book_most t_book_count t_book_boats t_book_steps t_book_junctions z_junctions z_cuts z_cutOne z_cutOther z_cutHard z_hard z_boats z_wears z_quays z_now z_seed z_text z_texted z_faultPlace z_undos z_past z_seen z_seenOf z_seenBehind z_seenAt z_booked z_bookOf z_bookAt z_images z_isKept := by
  by_cases c1 : 0 ≤ y1.toInt ∧ y1.toInt ≤ 60
  · obtain ⟨k, hk, rfl⟩ := i32_N (n := 60) (by omega) c1.1 c1.2
    have a1 : m_Ref_in (nI k).toInt64 0 60 = some 1 := inN_t (a := 0) (b := 60) (by omega) (by omega) c1.1 c1.2
    have b1 : ¬ (60 : Int32) < nI k := by show ¬ nI 60 < nI k; rw [nI_ltI (by omega) (by omega)]; omega
    by_cases c2 : 0 ≤ y2.toInt ∧ y2.toInt ≤ 100
    · have a2 : m_Ref_in y2.toInt64 0 100 = some 1 := inN_t (a := 0) (b := 100) (by omega) (by omega) c2.1 c2.2
      have b2 : ¬ y2 < 0 := by rw [i32_lt, Int32.toInt_zero]; omega
      have b3 : y2 ≤ 100 := (le_n (n := 100) (by omega)).mpr c2.2
      obtain ⟨r, hr⟩ := mercy_ends k 0 FU k y2 1000000000 (by omega) (by omega) (FU_gt (by omega))
      refine ⟨r, ?_, ?_, h⟩
      · unfold m_Tb_mercy
        rw [if_neg (nI_pos (by omega)), if_neg b1, if_neg b2, if_pos b3, mercy_loop]; exact hr
      · unfold m_Ref_mercy
        rw [a1, kb1_e, if_neg (by decide), a2, kb1_e, if_neg (by decide)]; exact hr
    · have a2 : m_Ref_in y2.toInt64 0 100 = some 0 := inN_f (a := 0) (b := 100) (by omega) (by omega) c2
      refine ⟨-1000000002, ?_, ?_, h⟩
      · unfold m_Tb_mercy
        rw [if_neg (nI_pos (by omega)), if_neg b1]
        by_cases b2 : y2 < 0
        · rw [if_pos b2]
        · rw [if_neg b2, if_neg (show ¬ y2 ≤ 100 from fun q => c2 ⟨ge0 b2, (le_n (n := 100) (by omega)).mp q⟩)]
      · unfold m_Ref_mercy
        rw [a1, kb1_e, if_neg (by decide), a2, kb1_e, if_pos rfl]
  · have a1 : m_Ref_in y1.toInt64 0 60 = some 0 := inN_f (a := 0) (b := 60) (by omega) (by omega) c1
    refine ⟨-1000000002, ?_, ?_, h⟩
    · unfold m_Tb_mercy
      by_cases b2 : y1 < 0
      · rw [if_pos b2]
      · have g0 := ge0 b2
        have c3 : (60 : Int32) < y1 := (n_lt (n := 60) (by omega)).mpr (by omega)
        rw [if_neg b2, if_pos c3]
    · unfold m_Ref_mercy
      rw [a1, kb1_e, if_pos rfl]
theorem sim_quay (t_lettersFed : Int32) (t_faultAt : Int32) (t_letters : Nat → Int32) (t_quays : Nat → Int32) (t_here_junctions : Int32) (t_here_cuts : Int32) (t_here_boats : Int32) (t_here_cutA : Nat → Int32) (t_here_cutB : Nat → Int32) (t_here_cutHard : Nat → Int32) (t_here_boatWear : Nat → Int32) (t_here_onward : Nat → Int32) (t_here_onwardHard : Nat → Int32) (t_fleet_row : Nat → Int32) (t_past_next : Int32) (t_past_count : Int32) (t_past_shelf_slots : Int32) (t_past_shelf_rows : Nat → Int32) (t_images_shelf_slots : Int32) (t_images_shelf_rows : Nat → Int32) (t_images_seeds : Nat → Int32) (t_images_kept : Nat → Int32) (t_draws_value : Int32) (t_seen_most : Int32) (t_seen_count : Int32) (t_seen_boats : Nat → Int32) (t_seen_steps : Nat → Int32) (t_seen_junctions : Nat → Int32) (t_book_most : Int32) (t_book_count : Int32) (t_book_boats : Nat → Int32) (t_book_steps : Nat → Int32) (t_book_junctions : Nat → Int32) (z_junctions : Int32) (z_cuts : Int32) (z_cutOne : Nat → Int32) (z_cutOther : Nat → Int32) (z_cutHard : Nat → Int32) (z_hard : Nat → Int32) (z_boats : Int32) (z_wears : Nat → Int32) (z_quays : Nat → Int32) (z_now : Nat → Int32) (z_seed : Int32) (z_text : Nat → Int32) (z_texted : Int32) (z_faultPlace : Int32) (z_undos : Int32) (z_past : Nat → Int32) (z_seen : Int32) (z_seenOf : Nat → Int32) (z_seenBehind : Nat → Int32) (z_seenAt : Nat → Int32) (z_booked : Int32) (z_bookOf : Nat → Int32) (z_bookAt : Nat → Int32) (z_images : Nat → Int32) (z_isKept : Nat → Int32) (y1 : Int32) (y2 : Int32) (h : Rel t_lettersFed t_faultAt t_letters t_quays t_here_junctions t_here_cuts t_here_boats t_here_cutA t_here_cutB t_here_cutHard t_here_boatWear t_here_onward t_here_onwardHard t_fleet_row t_past_next t_past_count t_past_shelf_slots t_past_shelf_rows t_images_shelf_slots t_images_shelf_rows t_images_seeds t_images_kept t_draws_value t_seen_most t_seen_count t_seen_boats t_seen_steps t_seen_junctions t_book_most t_book_count t_book_boats t_book_steps t_book_junctions z_junctions z_cuts z_cutOne z_cutOther z_cutHard z_hard z_boats z_wears z_quays z_now z_seed z_text z_texted z_faultPlace z_undos z_past z_seen z_seenOf z_seenBehind z_seenAt z_booked z_bookOf z_bookAt z_images z_isKept) : ∃ (r : Int32) (o_t_quays : Nat → Int32) (o_z_quays : Nat → Int32), m_Tb_quay y1 y2 t_quays t_here_junctions t_here_boats = some (r, o_t_quays) ∧ m_Ref_quay y1 y2 z_junctions z_boats z_quays = some (r, o_z_quays) ∧ Rel t_lettersFed t_faultAt t_letters o_t_quays t_here_junctions t_here_cuts t_here_boats t_here_cutA t_here_cutB t_here_cutHard t_here_boatWear t_here_onward t_here_onwardHard t_fleet_row t_past_next t_past_count t_past_shelf_slots t_past_shelf_rows t_images_shelf_slots t_images_shelf_rows t_images_seeds t_images_kept t_draws_value t_seen_most t_seen_count t_seen_boats t_seen_steps t_seen_junctions t_book_most t_book_count t_book_boats t_book_steps t_book_junctions z_junctions z_cuts z_cutOne z_cutOther z_cutHard z_hard z_boats z_wears o_z_quays z_now z_seed z_text z_texted z_faultPlace z_undos z_past z_seen z_seenOf z_seenBehind z_seenAt z_booked z_bookOf z_bookAt z_images z_isKept := by
  have h' := h
  obtain ⟨hT, J, C, B, hm, hW, hS, hQ, hrest⟩ := h
  have hW' := hW
  obtain ⟨⟨hJ, hC, hB⟩, ⟨e1, e2, e3, e4, e5, e6⟩, -⟩ := hW
  subst e1 e2 e5 e6
  by_cases c : vp_in y1 B
  · have cx := hasBoat_t hB c
    have cm := isBoat_t (by omega) c
    obtain ⟨b, hb, rfl⟩ := vp_in_of c (by omega)
    obtain ⟨q, hq, q1, q2⟩ := hQ b hb
    have fin : ∀ j : Nat, j ≤ J → y2 = om j → ∃ (r : Int32) (o_t_quays o_z_quays : Nat → Int32), m_Tb_quay (nI b) y2 t_quays (nI J) (nI B) = some (r, o_t_quays) ∧ m_Ref_quay (nI b) y2 (nI J) (nI B) z_quays = some (r, o_z_quays) ∧ RQuay J B o_t_quays o_z_quays := by
      intro j hj ej
      refine ⟨om q, upd t_quays b y2, upd z_quays b y2, ?_, ?_, fun b' hb' => ?_⟩
      · unfold m_Tb_quay
        rw [cx, kb1_e, if_neg (by decide)]
        have g : m_Tb_quay_B30 (nI b) y2 t_quays (nI J) (nI B) = some (om q, upd t_quays b y2) := by
          unfold m_Tb_quay_B30
          rw [kg_i (by omega) (by omega), kg_i (by omega) (by omega), nI_clamp (by omega), q1]
        by_cases z : y2 = -1
        · rw [if_pos z, g]
        · rw [if_neg z]
          cases j with
          | zero => exact absurd (ej.trans om_0) z
          | succ j =>
            have e2 : m_Water_hasJunction y2 (nI J) = some 1 := by rw [ej, om_s]; exact hasJunction_t (by omega) (vp_nI (by omega) (by omega))
            rw [e2, kb1_e, if_neg (by decide), g]
      · unfold m_Ref_quay
        rw [cm, kb1_e, if_neg (by decide)]
        have g : m_Ref_quay_B24 (nI b) y2 (nI J) (nI B) z_quays = some (om q, upd z_quays b y2) := by
          unfold m_Ref_quay_B24
          rw [kg_i (by omega) (by omega), kg_i (by omega) (by omega), nI_clamp (by omega), q2]
        by_cases z : y2 = -1
        · rw [if_pos z, g]
        · rw [if_neg z]
          cases j with
          | zero => exact absurd (ej.trans om_0) z
          | succ j =>
            have e2 : m_Ref_isJunction y2 (nI J) = some 1 := by rw [ej, om_s]; exact isJunction_t (by omega) (vp_nI (by omega) (by omega))
            rw [e2, kb1_e, if_neg (by decide), g]
      · by_cases z : b' = b
        · subst z; exact ⟨j, hj, by rw [pk_us, ej], by rw [pk_us, ej]⟩
        · rw [pk_un z, pk_un z]; exact hQ b' hb'
    have out : ∀ j : Nat, j ≤ J → y2 = om j → ∃ (r : Int32) (o_t_quays o_z_quays : Nat → Int32), m_Tb_quay (nI b) y2 t_quays (nI J) (nI B) = some (r, o_t_quays) ∧ m_Ref_quay (nI b) y2 (nI J) (nI B) z_quays = some (r, o_z_quays) ∧ (RQuay J B o_t_quays o_z_quays) := fin
    by_cases z : y2 = -1
    · obtain ⟨r, o1, o2, a1, a2, a3⟩ := out 0 (by omega) (z.trans om_0.symm)
      exact ⟨r, o1, o2, a1, a2, by unfold Rel; exact ⟨hT, J, C, B, hm, hW', hS, a3, hrest⟩⟩
    · by_cases cj : vp_in y2 J
      · have cj' := cj
        obtain ⟨j, hj, rfl⟩ := vp_in_of cj (by omega)
        obtain ⟨r, o1, o2, a1, a2, a3⟩ := out (j + 1) (by omega) (om_s j).symm
        exact ⟨r, o1, o2, a1, a2, by unfold Rel; exact ⟨hT, J, C, B, hm, hW', hS, a3, hrest⟩⟩
      · refine ⟨-1000000001, t_quays, z_quays, ?_, ?_, h'⟩
        · unfold m_Tb_quay; rw [cx, kb1_e, if_neg (by decide), if_neg z, hasJunction_f (by omega) cj, kb1_e, if_pos rfl]
        · unfold m_Ref_quay; rw [cm, kb1_e, if_neg (by decide), if_neg z, isJunction_f (by omega) cj, kb1_e, if_pos rfl]
  · refine ⟨-1000000001, t_quays, z_quays, ?_, ?_, h'⟩
    · unfold m_Tb_quay; rw [hasBoat_f hB c, kb1_e, if_pos rfl]
    · unfold m_Ref_quay; rw [isBoat_f (by omega) c, kb1_e, if_pos rfl]
