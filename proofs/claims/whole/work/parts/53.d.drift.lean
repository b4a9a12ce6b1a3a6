/-! ===== draws ===== -/
def nxt (v : Nat) : Nat := (v * 1103515245 + 12345) % 2 ^ 31
theorem l64and {n : Nat} (h : n < 2 ^ 63) : lN n &&& (2147483647 : Int64) = lN (n % 2 ^ 31) := by
  apply Int64.toBitVec_inj.mp
  apply BitVec.eq_of_toNat_eq
  have hm : (2147483647 : Int64).toBitVec.toNat = 2 ^ 31 - 1 := by decide
  rw [Int64.toBitVec_and, BitVec.toNat_and, hm, Nat.and_two_pow_sub_one_eq_mod]
  show (BitVec.ofNat 64 n).toNat % 2 ^ 31 = (BitVec.ofNat 64 (n % 2 ^ 31)).toNat
  rw [BitVec.toNat_ofNat, BitVec.toNat_ofNat]
  have h1 : n % 2 ^ 64 = n := Nat.mod_eq_of_lt (by omega)
  have h2 : n % 2 ^ 31 % 2 ^ 64 = n % 2 ^ 31 := Nat.mod_eq_of_lt (by omega)
  rw [h1, h2]
theorem drawL {v : Nat} (hv : v < 2 ^ 31) : (nI v).toInt64 * 1103515245 + 12345 = lN (v * 1103515245 + 12345) := by
  rw [nI_l hv]
  have e1 : lN v * 1103515245 = lN (v * 1103515245) := lN_mul v 1103515245
  rw [e1]; exact lN_add _ 12345
theorem next_i {n v : Nat} (hn : 0 < n) (hn2 : n < 2 ^ 31) (hv : v < 2 ^ 31) : m_Draws_next (nI n) (nI v) = some (nI (nxt v / 65536 % n), nI (nxt v)) := by
  have c : (1 : Int32) ≤ nI n := cle (a := 1) (by omega) hn2 hn
  have e : ((nI v).toInt64 * 1103515245 + 12345 &&& 2147483647).toInt32 = nI (nxt v) := by
    rw [drawL hv, l64and (by omega), lN_i]; rfl
  have hx : nxt v < 2 ^ 31 := Nat.mod_lt _ (by omega)
  have e2 : nI (nxt v) / 65536 = nI (nxt v / 65536) := pk_div (d := 65536) hx (by omega) (by omega)
  have k65 : ∀ K : Option (Int32 × Int32), kz 65536 K = K := fun K => kz_i (d := 65536) (by omega) (by omega)
  unfold m_Draws_next
  rw [if_pos c, k65, kz_i hn hn2, e, e2, pk_rem (by omega) hn hn2]
theorem draw_i {n v : Nat} (hn : 0 < n) (hn2 : n < 2 ^ 31) (hv : v < 2 ^ 31) : m_Ref_draw (nI n) (nI v) = some (nI (nxt v / 65536 % n), nI (nxt v)) := by
  have e : ((nI v).toInt64 * 1103515245 + 12345 - ((nI v).toInt64 * 1103515245 + 12345) / 2147483648 * 2147483648).toInt32 = nI (nxt v) := by
    rw [drawL hv]
    have q : lN (v * 1103515245 + 12345) - lN (v * 1103515245 + 12345) / 2147483648 * 2147483648 = lN ((v * 1103515245 + 12345) % 2147483648) := pk_lRem (b := 2147483648) (by omega) (by omega) (by omega)
    rw [q, lN_i]; rfl
  have hx : nxt v < 2 ^ 31 := Nat.mod_lt _ (by omega)
  have e2 : nI (nxt v) / 65536 = nI (nxt v / 65536) := pk_div (d := 65536) hx (by omega) (by omega)
  have k65 : ∀ K : Option (Int32 × Int32), kz 65536 K = K := fun K => kz_i (d := 65536) (by omega) (by omega)
  unfold m_Ref_draw
  rw [kzl_i (by decide), k65, kz_i hn hn2, e, e2, pk_rem (by omega) hn hn2]
theorem month_sim {J B v : Nat} {row now : Nat → Int32} (hB : B ≤ 5) (hB0 : 0 < B) (hv : v < 2 ^ 31) (hS : Ship J B row now) :
    ∃ (row' now' : Nat → Int32) (v' : Nat), v' < 2 ^ 31 ∧ m_Tb_drawMonth (nI B) row (nI v) = some (row', nI v') ∧ m_Ref_chance (nI B) now (nI v) = some (now', nI v') ∧ Ship J B row' now' ∧ row' 20 = row 20 := by
  have x1 : nxt v < 2 ^ 31 := Nat.mod_lt _ (by omega)
  have x2 : nxt (nxt v) < 2 ^ 31 := Nat.mod_lt _ (by omega)
  have x3 : nxt (nxt (nxt v)) < 2 ^ 31 := Nat.mod_lt _ (by omega)
  have a1 : m_Draws_next 4 (nI v) = _ := next_i (n := 4) (by omega) (by omega) hv
  have b1 : m_Ref_draw 4 (nI v) = _ := draw_i (n := 4) (by omega) (by omega) hv
  have k4 : nxt v / 65536 % 4 < 4 := Nat.mod_lt _ (by omega)
  unfold m_Tb_drawMonth m_Ref_chance
  rw [a1, b1, kb2_e, kb2_e]
  generalize nxt v / 65536 % 4 = kind at k4 ⊢
  by_cases c : kind ≤ 1
  · have c1 : nI kind ≤ (1 : Int32) := cle (b := 1) (by omega) (by omega) c
    have c2 : ¬ (2 : Int32) ≤ nI kind := ncle (a := 2) (by omega) (by omega) (by omega)
    have a3 : m_Draws_next 50 (nI (nxt (nxt v))) = _ := next_i (n := 50) (by omega) (by omega) x2
    have b3 : m_Ref_draw 50 (nI (nxt (nxt v))) = _ := draw_i (n := 50) (by omega) (by omega) x2
    have kb : nxt (nxt v) / 65536 % B < B := Nat.mod_lt _ hB0
    have km : nxt (nxt (nxt v)) / 65536 % 50 < 50 := Nat.mod_lt _ (by omega)
    rw [if_pos c1, if_neg c2, next_i hB0 (by omega) x1, draw_i hB0 (by omega) x1, kb2_e, kb2_e, a3, b3, kb2_e, kb2_e]
    generalize nxt (nxt v) / 65536 % B = b at kb ⊢
    generalize nxt (nxt (nxt v)) / 65536 % 50 = much at km ⊢
    obtain ⟨j, f, p, hj, hf, hp, -, -, -, -, r3, s3, -⟩ := hS.1 b kb
    rw [la10, kg_i (by omega) (by omega), nI_clamp (by omega), s3, lighter_i (by omega) (by omega), heavier_i (by omega) (by omega), kb1_e, kg_i (by omega) (by omega), kb1_e, lighten_i (by omega) r3 (by omega) (by omega), load_i (by omega) r3 (by omega) (by omega), kb1_e, kb1_e]
    by_cases z : nI kind = 0
    · rw [if_pos z, if_pos z]
      unfold m_Ref_chance_B68
      rw [kg_i (by omega) (by omega), nI_clamp (by omega)]
      exact ⟨_, _, _, x3, rfl, rfl, hS.pull hB kb (by omega), pk_un (by omega)⟩
    · rw [if_neg z, if_neg z]
      unfold m_Ref_chance_B68
      rw [kg_i (by omega) (by omega), nI_clamp (by omega)]
      exact ⟨_, _, _, x3, rfl, rfl, hS.pull hB kb (by omega), pk_un (by omega)⟩
  · have c1 : ¬ nI kind ≤ (1 : Int32) := ncle (b := 1) (by omega) (by omega) (by omega)
    have c2 : (2 : Int32) ≤ nI kind := cle (a := 2) (by omega) (by omega) (by omega)
    rw [if_neg c1, if_pos c2]
    exact ⟨_, _, _, x1, rfl, rfl, hS, rfl⟩
theorem drift_loop {J B N : Nat} {hm : Nat → Nat → Nat} {hard on oh bw wears : Nat → Int32} (hJ : J ≤ 9) (hB : B ≤ 5) (hh : HM hard hm) (ht : TB J hm on oh) (hw : ∀ b : Nat, b < B → ∃ w : Nat, w ≤ 99 ∧ bw b = nI w ∧ wears b = nI w) (nx ct sl : Int32) (rows : Nat → Int32) (un : Int32) (past : Nat → Int32) (hN : N ≤ 60) :
    ∀ (d k f1 f2 S v : Nat) (row now : Nat → Int32) (a f p : Int32), k + d = N → d < f1 → d < f2 → v < 2 ^ 31 → Ship J B row now → row 20 = nI S → S + d ≤ 9060 → ∃ (r : Int32) (row' now' : Nat → Int32) (a' f' p' : Int32) (v' : Nat), v' < 2 ^ 31 ∧ m_Tb_drift_L25 f1 (nI N) (nI k) (nI J) (nI B) bw on oh row nx ct sl rows (nI v) = some (r, row', nx, ct, rows, nI v') ∧ m_Ref_drift_L18 f2 (nI N) (nI k) (nI J) hard (nI B) wears now (nI v) a f p un past = some (r, now', nI v', a', f', p', un, past) ∧ Ship J B row' now' := by
  intro d
  induction d with
  | zero =>
    intro k f1 f2 S v row now a f p hk h1 h2 hv hS hs hS9
    obtain ⟨g1, rfl, -⟩ := fuS h1
    obtain ⟨g2, rfl, -⟩ := fuS h2
    have c := cle (a := N) (b := k) (by omega) (by omega) (by omega)
    obtain ⟨r, a', f', p', s1, s2⟩ := sitting_sim hJ hB hh ht hS a f p
    refine ⟨r, row, now, a', f', p', v, hv, ?_, ?_, hS⟩
    · show m_Tb_drift_B25 (m_Tb_drift_L25 g1) (nI N) (nI k) (nI J) (nI B) bw on oh row nx ct sl rows (nI v) = _
      unfold m_Tb_drift_B25 m_Tb_drift_B61
      rw [if_pos c, s1, kb1_e]
    · show m_Ref_drift_B18 (m_Ref_drift_L18 g2) (nI N) (nI k) (nI J) hard (nI B) wears now (nI v) a f p un past = _
      unfold m_Ref_drift_B18 m_Ref_drift_B44
      rw [if_pos c, s2, kb4_e]
  | succ d ih =>
    intro k f1 f2 S v row now a f p hk h1 h2 hv hS hs hS9
    obtain ⟨g1, rfl, q1⟩ := fuS h1
    obtain ⟨g2, rfl, q2⟩ := fuS h2
    have c := ncle (a := N) (b := k) (by omega) (by omega) (by omega)
    have after : ∀ (v1 : Nat) (row1 now1 : Nat → Int32), v1 < 2 ^ 31 → Ship J B row1 now1 → row1 20 = nI S → ∃ (r : Int32) (row' now' : Nat → Int32) (a' f' p' : Int32) (v' : Nat), v' < 2 ^ 31 ∧ m_Tb_drift_B44 (m_Tb_drift_L25 g1) (nI N) (nI k) (nI J) (nI B) bw on oh row1 nx ct sl rows (nI v1) = some (r, row', nx, ct, rows, nI v') ∧ m_Ref_drift_B34 (m_Ref_drift_L18 g2) (nI N) (nI k) (nI J) hard (nI B) wears now1 (nI v1) a f p un past = some (r, now', nI v', a', f', p', un, past) ∧ Ship J B row' now' := by
      intro v1 row1 now1 hv1 hS1 hs1
      obtain ⟨row2, now2, a2, f2', p2, b1, b2, hS2, hs2⟩ := all_sim hJ hB hh ht hw hS1 hs1 (by omega) a f p
      obtain ⟨r, row', now', a', f', p', v', hv', i1, i2, i3⟩ := ih (k + 1) g1 g2 (S + 1) v1 row2 now2 a2 f2' p2 (by omega) (by omega) (by omega) hv1 hS2 hs2 (by omega)
      refine ⟨r, row', now', a', f', p', v', hv', ?_, ?_, i3⟩
      · unfold m_Tb_drift_B44; rw [b1, kb1_e, nI_1]; exact i1
      · unfold m_Ref_drift_B34; rw [b2, kb4_e, nI_1]; exact i2
    by_cases cB : B = 0
    · have cb : nI B ≤ (0 : Int32) := cle (b := 0) (by omega) (by omega) (by omega)
      obtain ⟨r, row', now', a', f', p', v', hv', i1, i2, i3⟩ := after v row now hv hS hs
      refine ⟨r, row', now', a', f', p', v', hv', ?_, ?_, i3⟩
      · show m_Tb_drift_B25 (m_Tb_drift_L25 g1) (nI N) (nI k) (nI J) (nI B) bw on oh row nx ct sl rows (nI v) = _
        unfold m_Tb_drift_B25; rw [if_neg c, if_pos cb]; exact i1
      · show m_Ref_drift_B18 (m_Ref_drift_L18 g2) (nI N) (nI k) (nI J) hard (nI B) wears now (nI v) a f p un past = _
        unfold m_Ref_drift_B18; rw [if_neg c, if_pos cb]; exact i2
    · have cb : ¬ nI B ≤ (0 : Int32) := ncle (b := 0) (by omega) (by omega) (by omega)
      obtain ⟨row1, now1, v1, hv1, m1, m2, hS1, hs1⟩ := month_sim hB (by omega) hv hS
      obtain ⟨r, row', now', a', f', p', v', hv', i1, i2, i3⟩ := after v1 row1 now1 hv1 hS1 (hs1.trans hs)
      refine ⟨r, row', now', a', f', p', v', hv', ?_, ?_, i3⟩
      · show m_Tb_drift_B25 (m_Tb_drift_L25 g1) (nI N) (nI k) (nI J) (nI B) bw on oh row nx ct sl rows (nI v) = _
        unfold m_Tb_drift_B25; rw [if_neg c, if_neg cb, m1, kb2_e]; exact i1
      · show m_Ref_drift_B18 (m_Ref_drift_L18 g2) (nI N) (nI k) (nI J) hard (nI B) wears now (nI v) a f p un past = _
        unfold m_Ref_drift_B18; rw [if_neg c, if_neg cb, m2, kb2_e]; exact i2
theorem sim_drift (t_lettersFed : Int32) (t_faultAt : Int32) (t_letters : Nat → Int32) (t_quays : Nat → Int32) (t_here_junctions : Int32) (t_here_cuts : Int32) (t_here_boats : Int32) (t_here_cutA : Nat → Int32) (t_here_cutB : Nat → Int32) (t_here_cutHard : Nat → Int32) (t_here_boatWear : Nat → Int32) (t_here_onward : Nat → Int32) (t_here_onwardHard : Nat → Int32) (t_fleet_row : Nat → Int32) (t_past_next : Int32) (t_past_count : Int32) (t_past_shelf_slots : Int32) (t_past_shelf_rows : Nat → Int32) (t_images_shelf_slots : Int32) (t_images_shelf_rows : Nat → Int32) (t_images_seeds : Nat → Int32) (t_images_kept : Nat → Int32) (t_draws_value : Int32) (t_seen_most : Int32) (t_seen_count : Int32) (t_seen_boats : Nat → Int32) (t_seen_steps : Nat → Int32) (t_seen_junctions : Nat → Int32) (t_book_most : Int32) (t_book_count : Int32) (t_book_boats : Nat → Int32) (t_book_steps : Nat → Int32) (t_book_junctions : Nat → Int32) (z_junctions : Int32) (z_cuts : Int32) (z_cutOne : Nat → Int32) (z_cutOther : Nat → Int32) (z_cutHard : Nat → Int32) (z_hard : Nat → Int32) (z_boats : Int32) (z_wears : Nat → Int32) (z_quays : Nat → Int32) (z_now : Nat → Int32) (z_seed : Int32) (z_text : Nat → Int32) (z_texted : Int32) (z_faultPlace : Int32) (z_undos : Int32) (z_past : Nat → Int32) (z_seen : Int32) (z_seenOf : Nat → Int32) (z_seenBehind : Nat → Int32) (z_seenAt : Nat → Int32) (z_booked : Int32) (z_bookOf : Nat → Int32) (z_bookAt : Nat → Int32) (z_images : Nat → Int32) (z_isKept : Nat → Int32) (z_at : Int32) (z_from : Int32) (z_pull : Int32) (y1 : Int32) (h : Rel t_lettersFed t_faultAt t_letters t_quays t_here_junctions t_here_cuts t_here_boats t_here_cutA t_here_cutB t_here_cutHard t_here_boatWear t_here_onward t_here_onwardHard t_fleet_row t_past_next t_past_count t_past_shelf_slots t_past_shelf_rows t_images_shelf_slots t_images_shelf_rows t_images_seeds t_images_kept t_draws_value t_seen_most t_seen_count t_seen_boats t_seen_steps t_seen_junctions t_book_most t_book_count t_book_boats t_book_steps t_book_junctions z_junctions z_cuts z_cutOne z_cutOther z_cutHard z_hard z_boats z_wears z_quays z_now z_seed z_text z_texted z_faultPlace z_undos z_past z_seen z_seenOf z_seenBehind z_seenAt z_booked z_bookOf z_bookAt z_images z_isKept) : ∃ (r : Int32) (o_t_fleet_row : Nat → Int32) (o_t_past_next : Int32) (o_t_past_count : Int32) (o_t_past_shelf_rows : Nat → Int32) (o_t_draws_value : Int32) (o_z_now : Nat → Int32) (o_z_seed : Int32) (o_z_at : Int32) (o_z_from : Int32) (o_z_pull : Int32) (o_z_undos : Int32) (o_z_past : Nat → Int32), m_Tb_drift y1 t_here_junctions t_here_boats t_here_boatWear t_here_onward t_here_onwardHard t_fleet_row t_past_next t_past_count t_past_shelf_slots t_past_shelf_rows t_draws_value = some (r, o_t_fleet_row, o_t_past_next, o_t_past_count, o_t_past_shelf_rows, o_t_draws_value) ∧ m_Ref_drift y1 z_junctions z_hard z_boats z_wears z_now z_seed z_at z_from z_pull z_undos z_past = some (r, o_z_now, o_z_seed, o_z_at, o_z_from, o_z_pull, o_z_undos, o_z_past) ∧ Rel t_lettersFed t_faultAt t_letters t_quays t_here_junctions t_here_cuts t_here_boats t_here_cutA t_here_cutB t_here_cutHard t_here_boatWear t_here_onward t_here_onwardHard o_t_fleet_row o_t_past_next o_t_past_count t_past_shelf_slots o_t_past_shelf_rows t_images_shelf_slots t_images_shelf_rows t_images_seeds t_images_kept o_t_draws_value t_seen_most t_seen_count t_seen_boats t_seen_steps t_seen_junctions t_book_most t_book_count t_book_boats t_book_steps t_book_junctions z_junctions z_cuts z_cutOne z_cutOther z_cutHard z_hard z_boats z_wears z_quays o_z_now o_z_seed z_text z_texted z_faultPlace o_z_undos o_z_past z_seen z_seenOf z_seenBehind z_seenAt z_booked z_bookOf z_bookAt z_images z_isKept := by
  have h' := h
  obtain ⟨hT, J, C, B, hm, hW, hS, hQ, hP, hI, ⟨v, hv, rfl, rfl⟩, hrest⟩ := h
  have hW' := hW
  obtain ⟨⟨hJ, hC, hB⟩, ⟨e1, e2, e3, e4, e5, e6⟩, hc, hw, hh, ht, -⟩ := hW
  subst e1 e2 e5 e6
  obtain ⟨S, hS9, u1, u2⟩ := hS.2
  unfold m_Tb_drift m_Ref_drift
  rcases refuse_sim y1 hJ u1 u2 hS9 with ⟨q, hq, a1, a2⟩ | ⟨a1, a2, hS0, N, hN, rfl⟩
  · rw [a1, a2, kb1_e, kb1_e, if_neg hq, if_neg hq]
    exact ⟨_, _, _, _, _, _, _, _, _, _, _, _, _, rfl, rfl, h'⟩
  · obtain ⟨o1, o2, o3, o4, o5, q1, q2, hP'⟩ := remember_sim hB hP hS
    obtain ⟨r, row', now', a', f', p', v', hv', i1, i2, i3⟩ := drift_loop hJ hB hh ht hw o1 o2 t_past_shelf_slots o3 o4 o5 hN N 0 FU FU S v t_fleet_row z_now z_at z_from z_pull (by omega) (FU_gt (by omega)) (FU_gt (by omega)) hv hS u1 (by omega)
    have i1' : m_Tb_drift_L25 FU (nI N) 0 (nI J) (nI B) t_here_boatWear t_here_onward t_here_onwardHard t_fleet_row o1 o2 t_past_shelf_slots o3 (nI v) = _ := i1
    have i2' : m_Ref_drift_L18 FU (nI N) 0 (nI J) z_hard (nI B) z_wears z_now (nI v) z_at z_from z_pull o4 o5 = _ := i2
    rw [a1, a2, kb1_e, kb1_e, if_pos p0, if_pos p0, q1, q2, kb3_e, kb2_e, i1', i2']
    refine ⟨_, _, _, _, _, _, _, _, _, _, _, _, _, rfl, rfl, ?_⟩
    unfold Rel
    exact ⟨hT, J, C, B, hm, hW', i3, hQ, hP', hI, ⟨v', hv', rfl, rfl⟩, hrest⟩
