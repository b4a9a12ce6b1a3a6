/-! ===== dry ===== -/
theorem bits_dry (A w b : Int32) : (A &&& (w ^^^ (-1))) &&& (b ^^^ (-1)) = A &&& ((w ||| b) ^^^ (-1)) := by
  apply Int32.toBitVec_inj.mp
  rw [Int32.toBitVec_and, Int32.toBitVec_and, Int32.toBitVec_and, Int32.toBitVec_xor, Int32.toBitVec_xor, Int32.toBitVec_xor, Int32.toBitVec_or]
  have e : (-1 : Int32).toBitVec = BitVec.allOnes 32 := by decide
  rw [e]
  apply BitVec.eq_of_getLsbD_eq
  intro i hi
  simp only [BitVec.getLsbD_and, BitVec.getLsbD_xor, BitVec.getLsbD_or, BitVec.getLsbD_allOnes, hi, decide_true]
  cases A.toBitVec.getLsbD i <;> cases w.toBitVec.getLsbD i <;> cases b.toBitVec.getLsbD i <;> rfl
/-- the junctions of the places k .. k + d, in bits, behind x -/
def orp (hm : Nat → Nat → Nat) (J j f : Nat) : Nat → Nat → Int32 → Int32
  | 0, _, x => x
  | d + 1, k, x => orp hm J j f d (k + 1) (x ||| ((1 : Int32) <<< (nI (ps hm J j f k).1 &&& 31)))
theorem upTo_loop {hm : Nat → Nat → Nat} {J j f w L E : Nat} {pl ne : Nat → Int32} (hL : L ≤ 201) (hE : E ≤ L) (hw : WayIs hm J j f w L pl ne) :
    ∀ (d k n : Nat) (x : Int32), k + d = E + 1 → d < n → m_Way_placesUpTo_L4 n (nI E) x (nI k) pl (nI L) = some (orp hm J j f d k x) := by
  intro d
  induction d with
  | zero =>
    intro k n x hk hn
    obtain ⟨g, rfl, -⟩ := fuS hn
    show m_Way_placesUpTo_B4 (m_Way_placesUpTo_L4 g) (nI E) x (nI k) pl (nI L) = _
    unfold m_Way_placesUpTo_B4
    rw [if_pos (clt (by omega) (by omega) (by omega))]; rfl
  | succ d ih =>
    intro k n x hk hn
    obtain ⟨g, rfl, hg⟩ := fuS hn
    show m_Way_placesUpTo_B4 (m_Way_placesUpTo_L4 g) (nI E) x (nI k) pl (nI L) = _
    unfold m_Way_placesUpTo_B4
    rw [if_neg (nclt (by omega) (by omega) (by omega)), if_neg (nclt (by omega) (by omega) (by omega)), kg_i (by omega) (by omega), nI_clamp (by omega), (hw k (by omega)).1, nI_1]
    exact ih (k + 1) g _ (by omega) (by omega)
theorem orp_or (hm : Nat → Nat → Nat) (J j f : Nat) : ∀ (d k : Nat) (x y : Int32), orp hm J j f d k (y ||| x) = y ||| orp hm J j f d k x := by
  intro d
  induction d with
  | zero => intro k x y; rfl
  | succ d ih =>
    intro k x y
    show orp hm J j f d (k + 1) (y ||| x ||| _) = y ||| orp hm J j f d (k + 1) (x ||| _)
    rw [Int32.or_assoc, ih]
theorem dryB_loop {J j f w p N B b : Nat} {hm : Nat → Nat → Nat} {hard now wears : Nat → Int32} (hJ : J ≤ 9) (hj : j < J) (hf : f ≤ J) (hw : w ≤ 99) (hp : p ≤ 999) (hN : N ≤ 60) (hh : HM hard hm) (hb : b < 5) (w2 : wears b = nI w)
    (K : Int32 → Int32 → Int32 → Int32 → (Nat → Int32) → Int32 → (Nat → Int32) → (Nat → Int32) → Int32 → Int32 → Int32 → Option (Int32 × Int32 × Int32 × Int32)) (A : Int32) :
    ∀ (d k n : Nat) (x : Int32), k + d = N → d < n → nd hm J j f w k ≤ p → ∃ a' f' p' : Int32, m_Ref_dry_L53 K n (nI N) (A &&& (x ^^^ (-1))) (nI b) (nI k) (nI J) hard (nI B) wears now (nI (ps hm J j f k).1) (om (ps hm J j f k).2) (nI (p - k * w)) = K (nI N) (A &&& (orp hm J j f (gct (nd hm J j f w) p d k - k) (k + 1) x ^^^ (-1))) (nI (b + 1)) (nI J) hard (nI B) wears now a' f' p' := by
  intro d
  induction d with
  | zero =>
    intro k n x hk hn hne
    obtain ⟨g, rfl, -⟩ := fuS hn
    have eg : gct (nd hm J j f w) p 0 k - k = 0 := by show k - k = 0; omega
    refine ⟨nI (ps hm J j f k).1, om (ps hm J j f k).2, nI (p - k * w), ?_⟩
    show m_Ref_dry_B53 K (m_Ref_dry_L53 K g) (nI N) (A &&& (x ^^^ (-1))) (nI b) (nI k) (nI J) hard (nI B) wears now (nI (ps hm J j f k).1) (om (ps hm J j f k).2) (nI (p - k * w)) = _
    unfold m_Ref_dry_B53 m_Ref_dry_B89
    rw [if_pos (cle (by omega) (by omega) (by omega)), nI_1, eg]; rfl
  | succ d ih =>
    intro k n x hk hn hne
    obtain ⟨g, rfl, hg⟩ := fuS hn
    have eg : gct (nd hm J j f w) p (d + 1) k = if nd hm J j f w (k + 1) ≤ p then gct (nd hm J j f w) p d (k + 1) else k := rfl
    by_cases c : nd hm J j f w (k + 1) ≤ p
    · obtain ⟨a', f', p', i⟩ := ih (k + 1) g (x ||| ((1 : Int32) <<< (nI (ps hm J j f (k + 1)).1 &&& 31))) (by omega) (by omega) c
      refine ⟨a', f', p', ?_⟩
      show m_Ref_dry_B53 K (m_Ref_dry_L53 K g) (nI N) (A &&& (x ^^^ (-1))) (nI b) (nI k) (nI J) hard (nI B) wears now (nI (ps hm J j f k).1) (om (ps hm J j f k).2) (nI (p - k * w)) = _
      have gl := gct_le (nd hm J j f w) p d (k + 1)
      have e2 : gct (nd hm J j f w) p (d + 1) k - k = (gct (nd hm J j f w) p d (k + 1) - (k + 1)) + 1 := by rw [eg, if_pos c]; omega
      unfold m_Ref_dry_B53
      rw [if_neg (ncle (by omega) (by omega) (by omega)), kg_i (by omega) (by omega), nI_clamp (by omega), w2, go_at hJ hj hf hw hp hh hne, if_pos c, kb4_e, if_neg n1, nI_1, bits_dry, e2]
      exact i
    · refine ⟨nI (ps hm J j f k).1, om (ps hm J j f k).2, nI (p - k * w), ?_⟩
      show m_Ref_dry_B53 K (m_Ref_dry_L53 K g) (nI N) (A &&& (x ^^^ (-1))) (nI b) (nI k) (nI J) hard (nI B) wears now (nI (ps hm J j f k).1) (om (ps hm J j f k).2) (nI (p - k * w)) = _
      have e2 : gct (nd hm J j f w) p (d + 1) k - k = 0 := by rw [eg, if_neg c]; omega
      unfold m_Ref_dry_B53 m_Ref_dry_B89
      rw [if_neg (ncle (by omega) (by omega) (by omega)), kg_i (by omega) (by omega), nI_clamp (by omega), w2, go_at hJ hj hf hw hp hh hne, if_neg c, kb4_e, if_pos p0, nI_1, e2]; rfl
theorem dry_loop {J B N : Nat} {hm : Nat → Nat → Nat} {hard row now on oh bw wears : Nat → Int32} (hJ : J ≤ 9) (hB : B ≤ 5) (hN : N ≤ 60) (hh : HM hard hm) (ht : TB J hm on oh) (hw : ∀ b : Nat, b < B → ∃ w : Nat, w ≤ 99 ∧ bw b = nI w ∧ wears b = nI w) (hS : Ship J B row now) :
    ∀ (d k f1 f2 : Nat) (x : Int32) (pl ne : Nat → Int32) (la a f p : Int32), k + d = B → d < f1 → d < f2 → ∃ (r : Int32) (pl' ne' : Nat → Int32) (la' a' f' p' : Int32), m_Tb_dry_L17 f1 (nI N) x (nI k) (nI J) (nI B) bw on oh row pl ne la = some (r, pl', ne', la') ∧ m_Ref_dry_L26 f2 (nI N) ((((1 : Int32) <<< (nI J &&& 31)) - 1) &&& (x ^^^ (-1))) (nI k) (nI J) hard (nI B) wears now a f p = some (r, a', f', p') := by
  intro d
  induction d with
  | zero =>
    intro k f1 f2 x pl ne la a f p hk h1 h2
    obtain ⟨g1, rfl, -⟩ := fuS h1
    obtain ⟨g2, rfl, -⟩ := fuS h2
    have c := cle (a := B) (b := k) (by omega) (by omega) (by omega)
    refine ⟨(((1 : Int32) <<< (nI J &&& 31)) - 1) &&& (x ^^^ (-1)), pl, ne, la, a, f, p, ?_, ?_⟩
    · show m_Tb_dry_B17 (m_Tb_dry_L17 g1) (nI N) x (nI k) (nI J) (nI B) bw on oh row pl ne la = _
      unfold m_Tb_dry_B17 m_Tb_dry_B66; rw [if_pos c]
    · show m_Ref_dry_B26 (m_Ref_dry_L26 g2) (nI N) _ (nI k) (nI J) hard (nI B) wears now a f p = _
      unfold m_Ref_dry_B26; rw [if_pos c]
  | succ d ih =>
    intro k f1 f2 x pl ne la a f p hk h1 h2
    obtain ⟨g1, rfl, q1⟩ := fuS h1
    obtain ⟨g2, rfl, q2⟩ := fuS h2
    have c := ncle (a := B) (b := k) (by omega) (by omega) (by omega)
    obtain ⟨j, ff, pp, hj, hf, hp, r1, s1, r2, s2, r3, s3, -⟩ := hS.1 k (by omega)
    obtain ⟨w, hw9, w1, w2⟩ := hw k (by omega)
    obtain ⟨pl', ne', l1, l2⟩ := layWay_i (L := N) (p := pp) hJ hB (show k < B by omega) hj hf hw9 (by omega) hh ht r1 r2 w1 pl ne la
    have gl := gct_le (nd hm J j ff w) pp N 0
    have up : m_Way_placesUpTo (nI (gct (nd hm J j ff w) pp N 0)) pl' (nI N) = some (orp hm J j ff (gct (nd hm J j ff w) pp N 0 + 1) 0 0) := upTo_loop (by omega) (by omega) l2 _ 0 FU 0 (by omega) (FU_gt (by omega))
    obtain ⟨a', f', p', i⟩ := dryB_loop (p := pp) (N := N) (B := B) (now := now) hJ hj hf hw9 hp hN hh (show k < 5 by omega) w2 (m_Ref_dry_L26 g2) (((1 : Int32) <<< (nI J &&& 31)) - 1) N 0 FU (x ||| ((1 : Int32) <<< (nI j &&& 31))) (by omega) (FU_gt (by omega)) (Nat.zero_le pp)
    have e0 : pp - 0 * w = pp := by omega
    rw [e0] at i
    have eo : orp hm J j ff (gct (nd hm J j ff w) pp N 0 - 0) (0 + 1) (x ||| ((1 : Int32) <<< (nI j &&& 31))) = x ||| orp hm J j ff (gct (nd hm J j ff w) pp N 0 + 1) 0 0 := by
      show orp hm J j ff (gct (nd hm J j ff w) pp N 0) 1 (x ||| ((1 : Int32) <<< (nI j &&& 31))) = x ||| orp hm J j ff (gct (nd hm J j ff w) pp N 0) 1 (0 ||| ((1 : Int32) <<< (nI j &&& 31)))
      rw [Int32.zero_or, orp_or]
    rw [eo] at i
    obtain ⟨r, pl2, ne2, la2, a2, f2', p2, i1, i2⟩ := ih (k + 1) g1 g2 (x ||| orp hm J j ff (gct (nd hm J j ff w) pp N 0 + 1) 0 0) pl' ne' (nI N) a' f' p' (by omega) (by omega) (by omega)
    refine ⟨r, pl2, ne2, la2, a2, f2', p2, ?_, ?_⟩
    · show m_Tb_dry_B17 (m_Tb_dry_L17 g1) (nI N) x (nI k) (nI J) (nI B) bw on oh row pl ne la = _
      unfold m_Tb_dry_B17
      rw [if_neg c, l1, kb3_e, fl_pull (by omega), kb1_e, r3, gone_i (by omega) hp (Nat.le_refl N) l2, kb1_e, up, kb1_e, nI_1]; exact i1
    · show m_Ref_dry_B26 (m_Ref_dry_L26 g2) (nI N) _ (nI k) (nI J) hard (nI B) wears now a f p = _
      unfold m_Ref_dry_B26
      rw [if_neg c, board_i (by omega), kb3_e, s1, s2, s3, bits_dry]
      exact i.trans i2
theorem sim_dry (t_lettersFed : Int32) (t_faultAt : Int32) (t_letters : Nat → Int32) (t_quays : Nat → Int32) (t_here_junctions : Int32) (t_here_cuts : Int32) (t_here_boats : Int32) (t_here_cutA : Nat → Int32) (t_here_cutB : Nat → Int32) (t_here_cutHard : Nat → Int32) (t_here_boatWear : Nat → Int32) (t_here_onward : Nat → Int32) (t_here_onwardHard : Nat → Int32) (t_fleet_row : Nat → Int32) (t_past_next : Int32) (t_past_count : Int32) (t_past_shelf_slots : Int32) (t_past_shelf_rows : Nat → Int32) (t_images_shelf_slots : Int32) (t_images_shelf_rows : Nat → Int32) (t_images_seeds : Nat → Int32) (t_images_kept : Nat → Int32) (t_draws_value : Int32) (t_seen_most : Int32) (t_seen_count : Int32) (t_seen_boats : Nat → Int32) (t_seen_steps : Nat → Int32) (t_seen_junctions : Nat → Int32) (t_book_most : Int32) (t_book_count : Int32) (t_book_boats : Nat → Int32) (t_book_steps : Nat → Int32) (t_book_junctions : Nat → Int32) (t_way_places : Nat → Int32) (t_way_needs : Nat → Int32) (t_way_last : Int32) (z_junctions : Int32) (z_cuts : Int32) (z_cutOne : Nat → Int32) (z_cutOther : Nat → Int32) (z_cutHard : Nat → Int32) (z_hard : Nat → Int32) (z_boats : Int32) (z_wears : Nat → Int32) (z_quays : Nat → Int32) (z_now : Nat → Int32) (z_seed : Int32) (z_text : Nat → Int32) (z_texted : Int32) (z_faultPlace : Int32) (z_undos : Int32) (z_past : Nat → Int32) (z_seen : Int32) (z_seenOf : Nat → Int32) (z_seenBehind : Nat → Int32) (z_seenAt : Nat → Int32) (z_booked : Int32) (z_bookOf : Nat → Int32) (z_bookAt : Nat → Int32) (z_images : Nat → Int32) (z_isKept : Nat → Int32) (z_at : Int32) (z_from : Int32) (z_pull : Int32) (y1 : Int32) (h : Rel t_lettersFed t_faultAt t_letters t_quays t_here_junctions t_here_cuts t_here_boats t_here_cutA t_here_cutB t_here_cutHard t_here_boatWear t_here_onward t_here_onwardHard t_fleet_row t_past_next t_past_count t_past_shelf_slots t_past_shelf_rows t_images_shelf_slots t_images_shelf_rows t_images_seeds t_images_kept t_draws_value t_seen_most t_seen_count t_seen_boats t_seen_steps t_seen_junctions t_book_most t_book_count t_book_boats t_book_steps t_book_junctions z_junctions z_cuts z_cutOne z_cutOther z_cutHard z_hard z_boats z_wears z_quays z_now z_seed z_text z_texted z_faultPlace z_undos z_past z_seen z_seenOf z_seenBehind z_seenAt z_booked z_bookOf z_bookAt z_images z_isKept) : ∃ (r : Int32) (o_t_way_places : Nat → Int32) (o_t_way_needs : Nat → Int32) (o_t_way_last : Int32) (o_z_at : Int32) (o_z_from : Int32) (o_z_pull : Int32), m_Tb_dry y1 t_here_junctions t_here_boats t_here_boatWear t_here_onward t_here_onwardHard t_fleet_row t_way_places t_way_needs t_way_last = some (r, o_t_way_places, o_t_way_needs, o_t_way_last) ∧ m_Ref_dry y1 z_junctions z_hard z_boats z_wears z_now z_at z_from z_pull = some (r, o_z_at, o_z_from, o_z_pull) ∧ Rel t_lettersFed t_faultAt t_letters t_quays t_here_junctions t_here_cuts t_here_boats t_here_cutA t_here_cutB t_here_cutHard t_here_boatWear t_here_onward t_here_onwardHard t_fleet_row t_past_next t_past_count t_past_shelf_slots t_past_shelf_rows t_images_shelf_slots t_images_shelf_rows t_images_seeds t_images_kept t_draws_value t_seen_most t_seen_count t_seen_boats t_seen_steps t_seen_junctions t_book_most t_book_count t_book_boats t_book_steps t_book_junctions z_junctions z_cuts z_cutOne z_cutOther z_cutHard z_hard z_boats z_wears z_quays z_now z_seed z_text z_texted z_faultPlace z_undos z_past z_seen z_seenOf z_seenBehind z_seenAt z_booked z_bookOf z_bookAt z_images z_isKept := by
  have h' := h
  obtain ⟨hT, J, C, B, hm, ⟨⟨hJ, hC, hB⟩, ⟨e1, e2, e3, e4, e5, e6⟩, hc, hw, hh, ht, -⟩, hS, -⟩ := h
  subst e1 e2 e5 e6
  unfold m_Tb_dry m_Ref_dry
  by_cases c1 : 0 ≤ y1.toInt ∧ y1.toInt ≤ 60
  · have a1 : m_Ref_in y1.toInt64 0 60 = some 1 := inN_t (a := 0) (b := 60) (by omega) (by omega) c1.1 c1.2
    obtain ⟨N, hN, rfl⟩ := i32_N (n := 60) (by omega) c1.1 c1.2
    have b1 : nI N ≤ (60 : Int32) := cle (b := 60) (by omega) (by omega) hN
    obtain ⟨r, pl', ne', la', a', f', p', i1, i2⟩ := dry_loop hJ hB hN hh ht hw hS B 0 FU FU 0 t_way_places t_way_needs t_way_last z_at z_from z_pull (by omega) (FU_gt (by omega)) (FU_gt (by omega))
    have ez : (((1 : Int32) <<< (nI J &&& 31)) - 1) &&& ((0 : Int32) ^^^ (-1)) = ((1 : Int32) <<< (nI J &&& 31)) - 1 := by
      rw [Int32.zero_xor]
      apply Int32.toBitVec_inj.mp
      have e : (-1 : Int32).toBitVec = BitVec.allOnes 32 := by decide
      rw [Int32.toBitVec_and, e, BitVec.and_allOnes]
    rw [ez] at i2
    rw [a1, kb1_e, if_neg n1, if_neg (nI_pos (by omega)), if_pos b1]
    exact ⟨r, pl', ne', la', a', f', p', i1, i2, h'⟩
  · have a1 : m_Ref_in y1.toInt64 0 60 = some 0 := inN_f (a := 0) (b := 60) (by omega) (by omega) c1
    rw [a1, kb1_e, if_pos p0]
    by_cases b2 : y1 < 0
    · rw [if_pos b2]; exact ⟨_, _, _, _, _, _, _, rfl, rfl, h'⟩
    · have b3 : ¬ y1 ≤ 60 := fun q => c1 ⟨ge0 b2, (le_n (n := 60) (by omega)).mp q⟩
      rw [if_neg b2, if_neg b3]; exact ⟨_, _, _, _, _, _, _, rfl, rfl, h'⟩
