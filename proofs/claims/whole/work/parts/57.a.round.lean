/-! ===== round: a ring ===== -/
theorem pig {α : Type} [DecidableEq α] : ∀ (n : Nat) (es : List α) (f : Nat → α), es.length ≤ n → (∀ k : Nat, k ≤ n → f k ∈ es) → ∃ i j : Nat, i < j ∧ j ≤ n ∧ f i = f j := by
  intro n
  induction n with
  | zero =>
    intro es f hl hm
    have h := hm 0 (Nat.le_refl 0)
    cases es with
    | nil => exact absurd h List.not_mem_nil
    | cons a t => rw [List.length_cons] at hl; omega
  | succ n ih =>
    intro es f hl hm
    by_cases c : ∃ i : Nat, i ≤ n ∧ f i = f (n + 1)
    · obtain ⟨i, hi, he⟩ := c
      exact ⟨i, n + 1, by omega, Nat.le_refl _, he⟩
    · have hlen := List.length_erase_of_mem (hm (n + 1) (Nat.le_refl _))
      obtain ⟨i, j, h1, h2, h3⟩ := ih (es.erase (f (n + 1))) f (by omega) (fun k hk => (List.mem_erase_of_ne (fun e => c ⟨k, hk, e⟩)).mpr (hm k (by omega)))
      exact ⟨i, j, h1, by omega, h3⟩
theorem ps_s {hm : Nat → Nat → Nat} {J j f a b : Nat} (h : ps hm J j f a = ps hm J j f b) : ps hm J j f (a + 1) = ps hm J j f (b + 1) := by
  show (if tnx hm J (ps hm J j f a).1 (ps hm J j f a).2 = 0 then ps hm J j f a else (tnx hm J (ps hm J j f a).1 (ps hm J j f a).2 - 1, (ps hm J j f a).1 + 1)) = (if tnx hm J (ps hm J j f b).1 (ps hm J j f b).2 = 0 then ps hm J j f b else (tnx hm J (ps hm J j f b).1 (ps hm J j f b).2 - 1, (ps hm J j f b).1 + 1))
  rw [h]
theorem ps_m {hm : Nat → Nat → Nat} {J j f a b : Nat} (h : ps hm J j f a = ps hm J j f b) : ∀ m : Nat, ps hm J j f (a + m) = ps hm J j f (b + m) := by
  intro m
  induction m with
  | zero => exact h
  | succ m ih => exact ps_s ih
theorem ps_per {hm : Nat → Nat → Nat} {J j f i d : Nat} (h : ps hm J j f i = ps hm J j f (i + d)) (k : Nat) (hk : i ≤ k) : ps hm J j f (k + d) = ps hm J j f k := by
  have q := ps_m h (k - i)
  rw [show i + (k - i) = k by omega, show i + d + (k - i) = k + d by omega] at q
  exact q.symm
theorem ps_pers {hm : Nat → Nat → Nat} {J j f i d : Nat} (h : ps hm J j f i = ps hm J j f (i + d)) (k : Nat) (hk : i ≤ k) : ∀ m : Nat, ps hm J j f (k + m * d) = ps hm J j f k := by
  intro m
  induction m with
  | zero => rw [Nat.zero_mul, Nat.add_zero]
  | succ m ih => rw [Nat.succ_mul, ← Nat.add_assoc, ps_per h _ (by omega), ih]
theorem ps_2 {hm : Nat → Nat → Nat} {J j f p k : Nat} (hp : p ≤ 999) (h : tgx hm J (ps hm J j f k).1 (ps hm J j f k).2 < p) : ps hm J j f (k + 1) = (tnx hm J (ps hm J j f k).1 (ps hm J j f k).2 - 1, (ps hm J j f k).1 + 1) := by
  have t := tg_tn hp h
  show (if tnx hm J (ps hm J j f k).1 (ps hm J j f k).2 = 0 then _ else _) = _
  rw [if_neg (by omega)]
theorem nd0 {hm : Nat → Nat → Nat} {J j f p k : Nat} (hp : p ≤ 999) (h : nd hm J j f 0 k ≤ p) : nd hm J j f 0 (k + 1) ≤ p ↔ tgx hm J (ps hm J j f k).1 (ps hm J j f k).2 < p := by
  have q := nd_step (J := J) (j := j) (f := f) (w := 0) hp h
  rw [Nat.mul_zero, Nat.sub_zero] at q
  exact q
theorem on_ring {hm : Nat → Nat → Nat} {J j f p : Nat} {es : List (Nat × Nat)} (hj : j < J) (hf : f ≤ J) (hp : p ≤ 999) (hl : es.length ≤ 28) (he : ∀ a b : Nat, a < J → b < J → hm a b ≠ 0 → (a, b) ∈ es) (h : nd hm J j f 0 100 ≤ p) :
    ∃ i d : Nat, 0 < d ∧ d ≤ 28 ∧ i ≤ 28 ∧ ps hm J j f i = ps hm J j f (i + d) ∧ ∀ k : Nat, tgx hm J (ps hm J j f k).1 (ps hm J j f k).2 < p := by
  have h0 : ∀ k : Nat, k ≤ 100 → nd hm J j f 0 k ≤ p := fun k hk => by
    have q := nd_mono' hm J j f 0 (100 - k) k
    rw [show k + (100 - k) = 100 by omega] at q
    omega
  have h1 : ∀ k : Nat, k < 100 → tgx hm J (ps hm J j f k).1 (ps hm J j f k).2 < p := fun k hk => (nd0 hp (h0 k (by omega))).mp (h0 (k + 1) (by omega))
  obtain ⟨i, i', hi, hi', e⟩ := pig 28 es (fun k => ((ps hm J j f k).1, (ps hm J j f (k + 1)).1)) hl (fun k hk => by
    have t := tg_tn hp (h1 k (by omega))
    have a := ps_in (hm := hm) hj hf k
    have b := ps_in (hm := hm) hj hf (k + 1)
    refine he _ _ a.1 b.1 ?_
    rw [ps_2 hp (h1 k (by omega))]
    exact (bst_ok (hm (ps hm J j f k).1) (ps hm J j f k).2 J (Nat.ne_of_gt t)).1)
  have e' : ((ps hm J j f i).1, (ps hm J j f (i + 1)).1) = ((ps hm J j f i').1, (ps hm J j f (i' + 1)).1) := e
  have e1 : (ps hm J j f i).1 = (ps hm J j f i').1 := (Prod.mk.inj e').1
  have e2 : (ps hm J j f (i + 1)).1 = (ps hm J j f (i' + 1)).1 := (Prod.mk.inj e').2
  have e3 : ps hm J j f (i + 1) = ps hm J j f (i + 1 + (i' - i)) := by
    rw [show i + 1 + (i' - i) = i' + 1 by omega]
    refine Prod.ext e2 ?_
    rw [ps_2 hp (h1 i (by omega)), ps_2 hp (h1 i' (by omega))]
    show (ps hm J j f i).1 + 1 = (ps hm J j f i').1 + 1
    rw [e1]
  refine ⟨i + 1, i' - i, by omega, by omega, by omega, e3, fun k => ?_⟩
  induction k using Nat.strongRecOn with
  | _ k ih =>
    by_cases c : k < 100
    · exact h1 k c
    · have q := ps_per e3 (k - (i' - i)) (by omega)
      rw [show k - (i' - i) + (i' - i) = k by omega] at q
      rw [q]
      exact ih (k - (i' - i)) (by omega)
theorem nd_all {hm : Nat → Nat → Nat} {J j f p : Nat} (hp : p ≤ 999) (h : ∀ k : Nat, tgx hm J (ps hm J j f k).1 (ps hm J j f k).2 < p) : ∀ k : Nat, nd hm J j f 0 k ≤ p := by
  intro k
  induction k with
  | zero => exact Nat.zero_le _
  | succ k ih => exact (nd0 hp ih).mpr (h k)
theorem gct_all {n : Nat → Nat} {p : Nat} (h : ∀ k : Nat, n k ≤ p) : ∀ d k : Nat, gct n p d k = k + d := by
  intro d
  induction d with
  | zero => intro k; rfl
  | succ d ih =>
    intro k
    show (if n (k + 1) ≤ p then gct n p d (k + 1) else k) = _
    rw [if_pos (h (k + 1)), ih (k + 1)]; omega
theorem la40 (b : Nat) : (40 : Int32) + nI b = nI (40 + b) := nI_add 40 b
theorem ring_at {hm : Nat → Nat → Nat} {J j f k : Nat} {pl ne : Nat → Int32} (hJ : J ≤ 9) (hj : j < J) (hf : f ≤ J) (hk : k + 1 ≤ 28) (hw : WayIs hm J j f 0 100 pl ne) (h2 : ∀ k : Nat, (ps hm J j f (k + 1)).2 = (ps hm J j f k).1 + 1) (K : Int32 → (Nat → Int32) → Int32 → Option Int32) :
    m_Way_ring_B2 K (nI (k + 1)) pl (nI 100) = if ps hm J j f (40 + (k + 1)) = ps hm J j f 40 then some (nI (k + 1)) else K (nI (k + 1 + 1)) pl (nI 100) := by
  have a1 := (ps_in (hm := hm) hj hf (40 + (k + 1))).1
  have a2 := (ps_in (hm := hm) hj hf 40).1
  have a3 := (ps_in (hm := hm) hj hf (40 + k)).1
  have a4 := (ps_in (hm := hm) hj hf 39).1
  have l40 : m_Way_place 40 pl (nI 100) = some (pl 40) := place_i (i := 40) (by omega) (by omega)
  have l39 : m_Way_place 39 pl (nI 100) = some (pl 39) := place_i (i := 39) (by omega) (by omega)
  have ep : nI (40 + (k + 1)) - 1 = nI (40 + k) := nI_pred (40 + k)
  have q1 := h2 (40 + k)
  have q2 := h2 39
  unfold m_Way_ring_B2 m_Way_ring_B51
  rw [la40, if_neg (nclt (by omega) (by omega) (by omega)), place_i (by omega) (by omega), kb1_e, l40, kb1_e, ep, place_i (by omega) (by omega), kb1_e, l39, kb1_e, (hw (40 + (k + 1)) (by omega)).1, (hw 40 (by omega)).1, (hw (40 + k) (by omega)).1, (hw 39 (by omega)).1, nI_1]
  by_cases c1 : (ps hm J j f (40 + (k + 1))).1 = (ps hm J j f 40).1
  · rw [if_pos (congrArg nI c1)]
    by_cases c2 : (ps hm J j f (40 + k)).1 = (ps hm J j f 39).1
    · have P : ps hm J j f (40 + (k + 1)) = ps hm J j f 40 := Prod.ext c1 (q1.trans ((congrArg (fun x : Nat => x + 1) c2).trans q2.symm))
      rw [if_pos (congrArg nI c2), if_pos P]
    · have P : ¬ ps hm J j f (40 + (k + 1)) = ps hm J j f 40 := fun q => c2 (by
        have q3 : (ps hm J j f (40 + (k + 1))).2 = (ps hm J j f 40).2 := congrArg (fun x : Nat × Nat => x.2) q
        have q4 : (ps hm J j f (40 + k)).1 + 1 = (ps hm J j f 39).1 + 1 := q1.symm.trans (q3.trans q2)
        omega)
      rw [if_neg (nceq (by omega) (by omega) c2), if_neg P]
  · have P : ¬ ps hm J j f (40 + (k + 1)) = ps hm J j f 40 := fun q => c1 (congrArg (fun x : Nat × Nat => x.1) q)
    rw [if_neg (nceq (by omega) (by omega) c1), if_neg P]
theorem refr_at {hm : Nat → Nat → Nat} {J j f p B k : Nat} {hard now : Nat → Int32} (hJ : J ≤ 9) (hj : j < J) (hf : f ≤ J) (hp : p ≤ 999) (hh : HM hard hm) (hall : ∀ k : Nat, nd hm J j f 0 k ≤ p)
    (K : Int32 → Int32 → Int32 → Int32 → Int32 → (Nat → Int32) → Int32 → (Nat → Int32) → Int32 → Int32 → Int32 → Option (Int32 × Int32 × Int32 × Int32)) :
    m_Ref_round_B43 K (nI (ps hm J j f 201).1) (om (ps hm J j f 201).2) (nI k) 0 (nI J) hard (nI B) now (nI (ps hm J j f (201 + k)).1) (om (ps hm J j f (201 + k)).2) (nI (p - (201 + k) * 0)) = K (nI (ps hm J j f 201).1) (om (ps hm J j f 201).2) (nI (k + 1)) (if ps hm J j f (201 + (k + 1)) = ps hm J j f 201 then 1 else 0) (nI J) hard (nI B) now (nI (ps hm J j f (201 + (k + 1))).1) (om (ps hm J j f (201 + (k + 1))).2) (nI (p - (201 + (k + 1)) * 0)) := by
  have a1 := ps_in (hm := hm) hj hf (201 + (k + 1))
  have a2 := ps_in (hm := hm) hj hf 201
  have g : m_Ref_go 0 (nI J) hard (nI (ps hm J j f (201 + k)).1) (om (ps hm J j f (201 + k)).2) (nI (p - (201 + k) * 0)) = some (1, nI (ps hm J j f (201 + (k + 1))).1, om (ps hm J j f (201 + (k + 1))).2, nI (p - (201 + (k + 1)) * 0)) :=
    (go_at (w := 0) (k := 201 + k) hJ hj hf (by omega) hp hh (hall _)).trans (if_pos (hall _))
  unfold m_Ref_round_B43 m_Ref_round_B79 m_Ref_round_B80
  rw [if_pos p0, g, kb4_e, if_neg n1, nI_1]
  by_cases c1 : (ps hm J j f (201 + (k + 1))).1 = (ps hm J j f 201).1
  · rw [if_pos (congrArg nI c1)]
    by_cases c2 : (ps hm J j f (201 + (k + 1))).2 = (ps hm J j f 201).2
    · rw [if_pos (congrArg om c2), if_pos (Prod.ext c1 c2)]
    · have P : ¬ ps hm J j f (201 + (k + 1)) = ps hm J j f 201 := fun q => c2 (congrArg (fun x : Nat × Nat => x.2) q)
      rw [if_neg (fun q => c2 ((om_inj (by omega) (by omega)).mp q)), if_neg P]
  · have P : ¬ ps hm J j f (201 + (k + 1)) = ps hm J j f 201 := fun q => c1 (congrArg (fun x : Nat × Nat => x.1) q)
    rw [if_neg (nceq (by omega) (by omega) c1), if_neg P]
theorem refr_end {x2 x3 x4 J B a f p : Int32} {hard now : Nat → Int32} {n : Nat} : m_Ref_round_L43 (n + 1) x2 x3 x4 1 J hard B now a f p = some (x4, a, f, p) := by
  show m_Ref_round_B43 (m_Ref_round_L43 n) x2 x3 x4 1 J hard B now a f p = _
  unfold m_Ref_round_B43
  rw [if_neg n1]
theorem round_loop {hm : Nat → Nat → Nat} {J j f p B d0 : Nat} {hard now pl ne : Nat → Int32} (hJ : J ≤ 9) (hj : j < J) (hf : f ≤ J) (hp : p ≤ 999) (hh : HM hard hm) (hw : WayIs hm J j f 0 100 pl ne) (hall : ∀ k : Nat, nd hm J j f 0 k ≤ p) (h2 : ∀ k : Nat, (ps hm J j f (k + 1)).2 = (ps hm J j f k).1 + 1)
    (hd : d0 ≤ 28) (hP : ps hm J j f (40 + d0) = ps hm J j f 40) (hi : ∀ k : Nat, ps hm J j f (40 + k) = ps hm J j f 40 ↔ ps hm J j f (201 + k) = ps hm J j f 201) :
    ∀ (dd k n1 n2 : Nat), k + 1 + dd = d0 → dd < n1 → dd + 1 < n2 → ∃ D : Nat, m_Way_ring_L2 n1 (nI (k + 1)) pl (nI 100) = some (nI D) ∧ m_Ref_round_L43 n2 (nI (ps hm J j f 201).1) (om (ps hm J j f 201).2) (nI k) 0 (nI J) hard (nI B) now (nI (ps hm J j f (201 + k)).1) (om (ps hm J j f (201 + k)).2) (nI (p - (201 + k) * 0)) = some (nI D, nI (ps hm J j f (201 + D)).1, om (ps hm J j f (201 + D)).2, nI (p - (201 + D) * 0)) := by
  intro dd
  induction dd with
  | zero =>
    intro k n1 n2 hk hn1 hn2
    obtain ⟨g1, rfl, -⟩ := fuS hn1
    obtain ⟨g2, rfl, hg⟩ := fuS hn2
    obtain ⟨g3, rfl, -⟩ := fuS (show 0 < g2 by omega)
    have hd' : d0 = k + 1 := by omega
    subst hd'
    refine ⟨k + 1, ?_, ?_⟩
    · exact (ring_at hJ hj hf hd hw h2 (m_Way_ring_L2 g1)).trans (if_pos hP)
    · refine (refr_at hJ hj hf hp hh hall (m_Ref_round_L43 (g3 + 1))).trans ?_
      rw [if_pos ((hi (k + 1)).mp hP)]
      exact refr_end
  | succ dd ih =>
    intro k n1 n2 hk hn1 hn2
    obtain ⟨g1, rfl, hg1⟩ := fuS hn1
    obtain ⟨g2, rfl, hg2⟩ := fuS hn2
    obtain ⟨g3, rfl, -⟩ := fuS (show 0 < g2 by omega)
    by_cases c : ps hm J j f (40 + (k + 1)) = ps hm J j f 40
    · refine ⟨k + 1, ?_, ?_⟩
      · exact (ring_at hJ hj hf (by omega) hw h2 (m_Way_ring_L2 g1)).trans (if_pos c)
      · refine (refr_at hJ hj hf hp hh hall (m_Ref_round_L43 (g3 + 1))).trans ?_
        rw [if_pos ((hi (k + 1)).mp c)]
        exact refr_end
    · obtain ⟨D, i1, i2⟩ := ih (k + 1) g1 (g3 + 1) (by omega) (by omega) (by omega)
      refine ⟨D, ?_, ?_⟩
      · exact ((ring_at hJ hj hf (by omega) hw h2 (m_Way_ring_L2 g1)).trans (if_neg c)).trans i1
      · refine (refr_at hJ hj hf hp hh hall (m_Ref_round_L43 (g3 + 1))).trans ?_
        rw [if_neg (fun q => c ((hi (k + 1)).mpr q))]
        exact i2
theorem sim_round (t_lettersFed : Int32) (t_faultAt : Int32) (t_letters : Nat → Int32) (t_quays : Nat → Int32) (t_here_junctions : Int32) (t_here_cuts : Int32) (t_here_boats : Int32) (t_here_cutA : Nat → Int32) (t_here_cutB : Nat → Int32) (t_here_cutHard : Nat → Int32) (t_here_boatWear : Nat → Int32) (t_here_onward : Nat → Int32) (t_here_onwardHard : Nat → Int32) (t_fleet_row : Nat → Int32) (t_past_next : Int32) (t_past_count : Int32) (t_past_shelf_slots : Int32) (t_past_shelf_rows : Nat → Int32) (t_images_shelf_slots : Int32) (t_images_shelf_rows : Nat → Int32) (t_images_seeds : Nat → Int32) (t_images_kept : Nat → Int32) (t_draws_value : Int32) (t_seen_most : Int32) (t_seen_count : Int32) (t_seen_boats : Nat → Int32) (t_seen_steps : Nat → Int32) (t_seen_junctions : Nat → Int32) (t_book_most : Int32) (t_book_count : Int32) (t_book_boats : Nat → Int32) (t_book_steps : Nat → Int32) (t_book_junctions : Nat → Int32) (t_way_places : Nat → Int32) (t_way_needs : Nat → Int32) (t_way_last : Int32) (z_junctions : Int32) (z_cuts : Int32) (z_cutOne : Nat → Int32) (z_cutOther : Nat → Int32) (z_cutHard : Nat → Int32) (z_hard : Nat → Int32) (z_boats : Int32) (z_wears : Nat → Int32) (z_quays : Nat → Int32) (z_now : Nat → Int32) (z_seed : Int32) (z_text : Nat → Int32) (z_texted : Int32) (z_faultPlace : Int32) (z_undos : Int32) (z_past : Nat → Int32) (z_seen : Int32) (z_seenOf : Nat → Int32) (z_seenBehind : Nat → Int32) (z_seenAt : Nat → Int32) (z_booked : Int32) (z_bookOf : Nat → Int32) (z_bookAt : Nat → Int32) (z_images : Nat → Int32) (z_isKept : Nat → Int32) (z_at : Int32) (z_from : Int32) (z_pull : Int32) (y1 : Int32) (h : Rel t_lettersFed t_faultAt t_letters t_quays t_here_junctions t_here_cuts t_here_boats t_here_cutA t_here_cutB t_here_cutHard t_here_boatWear t_here_onward t_here_onwardHard t_fleet_row t_past_next t_past_count t_past_shelf_slots t_past_shelf_rows t_images_shelf_slots t_images_shelf_rows t_images_seeds t_images_kept t_draws_value t_seen_most t_seen_count t_seen_boats t_seen_steps t_seen_junctions t_book_most t_book_count t_book_boats t_book_steps t_book_junctions z_junctions z_cuts z_cutOne z_cutOther z_cutHard z_hard z_boats z_wears z_quays z_now z_seed z_text z_texted z_faultPlace z_undos z_past z_seen z_seenOf z_seenBehind z_seenAt z_booked z_bookOf z_bookAt z_images z_isKept) : ∃ (r : Int32) (o_t_way_places : Nat → Int32) (o_t_way_needs : Nat → Int32) (o_t_way_last : Int32) (o_z_at : Int32) (o_z_from : Int32) (o_z_pull : Int32), m_Tb_round y1 t_here_boats t_here_onward t_here_onwardHard t_fleet_row t_way_places t_way_needs t_way_last = some (r, o_t_way_places, o_t_way_needs, o_t_way_last) ∧ m_Ref_round y1 z_junctions z_hard z_boats z_now z_at z_from z_pull = some (r, o_z_at, o_z_from, o_z_pull) ∧ Rel t_lettersFed t_faultAt t_letters t_quays t_here_junctions t_here_cuts t_here_boats t_here_cutA t_here_cutB t_here_cutHard t_here_boatWear t_here_onward t_here_onwardHard t_fleet_row t_past_next t_past_count t_past_shelf_slots t_past_shelf_rows t_images_shelf_slots t_images_shelf_rows t_images_seeds t_images_kept t_draws_value t_seen_most t_seen_count t_seen_boats t_seen_steps t_seen_junctions t_book_most t_book_count t_book_boats t_book_steps t_book_junctions z_junctions z_cuts z_cutOne z_cutOther z_cutHard z_hard z_boats z_wears z_quays z_now z_seed z_text z_texted z_faultPlace z_undos z_past z_seen z_seenOf z_seenBehind z_seenAt z_booked z_bookOf z_bookAt z_images z_isKept := by
  have h' := h
  obtain ⟨hT, J, C, B, hm, ⟨⟨hJ, hC, hB⟩, ⟨e1, e2, e3, e4, e5, e6⟩, hc, hw, hh, ht, ⟨es, hl, he⟩⟩, hS, -⟩ := h
  subst e1 e2 e5 e6
  unfold m_Tb_round m_Ref_round
  by_cases c : vp_in y1 B
  · rw [hasBoat_t hB c, isBoat_t (by omega) c, kb1_e, kb1_e, if_neg n1, if_neg n1]
    obtain ⟨b, hb, rfl⟩ := vp_in_of c (by omega)
    obtain ⟨j, f, p, hj, hf, hp, r1, s1, r2, s2, r3, s3, -⟩ := hS.1 b hb
    obtain ⟨pl', ne', l1, l2⟩ := lay_i (w := 0) (L := 100) hJ hj hf (by omega) (by omega) hh ht t_way_places t_way_needs t_way_last
    have l1' : m_Way_lay (nI j) (om f) 0 100 t_way_places t_way_needs t_way_last t_here_onward t_here_onwardHard = some (pl', ne', nI 100) := l1
    have gg : m_Way_gone (nI p) 100 ne' (nI 100) = some (nI (gct (nd hm J j f 0) p 100 0)) := gone_i (by omega) hp (Nat.le_refl 100) l2
    have sb : m_Ref_sitsBehind 0 (nI J) z_hard (nI j) (om f) (nI p) = some (om (if gct (nd hm J j f 0) p 201 0 ≤ 200 then gct (nd hm J j f 0) p 201 0 + 1 else 0), nI (ps hm J j f (gct (nd hm J j f 0) p 201 0)).1, om (ps hm J j f (gct (nd hm J j f 0) p 201 0)).2, nI (p - gct (nd hm J j f 0) p 201 0 * 0)) := sb_i (w := 0) hJ hj hf (by omega) hp hh
    rw [fl_at (by omega), kb1_e, fl_from (by omega), kb1_e, r1, r2, l1', kb3_e, fl_pull (by omega), kb1_e, r3, gg, kb1_e, board_i (by omega), kb3_e, s1, s2, s3, sb, kb4_e]
    by_cases cN : nd hm J j f 0 100 ≤ p
    · obtain ⟨i, d, hd0, hd, hi, hper, htg⟩ := on_ring hj hf hp hl he cN
      have hall := nd_all hp htg
      have g1 : gct (nd hm J j f 0) p 100 0 = 100 := (gct_all hall 100 0).trans (by omega)
      have g2 : gct (nd hm J j f 0) p 201 0 = 201 := (gct_all hall 201 0).trans (by omega)
      have h2 : ∀ k : Nat, (ps hm J j f (k + 1)).2 = (ps hm J j f k).1 + 1 := fun k => by rw [ps_2 hp (htg k)]
      have hP : ps hm J j f (40 + d) = ps hm J j f 40 := ps_per hper 40 (by omega)
      have hiff : ∀ k : Nat, ps hm J j f (40 + k) = ps hm J j f 40 ↔ ps hm J j f (201 + k) = ps hm J j f 201 := by
        intro k
        constructor
        · intro q
          have q2 := ps_m q 161
          rw [show 40 + k + 161 = 201 + k by omega] at q2
          exact q2
        · intro q
          have q1 := ps_m q (161 * d - 161)
          have u1 := ps_pers hper (40 + k) (by omega) 161
          have u2 := ps_pers hper 40 (by omega) 161
          rw [show 201 + k + (161 * d - 161) = 40 + k + 161 * d by omega, show 201 + (161 * d - 161) = 40 + 161 * d by omega] at q1
          exact u1.symm.trans (q1.trans u2)
      obtain ⟨D, i1, i2⟩ := round_loop (B := B) (now := z_now) hJ hj hf hp hh l2 hall h2 hd hP hiff (d - 1) 0 FU FU (by omega) (FU_gt (by omega)) (FU_gt (by omega))
      have c1 : (100 : Int32) ≤ nI 100 := cle (a := 100) (by omega) (by omega) (Nat.le_refl 100)
      have i1' : m_Way_ring pl' (nI 100) = some (nI D) := i1
      have i2' : m_Ref_round_L43 FU (nI (ps hm J j f 201).1) (om (ps hm J j f 201).2) 0 0 (nI J) z_hard (nI B) z_now (nI (ps hm J j f 201).1) (om (ps hm J j f 201).2) (nI (p - 201 * 0)) = some (nI D, nI (ps hm J j f (201 + D)).1, om (ps hm J j f (201 + D)).2, nI (p - (201 + D) * 0)) := i2
      rw [g1, g2, if_pos c1, i1', kb1_e, if_neg (show ¬ (201 : Nat) ≤ 200 by omega), om_0, if_pos rfl, i2']
      exact ⟨_, _, _, _, _, _, _, rfl, rfl, h'⟩
    · have a1 := gct_is (n := nd hm J j f 0) (q := p) 100 0 (Nat.zero_le p)
      have a2 := gct_is (n := nd hm J j f 0) (q := p) 201 0 (Nat.zero_le p)
      have b1 := gct_le (nd hm J j f 0) p 100 0
      have b2 := gct_le (nd hm J j f 0) p 201 0
      have d1 : gct (nd hm J j f 0) p 100 0 < 100 := by
        refine Nat.lt_of_not_le (fun q => cN ?_)
        have m := nd_mono' hm J j f 0 (gct (nd hm J j f 0) p 100 0 - 100) 100
        rw [show 100 + (gct (nd hm J j f 0) p 100 0 - 100) = gct (nd hm J j f 0) p 100 0 by omega] at m
        exact Nat.le_trans m a1.1
      have d2 : gct (nd hm J j f 0) p 201 0 < 100 := by
        refine Nat.lt_of_not_le (fun q => cN ?_)
        have m := nd_mono' hm J j f 0 (gct (nd hm J j f 0) p 201 0 - 100) 100
        rw [show 100 + (gct (nd hm J j f 0) p 201 0 - 100) = gct (nd hm J j f 0) p 201 0 by omega] at m
        exact Nat.le_trans m a2.1
      have c1 : ¬ (100 : Int32) ≤ nI (gct (nd hm J j f 0) p 100 0) := ncle (a := 100) (by omega) (by omega) d1
      have c2 : ¬ om (gct (nd hm J j f 0) p 201 0 + 1) = -1 := by
        rw [← om_0, om_inj (by omega) (by omega)]; omega
      rw [if_neg c1, if_pos (show gct (nd hm J j f 0) p 201 0 ≤ 200 by omega), if_neg c2]
      exact ⟨_, _, _, _, _, _, _, rfl, rfl, h'⟩
  · rw [hasBoat_f hB c, isBoat_f (by omega) c, kb1_e, kb1_e, if_pos p0, if_pos p0]
    exact ⟨_, _, _, _, _, _, _, rfl, rfl, h'⟩
