/-! ===== what holds between the class's data and the reference's ===== -/
def Ship (J B : Nat) (r n : Nat → Int32) : Prop :=
  (∀ b : Nat, b < B → ∃ j f p : Nat, j < J ∧ f ≤ J ∧ p ≤ 999 ∧ r b = nI j ∧ n b = nI j ∧ r (5 + b) = om f ∧ n (5 + b) = om f ∧ r (10 + b) = nI p ∧ n (10 + b) = nI p ∧ r (15 + b) = n (15 + b)) ∧ ∃ S : Nat, S ≤ 9060 ∧ r 20 = nI S ∧ n 20 = nI S
def RText (lettersFed faultAt : Int32) (letters text : Nat → Int32) (texted faultPlace : Int32) : Prop :=
  faultAt = faultPlace ∧ ∃ F : Nat, F ≤ 240 ∧ lettersFed = nI F ∧ texted = nI F ∧ ∀ k : Nat, k < F → ∃ c : Nat, c < 256 ∧ letters k = nI c ∧ text k = nI c
/-- the best way on: one more than the least j of the least hardness among the first k, 0 where none is; h tells hardness and one, 0 for no cut; f is one more than where one comes from -/
def bst (h : Nat → Nat) (f : Nat) : Nat → Nat
  | 0 => 0
  | k + 1 => if k + 1 = f ∨ h k = 0 then bst h f k else if bst h f k = 0 ∨ h k < h (bst h f k - 1) then k + 1 else bst h f k
def tnx (hm : Nat → Nat → Nat) (J j f : Nat) : Nat := bst (hm j) f J
def tgx (hm : Nat → Nat → Nat) (J j f : Nat) : Nat := if tnx hm J j f = 0 then 1000 else hm j (tnx hm J j f - 1) - 1
def RWat (J C B : Nat) (hm : Nat → Nat → Nat) (junctions cuts boats : Int32) (cutA cutB cutHard boatWear onward onwardHard : Nat → Int32) (zj zc : Int32) (zA zB zH hard : Nat → Int32) (zb : Int32) (wears : Nat → Int32) : Prop :=
  (J ≤ 9 ∧ C ≤ 14 ∧ B ≤ 5) ∧ (junctions = nI J ∧ zj = nI J ∧ cuts = nI C ∧ zc = nI C ∧ boats = nI B ∧ zb = nI B) ∧
  (∀ c : Nat, c < C → cutA c = zA c ∧ cutB c = zB c ∧ cutHard c = zH c) ∧
  (∀ b : Nat, b < B → ∃ w : Nat, w ≤ 99 ∧ boatWear b = nI w ∧ wears b = nI w) ∧
  (∀ a b : Nat, a < 9 → b < 9 → hard (9 * a + b) = om (hm a b) ∧ hm a b ≤ 100) ∧
  (∀ j f : Nat, j < J → f ≤ J → onward (10 * j + f) = om (tnx hm J j f) ∧ onwardHard (10 * j + f) = nI (tgx hm J j f)) ∧
  ∃ es : List (Nat × Nat), es.length ≤ 28 ∧ ∀ a b : Nat, a < J → b < J → hm a b ≠ 0 → (a, b) ∈ es
def RQuay (J B : Nat) (quays zq : Nat → Int32) : Prop := ∀ b : Nat, b < B → ∃ q : Nat, q ≤ J ∧ quays b = om q ∧ zq b = om q
def RPast (J B : Nat) (next count slots : Int32) (rows : Nat → Int32) (undos : Int32) (past : Nat → Int32) : Prop :=
  slots = 20 ∧ ∃ x n : Nat, x < 20 ∧ n ≤ 20 ∧ next = nI x ∧ count = nI n ∧ undos = nI n ∧ ∀ i : Nat, i < n → Ship J B (fun k => rows (21 * ((x + 20 - n + i) % 20) + k)) (fun k => past (21 * i + k))
def RImg (J B : Nat) (slots : Int32) (rows seeds kept images isKept : Nat → Int32) : Prop :=
  slots = 2 ∧ ∀ i : Nat, i < 2 → (kept i = 0 ∧ isKept i = 0) ∨ (kept i = 1 ∧ isKept i = 1 ∧ Ship J B (fun k => rows (21 * i + k)) (fun k => images (22 * i + k)) ∧ ∃ v : Nat, v < 2 ^ 31 ∧ seeds i = nI v ∧ images (22 * i + 21) = nI v)
def RSeed (v zs : Int32) : Prop := ∃ n : Nat, n < 2 ^ 31 ∧ v = nI n ∧ zs = nI n
def RSeen (J B : Nat) (most count : Int32) (bo st ju : Nat → Int32) (seen : Int32) (zo zs zj : Nat → Int32) : Prop :=
  most = 6 ∧ ∃ n : Nat, n ≤ 6 ∧ count = nI n ∧ seen = nI n ∧ ∀ e : Nat, e < n → ∃ b t j : Nat, b < B ∧ t ≤ 30 ∧ j < J ∧ bo e = nI b ∧ zo e = nI b ∧ st e = nI t ∧ zs e = nI t ∧ ju e = nI j ∧ zj e = nI j
def RBook (J B : Nat) (most count : Int32) (bo ju : Nat → Int32) (booked : Int32) (zo zj : Nat → Int32) : Prop :=
  most = 15 ∧ ∃ n : Nat, n ≤ 15 ∧ count = nI n ∧ booked = nI n ∧ ∀ e : Nat, e < n → ∃ b j : Nat, b < B ∧ j < J ∧ bo e = nI b ∧ zo e = nI b ∧ ju e = nI j ∧ zj e = nI j
def Rel (t_lettersFed : Int32) (t_faultAt : Int32) (t_letters : Nat → Int32) (t_quays : Nat → Int32) (t_here_junctions : Int32) (t_here_cuts : Int32) (t_here_boats : Int32) (t_here_cutA : Nat → Int32) (t_here_cutB : Nat → Int32) (t_here_cutHard : Nat → Int32) (t_here_boatWear : Nat → Int32) (t_here_onward : Nat → Int32) (t_here_onwardHard : Nat → Int32) (t_fleet_row : Nat → Int32) (t_past_next : Int32) (t_past_count : Int32) (t_past_shelf_slots : Int32) (t_past_shelf_rows : Nat → Int32) (t_images_shelf_slots : Int32) (t_images_shelf_rows : Nat → Int32) (t_images_seeds : Nat → Int32) (t_images_kept : Nat → Int32) (t_draws_value : Int32) (t_seen_most : Int32) (t_seen_count : Int32) (t_seen_boats : Nat → Int32) (t_seen_steps : Nat → Int32) (t_seen_junctions : Nat → Int32) (t_book_most : Int32) (t_book_count : Int32) (t_book_boats : Nat → Int32) (t_book_steps : Nat → Int32) (t_book_junctions : Nat → Int32) (z_junctions : Int32) (z_cuts : Int32) (z_cutOne : Nat → Int32) (z_cutOther : Nat → Int32) (z_cutHard : Nat → Int32) (z_hard : Nat → Int32) (z_boats : Int32) (z_wears : Nat → Int32) (z_quays : Nat → Int32) (z_now : Nat → Int32) (z_seed : Int32) (z_text : Nat → Int32) (z_texted : Int32) (z_faultPlace : Int32) (z_undos : Int32) (z_past : Nat → Int32) (z_seen : Int32) (z_seenOf : Nat → Int32) (z_seenBehind : Nat → Int32) (z_seenAt : Nat → Int32) (z_booked : Int32) (z_bookOf : Nat → Int32) (z_bookAt : Nat → Int32) (z_images : Nat → Int32) (z_isKept : Nat → Int32) : Prop :=
  RText t_lettersFed t_faultAt t_letters z_text z_texted z_faultPlace ∧ ∃ (J C B : Nat) (hm : Nat → Nat → Nat),
  RWat J C B hm t_here_junctions t_here_cuts t_here_boats t_here_cutA t_here_cutB t_here_cutHard t_here_boatWear t_here_onward t_here_onwardHard z_junctions z_cuts z_cutOne z_cutOther z_cutHard z_hard z_boats z_wears ∧
  Ship J B t_fleet_row z_now ∧ RQuay J B t_quays z_quays ∧ RPast J B t_past_next t_past_count t_past_shelf_slots t_past_shelf_rows z_undos z_past ∧
  RImg J B t_images_shelf_slots t_images_shelf_rows t_images_seeds t_images_kept z_images z_isKept ∧ RSeed t_draws_value z_seed ∧
  RSeen J B t_seen_most t_seen_count t_seen_boats t_seen_steps t_seen_junctions z_seen z_seenOf z_seenBehind z_seenAt ∧
  RBook J B t_book_most t_book_count t_book_boats t_book_junctions z_booked z_bookOf z_bookAt
