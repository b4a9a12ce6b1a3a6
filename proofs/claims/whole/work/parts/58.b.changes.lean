/-! ===== changes: all orders, counted ===== -/
def dgt (B c i : Nat) : Nat := c / 5 ^ (B - 1 - i) % 5
def dls (B c : Nat) : Nat → List Nat
  | 0 => []
  | k + 1 => dgt B c k :: dls B c k
def lthB (B : Nat) : List Nat → Bool
  | [] => true
  | a :: t => Nat.blt a B && lthB B t
def nhas (a : Nat) : List Nat → Bool
  | [] => true
  | x :: t => !(Nat.beq a x) && nhas a t
def ndpB : List Nat → Bool
  | [] => true
  | a :: t => nhas a t && ndpB t
def vl (B c : Nat) : Bool := lthB B (dls B c B) && ndpB (dls B c B)
def oc (B c i : Nat) : Int32 := nI (if Nat.blt i B then dgt B c i else i)
def nv (B : Nat) : Nat → Nat → Nat
  | 0, c => c
  | d + 1, c => if vl B c then c else nv B d (c + 1)
def cv (B : Nat) : Nat → Nat → Nat
  | 0, _ => 0
  | d + 1, c => (if vl B c then 1 else 0) + cv B d (c + 1)
def al5 (f g : Nat → Int32) : Nat → Bool
  | 0 => true
  | k + 1 => decide (f k = g k) && al5 f g k
def ck1 (B c : Nat) : Bool := match m_Ref_takeGiven (nI c) (nI B) (fun _ => 0) with
  | some (v, g) => decide (v = (if vl B c then 1 else 0)) && al5 g (oc B c) B
  | none => false
def ck2 (B c e : Nat) : Bool := match m_Exch_nextOrder (nI B) (oc B c) with
  | some (v, o) => if Nat.blt e (5 ^ B) then decide (v = 1) && al5 o (oc B e) 5 else decide (v = 0)
  | none => false
def ck3 (B c : Nat) : Bool := match m_Exch_rings (nI B) (oc B c) with
  | some r => (match m_Ref_changesOf (nI B) (oc B c) with
    | some s => decide (nI B - r = s) && !(decide (s < 0))
    | none => false)
  | none => false
def ckc (B c : Nat) : Bool := ck1 B c && (!(vl B c) || (ck2 B c (nv B (5 ^ B - (c + 1)) (c + 1)) && ck3 B c))
theorem ckc_0 : ∀ c : Nat, c < 1 → ckc 0 c = true := by decide +kernel
theorem ckc_1 : ∀ c : Nat, c < 5 → ckc 1 c = true := by decide +kernel
theorem ckc_2 : ∀ c : Nat, c < 25 → ckc 2 c = true := by decide +kernel
theorem ckc_3 : ∀ c : Nat, c < 125 → ckc 3 c = true := by decide +kernel
def cs (B w : Nat) : Nat → Nat → Nat
  | 0, _ => 0
  | k + 1, c => cv B w c + cs B w k (c + w)
theorem cv_add (B : Nat) : ∀ a b c : Nat, cv B (a + b) c = cv B a c + cv B b (c + a) := by
  intro a
  induction a with
  | zero => intro b c; rw [Nat.zero_add, Nat.add_zero]; show _ = 0 + _; omega
  | succ a ih =>
    intro b c
    rw [show a + 1 + b = (a + b) + 1 by omega]
    show (if vl B c then 1 else 0) + cv B (a + b) (c + 1) = (if vl B c then 1 else 0) + cv B a (c + 1) + cv B b (c + (a + 1))
    rw [ih b (c + 1), show c + 1 + a = c + (a + 1) by omega]
    omega
theorem cv_cs (B w : Nat) : ∀ k c : Nat, cv B (w * k) c = cs B w k c := by
  intro k
  induction k with
  | zero => intro c; rw [Nat.mul_zero]; rfl
  | succ k ih =>
    intro c
    rw [Nat.mul_succ, Nat.add_comm (w * k) w, cv_add, ih (c + w)]
    rfl
theorem cs_0 : cs 0 1 1 0 ≤ 120 := by decide +kernel
theorem cs_1 : cs 1 1 5 0 ≤ 120 := by decide +kernel
theorem cs_2 : cs 2 5 5 0 ≤ 120 := by decide +kernel
theorem cs_3 : cs 3 25 5 0 ≤ 120 := by decide +kernel
