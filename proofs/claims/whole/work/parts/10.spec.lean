def isSumB (a b : Int32) : Bool := decide (0 ≤ b ∧ b ≤ a ∧ a ≤ 9999)
def is01 (a : Int32) : Bool := decide (a = 0 ∨ a = 1)
def isAnsB (a : Int32) : Bool := decide (0 ≤ a ∧ a ≤ 9999)
def amongB (w : Int32) (i : Int32) : Bool := decide (w >>> (i &&& 31) &&& 1 = 1)
theorem sumNat {a b : Int32} (h : isSumB a b = true) : ∃ x y : Nat, a = nI x ∧ b = nI y ∧ y ≤ x ∧ x ≤ 9999 := by
  have h0 := of_decide_eq_true h
  obtain ⟨x, hx, rfl⟩ := natOf (x := a) (by grind)
  obtain ⟨y, hy, rfl⟩ := natOf (x := b) (by grind)
  refine ⟨x, y, rfl, rfl, (nI_leI hy hx).mp h0.2.1, (nI_leI hx (by decide)).mp h0.2.2⟩
/-! one sum worked by a way: digits as natural numbers -/
def dg (n c : Nat) : Nat := n / 10 ^ c % 10
/-- the next column with an upper digit above nought; 4: none -/
def fbW (U : Nat → Nat) (c : Nat) : Nat := if c + 1 < 4 ∧ 0 < U (c + 1) then c + 1 else if c + 2 < 4 ∧ 0 < U (c + 2) then c + 2 else if c + 3 < 4 ∧ 0 < U (c + 3) then c + 3 else 4
def tkW (nines : Bool) (U : Nat → Nat) (c : Nat) : Nat → Nat := fun j => if j = fbW U c then U j - 1 else if nines = true ∧ c < j ∧ j < fbW U c then 9 else U j
/-- by borrowing: the digit written, the upper digits then -/
def byB (nines : Bool) (U L : Nat → Nat) (c : Nat) : Nat × (Nat → Nat) := if fbW U c = 4 then (0, U) else (U c + 10 - L c, tkW nines U c)
def stuckW (kd fg : Nat) (U L : Nat → Nat) (c : Nat) : Nat × (Nat → Nat) :=
  if kd = 0 then byB true U L c else if kd = 1 then (L c - U c, U) else if kd = 2 then (0, U) else if kd = 3 then (U c + 10 - L c, U) else if kd = 4 then byB false U L c
  else if kd = 5 then (if U c = 0 then (L c - U c, U) else byB true U L c)
  else if kd = 6 then (if c + 1 < 4 ∧ 0 < U (c + 1) then byB false U L c else if fg % 4 = 0 then (0, U) else if fg % 4 = 1 then (L c - U c, U) else if fg % 4 = 2 then (U c + 10 - L c, U) else (L c, U))
  else (if c = 3 then (0, U) else (U c + 10 - L c, U))
def stepW (kd fg : Nat) (U L : Nat → Nat) (c : Nat) : Nat × (Nat → Nat) := if U c < L c then stuckW kd fg U L c else (U c - L c, U)
def runU (kd fg x y : Nat) : Nat → Nat → Nat
  | 0 => dg x
  | n + 1 => (stepW kd fg (runU kd fg x y n) (dg y) n).2
def wrW (kd fg x y c : Nat) : Nat := (stepW kd fg (runU kd fg x y c) (dg y) c).1
def stkB (kd fg x y c : Nat) : Bool := decide (runU kd fg x y c c < dg y c)
def stkI (kd fg x y : Nat) : Nat → Int32
  | 0 => 0
  | n + 1 => if stkB kd fg x y n then stkI kd fg x y n ||| ((1 : Int32) <<< (nI n &&& 31)) else stkI kd fg x y n
def ansN (kd fg x y : Nat) : Nat → Nat
  | 0 => 0
  | n + 1 => ansN kd fg x y n + wrW kd fg x y n * 10 ^ n
/-- the answer of a way to a sum -/
def ansW (kd fg x y : Nat) : Nat := ansN kd fg x y 4
theorem dg_le (n c : Nat) : dg n c ≤ 9 := by unfold dg; omega
theorem tkW_le {nines : Bool} {U : Nat → Nat} {c : Nat} (h : ∀ j, j < 4 → U j ≤ 9) : ∀ j, j < 4 → tkW nines U c j ≤ 9 := by
  intro j hj
  have := h j hj
  unfold tkW
  split
  · omega
  · split <;> omega
theorem byB_le {nines : Bool} {U L : Nat → Nat} {c : Nat} (h : ∀ j, j < 4 → U j ≤ 9) : ∀ j, j < 4 → (byB nines U L c).2 j ≤ 9 := by
  intro j hj
  unfold byB
  split
  · exact h j hj
  · exact tkW_le h j hj
theorem stuckW_le {kd fg : Nat} {U L : Nat → Nat} {c : Nat} (h : ∀ j, j < 4 → U j ≤ 9) : ∀ j, j < 4 → (stuckW kd fg U L c).2 j ≤ 9 := by
  intro j hj
  unfold stuckW
  repeat' split
  all_goals first | exact h j hj | exact byB_le h j hj
theorem runU_le (kd fg x y : Nat) : ∀ n j, j < 4 → runU kd fg x y n j ≤ 9
  | 0, j, _ => dg_le x j
  | n + 1, j, hj => by
    show (stepW kd fg (runU kd fg x y n) (dg y) n).2 j ≤ 9
    unfold stepW
    split
    · exact stuckW_le (fun a ha => runU_le kd fg x y n a ha) j hj
    · exact runU_le kd fg x y n j hj
/-- the paper: the upper digits as they are then, the lower -/
def pap (Z : owF) (U L : Nat → Nat) : Prop := (∀ j, j < 4 → Z 20 0 j = nI (U j)) ∧ (∀ j, j < 4 → Z 21 0 j = nI (L j)) ∧ (∀ j, j < 4 → U j ≤ 9) ∧ ∀ j, j < 4 → L j ≤ 9
def zfr (t : Nat) (Z Z2 : owF) : Prop := ∀ a b c, a ≠ t → Z2 a b c = Z a b c
theorem zfr_up {t j : Nat} {v : Int32} {Z Z2 Z3 : owF} (h : zfr t Z Z2) (e : Z3 = up3 Z2 t 0 j v) : zfr t Z Z3 := fun a b c ha => by rw [e, ← h a b c ha]; simp [up3, ha]
theorem zfr_rf {t : Nat} {Z : owF} : zfr t Z Z := fun _ _ _ _ => rfl
theorem lt4 {p : Nat → Prop} (h0 : p 0) (h1 : p 1) (h2 : p 2) (h3 : p 3) : ∀ j, j < 4 → p j := fun j hj => by
  match j, hj with
  | 0, _ => exact h0
  | 1, _ => exact h1
  | 2, _ => exact h2
  | 3, _ => exact h3
