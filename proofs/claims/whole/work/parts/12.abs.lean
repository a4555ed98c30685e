/-! the abstract state: ways, children, sayings; shelves -/
/-- how many ways; of each kind, figure, weight; how many children; of each the way held, slips, the way held first; what is told (0: nothing, else one more than the way) -/
abbrev owK : Type := Nat × (Nat → Nat × Nat × Nat) × Nat × (Nat → Nat × Nat × Nat) × (Nat → Nat → Nat)
def aN (a : owK) : Nat := a.1
def aK (a : owK) (w : Nat) : Nat := (a.2.1 w).1
def aF (a : owK) (w : Nat) : Nat := (a.2.1 w).2.1
def aG (a : owK) (w : Nat) : Nat := (a.2.1 w).2.2
def aC (a : owK) : Nat := a.2.2.1
def aH (a : owK) (c : Nat) : Nat := (a.2.2.2.1 c).1
def aS (a : owK) (c : Nat) : Nat := (a.2.2.2.1 c).2.1
def aI (a : owK) (c : Nat) : Nat := (a.2.2.2.1 c).2.2
def aT (a : owK) (k w : Nat) : Nat := a.2.2.2.2 k w
def aOk (a : owK) : Prop := aN a ≤ 10 ∧ aC a ≤ 8 ∧ (∀ w, w < aN a → aK a w < 8 ∧ aF a w ≤ 9 ∧ 1 ≤ aG a w ∧ aG a w ≤ 99) ∧ (∀ c, c < aC a → aH a c < aN a ∧ aS a c ≤ 50 ∧ aI a c < aN a) ∧ ∀ k w, k < 10 → w < 10 → aT a k w ≤ aN a ∧ (aN a ≤ w → aT a k w = 0)
def isW (a : owK) (x : Int32) : Bool := decide (0 ≤ x ∧ x < nI (aN a))
def isC (a : owK) (x : Int32) : Bool := decide (0 ≤ x ∧ x < nI (aC a))
/-- a school holds it -/
def RX (A : owF) (Y : Nat → Nat → Nat → Option Nat) (P : Nat → Option owW) (i : Nat) (a : owK) : Prop :=
  A 1 i 1 = nI (aN a) ∧ A 1 i 5 = nI (aC a) ∧ (∀ w, w < aN a → ∃ ad, Y 15 i w = some ad ∧ P ad = some (aK a w, nI w, nI (aF a w), nI (aG a w))) ∧
  (∀ c, c < aC a → A 10 i c = nI (aH a c) ∧ A 12 i c = nI (aS a c) ∧ A 11 i c = nI (aI a c)) ∧ ∀ j, j < 100 → A 13 i j = nI (aT a (j / 10) (j % 10))
theorem isW_nat {a : owK} {x : Int32} (ho : aOk a) (h : isW a x = true) : ∃ w, w < aN a ∧ x = nI w := by
  have h0 := of_decide_eq_true h
  exact natOf2 h0.1 h0.2 (by have := ho.1; omega)
theorem isW_of {a : owK} {w : Nat} (ho : aOk a) (h : w < aN a) : isW a (nI w) = true := decide_eq_true ⟨nI_pos' (by have := ho.1; omega), nI_lt h (by have := ho.1; omega)⟩
theorem isC_nat {a : owK} {x : Int32} (ho : aOk a) (h : isC a x = true) : ∃ c, c < aC a ∧ x = nI c := by
  have h0 := of_decide_eq_true h
  exact natOf2 h0.1 h0.2 (by have := ho.2.1; omega)
theorem isC_of {a : owK} {c : Nat} (ho : aOk a) (h : c < aC a) : isC a (nI c) = true := decide_eq_true ⟨nI_pos' (by have := ho.2.1; omega), nI_lt h (by have := ho.2.1; omega)⟩
theorem RX.tl {A : owF} {Y : Nat → Nat → Nat → Option Nat} {P : Nat → Option owW} {i : Nat} {a : owK} (h : RX A Y P i a) {k w : Nat} (hk : k < 10) (hw : w < 10) : A 13 i (k * 10 + w) = nI (aT a k w) := by
  rw [h.2.2.2.2 (k * 10 + w) (by omega), show (k * 10 + w) / 10 = k by omega, show (k * 10 + w) % 10 = w by omega]
/-- by a saying who holds w comes to hold this -/
def tdW (a : owK) (k w : Nat) : Nat := if aT a k w = 0 then w else aT a k w - 1
def toldI (a : owK) (x y : Int32) : Int32 := if 0 ≤ x ∧ x < 10 ∧ isW a y = true then nI (tdW a x.toNatClampNeg y.toNatClampNeg) else -1
theorem tdW_lt {a : owK} {k w : Nat} (ho : aOk a) (hk : k < 10) (hw : w < aN a) : tdW a k w < aN a := by
  have h10 := ho.1
  have h := (ho.2.2.2.2 k w hk (by omega)).1
  unfold tdW
  split <;> omega
theorem toldI_nat {a : owK} {k w : Nat} (ho : aOk a) (hk : k < 10) (hw : w < aN a) : toldI a (nI k) (nI w) = nI (tdW a k w) := by
  have h10 := ho.1
  unfold toldI
  rw [if_pos ⟨nI_pos' (by omega), nI_lt hk (by decide), isW_of ho hw⟩, nI_clamp (by omega), nI_clamp (by omega)]
def cntB (p : Nat → Bool) : Nat → Nat
  | 0 => 0
  | n + 1 => if p n then cntB p n + 1 else cntB p n
theorem cntB_le (p : Nat → Bool) : ∀ n, cntB p n ≤ n
  | 0 => Nat.le_refl 0
  | n + 1 => by
    have := cntB_le p n
    show (if p n then cntB p n + 1 else cntB p n) ≤ n + 1
    split <;> omega
theorem cntB_t {p : Nat → Bool} {n : Nat} (h : p n = true) : cntB p n + 1 = cntB p (n + 1) := by
  show _ = if p n then cntB p n + 1 else cntB p n
  rw [if_pos h]
theorem cntB_f {p : Nat → Bool} {n : Nat} (h : p n = false) : cntB p n = cntB p (n + 1) := by
  show _ = if p n then cntB p n + 1 else cntB p n
  rw [if_neg (by rw [h]; decide)]
def allB (p : Nat → Bool) : Nat → Bool
  | 0 => true
  | n + 1 => allB p n && p n
theorem allB_iff {p : Nat → Bool} : ∀ {n}, allB p n = true ↔ ∀ k, k < n → p k = true
  | 0 => ⟨fun _ k h => absurd h (Nat.not_lt_zero k), fun _ => rfl⟩
  | n + 1 => by
    show (allB p n && p n) = true ↔ _
    rw [Bool.and_eq_true, allB_iff]
    constructor
    · intro h k hk
      rcases Nat.lt_or_ge k n with q | q
      · exact h.1 k q
      · obtain rfl : n = k := by omega
        exact h.2
    · intro h
      exact ⟨fun k hk => h k (by omega), h n (by omega)⟩
def allI (a : owK) : Int32 := ((1 : Int32) <<< (nI (aN a) &&& 31)) - 1
/-- bits of ways -/
def areW (a : owK) (x : Int32) : Bool := decide (x &&& (allI a ^^^ -1) = 0)
def toldN (a : owK) : Nat := cntB (fun j => decide (aT a (j / 10) (j % 10) ≠ 0)) 100
def kindI (a : owK) (x : Int32) : Int32 := if isW a x then nI (aK a x.toNatClampNeg) else -1
def wgtI (a : owK) (x : Int32) : Int32 := if isW a x then nI (aG a x.toNatClampNeg) else 0
theorem kindI_nat {a : owK} {w : Nat} (ho : aOk a) (hw : w < aN a) : kindI a (nI w) = nI (aK a w) := by
  have h10 := ho.1
  unfold kindI
  rw [if_pos (isW_of ho hw), nI_clamp (by omega)]
theorem wgtI_nat {a : owK} {w : Nat} (ho : aOk a) (hw : w < aN a) : wgtI a (nI w) = nI (aG a w) := by
  have h10 := ho.1
  unfold wgtI
  rw [if_pos (isW_of ho hw), nI_clamp (by omega)]
theorem aK_lt {a : owK} {w : Nat} (ho : aOk a) (hw : w < aN a) : aK a w < 8 := (ho.2.2.1 w hw).1
theorem aF_le {a : owK} {w : Nat} (ho : aOk a) (hw : w < aN a) : aF a w ≤ 9 := (ho.2.2.1 w hw).2.1
def sT (t : Nat) : Bool := decide (t = 1 ∨ t = 10 ∨ t = 11 ∨ t = 12 ∨ t = 13)
/-- nothing but school i has changed -/
def sfr (i : Nat) (A A2 : owF) : Prop := ∀ t k c, ¬ (k = i ∧ sT t = true) → A2 t k c = A t k c
def yfr (i : Nat) (Y Y2 : Nat → Nat → Nat → Option Nat) : Prop := ∀ t k c, ¬ (k = i ∧ t = 15) → Y2 t k c = Y t k c
theorem sfr_rf {i : Nat} {A : owF} : sfr i A A := fun _ _ _ _ => rfl
theorem yfr_rf {i : Nat} {Y : Nat → Nat → Nat → Option Nat} : yfr i Y Y := fun _ _ _ _ => rfl
theorem sfr_up {i t c : Nat} {v : Int32} {A A2 A3 : owF} (h : sfr i A A2) (e : A3 = up3 A2 t i c v) (ht : sT t = true) : sfr i A A3 := fun t2 k c2 hn => by
  rw [← h t2 k c2 hn, e]
  unfold up3
  exact if_neg (fun q => hn ⟨q.2.1, by rw [q.1]; exact ht⟩)
theorem yfr_up {i c : Nat} {v : Option Nat} {A A2 A3 : Nat → Nat → Nat → Option Nat} (h : yfr i A A2) (e : A3 = up3 A2 15 i c v) : yfr i A A3 := fun t2 k c2 hn => by
  rw [← h t2 k c2 hn, e]
  unfold up3
  rw [if_neg (fun q => hn ⟨q.2.1, q.1⟩)]
/-- every reference to a way is one -/
def YOk (Y : Nat → Nat → Nat → Option Nat) (P : Nat → Option owW) : Prop := ∀ i w ad, i < 3 → w < 10 → Y 15 i w = some ad → ∃ wc, P ad = some wc ∧ wc.1 < 8
theorem YOk_up {Y Y2 : Nat → Nat → Nat → Option Nat} {P : Nat → Option owW} {i c : Nat} {v : Option Nat} (h : YOk Y P) (e : Y2 = up3 Y 15 i c v) (hv : ∀ ad, v = some ad → ∃ wc, P ad = some wc ∧ wc.1 < 8) : YOk Y2 P := fun i2 w ad hi hw q => by
  rw [e] at q
  by_cases h2 : i2 = i ∧ w = c
  · refine hv ad ?_
    rw [← q]
    simp [up3, h2]
  · refine h i2 w ad hi hw ?_
    rw [← q]
    unfold up3
    rw [if_neg (fun z => h2 ⟨z.2.1, z.2.2⟩)]
/-- a school holds it still, when another has changed -/
theorem RX.keep {A A2 : owF} {Y Y2 : Nat → Nat → Nat → Option Nat} {P : Nat → Option owW} {i k : Nat} {a : owK} (h : RX A Y P k a) (hs : sfr i A A2) (hy : yfr i Y Y2) (hk : k ≠ i) : RX A2 Y2 P k a := by
  have e : ∀ t c, A2 t k c = A t k c := fun t c => hs t k c (fun q => hk q.1)
  have ey : ∀ c, Y2 15 k c = Y 15 k c := fun c => hy 15 k c (fun q => hk q.1)
  refine ⟨by rw [e]; exact h.1, by rw [e]; exact h.2.1, fun w hw => ?_, fun c hc => ?_, fun j hj => by rw [e]; exact h.2.2.2.2 j hj⟩
  · rw [ey]; exact h.2.2.1 w hw
  · rw [e, e, e]; exact h.2.2.2.1 c hc
theorem RX.copy {A A2 : owF} {Y Y2 : Nat → Nat → Nat → Option Nat} {P : Nat → Option owW} {i j : Nat} {a : owK} (ho : aOk a) (h : RX A Y P j a) (h1 : A2 1 i 1 = A 1 j 1) (h5 : A2 1 i 5 = A 1 j 5) (hy : ∀ w, w < 10 → Y2 15 i w = Y 15 j w) (hc : ∀ c, c < 8 → A2 10 i c = A 10 j c ∧ A2 11 i c = A 11 j c ∧ A2 12 i c = A 12 j c) (ht : ∀ c, c < 100 → A2 13 i c = A 13 j c) : RX A2 Y2 P i a := by
  have h10 := ho.1
  have h8 := ho.2.1
  refine ⟨h1.trans h.1, h5.trans h.2.1, fun w hw => by rw [hy w (by omega)]; exact h.2.2.1 w hw, fun c hc2 => ?_, fun c hc2 => by rw [ht c hc2]; exact h.2.2.2.2 c hc2⟩
  obtain ⟨g1, g2, g3⟩ := hc c (by omega)
  rw [g1, g2, g3]
  exact h.2.2.2.1 c hc2
