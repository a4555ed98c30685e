/-! what the model keeps, tied to the same abstract state -/
def inB (x lo hi : Int32) : Bool := decide (lo ≤ x ∧ x ≤ hi)
def sdI (t : Nat) : Int32 := if t = 0 then -4 else nI (t - 1)
def mG (a : owK) (w k : Nat) : Nat := if k = 0 then aK a w else if k = 1 then aF a w else aG a w
def mO (a : owK) (c k : Nat) : Nat := if k = 0 then aH a c else if k = 1 then aS a c else aI a c
def MX (f : Nat → Int32) (a : owK) : Prop :=
  f 0 = nI (aN a) ∧ f 1 = nI (aC a) ∧ (∀ w, w < aN a → ∀ k, k < 3 → f (2 + (3 * w) + k) = nI (mG a w k)) ∧
  (∀ c, c < aC a → ∀ k, k < 3 → f (32 + (3 * c) + k) = nI (mO a c k)) ∧ ∀ k w, k < 10 → w < 10 → f (56 + (10 * k) + w) = sdI (aT a k w)
def tossI (kd n fg : Nat) : Int32 := if failW kd fg = true then (if kd = 6 then nI (100 + n) else if kd = 7 then nI (200 + costW kd fg) else nI n) else -15
def MS (B : owF) (h : owH) (d : Nat) : Prop := hK h d ≤ 2 ∧ B 43 0 d = nI (hK h d) ∧ (hK h d = 2 → B 44 0 d = nI (hSo h d) ∧ hSo h d ≤ 2 ∧ B 45 0 d = nI (hN h d) ∧ hN h d ≤ 100 ∧ ∀ j, j < 100 → B 46 0 (100 * d + j) = hE h d j) ∧ (hK h d = 1 → B 47 0 d = nI (costW (hW h d) (hf h d)) ∧ B 48 0 d = tossI (hW h d) (hn h d) (hf h d))
def MR (B : owF) (a : owK) (im : Option owK) (h : owH) : Prop := MX (B 40 0) a ∧ B 4 0 9 = imI im ∧ (∀ b, im = some b → MX (B 41 0) b) ∧ ∀ d, d < 8 → MS B h d
theorem mG_le {a : owK} {w k : Nat} (ho : aOk a) (hw : w < aN a) : mG a w k ≤ 99 := by
  have q := ho.2.2.1 w hw
  unfold mG
  split
  · omega
  · split <;> omega
theorem mO_le {a : owK} {c k : Nat} (ho : aOk a) (hc : c < aC a) : mO a c k ≤ 50 := by
  have q := ho.2.2.2.1 c hc
  have q2 := ho.1
  unfold mO
  split
  · omega
  · split <;> omega
theorem le_pred {x : Int32} {n : Nat} (h : n < 2 ^ 31) : x ≤ nI n - 1 ↔ x < nI n := by
  rcases Nat.eq_zero_or_pos n with q | q
  · subst q
    rw [show nI 0 - 1 = (-1 : Int32) from by decide, show nI 0 = (0 : Int32) from by decide, Int32.le_iff_toInt_le, Int32.lt_iff_toInt_lt]
    rw [show (-1 : Int32).toInt = -1 from by decide, show (0 : Int32).toInt = 0 from by decide]
    omega
  · obtain ⟨m, rfl⟩ : ∃ m, n = m + 1 := ⟨n - 1, by omega⟩
    rw [nI_pred, Int32.le_iff_toInt_le, Int32.lt_iff_toInt_lt, nI_toInt (by omega), nI_toInt h]
    omega
theorem inB_W {a : owK} {x : Int32} (ho : aOk a) : inB x 0 (nI (aN a) - 1) = isW a x := by
  have h10 := ho.1
  unfold inB isW
  exact decide_eq_decide.mpr (and_congr_right fun _ => le_pred (by omega))
theorem inB_C {a : owK} {x : Int32} (ho : aOk a) : inB x 0 (nI (aC a) - 1) = isC a x := by
  have h10 := ho.2.1
  unfold inB isC
  exact decide_eq_decide.mpr (and_congr_right fun _ => le_pred (by omega))
theorem inB_D {x : Int32} : inB x 0 7 = isD x := by
  unfold inB isD
  exact decide_eq_decide.mpr (and_congr_right fun _ => le_pred (n := 8) (by decide))
theorem inB_01 {x : Int32} : inB x 0 1 = is01 x := by
  unfold inB is01
  refine decide_eq_decide.mpr ⟨fun h => ?_, fun h => ?_⟩
  · obtain ⟨k, hk, rfl⟩ := nI_of2 (M := 1) (n := 1) (by decide) (Int32.not_lt.mpr h.1) h.2
    rcases (show k = 0 ∨ k = 1 by omega) with q | q
    · subst q; exact Or.inl (by decide)
    · subst q; exact Or.inr (by decide)
  · rcases h with rfl | rfl <;> decide
theorem inB_S {a b : Int32} : (inB a 0 9999 && inB b 0 a) = isSumB a b := by
  unfold inB isSumB
  by_cases h1 : 0 ≤ b ∧ b ≤ a ∧ a ≤ 9999
  · rw [decide_eq_true h1, decide_eq_true (show 0 ≤ a ∧ a ≤ 9999 from ⟨Int32.le_trans h1.1 h1.2.1, h1.2.2⟩), decide_eq_true (show 0 ≤ b ∧ b ≤ a from ⟨h1.1, h1.2.1⟩)]
    rfl
  · rw [decide_eq_false h1]
    by_cases h2 : 0 ≤ a ∧ a ≤ 9999
    · rw [decide_eq_false (show ¬ (0 ≤ b ∧ b ≤ a) from fun q => h1 ⟨q.1, q.2, h2.2⟩), Bool.and_false]
    · rw [decide_eq_false h2, Bool.false_and]
theorem inB_A {a : Int32} : inB a 0 9999 = isAnsB a := rfl
theorem areW_in {a : owK} {x : Int32} (ho : aOk a) : inB x 0 ((1 : Int32) <<< (nI (aN a) &&& 31) - 1) = areW a x := by
  have h10 := ho.1
  have hp : 2 ^ aN a ≤ 2 ^ 10 := Nat.pow_le_pow_right (by decide) h10
  rw [shl1 (by omega)]
  have q : areW a x = true ↔ inB x 0 (nI (2 ^ aN a) - 1) = true := by
    rw [areW_nat ho]
    unfold inB
    rw [decide_eq_true_iff, le_pred (by omega)]
    constructor
    · rintro ⟨m, hm, rfl⟩
      exact ⟨nI_pos' (by omega), nI_lt hm (by omega)⟩
    · intro h
      exact natOf2 h.1 h.2 (by omega)
  exact (Bool.eq_iff_iff.mpr q).symm
theorem sdI_neg {a : owK} {k w : Nat} (h : aT a k w = 0) : sdI (aT a k w) = -4 := if_pos h
theorem sdI_pos {a : owK} {k w : Nat} (h : aT a k w ≠ 0) : sdI (aT a k w) = nI (aT a k w - 1) := if_neg h
