/-! a text, sign by sign -/
def sgI (h : owH) (d p : Nat) : Int32 := if p < hN h d then hE h d p else 0
def dgB (h : owH) (d p : Nat) : Bool := decide (p < hN h d ∧ 48 ≤ hE h d p ∧ hE h d p ≤ 57)
def dgV (h : owH) (d p : Nat) : Nat := (hE h d p - 48).toNatClampNeg
def enB (h : owH) (d p : Nat) : Bool := decide (p < hN h d ∧ hE h d p = 59)
def twB (h : owH) (d p : Nat) : Bool := decide (dgV h d p ≠ 0) && dgB h d (p + 1)
def nmP (h : owH) (d p : Nat) : Nat := if twB h d p then p + 2 else p + 1
def nmV (h : owH) (d p : Nat) : Nat := if twB h d p then 10 * dgV h d p + dgV h d (p + 1) else dgV h d p
def opP (h : owH) (d p : Nat) : Nat := if dgB h d p then p + 1 else p
def opV (h : owH) (d p : Nat) : Nat := if dgB h d p then dgV h d p else 0
def enS (h : owH) (d p : Nat) : Bool × Nat := if enB h d p then (true, p + 1) else (false, p)
def stY (h : owH) (d p : Nat) : Bool × Nat := if dgB h d (p + 1) then (if dgB h d (p + 2) then (if dgB h d (p + 3) then enS h d (nmP h d (p + 3)) else (false, p + 3)) else (false, p + 2)) else (false, p + 1)
def stK (h : owH) (d p : Nat) : Bool × Nat := if dgB h d (p + 1) then (if dgB h d (p + 2) then enS h d (nmP h d (p + 2)) else (false, p + 2)) else (false, p + 1)
def stT (h : owH) (d p : Nat) : Bool × Nat := if dgB h d (p + 1) then (if dgB h d (p + 2) then enS h d (opP h d (p + 3)) else (false, p + 2)) else (false, p + 1)
def stS (h : owH) (d p : Nat) : Bool × Nat := if sgI h d p = 121 then stY h d p else if sgI h d p = 107 then stK h d p else if sgI h d p = 116 then stT h d p else (false, p)
/-- the statement's numbers -/
def sn0 (h : owH) (d p : Nat) : Nat := dgV h d (p + 1)
def sn1 (h : owH) (d p : Nat) : Nat := if sgI h d p = 107 then nmV h d (p + 2) else dgV h d (p + 2)
def sn2 (h : owH) (d p : Nat) : Nat := if sgI h d p = 121 then nmV h d (p + 3) else opV h d (p + 3)
theorem dg_v {h : owH} {d p : Nat} (q : dgB h d p = true) : p < hN h d ∧ dgV h d p ≤ 9 ∧ hE h d p = nI (48 + dgV h d p) ∧ hE h d p - 48 = nI (dgV h d p) := by
  have h1 := of_decide_eq_true q
  obtain ⟨k, hk, e⟩ := nI_of2 (M := 57) (n := 57) (x := hE h d p) (by decide) (fun z => absurd (Int32.lt_of_le_of_lt h1.2.1 z) (by decide)) h1.2.2
  have h48 : 48 ≤ k := by
    have := h1.2.1
    rw [e] at this
    exact (nI_leI (a := 48) (by decide) (by omega)).mp this
  have es : hE h d p - 48 = nI (k - 48) := by rw [e]; exact pk_sub (b := 48) h48
  have ev : dgV h d p = k - 48 := by unfold dgV; rw [es, nI_clamp (by omega)]
  exact ⟨h1.1, by omega, by rw [ev, e, show 48 + (k - 48) = k by omega], by rw [ev, es]⟩
theorem dg_n {h : owH} {d p : Nat} (hp : p < hN h d) (q : dgB h d p = false) : ¬ (48 ≤ hE h d p ∧ hE h d p ≤ 57) := fun z => of_decide_eq_false q ⟨hp, z⟩
theorem nmP_le {h : owH} {d p : Nat} (q : dgB h d p = true) : p + 1 ≤ nmP h d p ∧ nmP h d p ≤ hN h d ∧ nmV h d p ≤ 99 := by
  have h1 := dg_v q
  unfold nmP nmV
  cases ht : twB h d p with
  | false => simp only [Bool.false_eq_true, if_false]; omega
  | true =>
    have h2 := Bool.and_eq_true_iff.mp ht
    have h3 := dg_v h2.2
    simp only [if_true]; omega
theorem opP_le {h : owH} {d p : Nat} (hp : p ≤ hN h d) : p ≤ opP h d p ∧ opP h d p ≤ hN h d ∧ opV h d p ≤ 9 := by
  unfold opP opV
  cases hd : dgB h d p with
  | false => simp only [Bool.false_eq_true, if_false]; omega
  | true => have h1 := dg_v hd; simp only [if_true]; omega
theorem enS_ok {h : owH} {d p : Nat} (q : (enS h d p).1 = true) : (enS h d p).2 = p + 1 ∧ p < hN h d := by
  unfold enS at q ⊢
  cases he : enB h d p with
  | false => rw [he] at q; exact absurd (show false = true from q) (by decide)
  | true => rw [if_pos rfl]; exact ⟨rfl, (of_decide_eq_true he).1⟩
theorem enS_le {h : owH} {d p : Nat} (hp : p ≤ hN h d) : (enS h d p).2 ≤ hN h d := by
  unfold enS
  cases he : enB h d p with
  | false => exact hp
  | true => have := (of_decide_eq_true he).1; show p + 1 ≤ _; omega
theorem sg_lt {h : owH} {d p : Nat} (q : sgI h d p ≠ 0) : p < hN h d := by
  unfold sgI at q
  by_cases c : p < hN h d
  · exact c
  · rw [if_neg c] at q; exact absurd rfl q
/-- a statement that is one: it is behind its place, within the text -/
theorem stS_ok {h : owH} {d p : Nat} (q : (stS h d p).1 = true) : p < hN h d ∧ p + 4 ≤ (stS h d p).2 ∧ (stS h d p).2 ≤ hN h d ∧ (sgI h d p = 121 ∨ sgI h d p = 107 ∨ sgI h d p = 116) ∧ sn0 h d p ≤ 9 ∧ sn1 h d p ≤ 99 ∧ sn2 h d p ≤ 99 ∨ (stS h d p).1 = false := by
  unfold stS at q ⊢
  by_cases c1 : sgI h d p = 121
  · rw [if_pos c1] at q ⊢
    have hl := sg_lt (h := h) (d := d) (p := p) (by rw [c1]; decide)
    unfold stY at q ⊢
    cases d1 : dgB h d (p + 1) with
    | false => exact Or.inr rfl
    | true =>
      cases d2 : dgB h d (p + 2) with
      | false => exact Or.inr rfl
      | true =>
        cases d3 : dgB h d (p + 3) with
        | false => exact Or.inr rfl
        | true =>
          rw [d1, d2, d3] at q
          have e1 := dg_v d1
          have e2 := dg_v d2
          have e3 := dg_v d3
          have e4 := nmP_le d3
          have e5 := enS_ok q
          refine Or.inl ⟨hl, ?_, ?_, Or.inl c1, e1.2.1, ?_, ?_⟩
          · show p + 4 ≤ (enS h d (nmP h d (p + 3))).2; omega
          · show (enS h d (nmP h d (p + 3))).2 ≤ _; omega
          · unfold sn1; rw [if_neg (by rw [c1]; decide)]; omega
          · unfold sn2; rw [if_pos c1]; exact e4.2.2
  rw [if_neg c1] at q ⊢
  by_cases c2 : sgI h d p = 107
  · rw [if_pos c2] at q ⊢
    have hl := sg_lt (h := h) (d := d) (p := p) (by rw [c2]; decide)
    unfold stK at q ⊢
    cases d1 : dgB h d (p + 1) with
    | false => exact Or.inr rfl
    | true =>
      cases d2 : dgB h d (p + 2) with
      | false => exact Or.inr rfl
      | true =>
        rw [d1, d2] at q
        have e1 := dg_v d1
        have e2 := dg_v d2
        have e4 := nmP_le d2
        have e5 := enS_ok q
        have e6 := opP_le (h := h) (d := d) (p := p + 3) (by omega)
        refine Or.inl ⟨hl, ?_, ?_, Or.inr (Or.inl c2), e1.2.1, ?_, ?_⟩
        · show p + 4 ≤ (enS h d (nmP h d (p + 2))).2; omega
        · show (enS h d (nmP h d (p + 2))).2 ≤ _; omega
        · unfold sn1; rw [if_pos c2]; exact e4.2.2
        · unfold sn2; rw [if_neg c1]; omega
  rw [if_neg c2] at q ⊢
  by_cases c3 : sgI h d p = 116
  · rw [if_pos c3] at q ⊢
    have hl := sg_lt (h := h) (d := d) (p := p) (by rw [c3]; decide)
    unfold stT at q ⊢
    cases d1 : dgB h d (p + 1) with
    | false => exact Or.inr rfl
    | true =>
      cases d2 : dgB h d (p + 2) with
      | false => exact Or.inr rfl
      | true =>
        rw [d1, d2] at q
        have e1 := dg_v d1
        have e2 := dg_v d2
        have e4 := opP_le (h := h) (d := d) (p := p + 3) (by omega)
        have e5 := enS_ok q
        refine Or.inl ⟨hl, ?_, ?_, Or.inr (Or.inr c3), e1.2.1, ?_, ?_⟩
        · show p + 4 ≤ (enS h d (opP h d (p + 3))).2; omega
        · show (enS h d (opP h d (p + 3))).2 ≤ _; omega
        · unfold sn1; rw [if_neg c2]; omega
        · unfold sn2; rw [if_neg c1]; omega
  · rw [if_neg c3] at q ⊢
    exact absurd (show false = true from q) (by decide)
theorem stS_y {h : owH} {d p : Nat} (q : (stS h d p).1 = true) : p < hN h d ∧ p + 4 ≤ (stS h d p).2 ∧ (stS h d p).2 ≤ hN h d ∧ (sgI h d p = 121 ∨ sgI h d p = 107 ∨ sgI h d p = 116) ∧ sn0 h d p ≤ 9 ∧ sn1 h d p ≤ 99 ∧ sn2 h d p ≤ 99 := (stS_ok q).resolve_right (by rw [q]; decide)
theorem stS_le {h : owH} {d p : Nat} (hp : p ≤ hN h d) : (stS h d p).2 ≤ hN h d := by
  cases q : (stS h d p).1 with
  | true =>
    rcases stS_ok q with z | z
    · exact z.2.2.1
    · rw [q] at z; exact absurd z (by decide)
  | false =>
    unfold stS at q ⊢
    by_cases c1 : sgI h d p = 121
    · rw [if_pos c1]
      have hl := sg_lt (h := h) (d := d) (p := p) (by rw [c1]; decide)
      unfold stY
      cases d1 : dgB h d (p + 1) with
      | false => show p + 1 ≤ _; omega
      | true =>
        have e1 := dg_v d1
        cases d2 : dgB h d (p + 2) with
        | false => show p + 2 ≤ _; omega
        | true =>
          have e2 := dg_v d2
          cases d3 : dgB h d (p + 3) with
          | false => show p + 3 ≤ _; omega
          | true => exact enS_le (nmP_le d3).2.1
    rw [if_neg c1]
    by_cases c2 : sgI h d p = 107
    · rw [if_pos c2]
      have hl := sg_lt (h := h) (d := d) (p := p) (by rw [c2]; decide)
      unfold stK
      cases d1 : dgB h d (p + 1) with
      | false => show p + 1 ≤ _; omega
      | true =>
        have e1 := dg_v d1
        cases d2 : dgB h d (p + 2) with
        | false => show p + 2 ≤ _; omega
        | true => exact enS_le (nmP_le d2).2.1
    rw [if_neg c2]
    by_cases c3 : sgI h d p = 116
    · rw [if_pos c3]
      have hl := sg_lt (h := h) (d := d) (p := p) (by rw [c3]; decide)
      unfold stT
      cases d1 : dgB h d (p + 1) with
      | false => show p + 1 ≤ _; omega
      | true =>
        have e1 := dg_v d1
        cases d2 : dgB h d (p + 2) with
        | false => show p + 2 ≤ _; omega
        | true => have e2 := dg_v d2; exact enS_le (opP_le (by omega)).2.1
    · rw [if_neg c3]; exact hp
/-! what a statement tells -/
def adW (b : owK) (x0 x1 x2 : Nat) : owK := (aN b + 1, fun w => if w = aN b then (x0, x1, x2) else b.2.1 w, b.2.2)
def adC (b : owK) (x0 x1 : Nat) : owK := (aN b, b.2.1, aC b + 1, fun c => if c = aC b then (x0, x1, x0) else b.2.2.2.1 c, b.2.2.2.2)
def adT (b : owK) (k x0 x1 : Nat) : owK := (aN b, b.2.1, aC b, b.2.2.2.1, fun k2 w => if k2 = k ∧ w = x0 then x1 + 1 else b.2.2.2.2 k2 w)
def tfB (h : owH) (d p : Nat) (b : owK) : Bool := if sgI h d p = 121 then decide (sn0 h d p ≤ 7 ∧ 1 ≤ sn2 h d p ∧ aN b < 10) else if sgI h d p = 107 then decide (sn0 h d p < aN b ∧ sn1 h d p ≤ 50 ∧ aC b < 8) else decide (sn0 h d p < aN b ∧ sn1 h d p < aN b)
def tfA (h : owH) (d p : Nat) (b : owK) : owK := if sgI h d p = 121 then adW b (sn0 h d p) (sn1 h d p) (sn2 h d p) else if sgI h d p = 107 then adC b (sn0 h d p) (sn1 h d p) else adT b (sn2 h d p) (sn0 h d p) (sn1 h d p)
/-- all statements read: how many, or where it fails -/
def p1R (h : owH) (d : Nat) : Nat → Nat → Nat → Bool × Nat
  | 0, _, c => (true, c)
  | f + 1, p, c => if (stS h d p).1 then (if (stS h d p).2 < hN h d then p1R h d f (stS h d p).2 (c + 1) else (true, c + 1)) else (false, (stS h d p).2)
/-- all statements taken: or the first that doesn't fit -/
def p2R (h : owH) (d : Nat) : Nat → Nat → owK → Option Nat × owK
  | 0, _, b => (none, b)
  | f + 1, p, b => if p < hN h d then (if tfB h d p b then p2R h d f (stS h d p).2 (tfA h d p b) else (some p, b)) else (none, b)
def gpA (h : owH) (d : Nat) (a : owK) : Bool := (p1R h d 101 0 0).1 && (p2R h d 101 0 a).1.isNone
def gpI (h : owH) (d : Nat) (a : owK) : Int32 := if (p1R h d 101 0 0).1 then (match (p2R h d 101 0 a).1 with | some m => -2000 - nI m | none => nI (p1R h d 101 0 0).2) else -1000 - nI (p1R h d 101 0 0).2
def groupI (a : owK) (h : owH) (x : Int32) : Int32 := if isD x = true then (if sortRef h x.toNatClampNeg 0 = 0 then gpI h x.toNatClampNeg a else sortRef h x.toNatClampNeg 0) else -1
def groupB (a : owK) (h : owH) (x : Int32) : Bool := isD x && (decide (sortRef h x.toNatClampNeg 0 = 0) && gpA h x.toNatClampNeg a)
def groupA (a : owK) (h : owH) (x : Int32) : owK := if groupB a h x = true then (p2R h x.toNatClampNeg 101 0 a).2 else a
