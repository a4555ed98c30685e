/-- a shelf: 0 nothing, 1 a way, 2 a row; the row's sort, size, elements; the way's kind, number, figure -/
abbrev owH : Type := Nat → Nat × Nat × Nat × (Nat → Int32) × Nat × Nat × Nat
def hK (h : owH) (d : Nat) : Nat := (h d).1
def hS (h : owH) (d : Nat) : Nat := (h d).2.1
def hN (h : owH) (d : Nat) : Nat := (h d).2.2.1
def hE (h : owH) (d : Nat) : Nat → Int32 := (h d).2.2.2.1
def hW (h : owH) (d : Nat) : Nat := (h d).2.2.2.2.1
def hn (h : owH) (d : Nat) : Nat := (h d).2.2.2.2.2.1
def hf (h : owH) (d : Nat) : Nat := (h d).2.2.2.2.2.2
def RS (A : owF) (Y : Nat → Nat → Nat → Option Nat) (P : Nat → Option owW) (d : Nat) (h : owH) : Prop :=
  (hK h d = 0 ∧ Y 3 d 0 = none ∧ A 3 d 1 = -1) ∨
  (hK h d = 1 ∧ (∃ ad wt, Y 3 d 0 = some ad ∧ P ad = some (hW h d, nI (hn h d), nI (hf h d), wt)) ∧ hW h d < 8 ∧ hf h d ≤ 9 ∧ hn h d < 10 ∧ A 3 d 1 = -1) ∨
  (hK h d = 2 ∧ Y 3 d 0 = none ∧ A 3 d 1 = nI (hS h d) ∧ hS h d ≤ 2 ∧ A 3 d 2 = nI (hN h d) ∧ hN h d ≤ 100 ∧ ∀ j, j < 100 → A 16 d j = hE h d j)
/-- nothing but shelf d has changed -/
def dfr (d : Nat) (A A2 : owF) : Prop := ∀ t k c, ¬ (k = d ∧ (t = 3 ∨ t = 16)) → A2 t k c = A t k c
def dyf (d : Nat) (Y Y2 : Nat → Nat → Nat → Option Nat) : Prop := ∀ t k c, ¬ (k = d ∧ t = 3) → Y2 t k c = Y t k c
theorem dfr_rf {d : Nat} {A : owF} : dfr d A A := fun _ _ _ _ => rfl
theorem dyf_rf {d : Nat} {Y : Nat → Nat → Nat → Option Nat} : dyf d Y Y := fun _ _ _ _ => rfl
theorem dfr_up {d t c : Nat} {v : Int32} {A A2 A3 : owF} (h : dfr d A A2) (e : A3 = up3 A2 t d c v) (ht : t = 3 ∨ t = 16) : dfr d A A3 := fun t2 k c2 hn => by
  rw [← h t2 k c2 hn, e]
  exact if_neg (fun q => hn ⟨q.2.1, by rw [q.1]; exact ht⟩)
theorem dyf_up {d c : Nat} {v : Option Nat} {A A2 A3 : Nat → Nat → Nat → Option Nat} (h : dyf d A A2) (e : A3 = up3 A2 3 d c v) : dyf d A A3 := fun t2 k c2 hn => by
  rw [← h t2 k c2 hn, e]
  exact if_neg (fun q => hn ⟨q.2.1, q.1⟩)
theorem RX.shelf {A A2 : owF} {Y Y2 : Nat → Nat → Nat → Option Nat} {P : Nat → Option owW} {d i : Nat} {a : owK} (h : RX A Y P i a) (hs : dfr d A A2) (hy : dyf d Y Y2) : RX A2 Y2 P i a := by
  have e : ∀ t c, t ≠ 3 → t ≠ 16 → A2 t i c = A t i c := fun t c h1 h2 => hs t i c (fun q => by rcases q.2 with z | z; exact h1 z; exact h2 z)
  have ey : ∀ c, Y2 15 i c = Y 15 i c := fun c => hy 15 i c (fun q => absurd q.2 (by decide))
  refine ⟨by rw [e 1 1 (by decide) (by decide)]; exact h.1, by rw [e 1 5 (by decide) (by decide)]; exact h.2.1, fun w hw => ?_, fun c hc => ?_, fun j hj => by rw [e 13 j (by decide) (by decide)]; exact h.2.2.2.2 j hj⟩
  · rw [ey]; exact h.2.2.1 w hw
  · rw [e 10 c (by decide) (by decide), e 12 c (by decide) (by decide), e 11 c (by decide) (by decide)]; exact h.2.2.2.1 c hc
theorem RS.keep {A A2 : owF} {Y Y2 : Nat → Nat → Nat → Option Nat} {P : Nat → Option owW} {d k : Nat} {h h2 : owH} (hr : RS A Y P k h) (hs : dfr d A A2) (hy : dyf d Y Y2) (hk : k ≠ d) (e2 : h2 k = h k) : RS A2 Y2 P k h2 := by
  have e : ∀ t c, A2 t k c = A t k c := fun t c => hs t k c (fun q => hk q.1)
  have ey : Y2 3 k 0 = Y 3 k 0 := hy 3 k 0 (fun q => hk q.1)
  unfold RS at hr ⊢
  have f1 : hK h2 k = hK h k := congrArg (fun q => q.1) e2
  have f2 : hS h2 k = hS h k := congrArg (fun q => q.2.1) e2
  have f3 : hN h2 k = hN h k := congrArg (fun q => q.2.2.1) e2
  have f4 : hE h2 k = hE h k := congrArg (fun q => q.2.2.2.1) e2
  have f5 : hW h2 k = hW h k := congrArg (fun q => q.2.2.2.2.1) e2
  have f6 : hn h2 k = hn h k := congrArg (fun q => q.2.2.2.2.2.1) e2
  have f7 : hf h2 k = hf h k := congrArg (fun q => q.2.2.2.2.2.2) e2
  rw [f1, f2, f3, f4, f5, f6, f7, ey]
  simp only [e]
  exact hr
def rowRef (h : owH) (d : Nat) : Int32 := if hK h d = 0 then -11 else if hK h d = 2 then 0 else -12
def sortRef (h : owH) (d so : Nat) : Int32 := if hK h d = 0 then -11 else if hK h d = 2 ∧ hS h d = so then 0 else -12
def wayRef (h : owH) (d : Nat) : Int32 := if hK h d = 0 then -11 else -12
def placeB (h : owH) (d : Nat) (x : Int32) : Bool := decide (0 ≤ x ∧ x < nI (hN h d))
def placesB (h : owH) (d : Nat) (x n : Int32) : Bool := decide (0 ≤ x ∧ 0 ≤ n ∧ x ≤ nI (hN h d) ∧ n ≤ nI (hN h d) - x)
def getI (h : owH) (d : Nat) (x : Int32) : Int32 := if placeB h d x then hE h d x.toNatClampNeg else 0
def leastI (so : Nat) : Int32 := if so = 0 then -128 else if so = 1 then -32768 else -2147483648
def narI (so : Nat) (v : Int32) : Int32 := if so = 0 then v.toInt8.toInt32 else if so = 1 then v.toInt16.toInt32 else v
theorem getI_in {h : owH} {d k : Nat} (hs : hN h d ≤ 100) (hk : k < hN h d) : getI h d (nI k) = hE h d k := by
  unfold getI placeB
  rw [if_pos (decide_eq_true ⟨nI_pos' (by omega), nI_lt hk (by omega)⟩), nI_clamp (by omega)]
theorem getI_out {h : owH} {d k : Nat} (hs : hN h d ≤ 100) (hk : hN h d ≤ k) (h2 : k < 2 ^ 31) : getI h d (nI k) = 0 := by
  unfold getI placeB
  rw [if_neg (by simp; intro _; exact nI_le hk h2)]
set_option maxRecDepth 100000 in
set_option maxHeartbeats 4000000 in
theorem k_isEmpty_0 (l : Launch) (G : owG) {A S Z B T V : owF} {J : Nat → Nat → Int64} {Y : Nat → Nat → Nat → Option Nat} {P : Nat → Option owW} (d : Nat) (hd : d < owN 3) (h : owH) (hc : hK h d = 0 ∧ Y 3 d 0 = none ∧ A 3 d 1 = -1)  : Ct l G yX6_isEmpty cX6_isEmpty 1 ((some .boolean)) 0 0 0 [.ref (gK G 3 d)] (A, S, Z, B, T, V, J, Y, P) (qI (fun r σ => r = bI (decide (hK h d = 0)) ∧ σ = (A, S, Z, B, T, V, J, Y, P))) := by
  refine ct_of (by decide +kernel) (Nat.le_of_ble_eq_true rfl) ?_
  obtain ⟨hK0, hY0, hA0⟩ := hc
  show Wm l G cX6_isEmpty 1 RX6 ((some .boolean)) (rmk 0 0 0) (fun _ => True) (QfM G (qI (fun r σ => r = bI (decide (hK h d = 0)) ∧ σ = (A, S, Z, B, T, V, J, Y, P))) 0 0) 0 [(0, .ref (gK G 3 d))] [] (A, S, Z, B, T, V, J, Y, P) 0 0
  refine m_aload_n 0 rfl rfl dX6_isEmpty_0 ?_
  refine gf_X6_19 hd dX6_isEmpty_1 ?_
  refine m_topr hY0 ?_
  refine m_ifnonnullN dX6_isEmpty_4 ?_
  refine m_aload_n 0 rfl rfl dX6_isEmpty_7 ?_
  refine gf_X6_9 hd dX6_isEmpty_8 ?_
  refine m_topi hA0 ?_
  refine m_iconst (-1) dX6_isEmpty_11 rfl ?_
  refine m_icmp_ne 19 dX6_isEmpty_12 (by decide) (fun c1 => absurd c1 (by decide)) (fun _ => ?_)
  refine m_iconst 1 dX6_isEmpty_15 rfl ?_
  refine m_goto 20 dX6_isEmpty_16 (by decide) ?_
  exact m_zret dX6_isEmpty_20 (Nat.le_refl _) (Nat.le_refl _) nar1 (⟨by rw [hK0]; rfl, rfl⟩)
set_option maxRecDepth 100000 in
set_option maxHeartbeats 4000000 in
theorem k_isEmpty_1 (l : Launch) (G : owG) {A S Z B T V : owF} {J : Nat → Nat → Int64} {Y : Nat → Nat → Nat → Option Nat} {P : Nat → Option owW} (d : Nat) (hd : d < owN 3) (h : owH) (hc : hK h d = 1 ∧ (∃ ad wt, Y 3 d 0 = some ad ∧ P ad = some (hW h d, nI (hn h d), nI (hf h d), wt)) ∧ hW h d < 8 ∧ hf h d ≤ 9 ∧ hn h d < 10 ∧ A 3 d 1 = -1)  : Ct l G yX6_isEmpty cX6_isEmpty 1 ((some .boolean)) 0 0 0 [.ref (gK G 3 d)] (A, S, Z, B, T, V, J, Y, P) (qI (fun r σ => r = bI (decide (hK h d = 0)) ∧ σ = (A, S, Z, B, T, V, J, Y, P))) := by
  refine ct_of (by decide +kernel) (Nat.le_of_ble_eq_true rfl) ?_
  obtain ⟨hK0, ⟨ad, wt, hY0, hP0⟩, hk8, hf9, hn10, hA0⟩ := hc
  show Wm l G cX6_isEmpty 1 RX6 ((some .boolean)) (rmk 0 0 0) (fun _ => True) (QfM G (qI (fun r σ => r = bI (decide (hK h d = 0)) ∧ σ = (A, S, Z, B, T, V, J, Y, P))) 0 0) 0 [(0, .ref (gK G 3 d))] [] (A, S, Z, B, T, V, J, Y, P) 0 0
  refine m_aload_n 0 rfl rfl dX6_isEmpty_0 ?_
  refine gf_X6_19 hd dX6_isEmpty_1 ?_
  refine m_topr hY0 ?_
  refine m_ifnonnull 19 dX6_isEmpty_4 (by decide) ?_
  refine m_iconst 0 dX6_isEmpty_19 rfl ?_
  exact m_zret dX6_isEmpty_20 (Nat.le_refl _) (Nat.le_refl _) nar0 (⟨by rw [hK0]; rfl, rfl⟩)
set_option maxRecDepth 100000 in
set_option maxHeartbeats 4000000 in
theorem k_isEmpty_2 (l : Launch) (G : owG) {A S Z B T V : owF} {J : Nat → Nat → Int64} {Y : Nat → Nat → Nat → Option Nat} {P : Nat → Option owW} (d : Nat) (hd : d < owN 3) (h : owH) (hc : hK h d = 2 ∧ Y 3 d 0 = none ∧ A 3 d 1 = nI (hS h d) ∧ hS h d ≤ 2 ∧ A 3 d 2 = nI (hN h d) ∧ hN h d ≤ 100 ∧ ∀ j, j < 100 → A 16 d j = hE h d j)  : Ct l G yX6_isEmpty cX6_isEmpty 1 ((some .boolean)) 0 0 0 [.ref (gK G 3 d)] (A, S, Z, B, T, V, J, Y, P) (qI (fun r σ => r = bI (decide (hK h d = 0)) ∧ σ = (A, S, Z, B, T, V, J, Y, P))) := by
  refine ct_of (by decide +kernel) (Nat.le_of_ble_eq_true rfl) ?_
  obtain ⟨hK0, hY0, hA0, hs2, hA2, hn100, hE0⟩ := hc
  show Wm l G cX6_isEmpty 1 RX6 ((some .boolean)) (rmk 0 0 0) (fun _ => True) (QfM G (qI (fun r σ => r = bI (decide (hK h d = 0)) ∧ σ = (A, S, Z, B, T, V, J, Y, P))) 0 0) 0 [(0, .ref (gK G 3 d))] [] (A, S, Z, B, T, V, J, Y, P) 0 0
  refine m_aload_n 0 rfl rfl dX6_isEmpty_0 ?_
  refine gf_X6_19 hd dX6_isEmpty_1 ?_
  refine m_topr hY0 ?_
  refine m_ifnonnullN dX6_isEmpty_4 ?_
  refine m_aload_n 0 rfl rfl dX6_isEmpty_7 ?_
  refine gf_X6_9 hd dX6_isEmpty_8 ?_
  refine m_topi hA0 ?_
  refine m_iconst (-1) dX6_isEmpty_11 rfl ?_
  refine m_icmp_ne 19 dX6_isEmpty_12 (by decide) (fun _ => ?_) (fun c1 => absurd c1 (nI_neg (by omega) (by decide)))
  refine m_iconst 0 dX6_isEmpty_19 rfl ?_
  exact m_zret dX6_isEmpty_20 (Nat.le_refl _) (Nat.le_refl _) nar0 (⟨by rw [hK0]; rfl, rfl⟩)
theorem k_isEmpty (l : Launch) (G : owG) {A S Z B T V : owF} {J : Nat → Nat → Int64} {Y : Nat → Nat → Nat → Option Nat} {P : Nat → Option owW} (d : Nat) (hd : d < owN 3) (h : owH) (hRS : RS A Y P d h)  : Ct l G yX6_isEmpty cX6_isEmpty 1 ((some .boolean)) 0 0 0 [.ref (gK G 3 d)] (A, S, Z, B, T, V, J, Y, P) (qI (fun r σ => r = bI (decide (hK h d = 0)) ∧ σ = (A, S, Z, B, T, V, J, Y, P))) := by
  rcases hRS with hc | hc | hc
  · exact k_isEmpty_0 l G d hd h hc 
  · exact k_isEmpty_1 l G d hd h hc 
  · exact k_isEmpty_2 l G d hd h hc 
set_option maxRecDepth 100000 in
set_option maxHeartbeats 4000000 in
theorem k_rowRefusal_0 (l : Launch) (G : owG) {A S Z B T V : owF} {J : Nat → Nat → Int64} {Y : Nat → Nat → Nat → Option Nat} {P : Nat → Option owW} (d : Nat) (hd : d < owN 3) (h : owH) (hc : hK h d = 0 ∧ Y 3 d 0 = none ∧ A 3 d 1 = -1)  : Ct l G yX6_rowRefusal cX6_rowRefusal 1 ((some .int)) 1 0 0 [.ref (gK G 3 d)] (A, S, Z, B, T, V, J, Y, P) (qI (fun r σ => r = rowRef h d ∧ σ = (A, S, Z, B, T, V, J, Y, P))) := by
  refine ct_of (by decide +kernel) (Nat.le_of_ble_eq_true rfl) ?_
  have hRS : RS A Y P d h := Or.inl hc
  obtain ⟨hK0, hY0, hA0⟩ := hc
  show Wm l G cX6_rowRefusal 1 RX6 ((some .int)) (rmk 1 0 0) (fun _ => True) (QfM G (qI (fun r σ => r = rowRef h d ∧ σ = (A, S, Z, B, T, V, J, Y, P))) 0 0) 0 [(0, .ref (gK G 3 d))] [] (A, S, Z, B, T, V, J, Y, P) 0 0
  refine m_aload_n 0 rfl rfl dX6_rowRefusal_0 ?_
  refine m_callVi cv_X6_23 [] [] (k_isEmpty l G d hd h hRS) hd (ce_3 G _ _ _ _ _ _ _ _ _ _) rfl rfl rfl ⟨Nat.le_of_ble_eq_true rfl, Nat.le_of_ble_eq_true rfl⟩ (Nat.le_of_ble_eq_true rfl) ⟨Nat.zero_le _, Nat.zero_le _⟩ dX6_rowRefusal_1 (fun xx σ2 hq => ?_)
  obtain ⟨rfl, rfl⟩ := hq
  refine m_ifeq_b 10 dX6_rowRefusal_4 (by decide) (fun c1 => ?_) (fun c1 => ?_)
  ·
    refine m_aload_n 0 rfl rfl dX6_rowRefusal_10 ?_
    refine gf_X6_9 hd dX6_rowRefusal_11 ?_
    refine m_topi hA0 ?_
    refine m_iconst (-1) dX6_rowRefusal_14 rfl ?_
    refine m_icmp_ne 23 dX6_rowRefusal_15 (by decide) (fun c2 => absurd c2 (by decide)) (fun _ => ?_)
    refine m_bipush (-12) dX6_rowRefusal_18 rfl ?_
    refine m_goto 24 dX6_rowRefusal_20 (by decide) ?_
    exact m_iret dX6_rowRefusal_24 (Nat.le_refl _) (Nat.le_refl _) (⟨by grind [rowRef, sortRef, wayRef, placeB, placesB, leastI, bI], rfl⟩)
  ·
    refine m_bipush (-11) dX6_rowRefusal_7 rfl ?_
    exact m_iret dX6_rowRefusal_9 (Nat.le_refl _) (Nat.le_refl _) (⟨by grind [rowRef, sortRef, wayRef, placeB, placesB, leastI, bI], rfl⟩)
set_option maxRecDepth 100000 in
set_option maxHeartbeats 4000000 in
theorem k_rowRefusal_1 (l : Launch) (G : owG) {A S Z B T V : owF} {J : Nat → Nat → Int64} {Y : Nat → Nat → Nat → Option Nat} {P : Nat → Option owW} (d : Nat) (hd : d < owN 3) (h : owH) (hc : hK h d = 1 ∧ (∃ ad wt, Y 3 d 0 = some ad ∧ P ad = some (hW h d, nI (hn h d), nI (hf h d), wt)) ∧ hW h d < 8 ∧ hf h d ≤ 9 ∧ hn h d < 10 ∧ A 3 d 1 = -1)  : Ct l G yX6_rowRefusal cX6_rowRefusal 1 ((some .int)) 1 0 0 [.ref (gK G 3 d)] (A, S, Z, B, T, V, J, Y, P) (qI (fun r σ => r = rowRef h d ∧ σ = (A, S, Z, B, T, V, J, Y, P))) := by
  refine ct_of (by decide +kernel) (Nat.le_of_ble_eq_true rfl) ?_
  have hRS : RS A Y P d h := Or.inr <| Or.inl hc
  obtain ⟨hK0, ⟨ad, wt, hY0, hP0⟩, hk8, hf9, hn10, hA0⟩ := hc
  show Wm l G cX6_rowRefusal 1 RX6 ((some .int)) (rmk 1 0 0) (fun _ => True) (QfM G (qI (fun r σ => r = rowRef h d ∧ σ = (A, S, Z, B, T, V, J, Y, P))) 0 0) 0 [(0, .ref (gK G 3 d))] [] (A, S, Z, B, T, V, J, Y, P) 0 0
  refine m_aload_n 0 rfl rfl dX6_rowRefusal_0 ?_
  refine m_callVi cv_X6_23 [] [] (k_isEmpty l G d hd h hRS) hd (ce_3 G _ _ _ _ _ _ _ _ _ _) rfl rfl rfl ⟨Nat.le_of_ble_eq_true rfl, Nat.le_of_ble_eq_true rfl⟩ (Nat.le_of_ble_eq_true rfl) ⟨Nat.zero_le _, Nat.zero_le _⟩ dX6_rowRefusal_1 (fun xx σ2 hq => ?_)
  obtain ⟨rfl, rfl⟩ := hq
  refine m_ifeq_b 10 dX6_rowRefusal_4 (by decide) (fun c1 => ?_) (fun c1 => ?_)
  ·
    refine m_aload_n 0 rfl rfl dX6_rowRefusal_10 ?_
    refine gf_X6_9 hd dX6_rowRefusal_11 ?_
    refine m_topi hA0 ?_
    refine m_iconst (-1) dX6_rowRefusal_14 rfl ?_
    refine m_icmp_ne 23 dX6_rowRefusal_15 (by decide) (fun c2 => absurd c2 (by decide)) (fun _ => ?_)
    refine m_bipush (-12) dX6_rowRefusal_18 rfl ?_
    refine m_goto 24 dX6_rowRefusal_20 (by decide) ?_
    exact m_iret dX6_rowRefusal_24 (Nat.le_refl _) (Nat.le_refl _) (⟨by grind [rowRef, sortRef, wayRef, placeB, placesB, leastI, bI], rfl⟩)
  ·
    refine m_bipush (-11) dX6_rowRefusal_7 rfl ?_
    exact m_iret dX6_rowRefusal_9 (Nat.le_refl _) (Nat.le_refl _) (⟨by grind [rowRef, sortRef, wayRef, placeB, placesB, leastI, bI], rfl⟩)
set_option maxRecDepth 100000 in
set_option maxHeartbeats 4000000 in
theorem k_rowRefusal_2 (l : Launch) (G : owG) {A S Z B T V : owF} {J : Nat → Nat → Int64} {Y : Nat → Nat → Nat → Option Nat} {P : Nat → Option owW} (d : Nat) (hd : d < owN 3) (h : owH) (hc : hK h d = 2 ∧ Y 3 d 0 = none ∧ A 3 d 1 = nI (hS h d) ∧ hS h d ≤ 2 ∧ A 3 d 2 = nI (hN h d) ∧ hN h d ≤ 100 ∧ ∀ j, j < 100 → A 16 d j = hE h d j)  : Ct l G yX6_rowRefusal cX6_rowRefusal 1 ((some .int)) 1 0 0 [.ref (gK G 3 d)] (A, S, Z, B, T, V, J, Y, P) (qI (fun r σ => r = rowRef h d ∧ σ = (A, S, Z, B, T, V, J, Y, P))) := by
  refine ct_of (by decide +kernel) (Nat.le_of_ble_eq_true rfl) ?_
  have hRS : RS A Y P d h := Or.inr <| Or.inr hc
  obtain ⟨hK0, hY0, hA0, hs2, hA2, hn100, hE0⟩ := hc
  show Wm l G cX6_rowRefusal 1 RX6 ((some .int)) (rmk 1 0 0) (fun _ => True) (QfM G (qI (fun r σ => r = rowRef h d ∧ σ = (A, S, Z, B, T, V, J, Y, P))) 0 0) 0 [(0, .ref (gK G 3 d))] [] (A, S, Z, B, T, V, J, Y, P) 0 0
  refine m_aload_n 0 rfl rfl dX6_rowRefusal_0 ?_
  refine m_callVi cv_X6_23 [] [] (k_isEmpty l G d hd h hRS) hd (ce_3 G _ _ _ _ _ _ _ _ _ _) rfl rfl rfl ⟨Nat.le_of_ble_eq_true rfl, Nat.le_of_ble_eq_true rfl⟩ (Nat.le_of_ble_eq_true rfl) ⟨Nat.zero_le _, Nat.zero_le _⟩ dX6_rowRefusal_1 (fun xx σ2 hq => ?_)
  obtain ⟨rfl, rfl⟩ := hq
  refine m_ifeq_b 10 dX6_rowRefusal_4 (by decide) (fun c1 => ?_) (fun c1 => ?_)
  ·
    refine m_aload_n 0 rfl rfl dX6_rowRefusal_10 ?_
    refine gf_X6_9 hd dX6_rowRefusal_11 ?_
    refine m_topi hA0 ?_
    refine m_iconst (-1) dX6_rowRefusal_14 rfl ?_
    refine m_icmp_ne 23 dX6_rowRefusal_15 (by decide) (fun _ => ?_) (fun c2 => absurd c2 (nI_neg (by omega) (by decide)))
    refine m_iconst 0 dX6_rowRefusal_23 rfl ?_
    exact m_iret dX6_rowRefusal_24 (Nat.le_refl _) (Nat.le_refl _) (⟨by grind [rowRef, sortRef, wayRef, placeB, placesB, leastI, bI], rfl⟩)
  ·
    refine m_bipush (-11) dX6_rowRefusal_7 rfl ?_
    exact m_iret dX6_rowRefusal_9 (Nat.le_refl _) (Nat.le_refl _) (⟨by grind [rowRef, sortRef, wayRef, placeB, placesB, leastI, bI], rfl⟩)
theorem k_rowRefusal (l : Launch) (G : owG) {A S Z B T V : owF} {J : Nat → Nat → Int64} {Y : Nat → Nat → Nat → Option Nat} {P : Nat → Option owW} (d : Nat) (hd : d < owN 3) (h : owH) (hRS : RS A Y P d h)  : Ct l G yX6_rowRefusal cX6_rowRefusal 1 ((some .int)) 1 0 0 [.ref (gK G 3 d)] (A, S, Z, B, T, V, J, Y, P) (qI (fun r σ => r = rowRef h d ∧ σ = (A, S, Z, B, T, V, J, Y, P))) := by
  rcases hRS with hc | hc | hc
  · exact k_rowRefusal_0 l G d hd h hc 
  · exact k_rowRefusal_1 l G d hd h hc 
  · exact k_rowRefusal_2 l G d hd h hc 
set_option maxRecDepth 100000 in
set_option maxHeartbeats 4000000 in
theorem k_sortRefusal_0 (l : Launch) (G : owG) {A S Z B T V : owF} {J : Nat → Nat → Int64} {Y : Nat → Nat → Nat → Option Nat} {P : Nat → Option owW} (d : Nat) (hd : d < owN 3) (h : owH) (hc : hK h d = 0 ∧ Y 3 d 0 = none ∧ A 3 d 1 = -1) (so : Nat) (hso : so ≤ 2) : Ct l G yX6_sortRefusal cX6_sortRefusal 3 ((some .int)) 2 0 0 [.ref (gK G 3 d), .int (nI (so))] (A, S, Z, B, T, V, J, Y, P) (qI (fun r σ => r = sortRef h d so ∧ σ = (A, S, Z, B, T, V, J, Y, P))) := by
  refine ct_of (by decide +kernel) (Nat.le_of_ble_eq_true rfl) ?_
  have hRS : RS A Y P d h := Or.inl hc
  obtain ⟨hK0, hY0, hA0⟩ := hc
  show Wm l G cX6_sortRefusal 3 RX6 ((some .int)) (rmk 2 0 0) (fun _ => True) (QfM G (qI (fun r σ => r = sortRef h d so ∧ σ = (A, S, Z, B, T, V, J, Y, P))) 0 0) 0 [(0, .ref (gK G 3 d)), (1, .int (nI (so)))] [] (A, S, Z, B, T, V, J, Y, P) 0 0
  refine m_aload_n 0 rfl rfl dX6_sortRefusal_0 ?_
  refine m_callVi cv_X6_27 [] [] (k_rowRefusal l G d hd h hRS) hd (ce_3 G _ _ _ _ _ _ _ _ _ _) rfl rfl rfl ⟨Nat.le_of_ble_eq_true rfl, Nat.le_of_ble_eq_true rfl⟩ (Nat.le_of_ble_eq_true rfl) ⟨Nat.zero_le _, Nat.zero_le _⟩ dX6_sortRefusal_1 (fun xx σ2 hq => ?_)
  obtain ⟨rfl, rfl⟩ := hq
  refine m_istore_n [(2, .int (rowRef h d)), (0, .ref (gK G 3 d)), (1, .int (nI (so)))] rfl (by decide) rfl dX6_sortRefusal_4 ?_
  refine m_iload_n 0 rfl rfl dX6_sortRefusal_5 ?_
  refine m_if_ne 22 dX6_sortRefusal_6 (by decide) (fun c1 => ?_) (fun c1 => ?_)
  ·
    refine m_iload_n 0 rfl rfl dX6_sortRefusal_22 ?_
    exact m_iret dX6_sortRefusal_23 (Nat.le_refl _) (Nat.le_refl _) (⟨by grind [rowRef, sortRef, wayRef, placeB, placesB, leastI, bI], rfl⟩)
  ·
    refine m_aload_n 1 rfl rfl dX6_sortRefusal_9 ?_
    refine gf_X6_9 hd dX6_sortRefusal_10 ?_
    refine m_topi hA0 ?_
    refine m_iload_n 2 rfl rfl dX6_sortRefusal_13 ?_
    refine m_icmp_eq 22 dX6_sortRefusal_14 (by decide) (fun c2 => absurd c2.symm (nI_neg (by omega) (by decide))) (fun _ => ?_)
    refine m_bipush (-12) dX6_sortRefusal_17 rfl ?_
    refine m_goto 23 dX6_sortRefusal_19 (by decide) ?_
    exact m_iret dX6_sortRefusal_23 (Nat.le_refl _) (Nat.le_refl _) (⟨by grind [rowRef, sortRef, wayRef, placeB, placesB, leastI, bI], rfl⟩)
set_option maxRecDepth 100000 in
set_option maxHeartbeats 4000000 in
theorem k_sortRefusal_1 (l : Launch) (G : owG) {A S Z B T V : owF} {J : Nat → Nat → Int64} {Y : Nat → Nat → Nat → Option Nat} {P : Nat → Option owW} (d : Nat) (hd : d < owN 3) (h : owH) (hc : hK h d = 1 ∧ (∃ ad wt, Y 3 d 0 = some ad ∧ P ad = some (hW h d, nI (hn h d), nI (hf h d), wt)) ∧ hW h d < 8 ∧ hf h d ≤ 9 ∧ hn h d < 10 ∧ A 3 d 1 = -1) (so : Nat) (hso : so ≤ 2) : Ct l G yX6_sortRefusal cX6_sortRefusal 3 ((some .int)) 2 0 0 [.ref (gK G 3 d), .int (nI (so))] (A, S, Z, B, T, V, J, Y, P) (qI (fun r σ => r = sortRef h d so ∧ σ = (A, S, Z, B, T, V, J, Y, P))) := by
  refine ct_of (by decide +kernel) (Nat.le_of_ble_eq_true rfl) ?_
  have hRS : RS A Y P d h := Or.inr <| Or.inl hc
  obtain ⟨hK0, ⟨ad, wt, hY0, hP0⟩, hk8, hf9, hn10, hA0⟩ := hc
  show Wm l G cX6_sortRefusal 3 RX6 ((some .int)) (rmk 2 0 0) (fun _ => True) (QfM G (qI (fun r σ => r = sortRef h d so ∧ σ = (A, S, Z, B, T, V, J, Y, P))) 0 0) 0 [(0, .ref (gK G 3 d)), (1, .int (nI (so)))] [] (A, S, Z, B, T, V, J, Y, P) 0 0
  refine m_aload_n 0 rfl rfl dX6_sortRefusal_0 ?_
  refine m_callVi cv_X6_27 [] [] (k_rowRefusal l G d hd h hRS) hd (ce_3 G _ _ _ _ _ _ _ _ _ _) rfl rfl rfl ⟨Nat.le_of_ble_eq_true rfl, Nat.le_of_ble_eq_true rfl⟩ (Nat.le_of_ble_eq_true rfl) ⟨Nat.zero_le _, Nat.zero_le _⟩ dX6_sortRefusal_1 (fun xx σ2 hq => ?_)
  obtain ⟨rfl, rfl⟩ := hq
  refine m_istore_n [(2, .int (rowRef h d)), (0, .ref (gK G 3 d)), (1, .int (nI (so)))] rfl (by decide) rfl dX6_sortRefusal_4 ?_
  refine m_iload_n 0 rfl rfl dX6_sortRefusal_5 ?_
  refine m_if_ne 22 dX6_sortRefusal_6 (by decide) (fun c1 => ?_) (fun c1 => ?_)
  ·
    refine m_iload_n 0 rfl rfl dX6_sortRefusal_22 ?_
    exact m_iret dX6_sortRefusal_23 (Nat.le_refl _) (Nat.le_refl _) (⟨by grind [rowRef, sortRef, wayRef, placeB, placesB, leastI, bI], rfl⟩)
  ·
    refine m_aload_n 1 rfl rfl dX6_sortRefusal_9 ?_
    refine gf_X6_9 hd dX6_sortRefusal_10 ?_
    refine m_topi hA0 ?_
    refine m_iload_n 2 rfl rfl dX6_sortRefusal_13 ?_
    refine m_icmp_eq 22 dX6_sortRefusal_14 (by decide) (fun c2 => absurd c2.symm (nI_neg (by omega) (by decide))) (fun _ => ?_)
    refine m_bipush (-12) dX6_sortRefusal_17 rfl ?_
    refine m_goto 23 dX6_sortRefusal_19 (by decide) ?_
    exact m_iret dX6_sortRefusal_23 (Nat.le_refl _) (Nat.le_refl _) (⟨by grind [rowRef, sortRef, wayRef, placeB, placesB, leastI, bI], rfl⟩)
set_option maxRecDepth 100000 in
set_option maxHeartbeats 4000000 in
theorem k_sortRefusal_2 (l : Launch) (G : owG) {A S Z B T V : owF} {J : Nat → Nat → Int64} {Y : Nat → Nat → Nat → Option Nat} {P : Nat → Option owW} (d : Nat) (hd : d < owN 3) (h : owH) (hc : hK h d = 2 ∧ Y 3 d 0 = none ∧ A 3 d 1 = nI (hS h d) ∧ hS h d ≤ 2 ∧ A 3 d 2 = nI (hN h d) ∧ hN h d ≤ 100 ∧ ∀ j, j < 100 → A 16 d j = hE h d j) (so : Nat) (hso : so ≤ 2) : Ct l G yX6_sortRefusal cX6_sortRefusal 3 ((some .int)) 2 0 0 [.ref (gK G 3 d), .int (nI (so))] (A, S, Z, B, T, V, J, Y, P) (qI (fun r σ => r = sortRef h d so ∧ σ = (A, S, Z, B, T, V, J, Y, P))) := by
  refine ct_of (by decide +kernel) (Nat.le_of_ble_eq_true rfl) ?_
  have hRS : RS A Y P d h := Or.inr <| Or.inr hc
  obtain ⟨hK0, hY0, hA0, hs2, hA2, hn100, hE0⟩ := hc
  show Wm l G cX6_sortRefusal 3 RX6 ((some .int)) (rmk 2 0 0) (fun _ => True) (QfM G (qI (fun r σ => r = sortRef h d so ∧ σ = (A, S, Z, B, T, V, J, Y, P))) 0 0) 0 [(0, .ref (gK G 3 d)), (1, .int (nI (so)))] [] (A, S, Z, B, T, V, J, Y, P) 0 0
  refine m_aload_n 0 rfl rfl dX6_sortRefusal_0 ?_
  refine m_callVi cv_X6_27 [] [] (k_rowRefusal l G d hd h hRS) hd (ce_3 G _ _ _ _ _ _ _ _ _ _) rfl rfl rfl ⟨Nat.le_of_ble_eq_true rfl, Nat.le_of_ble_eq_true rfl⟩ (Nat.le_of_ble_eq_true rfl) ⟨Nat.zero_le _, Nat.zero_le _⟩ dX6_sortRefusal_1 (fun xx σ2 hq => ?_)
  obtain ⟨rfl, rfl⟩ := hq
  refine m_istore_n [(2, .int (rowRef h d)), (0, .ref (gK G 3 d)), (1, .int (nI (so)))] rfl (by decide) rfl dX6_sortRefusal_4 ?_
  refine m_iload_n 0 rfl rfl dX6_sortRefusal_5 ?_
  refine m_if_ne 22 dX6_sortRefusal_6 (by decide) (fun c1 => ?_) (fun c1 => ?_)
  ·
    refine m_iload_n 0 rfl rfl dX6_sortRefusal_22 ?_
    exact m_iret dX6_sortRefusal_23 (Nat.le_refl _) (Nat.le_refl _) (⟨by grind [rowRef, sortRef, wayRef, placeB, placesB, leastI, bI], rfl⟩)
  ·
    refine m_aload_n 1 rfl rfl dX6_sortRefusal_9 ?_
    refine gf_X6_9 hd dX6_sortRefusal_10 ?_
    refine m_topi hA0 ?_
    refine m_iload_n 2 rfl rfl dX6_sortRefusal_13 ?_
    refine m_icmpn_eq (hS h d) so 22 (by omega) (by omega) dX6_sortRefusal_14 (by decide) (fun c2 => ?_) (fun c2 => ?_)
    ·
      refine m_iload_n 0 rfl rfl dX6_sortRefusal_22 ?_
      exact m_iret dX6_sortRefusal_23 (Nat.le_refl _) (Nat.le_refl _) (⟨by grind [rowRef, sortRef, wayRef, placeB, placesB, leastI, bI], rfl⟩)
    ·
      refine m_bipush (-12) dX6_sortRefusal_17 rfl ?_
      refine m_goto 23 dX6_sortRefusal_19 (by decide) ?_
      exact m_iret dX6_sortRefusal_23 (Nat.le_refl _) (Nat.le_refl _) (⟨by grind [rowRef, sortRef, wayRef, placeB, placesB, leastI, bI], rfl⟩)
theorem k_sortRefusal (l : Launch) (G : owG) {A S Z B T V : owF} {J : Nat → Nat → Int64} {Y : Nat → Nat → Nat → Option Nat} {P : Nat → Option owW} (d : Nat) (hd : d < owN 3) (h : owH) (hRS : RS A Y P d h) (so : Nat) (hso : so ≤ 2) : Ct l G yX6_sortRefusal cX6_sortRefusal 3 ((some .int)) 2 0 0 [.ref (gK G 3 d), .int (nI (so))] (A, S, Z, B, T, V, J, Y, P) (qI (fun r σ => r = sortRef h d so ∧ σ = (A, S, Z, B, T, V, J, Y, P))) := by
  rcases hRS with hc | hc | hc
  · exact k_sortRefusal_0 l G d hd h hc so hso
  · exact k_sortRefusal_1 l G d hd h hc so hso
  · exact k_sortRefusal_2 l G d hd h hc so hso
set_option maxRecDepth 100000 in
set_option maxHeartbeats 4000000 in
theorem k_wayRefusal_0 (l : Launch) (G : owG) {A S Z B T V : owF} {J : Nat → Nat → Int64} {Y : Nat → Nat → Nat → Option Nat} {P : Nat → Option owW} (d : Nat) (hd : d < owN 3) (h : owH) (hc : hK h d = 0 ∧ Y 3 d 0 = none ∧ A 3 d 1 = -1)  : Ct l G yX6_wayRefusal cX6_wayRefusal 1 ((some .int)) 1 0 0 [.ref (gK G 3 d)] (A, S, Z, B, T, V, J, Y, P) (qI (fun r σ => r = wayRef h d ∧ σ = (A, S, Z, B, T, V, J, Y, P))) := by
  refine ct_of (by decide +kernel) (Nat.le_of_ble_eq_true rfl) ?_
  have hRS : RS A Y P d h := Or.inl hc
  obtain ⟨hK0, hY0, hA0⟩ := hc
  show Wm l G cX6_wayRefusal 1 RX6 ((some .int)) (rmk 1 0 0) (fun _ => True) (QfM G (qI (fun r σ => r = wayRef h d ∧ σ = (A, S, Z, B, T, V, J, Y, P))) 0 0) 0 [(0, .ref (gK G 3 d))] [] (A, S, Z, B, T, V, J, Y, P) 0 0
  refine m_aload_n 0 rfl rfl dX6_wayRefusal_0 ?_
  refine m_callVi cv_X6_23 [] [] (k_isEmpty l G d hd h hRS) hd (ce_3 G _ _ _ _ _ _ _ _ _ _) rfl rfl rfl ⟨Nat.le_of_ble_eq_true rfl, Nat.le_of_ble_eq_true rfl⟩ (Nat.le_of_ble_eq_true rfl) ⟨Nat.zero_le _, Nat.zero_le _⟩ dX6_wayRefusal_1 (fun xx σ2 hq => ?_)
  obtain ⟨rfl, rfl⟩ := hq
  refine m_ifeq_b 12 dX6_wayRefusal_4 (by decide) (fun c1 => ?_) (fun c1 => ?_)
  ·
    refine m_bipush (-12) dX6_wayRefusal_12 rfl ?_
    exact m_iret dX6_wayRefusal_14 (Nat.le_refl _) (Nat.le_refl _) (⟨by grind [rowRef, sortRef, wayRef, placeB, placesB, leastI, bI], rfl⟩)
  ·
    refine m_bipush (-11) dX6_wayRefusal_7 rfl ?_
    refine m_goto 14 dX6_wayRefusal_9 (by decide) ?_
    exact m_iret dX6_wayRefusal_14 (Nat.le_refl _) (Nat.le_refl _) (⟨by grind [rowRef, sortRef, wayRef, placeB, placesB, leastI, bI], rfl⟩)
set_option maxRecDepth 100000 in
set_option maxHeartbeats 4000000 in
theorem k_wayRefusal_1 (l : Launch) (G : owG) {A S Z B T V : owF} {J : Nat → Nat → Int64} {Y : Nat → Nat → Nat → Option Nat} {P : Nat → Option owW} (d : Nat) (hd : d < owN 3) (h : owH) (hc : hK h d = 1 ∧ (∃ ad wt, Y 3 d 0 = some ad ∧ P ad = some (hW h d, nI (hn h d), nI (hf h d), wt)) ∧ hW h d < 8 ∧ hf h d ≤ 9 ∧ hn h d < 10 ∧ A 3 d 1 = -1)  : Ct l G yX6_wayRefusal cX6_wayRefusal 1 ((some .int)) 1 0 0 [.ref (gK G 3 d)] (A, S, Z, B, T, V, J, Y, P) (qI (fun r σ => r = wayRef h d ∧ σ = (A, S, Z, B, T, V, J, Y, P))) := by
  refine ct_of (by decide +kernel) (Nat.le_of_ble_eq_true rfl) ?_
  have hRS : RS A Y P d h := Or.inr <| Or.inl hc
  obtain ⟨hK0, ⟨ad, wt, hY0, hP0⟩, hk8, hf9, hn10, hA0⟩ := hc
  show Wm l G cX6_wayRefusal 1 RX6 ((some .int)) (rmk 1 0 0) (fun _ => True) (QfM G (qI (fun r σ => r = wayRef h d ∧ σ = (A, S, Z, B, T, V, J, Y, P))) 0 0) 0 [(0, .ref (gK G 3 d))] [] (A, S, Z, B, T, V, J, Y, P) 0 0
  refine m_aload_n 0 rfl rfl dX6_wayRefusal_0 ?_
  refine m_callVi cv_X6_23 [] [] (k_isEmpty l G d hd h hRS) hd (ce_3 G _ _ _ _ _ _ _ _ _ _) rfl rfl rfl ⟨Nat.le_of_ble_eq_true rfl, Nat.le_of_ble_eq_true rfl⟩ (Nat.le_of_ble_eq_true rfl) ⟨Nat.zero_le _, Nat.zero_le _⟩ dX6_wayRefusal_1 (fun xx σ2 hq => ?_)
  obtain ⟨rfl, rfl⟩ := hq
  refine m_ifeq_b 12 dX6_wayRefusal_4 (by decide) (fun c1 => ?_) (fun c1 => ?_)
  ·
    refine m_bipush (-12) dX6_wayRefusal_12 rfl ?_
    exact m_iret dX6_wayRefusal_14 (Nat.le_refl _) (Nat.le_refl _) (⟨by grind [rowRef, sortRef, wayRef, placeB, placesB, leastI, bI], rfl⟩)
  ·
    refine m_bipush (-11) dX6_wayRefusal_7 rfl ?_
    refine m_goto 14 dX6_wayRefusal_9 (by decide) ?_
    exact m_iret dX6_wayRefusal_14 (Nat.le_refl _) (Nat.le_refl _) (⟨by grind [rowRef, sortRef, wayRef, placeB, placesB, leastI, bI], rfl⟩)
set_option maxRecDepth 100000 in
set_option maxHeartbeats 4000000 in
theorem k_wayRefusal_2 (l : Launch) (G : owG) {A S Z B T V : owF} {J : Nat → Nat → Int64} {Y : Nat → Nat → Nat → Option Nat} {P : Nat → Option owW} (d : Nat) (hd : d < owN 3) (h : owH) (hc : hK h d = 2 ∧ Y 3 d 0 = none ∧ A 3 d 1 = nI (hS h d) ∧ hS h d ≤ 2 ∧ A 3 d 2 = nI (hN h d) ∧ hN h d ≤ 100 ∧ ∀ j, j < 100 → A 16 d j = hE h d j)  : Ct l G yX6_wayRefusal cX6_wayRefusal 1 ((some .int)) 1 0 0 [.ref (gK G 3 d)] (A, S, Z, B, T, V, J, Y, P) (qI (fun r σ => r = wayRef h d ∧ σ = (A, S, Z, B, T, V, J, Y, P))) := by
  refine ct_of (by decide +kernel) (Nat.le_of_ble_eq_true rfl) ?_
  have hRS : RS A Y P d h := Or.inr <| Or.inr hc
  obtain ⟨hK0, hY0, hA0, hs2, hA2, hn100, hE0⟩ := hc
  show Wm l G cX6_wayRefusal 1 RX6 ((some .int)) (rmk 1 0 0) (fun _ => True) (QfM G (qI (fun r σ => r = wayRef h d ∧ σ = (A, S, Z, B, T, V, J, Y, P))) 0 0) 0 [(0, .ref (gK G 3 d))] [] (A, S, Z, B, T, V, J, Y, P) 0 0
  refine m_aload_n 0 rfl rfl dX6_wayRefusal_0 ?_
  refine m_callVi cv_X6_23 [] [] (k_isEmpty l G d hd h hRS) hd (ce_3 G _ _ _ _ _ _ _ _ _ _) rfl rfl rfl ⟨Nat.le_of_ble_eq_true rfl, Nat.le_of_ble_eq_true rfl⟩ (Nat.le_of_ble_eq_true rfl) ⟨Nat.zero_le _, Nat.zero_le _⟩ dX6_wayRefusal_1 (fun xx σ2 hq => ?_)
  obtain ⟨rfl, rfl⟩ := hq
  refine m_ifeq_b 12 dX6_wayRefusal_4 (by decide) (fun c1 => ?_) (fun c1 => ?_)
  ·
    refine m_bipush (-12) dX6_wayRefusal_12 rfl ?_
    exact m_iret dX6_wayRefusal_14 (Nat.le_refl _) (Nat.le_refl _) (⟨by grind [rowRef, sortRef, wayRef, placeB, placesB, leastI, bI], rfl⟩)
  ·
    refine m_bipush (-11) dX6_wayRefusal_7 rfl ?_
    refine m_goto 14 dX6_wayRefusal_9 (by decide) ?_
    exact m_iret dX6_wayRefusal_14 (Nat.le_refl _) (Nat.le_refl _) (⟨by grind [rowRef, sortRef, wayRef, placeB, placesB, leastI, bI], rfl⟩)
theorem k_wayRefusal (l : Launch) (G : owG) {A S Z B T V : owF} {J : Nat → Nat → Int64} {Y : Nat → Nat → Nat → Option Nat} {P : Nat → Option owW} (d : Nat) (hd : d < owN 3) (h : owH) (hRS : RS A Y P d h)  : Ct l G yX6_wayRefusal cX6_wayRefusal 1 ((some .int)) 1 0 0 [.ref (gK G 3 d)] (A, S, Z, B, T, V, J, Y, P) (qI (fun r σ => r = wayRef h d ∧ σ = (A, S, Z, B, T, V, J, Y, P))) := by
  rcases hRS with hc | hc | hc
  · exact k_wayRefusal_0 l G d hd h hc 
  · exact k_wayRefusal_1 l G d hd h hc 
  · exact k_wayRefusal_2 l G d hd h hc 
set_option maxRecDepth 100000 in
set_option maxHeartbeats 4000000 in
theorem k_hasPlace (l : Launch) (G : owG) {A S Z B T V : owF} {J : Nat → Nat → Int64} {Y : Nat → Nat → Nat → Option Nat} {P : Nat → Option owW} (d : Nat) (hd : d < owN 3) (h : owH) (hc : hK h d = 2 ∧ Y 3 d 0 = none ∧ A 3 d 1 = nI (hS h d) ∧ hS h d ≤ 2 ∧ A 3 d 2 = nI (hN h d) ∧ hN h d ≤ 100 ∧ ∀ j, j < 100 → A 16 d j = hE h d j) (x : Int32) : Ct l G yX6_hasPlace cX6_hasPlace 2 ((some .boolean)) 0 0 0 [.ref (gK G 3 d), .int x] (A, S, Z, B, T, V, J, Y, P) (qI (fun r σ => r = bI (placeB h d x) ∧ σ = (A, S, Z, B, T, V, J, Y, P))) := by
  refine ct_of (by decide +kernel) (Nat.le_of_ble_eq_true rfl) ?_
  have hRS : RS A Y P d h := Or.inr <| Or.inr hc
  obtain ⟨hK0, hY0, hA0, hs2, hA2, hn100, hE0⟩ := hc
  show Wm l G cX6_hasPlace 2 RX6 ((some .boolean)) (rmk 0 0 0) (fun _ => True) (QfM G (qI (fun r σ => r = bI (placeB h d x) ∧ σ = (A, S, Z, B, T, V, J, Y, P))) 0 0) 0 [(0, .ref (gK G 3 d)), (1, .int x)] [] (A, S, Z, B, T, V, J, Y, P) 0 0
  refine m_iload_n 1 rfl rfl dX6_hasPlace_0 ?_
  refine m_if_lt 16 dX6_hasPlace_1 (by decide) (fun c1 => ?_) (fun c1 => ?_)
  ·
    refine m_iconst 0 dX6_hasPlace_16 rfl ?_
    exact m_zret dX6_hasPlace_17 (Nat.le_refl _) (Nat.le_refl _) nar0 (⟨by grind [rowRef, sortRef, wayRef, placeB, placesB, leastI, bI], rfl⟩)
  ·
    refine m_iload_n 1 rfl rfl dX6_hasPlace_4 ?_
    refine m_aload_n 0 rfl rfl dX6_hasPlace_5 ?_
    refine gf_X6_31 hd dX6_hasPlace_6 ?_
    refine m_topi hA2 ?_
    refine m_icmp_ge 16 dX6_hasPlace_9 (by decide) (fun c2 => ?_) (fun c2 => ?_)
    ·
      refine m_iconst 0 dX6_hasPlace_16 rfl ?_
      exact m_zret dX6_hasPlace_17 (Nat.le_refl _) (Nat.le_refl _) nar0 (⟨by grind [rowRef, sortRef, wayRef, placeB, placesB, leastI, bI], rfl⟩)
    ·
      refine m_iconst 1 dX6_hasPlace_12 rfl ?_
      refine m_goto 17 dX6_hasPlace_13 (by decide) ?_
      exact m_zret dX6_hasPlace_17 (Nat.le_refl _) (Nat.le_refl _) nar1 (⟨by grind [rowRef, sortRef, wayRef, placeB, placesB, leastI, bI], rfl⟩)
set_option maxRecDepth 100000 in
set_option maxHeartbeats 4000000 in
theorem k_hasPlaces (l : Launch) (G : owG) {A S Z B T V : owF} {J : Nat → Nat → Int64} {Y : Nat → Nat → Nat → Option Nat} {P : Nat → Option owW} (d : Nat) (hd : d < owN 3) (h : owH) (hc : hK h d = 2 ∧ Y 3 d 0 = none ∧ A 3 d 1 = nI (hS h d) ∧ hS h d ≤ 2 ∧ A 3 d 2 = nI (hN h d) ∧ hN h d ≤ 100 ∧ ∀ j, j < 100 → A 16 d j = hE h d j) (x n : Int32) : Ct l G yX6_hasPlaces cX6_hasPlaces 3 ((some .boolean)) 0 0 0 [.ref (gK G 3 d), .int x, .int n] (A, S, Z, B, T, V, J, Y, P) (qI (fun r σ => r = bI (placesB h d x n) ∧ σ = (A, S, Z, B, T, V, J, Y, P))) := by
  refine ct_of (by decide +kernel) (Nat.le_of_ble_eq_true rfl) ?_
  have hRS : RS A Y P d h := Or.inr <| Or.inr hc
  obtain ⟨hK0, hY0, hA0, hs2, hA2, hn100, hE0⟩ := hc
  show Wm l G cX6_hasPlaces 3 RX6 ((some .boolean)) (rmk 0 0 0) (fun _ => True) (QfM G (qI (fun r σ => r = bI (placesB h d x n) ∧ σ = (A, S, Z, B, T, V, J, Y, P))) 0 0) 0 [(0, .ref (gK G 3 d)), (1, .int x), (2, .int n)] [] (A, S, Z, B, T, V, J, Y, P) 0 0
  refine m_iload_n 1 rfl rfl dX6_hasPlaces_0 ?_
  refine m_if_lt 30 dX6_hasPlaces_1 (by decide) (fun c1 => ?_) (fun c1 => ?_)
  ·
    refine m_iconst 0 dX6_hasPlaces_30 rfl ?_
    exact m_zret dX6_hasPlaces_31 (Nat.le_refl _) (Nat.le_refl _) nar0 (⟨by grind [rowRef, sortRef, wayRef, placeB, placesB, leastI, bI], rfl⟩)
  ·
    refine m_iload_n 2 rfl rfl dX6_hasPlaces_4 ?_
    refine m_if_lt 30 dX6_hasPlaces_5 (by decide) (fun c2 => ?_) (fun c2 => ?_)
    ·
      refine m_iconst 0 dX6_hasPlaces_30 rfl ?_
      exact m_zret dX6_hasPlaces_31 (Nat.le_refl _) (Nat.le_refl _) nar0 (⟨by grind [rowRef, sortRef, wayRef, placeB, placesB, leastI, bI], rfl⟩)
    ·
      refine m_iload_n 1 rfl rfl dX6_hasPlaces_8 ?_
      refine m_aload_n 0 rfl rfl dX6_hasPlaces_9 ?_
      refine gf_X6_31 hd dX6_hasPlaces_10 ?_
      refine m_topi hA2 ?_
      refine m_icmp_gt 30 dX6_hasPlaces_13 (by decide) (fun c3 => ?_) (fun c3 => ?_)
      ·
        refine m_iconst 0 dX6_hasPlaces_30 rfl ?_
        exact m_zret dX6_hasPlaces_31 (Nat.le_refl _) (Nat.le_refl _) nar0 (⟨by grind [rowRef, sortRef, wayRef, placeB, placesB, leastI, bI], rfl⟩)
      ·
        refine m_iload_n 2 rfl rfl dX6_hasPlaces_16 ?_
        refine m_aload_n 0 rfl rfl dX6_hasPlaces_17 ?_
        refine gf_X6_31 hd dX6_hasPlaces_18 ?_
        refine m_topi hA2 ?_
        refine m_iload_n 1 rfl rfl dX6_hasPlaces_21 ?_
        refine m_isub dX6_hasPlaces_22 ?_
        refine m_icmp_gt 30 dX6_hasPlaces_23 (by decide) (fun c4 => ?_) (fun c4 => ?_)
        ·
          refine m_iconst 0 dX6_hasPlaces_30 rfl ?_
          exact m_zret dX6_hasPlaces_31 (Nat.le_refl _) (Nat.le_refl _) nar0 (⟨by grind [rowRef, sortRef, wayRef, placeB, placesB, leastI, bI], rfl⟩)
        ·
          refine m_iconst 1 dX6_hasPlaces_26 rfl ?_
          refine m_goto 31 dX6_hasPlaces_27 (by decide) ?_
          exact m_zret dX6_hasPlaces_31 (Nat.le_refl _) (Nat.le_refl _) nar1 (⟨by grind [rowRef, sortRef, wayRef, placeB, placesB, leastI, bI], rfl⟩)
set_option maxRecDepth 100000 in
set_option maxHeartbeats 4000000 in
theorem k_leastOfSort (l : Launch) (G : owG) {A S Z B T V : owF} {J : Nat → Nat → Int64} {Y : Nat → Nat → Nat → Option Nat} {P : Nat → Option owW} (d : Nat) (hd : d < owN 3) (h : owH) (hc : hK h d = 2 ∧ Y 3 d 0 = none ∧ A 3 d 1 = nI (hS h d) ∧ hS h d ≤ 2 ∧ A 3 d 2 = nI (hN h d) ∧ hN h d ≤ 100 ∧ ∀ j, j < 100 → A 16 d j = hE h d j)  : Ct l G yX6_leastOfSort cX6_leastOfSort 1 ((some .int)) 0 0 0 [.ref (gK G 3 d)] (A, S, Z, B, T, V, J, Y, P) (qI (fun r σ => r = leastI (hS h d) ∧ σ = (A, S, Z, B, T, V, J, Y, P))) := by
  refine ct_of (by decide +kernel) (Nat.le_of_ble_eq_true rfl) ?_
  have hRS : RS A Y P d h := Or.inr <| Or.inr hc
  obtain ⟨hK0, hY0, hA0, hs2, hA2, hn100, hE0⟩ := hc
  show Wm l G cX6_leastOfSort 1 RX6 ((some .int)) (rmk 0 0 0) (fun _ => True) (QfM G (qI (fun r σ => r = leastI (hS h d) ∧ σ = (A, S, Z, B, T, V, J, Y, P))) 0 0) 0 [(0, .ref (gK G 3 d))] [] (A, S, Z, B, T, V, J, Y, P) 0 0
  refine m_aload_n 0 rfl rfl dX6_leastOfSort_0 ?_
  refine gf_X6_9 hd dX6_leastOfSort_1 ?_
  refine m_topi hA0 ?_
  refine m_ifn_ne (hS h d) 12 (by omega) dX6_leastOfSort_4 (by decide) (fun c1 => ?_) (fun c1 => ?_)
  ·
    refine m_aload_n 0 rfl rfl dX6_leastOfSort_12 ?_
    refine gf_X6_9 hd dX6_leastOfSort_13 ?_
    refine m_topi hA0 ?_
    refine m_iconst 1 dX6_leastOfSort_16 rfl ?_
    refine m_icmpn_ne (hS h d) 1 26 (by omega) (by decide) dX6_leastOfSort_17 (by decide) (fun c2 => ?_) (fun c2 => ?_)
    ·
      refine m_ldc (-2147483648) tw_812 dX6_leastOfSort_26 ?_
      exact m_iret dX6_leastOfSort_28 (Nat.le_refl _) (Nat.le_refl _) (⟨by grind [rowRef, sortRef, wayRef, placeB, placesB, leastI, bI], rfl⟩)
    ·
      refine m_sipush (-32768) dX6_leastOfSort_20 rfl ?_
      refine m_goto 28 dX6_leastOfSort_23 (by decide) ?_
      exact m_iret dX6_leastOfSort_28 (Nat.le_refl _) (Nat.le_refl _) (⟨by grind [rowRef, sortRef, wayRef, placeB, placesB, leastI, bI], rfl⟩)
  ·
    refine m_bipush (-128) dX6_leastOfSort_7 rfl ?_
    refine m_goto 28 dX6_leastOfSort_9 (by decide) ?_
    exact m_iret dX6_leastOfSort_28 (Nat.le_refl _) (Nat.le_refl _) (⟨by grind [rowRef, sortRef, wayRef, placeB, placesB, leastI, bI], rfl⟩)
set_option maxRecDepth 100000 in
set_option maxHeartbeats 4000000 in
theorem k_get (l : Launch) (G : owG) {A S Z B T V : owF} {J : Nat → Nat → Int64} {Y : Nat → Nat → Nat → Option Nat} {P : Nat → Option owW} (d : Nat) (hd : d < owN 3) (h : owH) (hc : hK h d = 2 ∧ Y 3 d 0 = none ∧ A 3 d 1 = nI (hS h d) ∧ hS h d ≤ 2 ∧ A 3 d 2 = nI (hN h d) ∧ hN h d ≤ 100 ∧ ∀ j, j < 100 → A 16 d j = hE h d j) (x : Int32) : Ct l G yX6_get cX6_get 2 ((some .int)) 1 0 0 [.ref (gK G 3 d), .int x] (A, S, Z, B, T, V, J, Y, P) (qI (fun r σ => r = getI h d x ∧ σ = (A, S, Z, B, T, V, J, Y, P))) := by
  refine ct_of (by decide +kernel) (Nat.le_of_ble_eq_true rfl) ?_
  have hc2 := hc
  have hRS : RS A Y P d h := Or.inr <| Or.inr hc
  obtain ⟨hK0, hY0, hA0, hs2, hA2, hn100, hE0⟩ := hc
  show Wm l G cX6_get 2 RX6 ((some .int)) (rmk 1 0 0) (fun _ => True) (QfM G (qI (fun r σ => r = getI h d x ∧ σ = (A, S, Z, B, T, V, J, Y, P))) 0 0) 0 [(0, .ref (gK G 3 d)), (1, .int x)] [] (A, S, Z, B, T, V, J, Y, P) 0 0
  refine m_aload_n 0 rfl rfl dX6_get_0 ?_
  refine m_iload_n 1 rfl rfl dX6_get_1 ?_
  refine m_callVi cv_X6_34 [.int x] [] (k_hasPlace l G d hd h hc2 x) hd (ce_3 G _ _ _ _ _ _ _ _ _ _) rfl rfl rfl ⟨Nat.le_of_ble_eq_true rfl, Nat.le_of_ble_eq_true rfl⟩ (Nat.le_of_ble_eq_true rfl) ⟨Nat.zero_le _, Nat.zero_le _⟩ dX6_get_2 (fun xx σ2 hq => ?_)
  obtain ⟨rfl, rfl⟩ := hq
  refine m_ifeq_b 19 dX6_get_5 (by decide) (fun c1 => ?_) (fun c1 => ?_)
  ·
    refine m_iconst 0 dX6_get_19 rfl ?_
    exact m_iret dX6_get_20 (Nat.le_refl _) (Nat.le_refl _) (⟨by grind [getI], rfl⟩)
  ·
    obtain ⟨k, hk, rfl⟩ := natOf2 (x := x) (n := hN h d) (by grind [placeB]) (by grind [placeB]) (by omega)
    refine m_aload_n 0 rfl rfl dX6_get_8 ?_
    refine gf_X6_15 hd dX6_get_9 ?_
    refine m_iload_n 1 rfl rfl dX6_get_12 ?_
    refine m_callNi cn_X6_38 [.ref (gK G 16 d), .int (nI (k))] [] (k_at (t := 16) (n := 100) l G hd (ce_16 G _ _ _ _ _ _ _ _ _ d) (by decide) (nI (k))) rfl rfl ⟨Nat.le_of_ble_eq_true rfl, Nat.le_of_ble_eq_true rfl⟩ (Nat.le_of_ble_eq_true rfl) ⟨Nat.zero_le _, Nat.zero_le _⟩ dX6_get_13 (fun xx σ2 hq => ?_)
    obtain rfl : xx = A 16 d k := hq.1.trans (atV_in (by omega) (by decide))
    obtain rfl := hq.2
    refine m_topi (hE0 k (by omega)) ?_
    refine m_goto 20 dX6_get_16 (by decide) ?_
    exact m_iret dX6_get_20 (Nat.le_refl _) (Nat.le_refl _) (⟨(getI_in hn100 hk).symm, rfl⟩)
