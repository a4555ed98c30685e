/-- a shelf: 0 nothing, 1 a way, 2 a row; the row's sort, size, elements; the way's kind, number, figure -/
abbrev owH : Type := Nat → Nat × Nat × Nat × (Nat → Int32) × Nat × Nat × Nat
def hK (h : owH) (d : Nat) : Nat := (h d).1
def hSo (h : owH) (d : Nat) : Nat := (h d).2.1
def hN (h : owH) (d : Nat) : Nat := (h d).2.2.1
def hE (h : owH) (d : Nat) : Nat → Int32 := (h d).2.2.2.1
def hW (h : owH) (d : Nat) : Nat := (h d).2.2.2.2.1
def hn (h : owH) (d : Nat) : Nat := (h d).2.2.2.2.2.1
def hf (h : owH) (d : Nat) : Nat := (h d).2.2.2.2.2.2
def RS (A : owF) (Y : Nat → Nat → Nat → Option Nat) (P : Nat → Option owW) (d : Nat) (h : owH) : Prop :=
  (hK h d = 0 ∧ Y 3 d 0 = none ∧ A 3 d 1 = -1) ∨
  (hK h d = 1 ∧ (∃ ad wt, Y 3 d 0 = some ad ∧ P ad = some (hW h d, nI (hn h d), nI (hf h d), wt)) ∧ hW h d < 8 ∧ hf h d ≤ 9 ∧ hn h d < 10 ∧ A 3 d 1 = -1) ∨
  (hK h d = 2 ∧ Y 3 d 0 = none ∧ A 3 d 1 = nI (hSo h d) ∧ hSo h d ≤ 2 ∧ A 3 d 2 = nI (hN h d) ∧ hN h d ≤ 100 ∧ ∀ j, j < 100 → A 16 d j = hE h d j)
/-- nothing but shelf d has changed -/
def dfr (d : Nat) (A A2 : owF) : Prop := ∀ t k c, ¬ (k = d ∧ (t = 3 ∨ t = 16)) → A2 t k c = A t k c
def dyf (d : Nat) (Y Y2 : Nat → Nat → Nat → Option Nat) : Prop := ∀ t k c, ¬ (k = d ∧ t = 3) → Y2 t k c = Y t k c
theorem dfr_rf {d : Nat} {A : owF} : dfr d A A := fun _ _ _ _ => rfl
theorem dyf_rf {d : Nat} {Y : Nat → Nat → Nat → Option Nat} : dyf d Y Y := fun _ _ _ _ => rfl
theorem dfr_up {d t c : Nat} {v : Int32} {A A2 A3 : owF} (h : dfr d A A2) (e : A3 = up3 A2 t d c v) (ht : t = 3 ∨ t = 16) : dfr d A A3 := fun t2 k c2 hn => by
  rw [← h t2 k c2 hn, e]
  exact if_neg (fun q => hn ⟨q.2.1, by rw [q.1]; exact ht⟩)
theorem dyf_up {d c : Nat} {v : Option Nat} {A A2 A3 : Nat → Nat → Nat → Option Nat} (h : dyf d A A2) (e : A3 = up3 A2 3 d c v) : dyf d A A3 := fun t2 k c2 hn => by
  rw [← h t2 k c2 hn, e]
  exact if_neg (fun q => hn ⟨q.2.1, q.1⟩)
theorem RX.shelf {A A2 : owF} {Y Y2 : Nat → Nat → Nat → Option Nat} {P : Nat → Option owW} {d i : Nat} {a : owK} (h : RX A Y P i a) (hs : dfr d A A2) (hy : dyf d Y Y2) : RX A2 Y2 P i a := by
  have e : ∀ t c, t ≠ 3 → t ≠ 16 → A2 t i c = A t i c := fun t c h1 h2 => hs t i c (fun q => by rcases q.2 with z | z; exact h1 z; exact h2 z)
  have ey : ∀ c, Y2 15 i c = Y 15 i c := fun c => hy 15 i c (fun q => absurd q.2 (by decide))
  refine ⟨by rw [e 1 1 (by decide) (by decide)]; exact h.1, by rw [e 1 5 (by decide) (by decide)]; exact h.2.1, fun w hw => ?_, fun c hc => ?_, fun j hj => by rw [e 13 j (by decide) (by decide)]; exact h.2.2.2.2 j hj⟩
  · rw [ey]; exact h.2.2.1 w hw
  · rw [e 10 c (by decide) (by decide), e 12 c (by decide) (by decide), e 11 c (by decide) (by decide)]; exact h.2.2.2.1 c hc
theorem RS.keep {A A2 : owF} {Y Y2 : Nat → Nat → Nat → Option Nat} {P : Nat → Option owW} {d k : Nat} {h h2 : owH} (hr : RS A Y P k h) (hs : dfr d A A2) (hy : dyf d Y Y2) (hk : k ≠ d) (e2 : h2 k = h k) : RS A2 Y2 P k h2 := by
  have e : ∀ t c, A2 t k c = A t k c := fun t c => hs t k c (fun q => hk q.1)
  have ey : Y2 3 k 0 = Y 3 k 0 := hy 3 k 0 (fun q => hk q.1)
  unfold RS at hr ⊢
  have f1 : hK h2 k = hK h k := congrArg (fun q => q.1) e2
  have f2 : hSo h2 k = hSo h k := congrArg (fun q => q.2.1) e2
  have f3 : hN h2 k = hN h k := congrArg (fun q => q.2.2.1) e2
  have f4 : hE h2 k = hE h k := congrArg (fun q => q.2.2.2.1) e2
  have f5 : hW h2 k = hW h k := congrArg (fun q => q.2.2.2.2.1) e2
  have f6 : hn h2 k = hn h k := congrArg (fun q => q.2.2.2.2.2.1) e2
  have f7 : hf h2 k = hf h k := congrArg (fun q => q.2.2.2.2.2.2) e2
  rw [f1, f2, f3, f4, f5, f6, f7, ey]
  simp only [e]
  exact hr
def rowRef (h : owH) (d : Nat) : Int32 := if hK h d = 0 then -11 else if hK h d = 2 then 0 else -12
def sortRef (h : owH) (d so : Nat) : Int32 := if hK h d = 0 then -11 else if hK h d = 2 ∧ hSo h d = so then 0 else -12
def wayRef (h : owH) (d : Nat) : Int32 := if hK h d = 0 then -11 else -12
def placeB (h : owH) (d : Nat) (x : Int32) : Bool := decide (0 ≤ x ∧ x < nI (hN h d))
def placesB (h : owH) (d : Nat) (x n : Int32) : Bool := decide (0 ≤ x ∧ 0 ≤ n ∧ x ≤ nI (hN h d) ∧ n ≤ nI (hN h d) - x)
def getI (h : owH) (d : Nat) (x : Int32) : Int32 := if placeB h d x then hE h d x.toNatClampNeg else 0
def leastI (so : Nat) : Int32 := if so = 0 then -128 else if so = 1 then -32768 else -2147483648
def narI (so : Nat) (v : Int32) : Int32 := if so = 0 then v.toInt8.toInt32 else if so = 1 then v.toInt16.toInt32 else v
theorem getI_in {h : owH} {d k : Nat} (hs : hN h d ≤ 100) (hk : k < hN h d) : getI h d (nI k) = hE h d k := by
  unfold getI placeB
  rw [if_pos (decide_eq_true ⟨nI_pos' (by omega), nI_lt hk (by omega)⟩), nI_clamp (by omega)]
theorem getI_out {h : owH} {d k : Nat} (hs : hN h d ≤ 100) (hk : hN h d ≤ k) (h2 : k < 2 ^ 31) : getI h d (nI k) = 0 := by
  unfold getI placeB
  rw [if_neg (by simp; intro _; exact nI_le hk h2)]
def isD (x : Int32) : Bool := decide (0 ≤ x ∧ x < 8)
theorem isD_nat {x : Int32} (h : isD x = true) : ∃ d, d < 8 ∧ x = nI d := by
  have h0 := of_decide_eq_true h
  exact natOf2 (n := 8) h0.1 (show x < (8 : Int32) from h0.2) (by decide)
theorem isD_of {d : Nat} (h : d < 8) : isD (nI d) = true := decide_eq_true ⟨nI_pos' (by omega), nI_lt (b := 8) h (by decide)⟩
set_option maxRecDepth 100000 in
set_option maxHeartbeats 4000000 in
theorem k_isEmpty_0 (l : Launch) (G : owG) {A S Z B T V : owF} {J : Nat → Nat → Int64} {Y : Nat → Nat → Nat → Option Nat} {P : Nat → Option owW} (d_ : Nat) (hd_ : d_ < owN 3) (h_ : owH) (hc_ : hK h_ d_ = 0 ∧ Y 3 d_ 0 = none ∧ A 3 d_ 1 = -1)  : Ct l G yX6_isEmpty cX6_isEmpty 1 ((some .boolean)) 0 0 0 [.ref (gK G 3 d_)] (A, S, Z, B, T, V, J, Y, P) (qI (fun r_ σ => r_ = bI (decide (hK h_ d_ = 0)) ∧ σ = (A, S, Z, B, T, V, J, Y, P))) := by
  refine ct_of (by decide +kernel) (Nat.le_of_ble_eq_true rfl) ?_
  obtain ⟨hK0, hY0, hA0⟩ := hc_
  show Wm l G cX6_isEmpty 1 RX6 ((some .boolean)) (rmk 0 0 0) (fun _ => True) (QfM G (qI (fun r_ σ => r_ = bI (decide (hK h_ d_ = 0)) ∧ σ = (A, S, Z, B, T, V, J, Y, P))) 0 0) 0 [(0, .ref (gK G 3 d_))] [] (A, S, Z, B, T, V, J, Y, P) 0 0
  refine m_aload_n 0 rfl rfl dX6_isEmpty_0 ?_
  refine gf_X6_19 hd_ dX6_isEmpty_1 ?_
  refine m_topr hY0 ?_
  refine m_ifnonnullN dX6_isEmpty_4 ?_
  refine m_aload_n 0 rfl rfl dX6_isEmpty_7 ?_
  refine gf_X6_9 hd_ dX6_isEmpty_8 ?_
  refine m_topi hA0 ?_
  refine m_iconst (-1) dX6_isEmpty_11 rfl ?_
  refine m_icmp_ne 19 dX6_isEmpty_12 (by decide) (fun c1_ => absurd c1_ (by decide)) (fun _ => ?_)
  refine m_iconst 1 dX6_isEmpty_15 rfl ?_
  refine m_goto 20 dX6_isEmpty_16 (by decide) ?_
  exact m_zret dX6_isEmpty_20 (Nat.le_refl _) (Nat.le_refl _) nar1 (⟨by rw [hK0]; rfl, rfl⟩)
set_option maxRecDepth 100000 in
set_option maxHeartbeats 4000000 in
theorem k_isEmpty_1 (l : Launch) (G : owG) {A S Z B T V : owF} {J : Nat → Nat → Int64} {Y : Nat → Nat → Nat → Option Nat} {P : Nat → Option owW} (d_ : Nat) (hd_ : d_ < owN 3) (h_ : owH) (hc_ : hK h_ d_ = 1 ∧ (∃ ad wt, Y 3 d_ 0 = some ad ∧ P ad = some (hW h_ d_, nI (hn h_ d_), nI (hf h_ d_), wt)) ∧ hW h_ d_ < 8 ∧ hf h_ d_ ≤ 9 ∧ hn h_ d_ < 10 ∧ A 3 d_ 1 = -1)  : Ct l G yX6_isEmpty cX6_isEmpty 1 ((some .boolean)) 0 0 0 [.ref (gK G 3 d_)] (A, S, Z, B, T, V, J, Y, P) (qI (fun r_ σ => r_ = bI (decide (hK h_ d_ = 0)) ∧ σ = (A, S, Z, B, T, V, J, Y, P))) := by
  refine ct_of (by decide +kernel) (Nat.le_of_ble_eq_true rfl) ?_
  obtain ⟨hK0, ⟨ad, wt, hY0, hP0⟩, hk8, hf9, hn10, hA0⟩ := hc_
  show Wm l G cX6_isEmpty 1 RX6 ((some .boolean)) (rmk 0 0 0) (fun _ => True) (QfM G (qI (fun r_ σ => r_ = bI (decide (hK h_ d_ = 0)) ∧ σ = (A, S, Z, B, T, V, J, Y, P))) 0 0) 0 [(0, .ref (gK G 3 d_))] [] (A, S, Z, B, T, V, J, Y, P) 0 0
  refine m_aload_n 0 rfl rfl dX6_isEmpty_0 ?_
  refine gf_X6_19 hd_ dX6_isEmpty_1 ?_
  refine m_topr hY0 ?_
  refine m_ifnonnull 19 dX6_isEmpty_4 (by decide) ?_
  refine m_iconst 0 dX6_isEmpty_19 rfl ?_
  exact m_zret dX6_isEmpty_20 (Nat.le_refl _) (Nat.le_refl _) nar0 (⟨by rw [hK0]; rfl, rfl⟩)
set_option maxRecDepth 100000 in
set_option maxHeartbeats 4000000 in
theorem k_isEmpty_2 (l : Launch) (G : owG) {A S Z B T V : owF} {J : Nat → Nat → Int64} {Y : Nat → Nat → Nat → Option Nat} {P : Nat → Option owW} (d_ : Nat) (hd_ : d_ < owN 3) (h_ : owH) (hc_ : hK h_ d_ = 2 ∧ Y 3 d_ 0 = none ∧ A 3 d_ 1 = nI (hSo h_ d_) ∧ hSo h_ d_ ≤ 2 ∧ A 3 d_ 2 = nI (hN h_ d_) ∧ hN h_ d_ ≤ 100 ∧ ∀ j_, j_ < 100 → A 16 d_ j_ = hE h_ d_ j_)  : Ct l G yX6_isEmpty cX6_isEmpty 1 ((some .boolean)) 0 0 0 [.ref (gK G 3 d_)] (A, S, Z, B, T, V, J, Y, P) (qI (fun r_ σ => r_ = bI (decide (hK h_ d_ = 0)) ∧ σ = (A, S, Z, B, T, V, J, Y, P))) := by
  refine ct_of (by decide +kernel) (Nat.le_of_ble_eq_true rfl) ?_
  obtain ⟨hK0, hY0, hA0, hs2, hA2, hn100, hE0⟩ := hc_
  show Wm l G cX6_isEmpty 1 RX6 ((some .boolean)) (rmk 0 0 0) (fun _ => True) (QfM G (qI (fun r_ σ => r_ = bI (decide (hK h_ d_ = 0)) ∧ σ = (A, S, Z, B, T, V, J, Y, P))) 0 0) 0 [(0, .ref (gK G 3 d_))] [] (A, S, Z, B, T, V, J, Y, P) 0 0
  refine m_aload_n 0 rfl rfl dX6_isEmpty_0 ?_
  refine gf_X6_19 hd_ dX6_isEmpty_1 ?_
  refine m_topr hY0 ?_
  refine m_ifnonnullN dX6_isEmpty_4 ?_
  refine m_aload_n 0 rfl rfl dX6_isEmpty_7 ?_
  refine gf_X6_9 hd_ dX6_isEmpty_8 ?_
  refine m_topi hA0 ?_
  refine m_iconst (-1) dX6_isEmpty_11 rfl ?_
  refine m_icmp_ne 19 dX6_isEmpty_12 (by decide) (fun _ => ?_) (fun c1_ => absurd c1_ (nI_neg (by omega) (by decide)))
  refine m_iconst 0 dX6_isEmpty_19 rfl ?_
  exact m_zret dX6_isEmpty_20 (Nat.le_refl _) (Nat.le_refl _) nar0 (⟨by rw [hK0]; rfl, rfl⟩)
theorem k_isEmpty (l : Launch) (G : owG) {A S Z B T V : owF} {J : Nat → Nat → Int64} {Y : Nat → Nat → Nat → Option Nat} {P : Nat → Option owW} (d_ : Nat) (hd_ : d_ < owN 3) (h_ : owH) (hRS : RS A Y P d_ h_)  : Ct l G yX6_isEmpty cX6_isEmpty 1 ((some .boolean)) 0 0 0 [.ref (gK G 3 d_)] (A, S, Z, B, T, V, J, Y, P) (qI (fun r_ σ => r_ = bI (decide (hK h_ d_ = 0)) ∧ σ = (A, S, Z, B, T, V, J, Y, P))) := by
  rcases hRS with hc_ | hc_ | hc_
  · exact k_isEmpty_0 l G d_ hd_ h_ hc_ 
  · exact k_isEmpty_1 l G d_ hd_ h_ hc_ 
  · exact k_isEmpty_2 l G d_ hd_ h_ hc_ 
set_option maxRecDepth 100000 in
set_option maxHeartbeats 4000000 in
theorem k_rowRefusal_0 (l : Launch) (G : owG) {A S Z B T V : owF} {J : Nat → Nat → Int64} {Y : Nat → Nat → Nat → Option Nat} {P : Nat → Option owW} (d_ : Nat) (hd_ : d_ < owN 3) (h_ : owH) (hc_ : hK h_ d_ = 0 ∧ Y 3 d_ 0 = none ∧ A 3 d_ 1 = -1)  : Ct l G yX6_rowRefusal cX6_rowRefusal 1 ((some .int)) 1 0 0 [.ref (gK G 3 d_)] (A, S, Z, B, T, V, J, Y, P) (qI (fun r_ σ => r_ = rowRef h_ d_ ∧ σ = (A, S, Z, B, T, V, J, Y, P))) := by
  refine ct_of (by decide +kernel) (Nat.le_of_ble_eq_true rfl) ?_
  have hRS : RS A Y P d_ h_ := Or.inl hc_
  obtain ⟨hK0, hY0, hA0⟩ := hc_
  show Wm l G cX6_rowRefusal 1 RX6 ((some .int)) (rmk 1 0 0) (fun _ => True) (QfM G (qI (fun r_ σ => r_ = rowRef h_ d_ ∧ σ = (A, S, Z, B, T, V, J, Y, P))) 0 0) 0 [(0, .ref (gK G 3 d_))] [] (A, S, Z, B, T, V, J, Y, P) 0 0
  refine m_aload_n 0 rfl rfl dX6_rowRefusal_0 ?_
  refine m_callVi cv_X6_23 [] [] (k_isEmpty l G d_ hd_ h_ hRS) hd_ (ce_3 G _ _ _ _ _ _ _ _ _ _) rfl rfl rfl ⟨Nat.le_of_ble_eq_true rfl, Nat.le_of_ble_eq_true rfl⟩ (Nat.le_of_ble_eq_true rfl) ⟨Nat.zero_le _, Nat.zero_le _⟩ dX6_rowRefusal_1 (fun xx σ2 hq => ?_)
  obtain ⟨rfl, rfl⟩ := hq
  refine m_ifeq_b 10 dX6_rowRefusal_4 (by decide) (fun c1_ => ?_) (fun c1_ => ?_)
  ·
    refine m_aload_n 0 rfl rfl dX6_rowRefusal_10 ?_
    refine gf_X6_9 hd_ dX6_rowRefusal_11 ?_
    refine m_topi hA0 ?_
    refine m_iconst (-1) dX6_rowRefusal_14 rfl ?_
    refine m_icmp_ne 23 dX6_rowRefusal_15 (by decide) (fun c2_ => absurd c2_ (by decide)) (fun _ => ?_)
    refine m_bipush (-12) dX6_rowRefusal_18 rfl ?_
    refine m_goto 24 dX6_rowRefusal_20 (by decide) ?_
    exact m_iret dX6_rowRefusal_24 (Nat.le_refl _) (Nat.le_refl _) (⟨by grind [rowRef, sortRef, wayRef, placeB, placesB, leastI, bI], rfl⟩)
  ·
    refine m_bipush (-11) dX6_rowRefusal_7 rfl ?_
    exact m_iret dX6_rowRefusal_9 (Nat.le_refl _) (Nat.le_refl _) (⟨by grind [rowRef, sortRef, wayRef, placeB, placesB, leastI, bI], rfl⟩)
set_option maxRecDepth 100000 in
set_option maxHeartbeats 4000000 in
theorem k_rowRefusal_1 (l : Launch) (G : owG) {A S Z B T V : owF} {J : Nat → Nat → Int64} {Y : Nat → Nat → Nat → Option Nat} {P : Nat → Option owW} (d_ : Nat) (hd_ : d_ < owN 3) (h_ : owH) (hc_ : hK h_ d_ = 1 ∧ (∃ ad wt, Y 3 d_ 0 = some ad ∧ P ad = some (hW h_ d_, nI (hn h_ d_), nI (hf h_ d_), wt)) ∧ hW h_ d_ < 8 ∧ hf h_ d_ ≤ 9 ∧ hn h_ d_ < 10 ∧ A 3 d_ 1 = -1)  : Ct l G yX6_rowRefusal cX6_rowRefusal 1 ((some .int)) 1 0 0 [.ref (gK G 3 d_)] (A, S, Z, B, T, V, J, Y, P) (qI (fun r_ σ => r_ = rowRef h_ d_ ∧ σ = (A, S, Z, B, T, V, J, Y, P))) := by
  refine ct_of (by decide +kernel) (Nat.le_of_ble_eq_true rfl) ?_
  have hRS : RS A Y P d_ h_ := Or.inr <| Or.inl hc_
  obtain ⟨hK0, ⟨ad, wt, hY0, hP0⟩, hk8, hf9, hn10, hA0⟩ := hc_
  show Wm l G cX6_rowRefusal 1 RX6 ((some .int)) (rmk 1 0 0) (fun _ => True) (QfM G (qI (fun r_ σ => r_ = rowRef h_ d_ ∧ σ = (A, S, Z, B, T, V, J, Y, P))) 0 0) 0 [(0, .ref (gK G 3 d_))] [] (A, S, Z, B, T, V, J, Y, P) 0 0
  refine m_aload_n 0 rfl rfl dX6_rowRefusal_0 ?_
  refine m_callVi cv_X6_23 [] [] (k_isEmpty l G d_ hd_ h_ hRS) hd_ (ce_3 G _ _ _ _ _ _ _ _ _ _) rfl rfl rfl ⟨Nat.le_of_ble_eq_true rfl, Nat.le_of_ble_eq_true rfl⟩ (Nat.le_of_ble_eq_true rfl) ⟨Nat.zero_le _, Nat.zero_le _⟩ dX6_rowRefusal_1 (fun xx σ2 hq => ?_)
  obtain ⟨rfl, rfl⟩ := hq
  refine m_ifeq_b 10 dX6_rowRefusal_4 (by decide) (fun c1_ => ?_) (fun c1_ => ?_)
  ·
    refine m_aload_n 0 rfl rfl dX6_rowRefusal_10 ?_
    refine gf_X6_9 hd_ dX6_rowRefusal_11 ?_
    refine m_topi hA0 ?_
    refine m_iconst (-1) dX6_rowRefusal_14 rfl ?_
    refine m_icmp_ne 23 dX6_rowRefusal_15 (by decide) (fun c2_ => absurd c2_ (by decide)) (fun _ => ?_)
    refine m_bipush (-12) dX6_rowRefusal_18 rfl ?_
    refine m_goto 24 dX6_rowRefusal_20 (by decide) ?_
    exact m_iret dX6_rowRefusal_24 (Nat.le_refl _) (Nat.le_refl _) (⟨by grind [rowRef, sortRef, wayRef, placeB, placesB, leastI, bI], rfl⟩)
  ·
    refine m_bipush (-11) dX6_rowRefusal_7 rfl ?_
    exact m_iret dX6_rowRefusal_9 (Nat.le_refl _) (Nat.le_refl _) (⟨by grind [rowRef, sortRef, wayRef, placeB, placesB, leastI, bI], rfl⟩)
set_option maxRecDepth 100000 in
set_option maxHeartbeats 4000000 in
theorem k_rowRefusal_2 (l : Launch) (G : owG) {A S Z B T V : owF} {J : Nat → Nat → Int64} {Y : Nat → Nat → Nat → Option Nat} {P : Nat → Option owW} (d_ : Nat) (hd_ : d_ < owN 3) (h_ : owH) (hc_ : hK h_ d_ = 2 ∧ Y 3 d_ 0 = none ∧ A 3 d_ 1 = nI (hSo h_ d_) ∧ hSo h_ d_ ≤ 2 ∧ A 3 d_ 2 = nI (hN h_ d_) ∧ hN h_ d_ ≤ 100 ∧ ∀ j_, j_ < 100 → A 16 d_ j_ = hE h_ d_ j_)  : Ct l G yX6_rowRefusal cX6_rowRefusal 1 ((some .int)) 1 0 0 [.ref (gK G 3 d_)] (A, S, Z, B, T, V, J, Y, P) (qI (fun r_ σ => r_ = rowRef h_ d_ ∧ σ = (A, S, Z, B, T, V, J, Y, P))) := by
  refine ct_of (by decide +kernel) (Nat.le_of_ble_eq_true rfl) ?_
  have hRS : RS A Y P d_ h_ := Or.inr <| Or.inr hc_
  obtain ⟨hK0, hY0, hA0, hs2, hA2, hn100, hE0⟩ := hc_
  show Wm l G cX6_rowRefusal 1 RX6 ((some .int)) (rmk 1 0 0) (fun _ => True) (QfM G (qI (fun r_ σ => r_ = rowRef h_ d_ ∧ σ = (A, S, Z, B, T, V, J, Y, P))) 0 0) 0 [(0, .ref (gK G 3 d_))] [] (A, S, Z, B, T, V, J, Y, P) 0 0
  refine m_aload_n 0 rfl rfl dX6_rowRefusal_0 ?_
  refine m_callVi cv_X6_23 [] [] (k_isEmpty l G d_ hd_ h_ hRS) hd_ (ce_3 G _ _ _ _ _ _ _ _ _ _) rfl rfl rfl ⟨Nat.le_of_ble_eq_true rfl, Nat.le_of_ble_eq_true rfl⟩ (Nat.le_of_ble_eq_true rfl) ⟨Nat.zero_le _, Nat.zero_le _⟩ dX6_rowRefusal_1 (fun xx σ2 hq => ?_)
  obtain ⟨rfl, rfl⟩ := hq
  refine m_ifeq_b 10 dX6_rowRefusal_4 (by decide) (fun c1_ => ?_) (fun c1_ => ?_)
  ·
    refine m_aload_n 0 rfl rfl dX6_rowRefusal_10 ?_
    refine gf_X6_9 hd_ dX6_rowRefusal_11 ?_
    refine m_topi hA0 ?_
    refine m_iconst (-1) dX6_rowRefusal_14 rfl ?_
    refine m_icmp_ne 23 dX6_rowRefusal_15 (by decide) (fun _ => ?_) (fun c2_ => absurd c2_ (nI_neg (by omega) (by decide)))
    refine m_iconst 0 dX6_rowRefusal_23 rfl ?_
    exact m_iret dX6_rowRefusal_24 (Nat.le_refl _) (Nat.le_refl _) (⟨by grind [rowRef, sortRef, wayRef, placeB, placesB, leastI, bI], rfl⟩)
  ·
    refine m_bipush (-11) dX6_rowRefusal_7 rfl ?_
    exact m_iret dX6_rowRefusal_9 (Nat.le_refl _) (Nat.le_refl _) (⟨by grind [rowRef, sortRef, wayRef, placeB, placesB, leastI, bI], rfl⟩)
theorem k_rowRefusal (l : Launch) (G : owG) {A S Z B T V : owF} {J : Nat → Nat → Int64} {Y : Nat → Nat → Nat → Option Nat} {P : Nat → Option owW} (d_ : Nat) (hd_ : d_ < owN 3) (h_ : owH) (hRS : RS A Y P d_ h_)  : Ct l G yX6_rowRefusal cX6_rowRefusal 1 ((some .int)) 1 0 0 [.ref (gK G 3 d_)] (A, S, Z, B, T, V, J, Y, P) (qI (fun r_ σ => r_ = rowRef h_ d_ ∧ σ = (A, S, Z, B, T, V, J, Y, P))) := by
  rcases hRS with hc_ | hc_ | hc_
  · exact k_rowRefusal_0 l G d_ hd_ h_ hc_ 
  · exact k_rowRefusal_1 l G d_ hd_ h_ hc_ 
  · exact k_rowRefusal_2 l G d_ hd_ h_ hc_ 
set_option maxRecDepth 100000 in
set_option maxHeartbeats 4000000 in
theorem k_sortRefusal_0 (l : Launch) (G : owG) {A S Z B T V : owF} {J : Nat → Nat → Int64} {Y : Nat → Nat → Nat → Option Nat} {P : Nat → Option owW} (d_ : Nat) (hd_ : d_ < owN 3) (h_ : owH) (hc_ : hK h_ d_ = 0 ∧ Y 3 d_ 0 = none ∧ A 3 d_ 1 = -1) (so : Nat) (hso : so ≤ 2) : Ct l G yX6_sortRefusal cX6_sortRefusal 3 ((some .int)) 2 0 0 [.ref (gK G 3 d_), .int (nI (so))] (A, S, Z, B, T, V, J, Y, P) (qI (fun r_ σ => r_ = sortRef h_ d_ so ∧ σ = (A, S, Z, B, T, V, J, Y, P))) := by
  refine ct_of (by decide +kernel) (Nat.le_of_ble_eq_true rfl) ?_
  have hRS : RS A Y P d_ h_ := Or.inl hc_
  obtain ⟨hK0, hY0, hA0⟩ := hc_
  show Wm l G cX6_sortRefusal 3 RX6 ((some .int)) (rmk 2 0 0) (fun _ => True) (QfM G (qI (fun r_ σ => r_ = sortRef h_ d_ so ∧ σ = (A, S, Z, B, T, V, J, Y, P))) 0 0) 0 [(0, .ref (gK G 3 d_)), (1, .int (nI (so)))] [] (A, S, Z, B, T, V, J, Y, P) 0 0
  refine m_aload_n 0 rfl rfl dX6_sortRefusal_0 ?_
  refine m_callVi cv_X6_27 [] [] (k_rowRefusal l G d_ hd_ h_ hRS) hd_ (ce_3 G _ _ _ _ _ _ _ _ _ _) rfl rfl rfl ⟨Nat.le_of_ble_eq_true rfl, Nat.le_of_ble_eq_true rfl⟩ (Nat.le_of_ble_eq_true rfl) ⟨Nat.zero_le _, Nat.zero_le _⟩ dX6_sortRefusal_1 (fun xx σ2 hq => ?_)
  obtain ⟨rfl, rfl⟩ := hq
  refine m_istore_n [(2, .int (rowRef h_ d_)), (0, .ref (gK G 3 d_)), (1, .int (nI (so)))] rfl (by decide) rfl dX6_sortRefusal_4 ?_
  refine m_iload_n 0 rfl rfl dX6_sortRefusal_5 ?_
  refine m_if_ne 22 dX6_sortRefusal_6 (by decide) (fun c1_ => ?_) (fun c1_ => ?_)
  ·
    refine m_iload_n 0 rfl rfl dX6_sortRefusal_22 ?_
    exact m_iret dX6_sortRefusal_23 (Nat.le_refl _) (Nat.le_refl _) (⟨by grind [rowRef, sortRef, wayRef, placeB, placesB, leastI, bI], rfl⟩)
  ·
    refine m_aload_n 1 rfl rfl dX6_sortRefusal_9 ?_
    refine gf_X6_9 hd_ dX6_sortRefusal_10 ?_
    refine m_topi hA0 ?_
    refine m_iload_n 2 rfl rfl dX6_sortRefusal_13 ?_
    refine m_icmp_eq 22 dX6_sortRefusal_14 (by decide) (fun c2_ => absurd c2_.symm (nI_neg (by omega) (by decide))) (fun _ => ?_)
    refine m_bipush (-12) dX6_sortRefusal_17 rfl ?_
    refine m_goto 23 dX6_sortRefusal_19 (by decide) ?_
    exact m_iret dX6_sortRefusal_23 (Nat.le_refl _) (Nat.le_refl _) (⟨by grind [rowRef, sortRef, wayRef, placeB, placesB, leastI, bI], rfl⟩)
set_option maxRecDepth 100000 in
set_option maxHeartbeats 4000000 in
theorem k_sortRefusal_1 (l : Launch) (G : owG) {A S Z B T V : owF} {J : Nat → Nat → Int64} {Y : Nat → Nat → Nat → Option Nat} {P : Nat → Option owW} (d_ : Nat) (hd_ : d_ < owN 3) (h_ : owH) (hc_ : hK h_ d_ = 1 ∧ (∃ ad wt, Y 3 d_ 0 = some ad ∧ P ad = some (hW h_ d_, nI (hn h_ d_), nI (hf h_ d_), wt)) ∧ hW h_ d_ < 8 ∧ hf h_ d_ ≤ 9 ∧ hn h_ d_ < 10 ∧ A 3 d_ 1 = -1) (so : Nat) (hso : so ≤ 2) : Ct l G yX6_sortRefusal cX6_sortRefusal 3 ((some .int)) 2 0 0 [.ref (gK G 3 d_), .int (nI (so))] (A, S, Z, B, T, V, J, Y, P) (qI (fun r_ σ => r_ = sortRef h_ d_ so ∧ σ = (A, S, Z, B, T, V, J, Y, P))) := by
  refine ct_of (by decide +kernel) (Nat.le_of_ble_eq_true rfl) ?_
  have hRS : RS A Y P d_ h_ := Or.inr <| Or.inl hc_
  obtain ⟨hK0, ⟨ad, wt, hY0, hP0⟩, hk8, hf9, hn10, hA0⟩ := hc_
  show Wm l G cX6_sortRefusal 3 RX6 ((some .int)) (rmk 2 0 0) (fun _ => True) (QfM G (qI (fun r_ σ => r_ = sortRef h_ d_ so ∧ σ = (A, S, Z, B, T, V, J, Y, P))) 0 0) 0 [(0, .ref (gK G 3 d_)), (1, .int (nI (so)))] [] (A, S, Z, B, T, V, J, Y, P) 0 0
  refine m_aload_n 0 rfl rfl dX6_sortRefusal_0 ?_
  refine m_callVi cv_X6_27 [] [] (k_rowRefusal l G d_ hd_ h_ hRS) hd_ (ce_3 G _ _ _ _ _ _ _ _ _ _) rfl rfl rfl ⟨Nat.le_of_ble_eq_true rfl, Nat.le_of_ble_eq_true rfl⟩ (Nat.le_of_ble_eq_true rfl) ⟨Nat.zero_le _, Nat.zero_le _⟩ dX6_sortRefusal_1 (fun xx σ2 hq => ?_)
  obtain ⟨rfl, rfl⟩ := hq
  refine m_istore_n [(2, .int (rowRef h_ d_)), (0, .ref (gK G 3 d_)), (1, .int (nI (so)))] rfl (by decide) rfl dX6_sortRefusal_4 ?_
  refine m_iload_n 0 rfl rfl dX6_sortRefusal_5 ?_
  refine m_if_ne 22 dX6_sortRefusal_6 (by decide) (fun c1_ => ?_) (fun c1_ => ?_)
  ·
    refine m_iload_n 0 rfl rfl dX6_sortRefusal_22 ?_
    exact m_iret dX6_sortRefusal_23 (Nat.le_refl _) (Nat.le_refl _) (⟨by grind [rowRef, sortRef, wayRef, placeB, placesB, leastI, bI], rfl⟩)
  ·
    refine m_aload_n 1 rfl rfl dX6_sortRefusal_9 ?_
    refine gf_X6_9 hd_ dX6_sortRefusal_10 ?_
    refine m_topi hA0 ?_
    refine m_iload_n 2 rfl rfl dX6_sortRefusal_13 ?_
    refine m_icmp_eq 22 dX6_sortRefusal_14 (by decide) (fun c2_ => absurd c2_.symm (nI_neg (by omega) (by decide))) (fun _ => ?_)
    refine m_bipush (-12) dX6_sortRefusal_17 rfl ?_
    refine m_goto 23 dX6_sortRefusal_19 (by decide) ?_
    exact m_iret dX6_sortRefusal_23 (Nat.le_refl _) (Nat.le_refl _) (⟨by grind [rowRef, sortRef, wayRef, placeB, placesB, leastI, bI], rfl⟩)
set_option maxRecDepth 100000 in
set_option maxHeartbeats 4000000 in
theorem k_sortRefusal_2 (l : Launch) (G : owG) {A S Z B T V : owF} {J : Nat → Nat → Int64} {Y : Nat → Nat → Nat → Option Nat} {P : Nat → Option owW} (d_ : Nat) (hd_ : d_ < owN 3) (h_ : owH) (hc_ : hK h_ d_ = 2 ∧ Y 3 d_ 0 = none ∧ A 3 d_ 1 = nI (hSo h_ d_) ∧ hSo h_ d_ ≤ 2 ∧ A 3 d_ 2 = nI (hN h_ d_) ∧ hN h_ d_ ≤ 100 ∧ ∀ j_, j_ < 100 → A 16 d_ j_ = hE h_ d_ j_) (so : Nat) (hso : so ≤ 2) : Ct l G yX6_sortRefusal cX6_sortRefusal 3 ((some .int)) 2 0 0 [.ref (gK G 3 d_), .int (nI (so))] (A, S, Z, B, T, V, J, Y, P) (qI (fun r_ σ => r_ = sortRef h_ d_ so ∧ σ = (A, S, Z, B, T, V, J, Y, P))) := by
  refine ct_of (by decide +kernel) (Nat.le_of_ble_eq_true rfl) ?_
  have hRS : RS A Y P d_ h_ := Or.inr <| Or.inr hc_
  obtain ⟨hK0, hY0, hA0, hs2, hA2, hn100, hE0⟩ := hc_
  show Wm l G cX6_sortRefusal 3 RX6 ((some .int)) (rmk 2 0 0) (fun _ => True) (QfM G (qI (fun r_ σ => r_ = sortRef h_ d_ so ∧ σ = (A, S, Z, B, T, V, J, Y, P))) 0 0) 0 [(0, .ref (gK G 3 d_)), (1, .int (nI (so)))] [] (A, S, Z, B, T, V, J, Y, P) 0 0
  refine m_aload_n 0 rfl rfl dX6_sortRefusal_0 ?_
  refine m_callVi cv_X6_27 [] [] (k_rowRefusal l G d_ hd_ h_ hRS) hd_ (ce_3 G _ _ _ _ _ _ _ _ _ _) rfl rfl rfl ⟨Nat.le_of_ble_eq_true rfl, Nat.le_of_ble_eq_true rfl⟩ (Nat.le_of_ble_eq_true rfl) ⟨Nat.zero_le _, Nat.zero_le _⟩ dX6_sortRefusal_1 (fun xx σ2 hq => ?_)
  obtain ⟨rfl, rfl⟩ := hq
  refine m_istore_n [(2, .int (rowRef h_ d_)), (0, .ref (gK G 3 d_)), (1, .int (nI (so)))] rfl (by decide) rfl dX6_sortRefusal_4 ?_
  refine m_iload_n 0 rfl rfl dX6_sortRefusal_5 ?_
  refine m_if_ne 22 dX6_sortRefusal_6 (by decide) (fun c1_ => ?_) (fun c1_ => ?_)
  ·
    refine m_iload_n 0 rfl rfl dX6_sortRefusal_22 ?_
    exact m_iret dX6_sortRefusal_23 (Nat.le_refl _) (Nat.le_refl _) (⟨by grind [rowRef, sortRef, wayRef, placeB, placesB, leastI, bI], rfl⟩)
  ·
    refine m_aload_n 1 rfl rfl dX6_sortRefusal_9 ?_
    refine gf_X6_9 hd_ dX6_sortRefusal_10 ?_
    refine m_topi hA0 ?_
    refine m_iload_n 2 rfl rfl dX6_sortRefusal_13 ?_
    refine m_icmpn_eq (hSo h_ d_) so 22 (by omega) (by omega) dX6_sortRefusal_14 (by decide) (fun c2_ => ?_) (fun c2_ => ?_)
    ·
      refine m_iload_n 0 rfl rfl dX6_sortRefusal_22 ?_
      exact m_iret dX6_sortRefusal_23 (Nat.le_refl _) (Nat.le_refl _) (⟨by grind [rowRef, sortRef, wayRef, placeB, placesB, leastI, bI], rfl⟩)
    ·
      refine m_bipush (-12) dX6_sortRefusal_17 rfl ?_
      refine m_goto 23 dX6_sortRefusal_19 (by decide) ?_
      exact m_iret dX6_sortRefusal_23 (Nat.le_refl _) (Nat.le_refl _) (⟨by grind [rowRef, sortRef, wayRef, placeB, placesB, leastI, bI], rfl⟩)
theorem k_sortRefusal (l : Launch) (G : owG) {A S Z B T V : owF} {J : Nat → Nat → Int64} {Y : Nat → Nat → Nat → Option Nat} {P : Nat → Option owW} (d_ : Nat) (hd_ : d_ < owN 3) (h_ : owH) (hRS : RS A Y P d_ h_) (so : Nat) (hso : so ≤ 2) : Ct l G yX6_sortRefusal cX6_sortRefusal 3 ((some .int)) 2 0 0 [.ref (gK G 3 d_), .int (nI (so))] (A, S, Z, B, T, V, J, Y, P) (qI (fun r_ σ => r_ = sortRef h_ d_ so ∧ σ = (A, S, Z, B, T, V, J, Y, P))) := by
  rcases hRS with hc_ | hc_ | hc_
  · exact k_sortRefusal_0 l G d_ hd_ h_ hc_ so hso
  · exact k_sortRefusal_1 l G d_ hd_ h_ hc_ so hso
  · exact k_sortRefusal_2 l G d_ hd_ h_ hc_ so hso
set_option maxRecDepth 100000 in
set_option maxHeartbeats 4000000 in
theorem k_wayRefusal_0 (l : Launch) (G : owG) {A S Z B T V : owF} {J : Nat → Nat → Int64} {Y : Nat → Nat → Nat → Option Nat} {P : Nat → Option owW} (d_ : Nat) (hd_ : d_ < owN 3) (h_ : owH) (hc_ : hK h_ d_ = 0 ∧ Y 3 d_ 0 = none ∧ A 3 d_ 1 = -1)  : Ct l G yX6_wayRefusal cX6_wayRefusal 1 ((some .int)) 1 0 0 [.ref (gK G 3 d_)] (A, S, Z, B, T, V, J, Y, P) (qI (fun r_ σ => r_ = wayRef h_ d_ ∧ σ = (A, S, Z, B, T, V, J, Y, P))) := by
  refine ct_of (by decide +kernel) (Nat.le_of_ble_eq_true rfl) ?_
  have hRS : RS A Y P d_ h_ := Or.inl hc_
  obtain ⟨hK0, hY0, hA0⟩ := hc_
  show Wm l G cX6_wayRefusal 1 RX6 ((some .int)) (rmk 1 0 0) (fun _ => True) (QfM G (qI (fun r_ σ => r_ = wayRef h_ d_ ∧ σ = (A, S, Z, B, T, V, J, Y, P))) 0 0) 0 [(0, .ref (gK G 3 d_))] [] (A, S, Z, B, T, V, J, Y, P) 0 0
  refine m_aload_n 0 rfl rfl dX6_wayRefusal_0 ?_
  refine m_callVi cv_X6_23 [] [] (k_isEmpty l G d_ hd_ h_ hRS) hd_ (ce_3 G _ _ _ _ _ _ _ _ _ _) rfl rfl rfl ⟨Nat.le_of_ble_eq_true rfl, Nat.le_of_ble_eq_true rfl⟩ (Nat.le_of_ble_eq_true rfl) ⟨Nat.zero_le _, Nat.zero_le _⟩ dX6_wayRefusal_1 (fun xx σ2 hq => ?_)
  obtain ⟨rfl, rfl⟩ := hq
  refine m_ifeq_b 12 dX6_wayRefusal_4 (by decide) (fun c1_ => ?_) (fun c1_ => ?_)
  ·
    refine m_bipush (-12) dX6_wayRefusal_12 rfl ?_
    exact m_iret dX6_wayRefusal_14 (Nat.le_refl _) (Nat.le_refl _) (⟨by grind [rowRef, sortRef, wayRef, placeB, placesB, leastI, bI], rfl⟩)
  ·
    refine m_bipush (-11) dX6_wayRefusal_7 rfl ?_
    refine m_goto 14 dX6_wayRefusal_9 (by decide) ?_
    exact m_iret dX6_wayRefusal_14 (Nat.le_refl _) (Nat.le_refl _) (⟨by grind [rowRef, sortRef, wayRef, placeB, placesB, leastI, bI], rfl⟩)
set_option maxRecDepth 100000 in
set_option maxHeartbeats 4000000 in
theorem k_wayRefusal_1 (l : Launch) (G : owG) {A S Z B T V : owF} {J : Nat → Nat → Int64} {Y : Nat → Nat → Nat → Option Nat} {P : Nat → Option owW} (d_ : Nat) (hd_ : d_ < owN 3) (h_ : owH) (hc_ : hK h_ d_ = 1 ∧ (∃ ad wt, Y 3 d_ 0 = some ad ∧ P ad = some (hW h_ d_, nI (hn h_ d_), nI (hf h_ d_), wt)) ∧ hW h_ d_ < 8 ∧ hf h_ d_ ≤ 9 ∧ hn h_ d_ < 10 ∧ A 3 d_ 1 = -1)  : Ct l G yX6_wayRefusal cX6_wayRefusal 1 ((some .int)) 1 0 0 [.ref (gK G 3 d_)] (A, S, Z, B, T, V, J, Y, P) (qI (fun r_ σ => r_ = wayRef h_ d_ ∧ σ = (A, S, Z, B, T, V, J, Y, P))) := by
  refine ct_of (by decide +kernel) (Nat.le_of_ble_eq_true rfl) ?_
  have hRS : RS A Y P d_ h_ := Or.inr <| Or.inl hc_
  obtain ⟨hK0, ⟨ad, wt, hY0, hP0⟩, hk8, hf9, hn10, hA0⟩ := hc_
  show Wm l G cX6_wayRefusal 1 RX6 ((some .int)) (rmk 1 0 0) (fun _ => True) (QfM G (qI (fun r_ σ => r_ = wayRef h_ d_ ∧ σ = (A, S, Z, B, T, V, J, Y, P))) 0 0) 0 [(0, .ref (gK G 3 d_))] [] (A, S, Z, B, T, V, J, Y, P) 0 0
  refine m_aload_n 0 rfl rfl dX6_wayRefusal_0 ?_
  refine m_callVi cv_X6_23 [] [] (k_isEmpty l G d_ hd_ h_ hRS) hd_ (ce_3 G _ _ _ _ _ _ _ _ _ _) rfl rfl rfl ⟨Nat.le_of_ble_eq_true rfl, Nat.le_of_ble_eq_true rfl⟩ (Nat.le_of_ble_eq_true rfl) ⟨Nat.zero_le _, Nat.zero_le _⟩ dX6_wayRefusal_1 (fun xx σ2 hq => ?_)
  obtain ⟨rfl, rfl⟩ := hq
  refine m_ifeq_b 12 dX6_wayRefusal_4 (by decide) (fun c1_ => ?_) (fun c1_ => ?_)
  ·
    refine m_bipush (-12) dX6_wayRefusal_12 rfl ?_
    exact m_iret dX6_wayRefusal_14 (Nat.le_refl _) (Nat.le_refl _) (⟨by grind [rowRef, sortRef, wayRef, placeB, placesB, leastI, bI], rfl⟩)
  ·
    refine m_bipush (-11) dX6_wayRefusal_7 rfl ?_
    refine m_goto 14 dX6_wayRefusal_9 (by decide) ?_
    exact m_iret dX6_wayRefusal_14 (Nat.le_refl _) (Nat.le_refl _) (⟨by grind [rowRef, sortRef, wayRef, placeB, placesB, leastI, bI], rfl⟩)
set_option maxRecDepth 100000 in
set_option maxHeartbeats 4000000 in
theorem k_wayRefusal_2 (l : Launch) (G : owG) {A S Z B T V : owF} {J : Nat → Nat → Int64} {Y : Nat → Nat → Nat → Option Nat} {P : Nat → Option owW} (d_ : Nat) (hd_ : d_ < owN 3) (h_ : owH) (hc_ : hK h_ d_ = 2 ∧ Y 3 d_ 0 = none ∧ A 3 d_ 1 = nI (hSo h_ d_) ∧ hSo h_ d_ ≤ 2 ∧ A 3 d_ 2 = nI (hN h_ d_) ∧ hN h_ d_ ≤ 100 ∧ ∀ j_, j_ < 100 → A 16 d_ j_ = hE h_ d_ j_)  : Ct l G yX6_wayRefusal cX6_wayRefusal 1 ((some .int)) 1 0 0 [.ref (gK G 3 d_)] (A, S, Z, B, T, V, J, Y, P) (qI (fun r_ σ => r_ = wayRef h_ d_ ∧ σ = (A, S, Z, B, T, V, J, Y, P))) := by
  refine ct_of (by decide +kernel) (Nat.le_of_ble_eq_true rfl) ?_
  have hRS : RS A Y P d_ h_ := Or.inr <| Or.inr hc_
  obtain ⟨hK0, hY0, hA0, hs2, hA2, hn100, hE0⟩ := hc_
  show Wm l G cX6_wayRefusal 1 RX6 ((some .int)) (rmk 1 0 0) (fun _ => True) (QfM G (qI (fun r_ σ => r_ = wayRef h_ d_ ∧ σ = (A, S, Z, B, T, V, J, Y, P))) 0 0) 0 [(0, .ref (gK G 3 d_))] [] (A, S, Z, B, T, V, J, Y, P) 0 0
  refine m_aload_n 0 rfl rfl dX6_wayRefusal_0 ?_
  refine m_callVi cv_X6_23 [] [] (k_isEmpty l G d_ hd_ h_ hRS) hd_ (ce_3 G _ _ _ _ _ _ _ _ _ _) rfl rfl rfl ⟨Nat.le_of_ble_eq_true rfl, Nat.le_of_ble_eq_true rfl⟩ (Nat.le_of_ble_eq_true rfl) ⟨Nat.zero_le _, Nat.zero_le _⟩ dX6_wayRefusal_1 (fun xx σ2 hq => ?_)
  obtain ⟨rfl, rfl⟩ := hq
  refine m_ifeq_b 12 dX6_wayRefusal_4 (by decide) (fun c1_ => ?_) (fun c1_ => ?_)
  ·
    refine m_bipush (-12) dX6_wayRefusal_12 rfl ?_
    exact m_iret dX6_wayRefusal_14 (Nat.le_refl _) (Nat.le_refl _) (⟨by grind [rowRef, sortRef, wayRef, placeB, placesB, leastI, bI], rfl⟩)
  ·
    refine m_bipush (-11) dX6_wayRefusal_7 rfl ?_
    refine m_goto 14 dX6_wayRefusal_9 (by decide) ?_
    exact m_iret dX6_wayRefusal_14 (Nat.le_refl _) (Nat.le_refl _) (⟨by grind [rowRef, sortRef, wayRef, placeB, placesB, leastI, bI], rfl⟩)
theorem k_wayRefusal (l : Launch) (G : owG) {A S Z B T V : owF} {J : Nat → Nat → Int64} {Y : Nat → Nat → Nat → Option Nat} {P : Nat → Option owW} (d_ : Nat) (hd_ : d_ < owN 3) (h_ : owH) (hRS : RS A Y P d_ h_)  : Ct l G yX6_wayRefusal cX6_wayRefusal 1 ((some .int)) 1 0 0 [.ref (gK G 3 d_)] (A, S, Z, B, T, V, J, Y, P) (qI (fun r_ σ => r_ = wayRef h_ d_ ∧ σ = (A, S, Z, B, T, V, J, Y, P))) := by
  rcases hRS with hc_ | hc_ | hc_
  · exact k_wayRefusal_0 l G d_ hd_ h_ hc_ 
  · exact k_wayRefusal_1 l G d_ hd_ h_ hc_ 
  · exact k_wayRefusal_2 l G d_ hd_ h_ hc_ 
set_option maxRecDepth 100000 in
set_option maxHeartbeats 4000000 in
theorem k_hasPlace (l : Launch) (G : owG) {A S Z B T V : owF} {J : Nat → Nat → Int64} {Y : Nat → Nat → Nat → Option Nat} {P : Nat → Option owW} (d_ : Nat) (hd_ : d_ < owN 3) (h_ : owH) (hc_ : hK h_ d_ = 2 ∧ Y 3 d_ 0 = none ∧ A 3 d_ 1 = nI (hSo h_ d_) ∧ hSo h_ d_ ≤ 2 ∧ A 3 d_ 2 = nI (hN h_ d_) ∧ hN h_ d_ ≤ 100 ∧ ∀ j_, j_ < 100 → A 16 d_ j_ = hE h_ d_ j_) (x_ : Int32) : Ct l G yX6_hasPlace cX6_hasPlace 2 ((some .boolean)) 0 0 0 [.ref (gK G 3 d_), .int x_] (A, S, Z, B, T, V, J, Y, P) (qI (fun r_ σ => r_ = bI (placeB h_ d_ x_) ∧ σ = (A, S, Z, B, T, V, J, Y, P))) := by
  refine ct_of (by decide +kernel) (Nat.le_of_ble_eq_true rfl) ?_
  have hRS : RS A Y P d_ h_ := Or.inr <| Or.inr hc_
  obtain ⟨hK0, hY0, hA0, hs2, hA2, hn100, hE0⟩ := hc_
  show Wm l G cX6_hasPlace 2 RX6 ((some .boolean)) (rmk 0 0 0) (fun _ => True) (QfM G (qI (fun r_ σ => r_ = bI (placeB h_ d_ x_) ∧ σ = (A, S, Z, B, T, V, J, Y, P))) 0 0) 0 [(0, .ref (gK G 3 d_)), (1, .int x_)] [] (A, S, Z, B, T, V, J, Y, P) 0 0
  refine m_iload_n 1 rfl rfl dX6_hasPlace_0 ?_
  refine m_if_lt 16 dX6_hasPlace_1 (by decide) (fun c1_ => ?_) (fun c1_ => ?_)
  ·
    refine m_iconst 0 dX6_hasPlace_16 rfl ?_
    exact m_zret dX6_hasPlace_17 (Nat.le_refl _) (Nat.le_refl _) nar0 (⟨by grind [rowRef, sortRef, wayRef, placeB, placesB, leastI, bI], rfl⟩)
  ·
    refine m_iload_n 1 rfl rfl dX6_hasPlace_4 ?_
    refine m_aload_n 0 rfl rfl dX6_hasPlace_5 ?_
    refine gf_X6_31 hd_ dX6_hasPlace_6 ?_
    refine m_topi hA2 ?_
    refine m_icmp_ge 16 dX6_hasPlace_9 (by decide) (fun c2_ => ?_) (fun c2_ => ?_)
    ·
      refine m_iconst 0 dX6_hasPlace_16 rfl ?_
      exact m_zret dX6_hasPlace_17 (Nat.le_refl _) (Nat.le_refl _) nar0 (⟨by grind [rowRef, sortRef, wayRef, placeB, placesB, leastI, bI], rfl⟩)
    ·
      refine m_iconst 1 dX6_hasPlace_12 rfl ?_
      refine m_goto 17 dX6_hasPlace_13 (by decide) ?_
      exact m_zret dX6_hasPlace_17 (Nat.le_refl _) (Nat.le_refl _) nar1 (⟨by grind [rowRef, sortRef, wayRef, placeB, placesB, leastI, bI], rfl⟩)
set_option maxRecDepth 100000 in
set_option maxHeartbeats 4000000 in
theorem k_hasPlaces (l : Launch) (G : owG) {A S Z B T V : owF} {J : Nat → Nat → Int64} {Y : Nat → Nat → Nat → Option Nat} {P : Nat → Option owW} (d_ : Nat) (hd_ : d_ < owN 3) (h_ : owH) (hc_ : hK h_ d_ = 2 ∧ Y 3 d_ 0 = none ∧ A 3 d_ 1 = nI (hSo h_ d_) ∧ hSo h_ d_ ≤ 2 ∧ A 3 d_ 2 = nI (hN h_ d_) ∧ hN h_ d_ ≤ 100 ∧ ∀ j_, j_ < 100 → A 16 d_ j_ = hE h_ d_ j_) (x_ n_ : Int32) : Ct l G yX6_hasPlaces cX6_hasPlaces 3 ((some .boolean)) 0 0 0 [.ref (gK G 3 d_), .int x_, .int n_] (A, S, Z, B, T, V, J, Y, P) (qI (fun r_ σ => r_ = bI (placesB h_ d_ x_ n_) ∧ σ = (A, S, Z, B, T, V, J, Y, P))) := by
  refine ct_of (by decide +kernel) (Nat.le_of_ble_eq_true rfl) ?_
  have hRS : RS A Y P d_ h_ := Or.inr <| Or.inr hc_
  obtain ⟨hK0, hY0, hA0, hs2, hA2, hn100, hE0⟩ := hc_
  show Wm l G cX6_hasPlaces 3 RX6 ((some .boolean)) (rmk 0 0 0) (fun _ => True) (QfM G (qI (fun r_ σ => r_ = bI (placesB h_ d_ x_ n_) ∧ σ = (A, S, Z, B, T, V, J, Y, P))) 0 0) 0 [(0, .ref (gK G 3 d_)), (1, .int x_), (2, .int n_)] [] (A, S, Z, B, T, V, J, Y, P) 0 0
  refine m_iload_n 1 rfl rfl dX6_hasPlaces_0 ?_
  refine m_if_lt 30 dX6_hasPlaces_1 (by decide) (fun c1_ => ?_) (fun c1_ => ?_)
  ·
    refine m_iconst 0 dX6_hasPlaces_30 rfl ?_
    exact m_zret dX6_hasPlaces_31 (Nat.le_refl _) (Nat.le_refl _) nar0 (⟨by grind [rowRef, sortRef, wayRef, placeB, placesB, leastI, bI], rfl⟩)
  ·
    refine m_iload_n 2 rfl rfl dX6_hasPlaces_4 ?_
    refine m_if_lt 30 dX6_hasPlaces_5 (by decide) (fun c2_ => ?_) (fun c2_ => ?_)
    ·
      refine m_iconst 0 dX6_hasPlaces_30 rfl ?_
      exact m_zret dX6_hasPlaces_31 (Nat.le_refl _) (Nat.le_refl _) nar0 (⟨by grind [rowRef, sortRef, wayRef, placeB, placesB, leastI, bI], rfl⟩)
    ·
      refine m_iload_n 1 rfl rfl dX6_hasPlaces_8 ?_
      refine m_aload_n 0 rfl rfl dX6_hasPlaces_9 ?_
      refine gf_X6_31 hd_ dX6_hasPlaces_10 ?_
      refine m_topi hA2 ?_
      refine m_icmp_gt 30 dX6_hasPlaces_13 (by decide) (fun c3_ => ?_) (fun c3_ => ?_)
      ·
        refine m_iconst 0 dX6_hasPlaces_30 rfl ?_
        exact m_zret dX6_hasPlaces_31 (Nat.le_refl _) (Nat.le_refl _) nar0 (⟨by grind [rowRef, sortRef, wayRef, placeB, placesB, leastI, bI], rfl⟩)
      ·
        refine m_iload_n 2 rfl rfl dX6_hasPlaces_16 ?_
        refine m_aload_n 0 rfl rfl dX6_hasPlaces_17 ?_
        refine gf_X6_31 hd_ dX6_hasPlaces_18 ?_
        refine m_topi hA2 ?_
        refine m_iload_n 1 rfl rfl dX6_hasPlaces_21 ?_
        refine m_isub dX6_hasPlaces_22 ?_
        refine m_icmp_gt 30 dX6_hasPlaces_23 (by decide) (fun c4_ => ?_) (fun c4_ => ?_)
        ·
          refine m_iconst 0 dX6_hasPlaces_30 rfl ?_
          exact m_zret dX6_hasPlaces_31 (Nat.le_refl _) (Nat.le_refl _) nar0 (⟨by grind [rowRef, sortRef, wayRef, placeB, placesB, leastI, bI], rfl⟩)
        ·
          refine m_iconst 1 dX6_hasPlaces_26 rfl ?_
          refine m_goto 31 dX6_hasPlaces_27 (by decide) ?_
          exact m_zret dX6_hasPlaces_31 (Nat.le_refl _) (Nat.le_refl _) nar1 (⟨by grind [rowRef, sortRef, wayRef, placeB, placesB, leastI, bI], rfl⟩)
set_option maxRecDepth 100000 in
set_option maxHeartbeats 4000000 in
theorem k_leastOfSort (l : Launch) (G : owG) {A S Z B T V : owF} {J : Nat → Nat → Int64} {Y : Nat → Nat → Nat → Option Nat} {P : Nat → Option owW} (d_ : Nat) (hd_ : d_ < owN 3) (h_ : owH) (hc_ : hK h_ d_ = 2 ∧ Y 3 d_ 0 = none ∧ A 3 d_ 1 = nI (hSo h_ d_) ∧ hSo h_ d_ ≤ 2 ∧ A 3 d_ 2 = nI (hN h_ d_) ∧ hN h_ d_ ≤ 100 ∧ ∀ j_, j_ < 100 → A 16 d_ j_ = hE h_ d_ j_)  : Ct l G yX6_leastOfSort cX6_leastOfSort 1 ((some .int)) 0 0 0 [.ref (gK G 3 d_)] (A, S, Z, B, T, V, J, Y, P) (qI (fun r_ σ => r_ = leastI (hSo h_ d_) ∧ σ = (A, S, Z, B, T, V, J, Y, P))) := by
  refine ct_of (by decide +kernel) (Nat.le_of_ble_eq_true rfl) ?_
  have hRS : RS A Y P d_ h_ := Or.inr <| Or.inr hc_
  obtain ⟨hK0, hY0, hA0, hs2, hA2, hn100, hE0⟩ := hc_
  show Wm l G cX6_leastOfSort 1 RX6 ((some .int)) (rmk 0 0 0) (fun _ => True) (QfM G (qI (fun r_ σ => r_ = leastI (hSo h_ d_) ∧ σ = (A, S, Z, B, T, V, J, Y, P))) 0 0) 0 [(0, .ref (gK G 3 d_))] [] (A, S, Z, B, T, V, J, Y, P) 0 0
  refine m_aload_n 0 rfl rfl dX6_leastOfSort_0 ?_
  refine gf_X6_9 hd_ dX6_leastOfSort_1 ?_
  refine m_topi hA0 ?_
  refine m_ifn_ne (hSo h_ d_) 12 (by omega) dX6_leastOfSort_4 (by decide) (fun c1_ => ?_) (fun c1_ => ?_)
  ·
    refine m_aload_n 0 rfl rfl dX6_leastOfSort_12 ?_
    refine gf_X6_9 hd_ dX6_leastOfSort_13 ?_
    refine m_topi hA0 ?_
    refine m_iconst 1 dX6_leastOfSort_16 rfl ?_
    refine m_icmpn_ne (hSo h_ d_) 1 26 (by omega) (by decide) dX6_leastOfSort_17 (by decide) (fun c2_ => ?_) (fun c2_ => ?_)
    ·
      refine m_ldc (-2147483648) tw_812 dX6_leastOfSort_26 ?_
      exact m_iret dX6_leastOfSort_28 (Nat.le_refl _) (Nat.le_refl _) (⟨by grind [rowRef, sortRef, wayRef, placeB, placesB, leastI, bI], rfl⟩)
    ·
      refine m_sipush (-32768) dX6_leastOfSort_20 rfl ?_
      refine m_goto 28 dX6_leastOfSort_23 (by decide) ?_
      exact m_iret dX6_leastOfSort_28 (Nat.le_refl _) (Nat.le_refl _) (⟨by grind [rowRef, sortRef, wayRef, placeB, placesB, leastI, bI], rfl⟩)
  ·
    refine m_bipush (-128) dX6_leastOfSort_7 rfl ?_
    refine m_goto 28 dX6_leastOfSort_9 (by decide) ?_
    exact m_iret dX6_leastOfSort_28 (Nat.le_refl _) (Nat.le_refl _) (⟨by grind [rowRef, sortRef, wayRef, placeB, placesB, leastI, bI], rfl⟩)
set_option maxRecDepth 100000 in
set_option maxHeartbeats 4000000 in
theorem k_get (l : Launch) (G : owG) {A S Z B T V : owF} {J : Nat → Nat → Int64} {Y : Nat → Nat → Nat → Option Nat} {P : Nat → Option owW} (d_ : Nat) (hd_ : d_ < owN 3) (h_ : owH) (hc_ : hK h_ d_ = 2 ∧ Y 3 d_ 0 = none ∧ A 3 d_ 1 = nI (hSo h_ d_) ∧ hSo h_ d_ ≤ 2 ∧ A 3 d_ 2 = nI (hN h_ d_) ∧ hN h_ d_ ≤ 100 ∧ ∀ j_, j_ < 100 → A 16 d_ j_ = hE h_ d_ j_) (x_ : Int32) : Ct l G yX6_get cX6_get 2 ((some .int)) 1 0 0 [.ref (gK G 3 d_), .int x_] (A, S, Z, B, T, V, J, Y, P) (qI (fun r_ σ => r_ = getI h_ d_ x_ ∧ σ = (A, S, Z, B, T, V, J, Y, P))) := by
  refine ct_of (by decide +kernel) (Nat.le_of_ble_eq_true rfl) ?_
  have hc2 := hc_
  have hRS : RS A Y P d_ h_ := Or.inr <| Or.inr hc_
  obtain ⟨hK0, hY0, hA0, hs2, hA2, hn100, hE0⟩ := hc_
  show Wm l G cX6_get 2 RX6 ((some .int)) (rmk 1 0 0) (fun _ => True) (QfM G (qI (fun r_ σ => r_ = getI h_ d_ x_ ∧ σ = (A, S, Z, B, T, V, J, Y, P))) 0 0) 0 [(0, .ref (gK G 3 d_)), (1, .int x_)] [] (A, S, Z, B, T, V, J, Y, P) 0 0
  refine m_aload_n 0 rfl rfl dX6_get_0 ?_
  refine m_iload_n 1 rfl rfl dX6_get_1 ?_
  refine m_callVi cv_X6_34 [.int x_] [] (k_hasPlace l G d_ hd_ h_ hc2 x_) hd_ (ce_3 G _ _ _ _ _ _ _ _ _ _) rfl rfl rfl ⟨Nat.le_of_ble_eq_true rfl, Nat.le_of_ble_eq_true rfl⟩ (Nat.le_of_ble_eq_true rfl) ⟨Nat.zero_le _, Nat.zero_le _⟩ dX6_get_2 (fun xx σ2 hq => ?_)
  obtain ⟨rfl, rfl⟩ := hq
  refine m_ifeq_b 19 dX6_get_5 (by decide) (fun c1_ => ?_) (fun c1_ => ?_)
  ·
    refine m_iconst 0 dX6_get_19 rfl ?_
    exact m_iret dX6_get_20 (Nat.le_refl _) (Nat.le_refl _) (⟨by grind [getI], rfl⟩)
  ·
    obtain ⟨k_, hk_, rfl⟩ := natOf2 (x := x_) (n := hN h_ d_) (by grind [placeB]) (by grind [placeB]) (by omega)
    refine m_aload_n 0 rfl rfl dX6_get_8 ?_
    refine gf_X6_15 hd_ dX6_get_9 ?_
    refine m_iload_n 1 rfl rfl dX6_get_12 ?_
    refine m_callNi cn_X6_38 [.ref (gK G 16 d_), .int (nI (k_))] [] (k_at (t := 16) (n := 100) l G hd_ (ce_16 G _ _ _ _ _ _ _ _ _ d_) (by decide) (nI (k_))) rfl rfl ⟨Nat.le_of_ble_eq_true rfl, Nat.le_of_ble_eq_true rfl⟩ (Nat.le_of_ble_eq_true rfl) ⟨Nat.zero_le _, Nat.zero_le _⟩ dX6_get_13 (fun xx σ2 hq => ?_)
    obtain rfl : xx = A 16 d_ k_ := hq.1.trans (atV_in (by omega) (by decide))
    obtain rfl := hq.2
    refine m_topi (hE0 k_ (by omega)) ?_
    refine m_goto 20 dX6_get_16 (by decide) ?_
    exact m_iret dX6_get_20 (Nat.le_refl _) (Nat.le_refl _) (⟨(getI_in hn100 hk_).symm, rfl⟩)
set_option maxRecDepth 100000 in
set_option maxHeartbeats 4000000 in
theorem k_takeWay_n (l : Launch) (G : owG) {A S Z B T V : owF} {J : Nat → Nat → Int64} {Y : Nat → Nat → Nat → Option Nat} {P : Nat → Option owW} (d_ : Nat) (hd_ : d_ < owN 3)  : Ct l G yX6_takeWay cX6_takeWay 2 ((none : Option Jvm.ClassFile.FieldType)) 0 0 0 [.ref (gK G 3 d_), .null] (A, S, Z, B, T, V, J, Y, P) (qV (fun σ => ∃ (A2 : owF) (Y2 : Nat → Nat → Nat → Option Nat), σ = (A2, S, Z, B, T, V, J, Y2, P) ∧ dfr d_ A A2 ∧ dyf d_ Y Y2 ∧ Y2 3 d_ 0 = none ∧ A2 3 d_ 1 = -1)) := by
  refine ct_of (by decide +kernel) (Nat.le_of_ble_eq_true rfl) ?_
  show Wm l G cX6_takeWay 2 RX6 ((none : Option Jvm.ClassFile.FieldType)) (rmk 0 0 0) (fun _ => True) (QfM G (qV (fun σ => ∃ (A2 : owF) (Y2 : Nat → Nat → Nat → Option Nat), σ = (A2, S, Z, B, T, V, J, Y2, P) ∧ dfr d_ A A2 ∧ dyf d_ Y Y2 ∧ Y2 3 d_ 0 = none ∧ A2 3 d_ 1 = -1)) 0 0) 0 [(0, .ref (gK G 3 d_)), (1, .null)] [] (A, S, Z, B, T, V, J, Y, P) 0 0
  refine m_aload_n 0 rfl rfl dX6_takeWay_0 ?_
  refine m_aload_nN 1 rfl rfl dX6_takeWay_1 ?_
  refine pf_X6_19 hd_ none dX6_takeWay_2 (fun Y1 hY1 => ?_)
  refine m_aload_n 0 rfl rfl dX6_takeWay_5 ?_
  refine m_iconst (-1) dX6_takeWay_6 rfl ?_
  refine pf_X6_9 hd_ dX6_takeWay_7 (fun A2 hA2 => ?_)
  refine m_aload_n 0 rfl rfl dX6_takeWay_10 ?_
  refine m_iconst 0 dX6_takeWay_11 rfl ?_
  refine pf_X6_31 hd_ dX6_takeWay_12 (fun A3 hA3 => ?_)
  exact m_vret dX6_takeWay_15 (Nat.le_refl _) (Nat.le_refl _) (⟨A3, Y1, rfl, (dfr_up (dfr_up dfr_rf hA2 (by decide)) hA3 (by decide)), (dyf_up dyf_rf hY1), (up3_e hY1), (up3_j hA3 (by decide) (up3_e hA2))⟩)
set_option maxRecDepth 100000 in
set_option maxHeartbeats 4000000 in
theorem k_takeWay_s (l : Launch) (G : owG) {A S Z B T V : owF} {J : Nat → Nat → Int64} {Y : Nat → Nat → Nat → Option Nat} {P : Nat → Option owW} (d_ : Nat) (hd_ : d_ < owN 3) (ad : Nat) : Ct l G yX6_takeWay cX6_takeWay 2 ((none : Option Jvm.ClassFile.FieldType)) 0 0 0 [.ref (gK G 3 d_), .ref ad] (A, S, Z, B, T, V, J, Y, P) (qV (fun σ => ∃ (A2 : owF) (Y2 : Nat → Nat → Nat → Option Nat), σ = (A2, S, Z, B, T, V, J, Y2, P) ∧ dfr d_ A A2 ∧ dyf d_ Y Y2 ∧ Y2 3 d_ 0 = (some ad) ∧ A2 3 d_ 1 = -1)) := by
  refine ct_of (by decide +kernel) (Nat.le_of_ble_eq_true rfl) ?_
  show Wm l G cX6_takeWay 2 RX6 ((none : Option Jvm.ClassFile.FieldType)) (rmk 0 0 0) (fun _ => True) (QfM G (qV (fun σ => ∃ (A2 : owF) (Y2 : Nat → Nat → Nat → Option Nat), σ = (A2, S, Z, B, T, V, J, Y2, P) ∧ dfr d_ A A2 ∧ dyf d_ Y Y2 ∧ Y2 3 d_ 0 = (some ad) ∧ A2 3 d_ 1 = -1)) 0 0) 0 [(0, .ref (gK G 3 d_)), (1, .ref ad)] [] (A, S, Z, B, T, V, J, Y, P) 0 0
  refine m_aload_n 0 rfl rfl dX6_takeWay_0 ?_
  refine m_aload_n 1 rfl rfl dX6_takeWay_1 ?_
  refine pf_X6_19 hd_ (some ad) dX6_takeWay_2 (fun Y1 hY1 => ?_)
  refine m_aload_n 0 rfl rfl dX6_takeWay_5 ?_
  refine m_iconst (-1) dX6_takeWay_6 rfl ?_
  refine pf_X6_9 hd_ dX6_takeWay_7 (fun A2 hA2 => ?_)
  refine m_aload_n 0 rfl rfl dX6_takeWay_10 ?_
  refine m_iconst 0 dX6_takeWay_11 rfl ?_
  refine pf_X6_31 hd_ dX6_takeWay_12 (fun A3 hA3 => ?_)
  exact m_vret dX6_takeWay_15 (Nat.le_refl _) (Nat.le_refl _) (⟨A3, Y1, rfl, (dfr_up (dfr_up dfr_rf hA2 (by decide)) hA3 (by decide)), (dyf_up dyf_rf hY1), (up3_e hY1), (up3_j hA3 (by decide) (up3_e hA2))⟩)
set_option maxRecDepth 100000 in
set_option maxHeartbeats 4000000 in
theorem k_takeRow (l : Launch) (G : owG) {A S Z B T V : owF} {J : Nat → Nat → Int64} {Y : Nat → Nat → Nat → Option Nat} {P : Nat → Option owW} (d_ : Nat) (hd_ : d_ < owN 3) (so n_ : Nat) (hso : so ≤ 2) (hn : n_ ≤ 100) : Ct l G yX6_takeRow cX6_takeRow 4 ((none : Option Jvm.ClassFile.FieldType)) 0 0 0 [.ref (gK G 3 d_), .int (nI (so)), .int (nI (n_))] (A, S, Z, B, T, V, J, Y, P) (qV (fun σ => ∃ (A2 : owF) (Y2 : Nat → Nat → Nat → Option Nat), σ = (A2, S, Z, B, T, V, J, Y2, P) ∧ dfr d_ A A2 ∧ dyf d_ Y Y2 ∧ Y2 3 d_ 0 = none ∧ A2 3 d_ 1 = nI so ∧ A2 3 d_ 2 = nI n_ ∧ ∀ j_, j_ < 100 → A2 16 d_ j_ = 0)) := by
  refine ct_of (by decide +kernel) (Nat.le_of_ble_eq_true rfl) ?_
  show Wm l G cX6_takeRow 4 RX6 ((none : Option Jvm.ClassFile.FieldType)) (rmk 0 0 0) (fun _ => True) (QfM G (qV (fun σ => ∃ (A2 : owF) (Y2 : Nat → Nat → Nat → Option Nat), σ = (A2, S, Z, B, T, V, J, Y2, P) ∧ dfr d_ A A2 ∧ dyf d_ Y Y2 ∧ Y2 3 d_ 0 = none ∧ A2 3 d_ 1 = nI so ∧ A2 3 d_ 2 = nI n_ ∧ ∀ j_, j_ < 100 → A2 16 d_ j_ = 0)) 0 0) 0 [(0, .ref (gK G 3 d_)), (1, .int (nI (so))), (2, .int (nI (n_)))] [] (A, S, Z, B, T, V, J, Y, P) 0 0
  refine m_aload_n 0 rfl rfl dX6_takeRow_0 ?_
  refine m_null dX6_takeRow_1 ?_
  refine pf_X6_19 hd_ none dX6_takeRow_2 (fun Y1 hY1 => ?_)
  refine m_aload_n 0 rfl rfl dX6_takeRow_5 ?_
  refine m_iload_n 1 rfl rfl dX6_takeRow_6 ?_
  refine pf_X6_9 hd_ dX6_takeRow_7 (fun A2 hA2 => ?_)
  refine m_aload_n 0 rfl rfl dX6_takeRow_10 ?_
  refine m_iload_n 2 rfl rfl dX6_takeRow_11 ?_
  refine pf_X6_31 hd_ dX6_takeRow_12 (fun A3 hA3 => ?_)
  refine m_iconst 0 dX6_takeRow_15 rfl ?_
  refine m_istore_n [(3, .int 0), (0, .ref (gK G 3 d_)), (1, .int (nI (so))), (2, .int (nI (n_)))] rfl (by decide) rfl dX6_takeRow_16 ?_
  have lp17 : ∀ (dd : Nat) (k_ : Nat) (A9 : owF), k_ ≤ 100 → dfr d_ A A9 → A9 3 d_ 1 = nI so → A9 3 d_ 2 = nI n_ → (∀ j_, j_ < k_ → A9 16 d_ j_ = 0) → 100 - k_ < dd → Wm l G cX6_takeRow 4 RX6 ((none : Option Jvm.ClassFile.FieldType)) (rmk 0 0 0) (fun _ => True) (QfM G (qV (fun σ => ∃ (A2 : owF) (Y2 : Nat → Nat → Nat → Option Nat), σ = (A2, S, Z, B, T, V, J, Y2, P) ∧ dfr d_ A A2 ∧ dyf d_ Y Y2 ∧ Y2 3 d_ 0 = none ∧ A2 3 d_ 1 = nI so ∧ A2 3 d_ 2 = nI n_ ∧ ∀ j_, j_ < 100 → A2 16 d_ j_ = 0)) 0 0) 17 [(0, .ref (gK G 3 d_)), (1, .int (nI (so))), (2, .int (nI (n_))), (3, .int (nI (k_)))] [] (A9, S, Z, B, T, V, J, Y1, P) 0 0 := by
    intro dd
    induction dd with
    | zero => intro k_ A9 hk_ hdf ha1 ha2 hz hdd; exact absurd hdd (Nat.not_lt_zero _)
    | succ dd ih17 =>
      intro k_ A9 hk_ hdf ha1 ha2 hz hdd17
      refine m_iload_n 3 rfl rfl dX6_takeRow_17 ?_
      refine m_aload_n 0 rfl rfl dX6_takeRow_18 ?_
      refine gf_X6_15 hd_ dX6_takeRow_19 ?_
      refine ln_16 hd_ dX6_takeRow_22 ?_
      refine m_icmpn_ge k_ 100 39 (by omega) (by decide) dX6_takeRow_23 (by decide) (fun c4_ => ?_) (fun c4_ => ?_)
      ·
        exact m_vret dX6_takeRow_39 (Nat.le_refl _) (Nat.le_refl _) ((by obtain rfl : k_ = 100 := (by omega); exact ⟨A9, _, rfl, hdf, (dyf_up dyf_rf hY1), (up3_e hY1), ha1, ha2, hz⟩))
      ·
        refine m_aload_n 0 rfl rfl dX6_takeRow_26 ?_
        refine gf_X6_15 hd_ dX6_takeRow_27 ?_
        refine m_iload_n 3 rfl rfl dX6_takeRow_30 ?_
        refine m_iconst 0 dX6_takeRow_31 rfl ?_
        refine as_16 hd_ k_ rfl (by omega) dX6_takeRow_32 (fun A5 hA5 => ?_)
        refine m_iinc (nI (k_ + 1)) 3 [(3, .int (nI (k_ + 1))), (0, .ref (gK G 3 d_)), (1, .int (nI (so))), (2, .int (nI (n_)))] rfl (nI_1 _) (by decide) rfl dX6_takeRow_33 ?_
        refine m_goto 17 dX6_takeRow_36 (by decide) ?_
        refine m_lv [(0, .ref (gK G 3 d_)), (1, .int (nI (so))), (2, .int (nI (n_))), (3, .int (nI (k_ + 1)))] [1, 2, 3, 0] rfl ?_
        exact ih17 (k_ + 1) A5 (by omega) (dfr_up hdf hA5 (by decide)) (up3_t hA5 (by decide) ha1) (up3_t hA5 (by decide) ha2) (fun j_ hj => by rcases Nat.lt_or_ge j_ k_ with q_ | q_; exact up3_j hA5 (by omega) (hz j_ q_); obtain rfl : k_ = j_ := (by omega); exact up3_e hA5) (by omega)
  refine m_lv [(0, .ref (gK G 3 d_)), (1, .int (nI (so))), (2, .int (nI (n_))), (3, .int 0)] [1, 2, 3, 0] rfl ?_
  exact lp17 ((100 - 0) + 1) 0 A3 (by omega) (dfr_up (dfr_up dfr_rf hA2 (by decide)) hA3 (by decide)) (up3_j hA3 (by decide) (up3_e hA2)) (up3_e hA3) (fun j_ hj => absurd hj (Nat.not_lt_zero j_)) (Nat.lt_succ_self _)
set_option maxRecDepth 100000 in
set_option maxHeartbeats 4000000 in
theorem k_store (l : Launch) (G : owG) {A S Z B T V : owF} {J : Nat → Nat → Int64} {Y : Nat → Nat → Nat → Option Nat} {P : Nat → Option owW} (d_ : Nat) (hd_ : d_ < owN 3) (h_ : owH) (hc_ : hK h_ d_ = 2 ∧ Y 3 d_ 0 = none ∧ A 3 d_ 1 = nI (hSo h_ d_) ∧ hSo h_ d_ ≤ 2 ∧ A 3 d_ 2 = nI (hN h_ d_) ∧ hN h_ d_ ≤ 100 ∧ ∀ j_, j_ < 100 → A 16 d_ j_ = hE h_ d_ j_) (k_ : Nat) (hk_ : k_ < hN h_ d_) (v_ : Int32) : Ct l G yX6_store cX6_store 3 ((none : Option Jvm.ClassFile.FieldType)) 1 0 0 [.ref (gK G 3 d_), .int (nI (k_)), .int v_] (A, S, Z, B, T, V, J, Y, P) (qV (fun σ => σ = (up3 A 16 d_ k_ (narI (hSo h_ d_) v_), S, Z, B, T, V, J, Y, P))) := by
  refine ct_of (by decide +kernel) (Nat.le_of_ble_eq_true rfl) ?_
  have hc2 := hc_
  have hRS : RS A Y P d_ h_ := Or.inr <| Or.inr hc_
  obtain ⟨hK0, hY0, hA0, hs2, hA2, hn100, hE0⟩ := hc_
  show Wm l G cX6_store 3 RX6 ((none : Option Jvm.ClassFile.FieldType)) (rmk 1 0 0) (fun _ => True) (QfM G (qV (fun σ => σ = (up3 A 16 d_ k_ (narI (hSo h_ d_) v_), S, Z, B, T, V, J, Y, P))) 0 0) 0 [(0, .ref (gK G 3 d_)), (1, .int (nI (k_))), (2, .int v_)] [] (A, S, Z, B, T, V, J, Y, P) 0 0
  refine m_aload_n 0 rfl rfl dX6_store_0 ?_
  refine m_iload_n 1 rfl rfl dX6_store_1 ?_
  refine m_callVi cv_X6_34 [.int (nI (k_))] [] (k_hasPlace l G d_ hd_ h_ hc2 (nI k_)) hd_ (ce_3 G _ _ _ _ _ _ _ _ _ _) rfl rfl rfl ⟨Nat.le_of_ble_eq_true rfl, Nat.le_of_ble_eq_true rfl⟩ (Nat.le_of_ble_eq_true rfl) ⟨Nat.zero_le _, Nat.zero_le _⟩ dX6_store_2 (fun xx σ2 hq => ?_)
  obtain ⟨rfl, rfl⟩ := hq
  rw [show placeB h_ d_ (nI k_) = true from decide_eq_true ⟨nI_pos' (by omega), nI_lt hk_ (by omega)⟩]
  refine m_if_eq 42 dX6_store_5 (by decide) (fun c1_ => absurd c1_ (by decide)) (fun _ => ?_)
  refine m_aload_n 0 rfl rfl dX6_store_8 ?_
  refine gf_X6_15 hd_ dX6_store_9 ?_
  refine m_iload_n 1 rfl rfl dX6_store_12 ?_
  refine m_aload_n 0 rfl rfl dX6_store_13 ?_
  refine gf_X6_9 hd_ dX6_store_14 ?_
  refine m_topi hA0 ?_
  refine m_ifn_ne (hSo h_ d_) 25 (by omega) dX6_store_17 (by decide) (fun c2_ => ?_) (fun c2_ => ?_)
  ·
    refine m_aload_n 0 rfl rfl dX6_store_25 ?_
    refine gf_X6_9 hd_ dX6_store_26 ?_
    refine m_topi hA0 ?_
    refine m_iconst 1 dX6_store_29 rfl ?_
    refine m_icmpn_ne (hSo h_ d_) 1 38 (by omega) (by decide) dX6_store_30 (by decide) (fun c3_ => ?_) (fun c3_ => ?_)
    ·
      refine m_iload_n 2 rfl rfl dX6_store_38 ?_
      refine m_callNv cn_X6_42 [.ref (gK G 16 d_), .int (nI (k_)), .int v_] [] (k_set_16 l G hd_ k_ (by omega) v_) rfl rfl ⟨Nat.le_of_ble_eq_true rfl, Nat.le_of_ble_eq_true rfl⟩ (Nat.le_of_ble_eq_true rfl) ⟨Nat.zero_le _, Nat.zero_le _⟩ dX6_store_39 (fun σ2 hq => ?_)
      obtain rfl := hq
      obtain ⟨A4, hA4⟩ : ∃ q_ : owF, q_ = up3 A 16 d_ k_ v_ := ⟨_, rfl⟩
      rw [← hA4]
      exact m_vret dX6_store_42 (Nat.le_refl _) (Nat.le_refl _) ((by rw [hA4]; simp only [narI]; grind))
    ·
      refine m_iload_n 2 rfl rfl dX6_store_33 ?_
      refine m_i2s dX6_store_34 ?_
      refine m_goto 39 dX6_store_35 (by decide) ?_
      refine m_callNv cn_X6_42 [.ref (gK G 16 d_), .int (nI (k_)), .int v_.toInt16.toInt32] [] (k_set_16 l G hd_ k_ (by omega) v_.toInt16.toInt32) rfl rfl ⟨Nat.le_of_ble_eq_true rfl, Nat.le_of_ble_eq_true rfl⟩ (Nat.le_of_ble_eq_true rfl) ⟨Nat.zero_le _, Nat.zero_le _⟩ dX6_store_39 (fun σ2 hq => ?_)
      obtain rfl := hq
      obtain ⟨A5, hA5⟩ : ∃ q_ : owF, q_ = up3 A 16 d_ k_ v_.toInt16.toInt32 := ⟨_, rfl⟩
      rw [← hA5]
      exact m_vret dX6_store_42 (Nat.le_refl _) (Nat.le_refl _) ((by rw [hA5]; simp only [narI]; grind))
  ·
    refine m_iload_n 2 rfl rfl dX6_store_20 ?_
    refine m_i2b dX6_store_21 ?_
    refine m_goto 39 dX6_store_22 (by decide) ?_
    refine m_callNv cn_X6_42 [.ref (gK G 16 d_), .int (nI (k_)), .int v_.toInt8.toInt32] [] (k_set_16 l G hd_ k_ (by omega) v_.toInt8.toInt32) rfl rfl ⟨Nat.le_of_ble_eq_true rfl, Nat.le_of_ble_eq_true rfl⟩ (Nat.le_of_ble_eq_true rfl) ⟨Nat.zero_le _, Nat.zero_le _⟩ dX6_store_39 (fun σ2 hq => ?_)
    obtain rfl := hq
    obtain ⟨A6, hA6⟩ : ∃ q_ : owF, q_ = up3 A 16 d_ k_ v_.toInt8.toInt32 := ⟨_, rfl⟩
    rw [← hA6]
    exact m_vret dX6_store_42 (Nat.le_refl _) (Nat.le_refl _) ((by rw [hA6]; simp only [narI]; grind))
set_option maxRecDepth 100000 in
set_option maxHeartbeats 4000000 in
theorem k_shelfAt_s (l : Launch) (G : owG) {A S Z B T V : owF} {J : Nat → Nat → Int64} {Y : Nat → Nat → Nat → Option Nat} {P : Nat → Option owW} (d_ : Nat) (hd_ : d_ < 8) : Ct l G yX11_shelfAt cX11_shelfAt 2 ((some (.object "OwnWays$Shelf"))) 0 0 0 [.ref (gK G 0 0), .int (nI (d_))] (A, S, Z, B, T, V, J, Y, P) (qR (fun r_ σ => r_ = some (gK G 3 d_) ∧ σ = (A, S, Z, B, T, V, J, Y, P))) := by
  refine ct_of (by decide +kernel) (Nat.le_of_ble_eq_true rfl) ?_
  show Wm l G cX11_shelfAt 2 RX11 ((some (.object "OwnWays$Shelf"))) (rmk 0 0 0) (fun _ => True) (QfM G (qR (fun r_ σ => r_ = some (gK G 3 d_) ∧ σ = (A, S, Z, B, T, V, J, Y, P))) 0 0) 0 [(0, .ref (gK G 0 0)), (1, .int (nI (d_)))] [] (A, S, Z, B, T, V, J, Y, P) 0 0
  refine m_iload_n 1 rfl rfl dX11_shelfAt_0 ?_
  refine m_ifn_lt d_ 19 (by omega) dX11_shelfAt_1 (by decide) (fun c1_ => ?_) (fun c1_ => ?_)
  ·
    refine m_null dX11_shelfAt_19 ?_
    exact m_dead (by first | assumption | omega)
  ·
    refine m_iload_n 1 rfl rfl dX11_shelfAt_4 ?_
    refine m_bipush (8) dX11_shelfAt_5 rfl ?_
    refine m_icmpn_ge d_ 8 19 (by omega) (by decide) dX11_shelfAt_7 (by decide) (fun c2_ => ?_) (fun c2_ => ?_)
    ·
      refine m_null dX11_shelfAt_19 ?_
      exact m_dead (by first | assumption | omega)
    ·
      refine m_aload_n 0 rfl rfl dX11_shelfAt_10 ?_
      refine gf_X11_24 dX11_shelfAt_11 ?_
      refine m_iload_n 1 rfl rfl dX11_shelfAt_14 ?_
      refine al_37 d_ rfl (by omega) dX11_shelfAt_15 ?_
      refine m_goto 20 dX11_shelfAt_16 (by decide) ?_
      exact m_arefs dX11_shelfAt_20 (Nat.le_refl _) (Nat.le_refl _) (⟨rfl, rfl⟩)
set_option maxRecDepth 100000 in
set_option maxHeartbeats 4000000 in
theorem k_shelfAt_n (l : Launch) (G : owG) {A S Z B T V : owF} {J : Nat → Nat → Int64} {Y : Nat → Nat → Nat → Option Nat} {P : Nat → Option owW} (x_ : Int32) (hx_ : isD x_ = false) : Ct l G yX11_shelfAt cX11_shelfAt 2 ((some (.object "OwnWays$Shelf"))) 0 0 0 [.ref (gK G 0 0), .int x_] (A, S, Z, B, T, V, J, Y, P) (qR (fun r_ σ => r_ = none ∧ σ = (A, S, Z, B, T, V, J, Y, P))) := by
  refine ct_of (by decide +kernel) (Nat.le_of_ble_eq_true rfl) ?_
  have hx2 := of_decide_eq_false hx_
  show Wm l G cX11_shelfAt 2 RX11 ((some (.object "OwnWays$Shelf"))) (rmk 0 0 0) (fun _ => True) (QfM G (qR (fun r_ σ => r_ = none ∧ σ = (A, S, Z, B, T, V, J, Y, P))) 0 0) 0 [(0, .ref (gK G 0 0)), (1, .int x_)] [] (A, S, Z, B, T, V, J, Y, P) 0 0
  refine m_iload_n 1 rfl rfl dX11_shelfAt_0 ?_
  refine m_if_lt 19 dX11_shelfAt_1 (by decide) (fun c1_ => ?_) (fun c1_ => ?_)
  ·
    refine m_null dX11_shelfAt_19 ?_
    exact m_arefn dX11_shelfAt_20 (Nat.le_refl _) (Nat.le_refl _) (⟨rfl, rfl⟩)
  ·
    refine m_iload_n 1 rfl rfl dX11_shelfAt_4 ?_
    refine m_bipush (8) dX11_shelfAt_5 rfl ?_
    refine m_icmp_ge 19 dX11_shelfAt_7 (by decide) (fun c2_ => ?_) (fun c2_ => ?_)
    ·
      refine m_null dX11_shelfAt_19 ?_
      exact m_arefn dX11_shelfAt_20 (Nat.le_refl _) (Nat.le_refl _) (⟨rfl, rfl⟩)
    · exact absurd ⟨by grind, by grind⟩ hx2
