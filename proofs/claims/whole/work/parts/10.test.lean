def isSumB (a b : Int32) : Bool := decide (0 ≤ b ∧ b ≤ a ∧ a ≤ 9999)
def is01 (a : Int32) : Bool := decide (a = 0 ∨ a = 1)
def isAnsB (a : Int32) : Bool := decide (0 ≤ a ∧ a ≤ 9999)
def amongB (w : Int32) (i : Int32) : Bool := decide (w >>> (i &&& 31) &&& 1 = 1)
theorem natOf {x : Int32} (h : 0 ≤ x) : ∃ k : Nat, k < 2 ^ 31 ∧ x = nI k := by
  obtain ⟨k, h1, h2⟩ := nI_of (x := x) (by grind)
  exact ⟨k, h1, h2⟩
theorem natOf2 {x : Int32} {n : Nat} (h : 0 ≤ x) (h2 : x < nI n) (hn : n < 2 ^ 31) : ∃ k : Nat, k < n ∧ x = nI k := by
  obtain ⟨k, h1, rfl⟩ := natOf h
  exact ⟨k, (nI_ltI h1 hn).mp h2, rfl⟩
theorem sumNat {a b : Int32} (h : isSumB a b = true) : ∃ x y : Nat, a = nI x ∧ b = nI y ∧ y ≤ x ∧ x ≤ 9999 := by
  have h0 := of_decide_eq_true h
  obtain ⟨x, hx, rfl⟩ := natOf (x := a) (by grind)
  obtain ⟨y, hy, rfl⟩ := natOf (x := b) (by grind)
  refine ⟨x, y, rfl, rfl, (nI_leI hy hx).mp h0.2.1, (nI_leI hx (by decide)).mp h0.2.2⟩
set_option maxRecDepth 100000 in
set_option maxHeartbeats 4000000 in
theorem k_isSum (l : Launch) (G : owG) {A S Z B T V : owF} {J : Nat → Nat → Int64} {Y : Nat → Nat → Nat → Option Nat} {P : Nat → Option owW} (a b : Int32) : Ct l G yX11_isSum cX11_isSum 2 ((some .boolean)) 0 0 0 [.int a, .int b] (A, S, Z, B, T, V, J, Y, P) (qI (fun x σ => x = bI (isSumB a b) ∧ σ = (A, S, Z, B, T, V, J, Y, P))) := by
  refine ct_of (by decide +kernel) (Nat.le_of_ble_eq_true rfl) ?_
  show Wm l G cX11_isSum 2 RX11 ((some .boolean)) (rmk 0 0 0) (fun _ => True) (QfM G (qI (fun x σ => x = bI (isSumB a b) ∧ σ = (A, S, Z, B, T, V, J, Y, P))) 0 0) 0 [(0, .int a), (1, .int b)] [] (A, S, Z, B, T, V, J, Y, P) 0 0
  refine m_iload_n 1 rfl rfl dX11_isSum_0 ?_
  refine m_if_lt 20 dX11_isSum_1 (by decide) (fun c1 => ?_) (fun c1 => ?_)
  ·
    refine m_iconst 0 dX11_isSum_20 rfl ?_
    exact m_zret dX11_isSum_21 (Nat.le_refl _) (Nat.le_refl _) nar0 (⟨by grind [isSumB, is01, isAnsB, amongB, bI], rfl⟩)
  ·
    refine m_iload_n 1 rfl rfl dX11_isSum_4 ?_
    refine m_iload_n 0 rfl rfl dX11_isSum_5 ?_
    refine m_icmp_gt 20 dX11_isSum_6 (by decide) (fun c2 => ?_) (fun c2 => ?_)
    ·
      refine m_iconst 0 dX11_isSum_20 rfl ?_
      exact m_zret dX11_isSum_21 (Nat.le_refl _) (Nat.le_refl _) nar0 (⟨by grind [isSumB, is01, isAnsB, amongB, bI], rfl⟩)
    ·
      refine m_iload_n 0 rfl rfl dX11_isSum_9 ?_
      refine m_sipush (9999) dX11_isSum_10 rfl ?_
      refine m_icmp_gt 20 dX11_isSum_13 (by decide) (fun c3 => ?_) (fun c3 => ?_)
      ·
        refine m_iconst 0 dX11_isSum_20 rfl ?_
        exact m_zret dX11_isSum_21 (Nat.le_refl _) (Nat.le_refl _) nar0 (⟨by grind [isSumB, is01, isAnsB, amongB, bI], rfl⟩)
      ·
        refine m_iconst 1 dX11_isSum_16 rfl ?_
        refine m_goto 21 dX11_isSum_17 (by decide) ?_
        exact m_zret dX11_isSum_21 (Nat.le_refl _) (Nat.le_refl _) nar1 (⟨by grind [isSumB, is01, isAnsB, amongB, bI], rfl⟩)
set_option maxRecDepth 100000 in
set_option maxHeartbeats 4000000 in
theorem k_is01 (l : Launch) (G : owG) {A S Z B T V : owF} {J : Nat → Nat → Int64} {Y : Nat → Nat → Nat → Option Nat} {P : Nat → Option owW} (a : Int32) : Ct l G yX11_isZeroOrOne cX11_isZeroOrOne 1 ((some .boolean)) 0 0 0 [.int a] (A, S, Z, B, T, V, J, Y, P) (qI (fun x σ => x = bI (is01 a) ∧ σ = (A, S, Z, B, T, V, J, Y, P))) := by
  refine ct_of (by decide +kernel) (Nat.le_of_ble_eq_true rfl) ?_
  show Wm l G cX11_isZeroOrOne 1 RX11 ((some .boolean)) (rmk 0 0 0) (fun _ => True) (QfM G (qI (fun x σ => x = bI (is01 a) ∧ σ = (A, S, Z, B, T, V, J, Y, P))) 0 0) 0 [(0, .int a)] [] (A, S, Z, B, T, V, J, Y, P) 0 0
  refine m_iload_n 0 rfl rfl dX11_isZeroOrOne_0 ?_
  refine m_if_eq 9 dX11_isZeroOrOne_1 (by decide) (fun c1 => ?_) (fun c1 => ?_)
  ·
    refine m_iconst 1 dX11_isZeroOrOne_9 rfl ?_
    refine m_goto 14 dX11_isZeroOrOne_10 (by decide) ?_
    exact m_zret dX11_isZeroOrOne_14 (Nat.le_refl _) (Nat.le_refl _) nar1 (⟨by grind [isSumB, is01, isAnsB, amongB, bI], rfl⟩)
  ·
    refine m_iload_n 0 rfl rfl dX11_isZeroOrOne_4 ?_
    refine m_iconst 1 dX11_isZeroOrOne_5 rfl ?_
    refine m_icmp_ne 13 dX11_isZeroOrOne_6 (by decide) (fun c2 => ?_) (fun c2 => ?_)
    ·
      refine m_iconst 0 dX11_isZeroOrOne_13 rfl ?_
      exact m_zret dX11_isZeroOrOne_14 (Nat.le_refl _) (Nat.le_refl _) nar0 (⟨by grind [isSumB, is01, isAnsB, amongB, bI], rfl⟩)
    ·
      refine m_iconst 1 dX11_isZeroOrOne_9 rfl ?_
      refine m_goto 14 dX11_isZeroOrOne_10 (by decide) ?_
      exact m_zret dX11_isZeroOrOne_14 (Nat.le_refl _) (Nat.le_refl _) nar1 (⟨by grind [isSumB, is01, isAnsB, amongB, bI], rfl⟩)
set_option maxRecDepth 100000 in
set_option maxHeartbeats 4000000 in
theorem k_isAns (l : Launch) (G : owG) {A S Z B T V : owF} {J : Nat → Nat → Int64} {Y : Nat → Nat → Nat → Option Nat} {P : Nat → Option owW} (a : Int32) : Ct l G yX11_isAnswer cX11_isAnswer 1 ((some .boolean)) 0 0 0 [.int a] (A, S, Z, B, T, V, J, Y, P) (qI (fun x σ => x = bI (isAnsB a) ∧ σ = (A, S, Z, B, T, V, J, Y, P))) := by
  refine ct_of (by decide +kernel) (Nat.le_of_ble_eq_true rfl) ?_
  show Wm l G cX11_isAnswer 1 RX11 ((some .boolean)) (rmk 0 0 0) (fun _ => True) (QfM G (qI (fun x σ => x = bI (isAnsB a) ∧ σ = (A, S, Z, B, T, V, J, Y, P))) 0 0) 0 [(0, .int a)] [] (A, S, Z, B, T, V, J, Y, P) 0 0
  refine m_iload_n 0 rfl rfl dX11_isAnswer_0 ?_
  refine m_if_lt 15 dX11_isAnswer_1 (by decide) (fun c1 => ?_) (fun c1 => ?_)
  ·
    refine m_iconst 0 dX11_isAnswer_15 rfl ?_
    exact m_zret dX11_isAnswer_16 (Nat.le_refl _) (Nat.le_refl _) nar0 (⟨by grind [isSumB, is01, isAnsB, amongB, bI], rfl⟩)
  ·
    refine m_iload_n 0 rfl rfl dX11_isAnswer_4 ?_
    refine m_sipush (9999) dX11_isAnswer_5 rfl ?_
    refine m_icmp_gt 15 dX11_isAnswer_8 (by decide) (fun c2 => ?_) (fun c2 => ?_)
    ·
      refine m_iconst 0 dX11_isAnswer_15 rfl ?_
      exact m_zret dX11_isAnswer_16 (Nat.le_refl _) (Nat.le_refl _) nar0 (⟨by grind [isSumB, is01, isAnsB, amongB, bI], rfl⟩)
    ·
      refine m_iconst 1 dX11_isAnswer_11 rfl ?_
      refine m_goto 16 dX11_isAnswer_12 (by decide) ?_
      exact m_zret dX11_isAnswer_16 (Nat.le_refl _) (Nat.le_refl _) nar1 (⟨by grind [isSumB, is01, isAnsB, amongB, bI], rfl⟩)
set_option maxRecDepth 100000 in
set_option maxHeartbeats 4000000 in
theorem k_among (l : Launch) (G : owG) {A S Z B T V : owF} {J : Nat → Nat → Int64} {Y : Nat → Nat → Nat → Option Nat} {P : Nat → Option owW} (a b : Int32) : Ct l G yX11_isAmong cX11_isAmong 2 ((some .boolean)) 0 0 0 [.int a, .int b] (A, S, Z, B, T, V, J, Y, P) (qI (fun x σ => x = bI (amongB a b) ∧ σ = (A, S, Z, B, T, V, J, Y, P))) := by
  refine ct_of (by decide +kernel) (Nat.le_of_ble_eq_true rfl) ?_
  show Wm l G cX11_isAmong 2 RX11 ((some .boolean)) (rmk 0 0 0) (fun _ => True) (QfM G (qI (fun x σ => x = bI (amongB a b) ∧ σ = (A, S, Z, B, T, V, J, Y, P))) 0 0) 0 [(0, .int a), (1, .int b)] [] (A, S, Z, B, T, V, J, Y, P) 0 0
  refine m_iload_n 0 rfl rfl dX11_isAmong_0 ?_
  refine m_iload_n 1 rfl rfl dX11_isAmong_1 ?_
  refine m_ishr dX11_isAmong_2 ?_
  refine m_iconst 1 dX11_isAmong_3 rfl ?_
  refine m_iand dX11_isAmong_4 ?_
  refine m_iconst 1 dX11_isAmong_5 rfl ?_
  refine m_icmp_ne 13 dX11_isAmong_6 (by decide) (fun c1 => ?_) (fun c1 => ?_)
  ·
    refine m_iconst 0 dX11_isAmong_13 rfl ?_
    exact m_zret dX11_isAmong_14 (Nat.le_refl _) (Nat.le_refl _) nar0 (⟨by grind [isSumB, is01, isAnsB, amongB, bI], rfl⟩)
  ·
    refine m_iconst 1 dX11_isAmong_9 rfl ?_
    refine m_goto 14 dX11_isAmong_10 (by decide) ?_
    exact m_zret dX11_isAmong_14 (Nat.le_refl _) (Nat.le_refl _) nar1 (⟨by grind [isSumB, is01, isAnsB, amongB, bI], rfl⟩)
