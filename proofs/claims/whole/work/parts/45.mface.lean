theorem wayI_k {a : owK} {w k : Nat} (ho : aOk a) (hw : w < aN a) (hk : k ≤ 2) : wayI a (nI w) (nI k) = nI (mG a w k) := by
  have h10 := ho.1
  unfold wayI mG
  rw [if_pos (isW_of ho hw), nI_clamp (by omega)]
  rcases (show k = 0 ∨ k = 1 ∨ k = 2 by omega) with q | q | q <;> subst q <;> rfl
theorem childI_k {a : owK} {c k : Nat} (ho : aOk a) (hc : c < aC a) (hk : k ≤ 2) : childI a (nI c) (nI k) = nI (mO a c k) := by
  have h10 := ho.2.1
  unfold childI mO
  rw [if_pos (isC_of ho hc), nI_clamp (by omega)]
  rcases (show k = 0 ∨ k = 1 ∨ k = 2 by omega) with q | q | q <;> subst q <;> rfl
theorem in02 {x : Int32} (h : inB x 0 2 = true) : ∃ k, k ≤ 2 ∧ x = nI k := by
  have q := of_decide_eq_true h
  exact nI_of2 (M := 2) (n := 2) (by decide) (Int32.not_lt.mpr q.1) q.2
theorem inN {x M : Int32} {n : Nat} (hM : M.toInt = n) (h : inB x 0 M = true) : ∃ k, k ≤ n ∧ x = nI k := by
  have q := of_decide_eq_true h
  exact nI_of2 hM (Int32.not_lt.mpr q.1) q.2
theorem in02f {x : Int32} (h : inB x 0 2 = false) : x ≠ 0 ∧ x ≠ 1 ∧ x ≠ 2 := by
  refine ⟨fun e => ?_, fun e => ?_, fun e => ?_⟩ <;> subst e <;> exact absurd h (by decide)
theorem le_lt1 {x : Int32} {n : Nat} (h : n + 1 < 2 ^ 31) : x ≤ nI n ↔ x < nI (n + 1) := by
  rw [← le_pred h, nI_pred]
theorem ltI_p {x y : Nat} {p : Int32} (h : p = 0) : ltI x y p = nI (x / Nat.gcd y x) := by unfold ltI; rw [if_pos h, Nat.gcd_comm]
theorem ltI_n {x y : Nat} {p : Int32} (h : ¬ p = 0) : ltI x y p = nI (y / Nat.gcd y x) := by unfold ltI; rw [if_neg h, Nat.gcd_comm]
set_option maxRecDepth 100000 in
set_option maxHeartbeats 4000000 in
theorem k_m_way (l : Launch) (G : owG) {A S Z B T V : owF} {J : Nat → Nat → Int64} {Y : Nat → Nat → Nat → Option Nat} {P : Nat → Option owW} (a_ : owK) (ho_ : aOk a_) (im : Option owK) (h_ : owH) (hM : MR B a_ im h_) (x_ y_ : Int32) : Ct l G yX12_way cX12_way 3 ((some .int)) 2 0 0 [.ref (gK G 4 0), .int x_, .int y_] (A, S, Z, B, T, V, J, Y, P) (qI (fun r_ σ => r_ = wayI a_ x_ y_ ∧ ∃ (T2 V2 : owF), σ = (A, S, Z, B, T2, V2, J, Y, P))) := by
  refine ct_of (by decide +kernel) (Nat.le_of_ble_eq_true rfl) ?_
  have h10 := ho_.1
  have h8_ := ho_.2.1
  have hX := hM.1
  show Wm l G cX12_way 3 RX12 ((some .int)) (rmk 2 0 0) (fun _ => True) (QfM G (qI (fun r_ σ => r_ = wayI a_ x_ y_ ∧ ∃ (T2 V2 : owF), σ = (A, S, Z, B, T2, V2, J, Y, P))) 0 0) 0 [(0, .ref (gK G 4 0)), (1, .int x_), (2, .int y_)] [] (A, S, Z, B, T, V, J, Y, P) 0 0
  refine m_aload_n 0 rfl rfl dX12_way_0 ?_
  refine m_iload_n 1 rfl rfl dX12_way_1 ?_
  refine m_callVi cv_X12_114 [.int x_] [] (k_m_isWay l G a_ ho_ im h_ hM x_) (by decide) (ce_4 G _ _ _ _ _ _ _ _ _ _) rfl rfl rfl ⟨Nat.le_of_ble_eq_true rfl, Nat.le_of_ble_eq_true rfl⟩ (Nat.le_of_ble_eq_true rfl) ⟨Nat.zero_le _, Nat.zero_le _⟩ dX12_way_2 (fun xx σ2 hq => ?_)
  obtain ⟨rfl, rfl⟩ := hq
  refine m_ifne_b 12 dX12_way_5 (by decide) (fun c1_ => ?_) (fun c1_ => ?_)
  ·
    have hwc := c1_
    obtain ⟨wq, hwq, rfl⟩ := isW_nat ho_ c1_
    have hclwq : (nI wq).toNatClampNeg = wq := nI_clamp (by omega)
    refine m_iload_n 2 rfl rfl dX12_way_12 ?_
    refine m_i2l dX12_way_13 ?_
    refine m_lconst 0 dX12_way_14 rfl ?_
    refine m_topl (show (0 : Int64) = (0 : Int32).toInt64 by decide) ?_
    refine m_ldc2 2 tw_1160 dX12_way_15 ?_
    refine m_topl (show (2 : Int64) = (2 : Int32).toInt64 by decide) ?_
    refine m_callSi cs_X12_62 [.long (y_.toInt64), .long ((0 : Int32).toInt64), .long ((2 : Int32).toInt64)] [] (k_m_isIn l G y_ 0 2) rfl rfl ⟨Nat.le_of_ble_eq_true rfl, Nat.le_of_ble_eq_true rfl⟩ (Nat.le_of_ble_eq_true rfl) ⟨Nat.zero_le _, Nat.zero_le _⟩ dX12_way_18 (fun xx σ2 hq => ?_)
    obtain ⟨rfl, rfl⟩ := hq
    refine m_ifeq_b 33 dX12_way_21 (by decide) (fun c2_ => ?_) (fun c2_ => ?_)
    ·
      refine m_iload_n 2 rfl rfl dX12_way_33 ?_
      refine m_iconst 3 dX12_way_34 rfl ?_
      refine m_icmp_ne 56 dX12_way_35 (by decide) (fun c3_ => ?_) (fun c3_ => ?_)
      ·
        refine m_iconst (-1) dX12_way_56 rfl ?_
        exact m_iret dX12_way_57 (Nat.le_refl _) (Nat.le_refl _) (⟨by have hn := in02f c2_; unfold wayI; rw [if_pos c1_, hclwq, if_neg hn.1, if_neg hn.2.1, if_neg hn.2.2]; first | rw [if_pos c3_] | rw [if_neg c3_], _, _, rfl⟩)
      ·
        refine m_aload_n 0 rfl rfl dX12_way_38 ?_
        refine m_iload_n 1 rfl rfl dX12_way_39 ?_
        refine m_iconst 0 dX12_way_40 rfl ?_
        refine m_callVi cv_X12_119 [.int (nI (wq)), .int 0] [] (k_m_get l G a_ ho_ im h_ hM wq hwq 0 (by decide)) (by decide) (ce_4 G _ _ _ _ _ _ _ _ _ _) rfl rfl rfl ⟨Nat.le_of_ble_eq_true rfl, Nat.le_of_ble_eq_true rfl⟩ (Nat.le_of_ble_eq_true rfl) ⟨Nat.zero_le _, Nat.zero_le _⟩ dX12_way_41 (fun xx σ2 hq => ?_)
        obtain ⟨hgx, rfl⟩ := hq
        obtain rfl : xx = nI (aK a_ wq) := hgx
        have hx4 := aK_lt ho_ (w := wq) hwq
        refine m_aload_n 0 rfl rfl dX12_way_44 ?_
        refine m_iload_n 1 rfl rfl dX12_way_45 ?_
        refine m_iconst 1 dX12_way_46 rfl ?_
        refine m_callVi cv_X12_119 [.int (nI (wq)), .int 1] [.int (nI (aK a_ wq))] (k_m_get l G a_ ho_ im h_ hM wq hwq 1 (by decide)) (by decide) (ce_4 G _ _ _ _ _ _ _ _ _ _) rfl rfl rfl ⟨Nat.le_of_ble_eq_true rfl, Nat.le_of_ble_eq_true rfl⟩ (Nat.le_of_ble_eq_true rfl) ⟨Nat.zero_le _, Nat.zero_le _⟩ dX12_way_47 (fun xx σ2 hq => ?_)
        obtain ⟨hgx, rfl⟩ := hq
        obtain rfl : xx = nI (aF a_ wq) := hgx
        have hx5 := aF_le ho_ (w := wq) hwq
        refine m_callSi cs_X12_122 [.int (nI (aK a_ wq)), .int (nI (aF a_ wq))] [] (k_m_costBy l G (aK a_ wq) (aF a_ wq) (by omega) (by omega)) rfl rfl ⟨Nat.le_of_ble_eq_true rfl, Nat.le_of_ble_eq_true rfl⟩ (Nat.le_of_ble_eq_true rfl) ⟨Nat.zero_le _, Nat.zero_le _⟩ dX12_way_50 (fun xx σ2 hq => ?_)
        obtain ⟨rfl, rfl⟩ := hq
        refine m_goto 57 dX12_way_53 (by decide) ?_
        exact m_iret dX12_way_57 (Nat.le_refl _) (Nat.le_refl _) (⟨by have hn := in02f c2_; unfold wayI; rw [if_pos c1_, hclwq, if_neg hn.1, if_neg hn.2.1, if_neg hn.2.2]; first | rw [if_pos c3_] | rw [if_neg c3_], _, _, rfl⟩)
    ·
      obtain ⟨kq, hkq, rfl⟩ := in02 c2_
      have hclkq : (nI kq).toNatClampNeg = kq := nI_clamp (by omega)
      refine m_aload_n 0 rfl rfl dX12_way_24 ?_
      refine m_iload_n 1 rfl rfl dX12_way_25 ?_
      refine m_iload_n 2 rfl rfl dX12_way_26 ?_
      refine m_callVi cv_X12_119 [.int (nI (wq)), .int (nI (kq))] [] (k_m_get l G a_ ho_ im h_ hM wq hwq kq (by omega)) (by decide) (ce_4 G _ _ _ _ _ _ _ _ _ _) rfl rfl rfl ⟨Nat.le_of_ble_eq_true rfl, Nat.le_of_ble_eq_true rfl⟩ (Nat.le_of_ble_eq_true rfl) ⟨Nat.zero_le _, Nat.zero_le _⟩ dX12_way_27 (fun xx σ2 hq => ?_)
      obtain ⟨rfl, rfl⟩ := hq
      refine m_goto 57 dX12_way_30 (by decide) ?_
      exact m_iret dX12_way_57 (Nat.le_refl _) (Nat.le_refl _) (⟨(wayI_k ho_ hwq hkq).symm, _, _, rfl⟩)
  ·
    refine m_iconst (-1) dX12_way_8 rfl ?_
    refine m_goto 57 dX12_way_9 (by decide) ?_
    exact m_iret dX12_way_57 (Nat.le_refl _) (Nat.le_refl _) (⟨by unfold wayI; rw [c1_]; rfl, _, _, rfl⟩)
set_option maxRecDepth 100000 in
set_option maxHeartbeats 4000000 in
theorem k_m_child (l : Launch) (G : owG) {A S Z B T V : owF} {J : Nat → Nat → Int64} {Y : Nat → Nat → Nat → Option Nat} {P : Nat → Option owW} (a_ : owK) (ho_ : aOk a_) (im : Option owK) (h_ : owH) (hM : MR B a_ im h_) (x_ y_ : Int32) : Ct l G yX12_child cX12_child 3 ((some .int)) 2 0 0 [.ref (gK G 4 0), .int x_, .int y_] (A, S, Z, B, T, V, J, Y, P) (qI (fun r_ σ => r_ = childI a_ x_ y_ ∧ ∃ (T2 V2 : owF), σ = (A, S, Z, B, T2, V2, J, Y, P))) := by
  refine ct_of (by decide +kernel) (Nat.le_of_ble_eq_true rfl) ?_
  have h10 := ho_.1
  have h8_ := ho_.2.1
  have hX := hM.1
  show Wm l G cX12_child 3 RX12 ((some .int)) (rmk 2 0 0) (fun _ => True) (QfM G (qI (fun r_ σ => r_ = childI a_ x_ y_ ∧ ∃ (T2 V2 : owF), σ = (A, S, Z, B, T2, V2, J, Y, P))) 0 0) 0 [(0, .ref (gK G 4 0)), (1, .int x_), (2, .int y_)] [] (A, S, Z, B, T, V, J, Y, P) 0 0
  refine m_aload_n 0 rfl rfl dX12_child_0 ?_
  refine m_iload_n 1 rfl rfl dX12_child_1 ?_
  refine m_callVi cv_X12_125 [.int x_] [] (k_m_isChild l G a_ ho_ im h_ hM x_) (by decide) (ce_4 G _ _ _ _ _ _ _ _ _ _) rfl rfl rfl ⟨Nat.le_of_ble_eq_true rfl, Nat.le_of_ble_eq_true rfl⟩ (Nat.le_of_ble_eq_true rfl) ⟨Nat.zero_le _, Nat.zero_le _⟩ dX12_child_2 (fun xx σ2 hq => ?_)
  obtain ⟨rfl, rfl⟩ := hq
  refine m_ifeq_b 29 dX12_child_5 (by decide) (fun c1_ => ?_) (fun c1_ => ?_)
  ·
    refine m_iconst (-1) dX12_child_29 rfl ?_
    exact m_iret dX12_child_30 (Nat.le_refl _) (Nat.le_refl _) (⟨by unfold childI; rw [c1_]; rfl, _, _, rfl⟩)
  ·
    obtain ⟨cq, hcq, rfl⟩ := isC_nat ho_ c1_
    have hclcq : (nI cq).toNatClampNeg = cq := nI_clamp (by omega)
    refine m_iload_n 2 rfl rfl dX12_child_8 ?_
    refine m_i2l dX12_child_9 ?_
    refine m_lconst 0 dX12_child_10 rfl ?_
    refine m_topl (show (0 : Int64) = (0 : Int32).toInt64 by decide) ?_
    refine m_ldc2 2 tw_1160 dX12_child_11 ?_
    refine m_topl (show (2 : Int64) = (2 : Int32).toInt64 by decide) ?_
    refine m_callSi cs_X12_62 [.long (y_.toInt64), .long ((0 : Int32).toInt64), .long ((2 : Int32).toInt64)] [] (k_m_isIn l G y_ 0 2) rfl rfl ⟨Nat.le_of_ble_eq_true rfl, Nat.le_of_ble_eq_true rfl⟩ (Nat.le_of_ble_eq_true rfl) ⟨Nat.zero_le _, Nat.zero_le _⟩ dX12_child_14 (fun xx σ2 hq => ?_)
    obtain ⟨rfl, rfl⟩ := hq
    refine m_ifeq_b 29 dX12_child_17 (by decide) (fun c2_ => ?_) (fun c2_ => ?_)
    ·
      refine m_iconst (-1) dX12_child_29 rfl ?_
      exact m_iret dX12_child_30 (Nat.le_refl _) (Nat.le_refl _) (⟨by have hn := in02f c2_; unfold childI; rw [if_pos c1_, if_neg hn.1, if_neg hn.2.1, if_neg hn.2.2], _, _, rfl⟩)
    ·
      obtain ⟨kq, hkq, rfl⟩ := in02 c2_
      have hclkq : (nI kq).toNatClampNeg = kq := nI_clamp (by omega)
      refine m_aload_n 0 rfl rfl dX12_child_20 ?_
      refine m_iload_n 1 rfl rfl dX12_child_21 ?_
      refine m_iload_n 2 rfl rfl dX12_child_22 ?_
      refine m_callVi cv_X12_128 [.int (nI (cq)), .int (nI (kq))] [] (k_m_of l G a_ ho_ im h_ hM cq hcq kq (by omega)) (by decide) (ce_4 G _ _ _ _ _ _ _ _ _ _) rfl rfl rfl ⟨Nat.le_of_ble_eq_true rfl, Nat.le_of_ble_eq_true rfl⟩ (Nat.le_of_ble_eq_true rfl) ⟨Nat.zero_le _, Nat.zero_le _⟩ dX12_child_23 (fun xx σ2 hq => ?_)
      obtain ⟨rfl, rfl⟩ := hq
      refine m_goto 30 dX12_child_26 (by decide) ?_
      exact m_iret dX12_child_30 (Nat.le_refl _) (Nat.le_refl _) (⟨(childI_k ho_ hcq hkq).symm, _, _, rfl⟩)
set_option maxRecDepth 100000 in
set_option maxHeartbeats 4000000 in
theorem k_m_told (l : Launch) (G : owG) {A S Z B T V : owF} {J : Nat → Nat → Int64} {Y : Nat → Nat → Nat → Option Nat} {P : Nat → Option owW} (a_ : owK) (ho_ : aOk a_) (im : Option owK) (h_ : owH) (hM : MR B a_ im h_) (x_ y_ : Int32) : Ct l G yX12_told cX12_told 3 ((some .int)) 2 0 0 [.ref (gK G 4 0), .int x_, .int y_] (A, S, Z, B, T, V, J, Y, P) (qI (fun r_ σ => r_ = toldI a_ x_ y_ ∧ ∃ (T2 V2 : owF), σ = (A, S, Z, B, T2, V2, J, Y, P))) := by
  refine ct_of (by decide +kernel) (Nat.le_of_ble_eq_true rfl) ?_
  have h10 := ho_.1
  have h8_ := ho_.2.1
  have hX := hM.1
  show Wm l G cX12_told 3 RX12 ((some .int)) (rmk 2 0 0) (fun _ => True) (QfM G (qI (fun r_ σ => r_ = toldI a_ x_ y_ ∧ ∃ (T2 V2 : owF), σ = (A, S, Z, B, T2, V2, J, Y, P))) 0 0) 0 [(0, .ref (gK G 4 0)), (1, .int x_), (2, .int y_)] [] (A, S, Z, B, T, V, J, Y, P) 0 0
  refine m_iload_n 1 rfl rfl dX12_told_0 ?_
  refine m_i2l dX12_told_1 ?_
  refine m_lconst 0 dX12_told_2 rfl ?_
  refine m_topl (show (0 : Int64) = (0 : Int32).toInt64 by decide) ?_
  refine m_ldc2 9 tw_1184 dX12_told_3 ?_
  refine m_topl (show (9 : Int64) = (9 : Int32).toInt64 by decide) ?_
  refine m_callSi cs_X12_62 [.long (x_.toInt64), .long ((0 : Int32).toInt64), .long ((9 : Int32).toInt64)] [] (k_m_isIn l G x_ 0 9) rfl rfl ⟨Nat.le_of_ble_eq_true rfl, Nat.le_of_ble_eq_true rfl⟩ (Nat.le_of_ble_eq_true rfl) ⟨Nat.zero_le _, Nat.zero_le _⟩ dX12_told_6 (fun xx σ2 hq => ?_)
  obtain ⟨rfl, rfl⟩ := hq
  refine m_ifeq_b 29 dX12_told_9 (by decide) (fun c1_ => ?_) (fun c1_ => ?_)
  ·
    refine m_iconst (-1) dX12_told_29 rfl ?_
    exact m_iret dX12_told_30 (Nat.le_refl _) (Nat.le_refl _) (⟨by unfold toldI; rw [if_neg (fun q_ => absurd (decide_eq_true (show 0 ≤ x_ ∧ x_ ≤ 9 from ⟨q_.1, (le_lt1 (n := 9) (by decide)).mpr q_.2.1⟩)) (by have hz := c1_; unfold inB at hz; rw [hz]; decide))], _, _, rfl⟩)
  ·
    obtain ⟨kq, hkq, rfl⟩ := inN (n := 9) (by decide) c1_
    have hclkq : (nI kq).toNatClampNeg = kq := nI_clamp (by omega)
    refine m_aload_n 0 rfl rfl dX12_told_12 ?_
    refine m_iload_n 2 rfl rfl dX12_told_13 ?_
    refine m_callVi cv_X12_114 [.int y_] [] (k_m_isWay l G a_ ho_ im h_ hM y_) (by decide) (ce_4 G _ _ _ _ _ _ _ _ _ _) rfl rfl rfl ⟨Nat.le_of_ble_eq_true rfl, Nat.le_of_ble_eq_true rfl⟩ (Nat.le_of_ble_eq_true rfl) ⟨Nat.zero_le _, Nat.zero_le _⟩ dX12_told_14 (fun xx σ2 hq => ?_)
    obtain ⟨rfl, rfl⟩ := hq
    refine m_ifeq_b 29 dX12_told_17 (by decide) (fun c2_ => ?_) (fun c2_ => ?_)
    ·
      refine m_iconst (-1) dX12_told_29 rfl ?_
      exact m_iret dX12_told_30 (Nat.le_refl _) (Nat.le_refl _) (⟨by unfold toldI; rw [if_neg (fun q_ => absurd q_.2.2 (by rw [c2_]; decide))], _, _, rfl⟩)
    ·
      have hwc := c2_
      obtain ⟨wq, hwq, rfl⟩ := isW_nat ho_ c2_
      have hclwq : (nI wq).toNatClampNeg = wq := nI_clamp (by omega)
      refine m_aload_n 0 rfl rfl dX12_told_20 ?_
      refine m_iload_n 1 rfl rfl dX12_told_21 ?_
      refine m_iload_n 2 rfl rfl dX12_told_22 ?_
      refine m_callVi cv_X12_133 [.int (nI (kq)), .int (nI (wq))] [] (k_m_saidOf l G a_ ho_ im h_ hM kq (by omega) wq hwq) (by decide) (ce_4 G _ _ _ _ _ _ _ _ _ _) rfl rfl rfl ⟨Nat.le_of_ble_eq_true rfl, Nat.le_of_ble_eq_true rfl⟩ (Nat.le_of_ble_eq_true rfl) ⟨Nat.zero_le _, Nat.zero_le _⟩ dX12_told_23 (fun xx σ2 hq => ?_)
      obtain ⟨rfl, rfl⟩ := hq
      refine m_goto 30 dX12_told_26 (by decide) ?_
      exact m_iret dX12_told_30 (Nat.le_refl _) (Nat.le_refl _) (⟨(toldI_nat ho_ (by omega) hwq).symm, _, _, rfl⟩)
set_option maxRecDepth 100000 in
set_option maxHeartbeats 4000000 in
theorem k_m_work (l : Launch) (G : owG) {A S Z B T V : owF} {J : Nat → Nat → Int64} {Y : Nat → Nat → Nat → Option Nat} {P : Nat → Option owW} (a_ : owK) (ho_ : aOk a_) (im : Option owK) (h_ : owH) (hM : MR B a_ im h_) (v_ x_ y_ : Int32) : Ct l G yX12_work cX12_work 4 ((some .int)) 4 0 0 [.ref (gK G 4 0), .int v_, .int x_, .int y_] (A, S, Z, B, T, V, J, Y, P) (qI (fun r_ σ => r_ = workI a_ v_ x_ y_ ∧ ∃ (T2 V2 : owF), σ = (A, S, Z, B, T2, V2, J, Y, P))) := by
  refine ct_of (by decide +kernel) (Nat.le_of_ble_eq_true rfl) ?_
  have h10 := ho_.1
  have h8_ := ho_.2.1
  have hX := hM.1
  show Wm l G cX12_work 4 RX12 ((some .int)) (rmk 4 0 0) (fun _ => True) (QfM G (qI (fun r_ σ => r_ = workI a_ v_ x_ y_ ∧ ∃ (T2 V2 : owF), σ = (A, S, Z, B, T2, V2, J, Y, P))) 0 0) 0 [(0, .ref (gK G 4 0)), (1, .int v_), (2, .int x_), (3, .int y_)] [] (A, S, Z, B, T, V, J, Y, P) 0 0
  refine m_aload_n 0 rfl rfl dX12_work_0 ?_
  refine m_iload_n 1 rfl rfl dX12_work_1 ?_
  refine m_callVi cv_X12_114 [.int v_] [] (k_m_isWay l G a_ ho_ im h_ hM v_) (by decide) (ce_4 G _ _ _ _ _ _ _ _ _ _) rfl rfl rfl ⟨Nat.le_of_ble_eq_true rfl, Nat.le_of_ble_eq_true rfl⟩ (Nat.le_of_ble_eq_true rfl) ⟨Nat.zero_le _, Nat.zero_le _⟩ dX12_work_2 (fun xx σ2 hq => ?_)
  obtain ⟨rfl, rfl⟩ := hq
  refine m_ifeq_b 26 dX12_work_5 (by decide) (fun c1_ => ?_) (fun c1_ => ?_)
  ·
    refine m_iconst (-1) dX12_work_26 rfl ?_
    exact m_iret dX12_work_27 (Nat.le_refl _) (Nat.le_refl _) (⟨by first | (simp [workI, c1_]; done) | (simp_all [workI, rN, rX, rQ, rV]; done) | grind [workI], _, _, rfl⟩)
  ·
    have hwc := c1_
    obtain ⟨wq, hwq, rfl⟩ := isW_nat ho_ c1_
    have hclwq : (nI wq).toNatClampNeg = wq := nI_clamp (by omega)
    refine m_iload_n 2 rfl rfl dX12_work_8 ?_
    refine m_iload_n 3 rfl rfl dX12_work_9 ?_
    refine m_callSi cs_X12_153 [.int x_, .int y_] [] (k_m_isSum l G x_ y_) rfl rfl ⟨Nat.le_of_ble_eq_true rfl, Nat.le_of_ble_eq_true rfl⟩ (Nat.le_of_ble_eq_true rfl) ⟨Nat.zero_le _, Nat.zero_le _⟩ dX12_work_10 (fun xx σ2 hq => ?_)
    obtain ⟨rfl, rfl⟩ := hq
    refine m_ifeq_b 26 dX12_work_13 (by decide) (fun c2_ => ?_) (fun c2_ => ?_)
    ·
      refine m_iconst (-1) dX12_work_26 rfl ?_
      exact m_iret dX12_work_27 (Nat.le_refl _) (Nat.le_refl _) (⟨by first | (simp [workI, c1_, c2_, hclwq]; done) | (simp_all [workI, rN, rX, rQ, rV]; done) | grind [workI], _, _, rfl⟩)
    ·
      obtain ⟨xq, yq, rfl, rfl, hy_, hx_⟩ := sumNat c2_
      have hclxq : (nI xq).toNatClampNeg = xq := nI_clamp (by omega)
      have hclyq : (nI yq).toNatClampNeg = yq := nI_clamp (by omega)
      refine m_aload_n 0 rfl rfl dX12_work_16 ?_
      refine m_iload_n 1 rfl rfl dX12_work_17 ?_
      refine m_iload_n 2 rfl rfl dX12_work_18 ?_
      refine m_iload_n 3 rfl rfl dX12_work_19 ?_
      refine m_callVi cv_X12_157 [.int (nI (wq)), .int (nI (xq)), .int (nI (yq))] [] (k_m_answerOf l G a_ ho_ im h_ hM wq hwq xq yq (by omega) (by omega)) (by decide) (ce_4 G _ _ _ _ _ _ _ _ _ _) rfl rfl rfl ⟨Nat.le_of_ble_eq_true rfl, Nat.le_of_ble_eq_true rfl⟩ (Nat.le_of_ble_eq_true rfl) ⟨Nat.zero_le _, Nat.zero_le _⟩ dX12_work_20 (fun xx σ2 hq => ?_)
      obtain ⟨rfl, V3, rfl, hwV3⟩ := hq
      refine m_goto 27 dX12_work_23 (by decide) ?_
      exact m_iret dX12_work_27 (Nat.le_refl _) (Nat.le_refl _) (⟨by first | (simp [workI, c1_, c2_, hclwq, hclxq, hclyq]; done) | (simp_all [workI, rN, rX, rQ, rV]; done) | grind [workI], _, _, rfl⟩)
set_option maxRecDepth 100000 in
set_option maxHeartbeats 4000000 in
theorem k_m_column (l : Launch) (G : owG) {A S Z B T V : owF} {J : Nat → Nat → Int64} {Y : Nat → Nat → Nat → Option Nat} {P : Nat → Option owW} (a_ : owK) (ho_ : aOk a_) (im : Option owK) (h_ : owH) (hM : MR B a_ im h_) (v_ x_ y_ c_ p_ : Int32) : Ct l G yX12_column cX12_column 6 ((some .int)) 4 0 0 [.ref (gK G 4 0), .int v_, .int x_, .int y_, .int c_, .int p_] (A, S, Z, B, T, V, J, Y, P) (qI (fun r_ σ => r_ = columnI a_ v_ x_ y_ c_ p_ ∧ ∃ (T2 V2 : owF), σ = (A, S, Z, B, T2, V2, J, Y, P))) := by
  refine ct_of (by decide +kernel) (Nat.le_of_ble_eq_true rfl) ?_
  have h10 := ho_.1
  have h8_ := ho_.2.1
  have hX := hM.1
  show Wm l G cX12_column 6 RX12 ((some .int)) (rmk 4 0 0) (fun _ => True) (QfM G (qI (fun r_ σ => r_ = columnI a_ v_ x_ y_ c_ p_ ∧ ∃ (T2 V2 : owF), σ = (A, S, Z, B, T2, V2, J, Y, P))) 0 0) 0 [(0, .ref (gK G 4 0)), (1, .int v_), (2, .int x_), (3, .int y_), (4, .int c_), (5, .int p_)] [] (A, S, Z, B, T, V, J, Y, P) 0 0
  refine m_aload_n 0 rfl rfl dX12_column_0 ?_
  refine m_iload_n 1 rfl rfl dX12_column_1 ?_
  refine m_callVi cv_X12_114 [.int v_] [] (k_m_isWay l G a_ ho_ im h_ hM v_) (by decide) (ce_4 G _ _ _ _ _ _ _ _ _ _) rfl rfl rfl ⟨Nat.le_of_ble_eq_true rfl, Nat.le_of_ble_eq_true rfl⟩ (Nat.le_of_ble_eq_true rfl) ⟨Nat.zero_le _, Nat.zero_le _⟩ dX12_column_2 (fun xx σ2 hq => ?_)
  obtain ⟨rfl, rfl⟩ := hq
  refine m_ifeq_b 40 dX12_column_5 (by decide) (fun c1_ => ?_) (fun c1_ => ?_)
  ·
    refine m_iconst (-1) dX12_column_40 rfl ?_
    exact m_iret dX12_column_41 (Nat.le_refl _) (Nat.le_refl _) (⟨by first | (simp [columnI, c1_]; done) | grind [columnI], _, _, rfl⟩)
  ·
    have hwc := c1_
    obtain ⟨wq, hwq, rfl⟩ := isW_nat ho_ c1_
    have hclwq : (nI wq).toNatClampNeg = wq := nI_clamp (by omega)
    refine m_iload_n 2 rfl rfl dX12_column_8 ?_
    refine m_iload_n 3 rfl rfl dX12_column_9 ?_
    refine m_callSi cs_X12_153 [.int x_, .int y_] [] (k_m_isSum l G x_ y_) rfl rfl ⟨Nat.le_of_ble_eq_true rfl, Nat.le_of_ble_eq_true rfl⟩ (Nat.le_of_ble_eq_true rfl) ⟨Nat.zero_le _, Nat.zero_le _⟩ dX12_column_10 (fun xx σ2 hq => ?_)
    obtain ⟨rfl, rfl⟩ := hq
    refine m_ifeq_b 40 dX12_column_13 (by decide) (fun c2_ => ?_) (fun c2_ => ?_)
    ·
      refine m_iconst (-1) dX12_column_40 rfl ?_
      exact m_iret dX12_column_41 (Nat.le_refl _) (Nat.le_refl _) (⟨by first | (simp [columnI, c1_, c2_, hclwq]; done) | grind [columnI], _, _, rfl⟩)
    ·
      obtain ⟨xq, yq, rfl, rfl, hy_, hx_⟩ := sumNat c2_
      have hclxq : (nI xq).toNatClampNeg = xq := nI_clamp (by omega)
      have hclyq : (nI yq).toNatClampNeg = yq := nI_clamp (by omega)
      refine m_iload 4 rfl dX12_column_16 ?_
      refine m_i2l dX12_column_18 ?_
      refine m_lconst 0 dX12_column_19 rfl ?_
      refine m_topl (show (0 : Int64) = (0 : Int32).toInt64 by decide) ?_
      refine m_ldc2 3 tw_1222 dX12_column_20 ?_
      refine m_topl (show (3 : Int64) = (3 : Int32).toInt64 by decide) ?_
      refine m_callSi cs_X12_62 [.long (c_.toInt64), .long ((0 : Int32).toInt64), .long ((3 : Int32).toInt64)] [] (k_m_isIn l G c_ 0 3) rfl rfl ⟨Nat.le_of_ble_eq_true rfl, Nat.le_of_ble_eq_true rfl⟩ (Nat.le_of_ble_eq_true rfl) ⟨Nat.zero_le _, Nat.zero_le _⟩ dX12_column_23 (fun xx σ2 hq => ?_)
      obtain ⟨rfl, rfl⟩ := hq
      refine m_ifeq_b 40 dX12_column_26 (by decide) (fun c3_ => ?_) (fun c3_ => ?_)
      ·
        have hc9 : ¬ (0 ≤ c_ ∧ c_ < 4) := fun q_ => absurd (decide_eq_true (show 0 ≤ c_ ∧ c_ ≤ 3 from ⟨q_.1, (le_lt1 (n := 3) (by decide)).mpr q_.2⟩)) (by have hz := c3_; unfold inB at hz; rw [hz]; decide)
        refine m_iconst (-1) dX12_column_40 rfl ?_
        exact m_iret dX12_column_41 (Nat.le_refl _) (Nat.le_refl _) (⟨by unfold columnI; rw [if_neg (fun q_ => hc9 ⟨q_.2.2.1, q_.2.2.2.1⟩)], _, _, rfl⟩)
      ·
        obtain ⟨cq, hcq, rfl⟩ := inN (n := 3) (by decide) c3_
        have hclcq : (nI cq).toNatClampNeg = cq := nI_clamp (by omega)
        have hc0 : (0 : Int32) ≤ nI cq := nI_pos' (by omega)
        have hc4 : nI cq < 4 := nI_lt (b := 4) (by omega) (by decide)
        refine m_iload 5 rfl dX12_column_29 ?_
        refine m_i2l dX12_column_31 ?_
        refine m_lconst 0 dX12_column_32 rfl ?_
        refine m_topl (show (0 : Int64) = (0 : Int32).toInt64 by decide) ?_
        refine m_lconst 1 dX12_column_33 rfl ?_
        refine m_topl (show (1 : Int64) = (1 : Int32).toInt64 by decide) ?_
        refine m_callSi cs_X12_62 [.long (p_.toInt64), .long ((0 : Int32).toInt64), .long ((1 : Int32).toInt64)] [] (k_m_isIn l G p_ 0 1) rfl rfl ⟨Nat.le_of_ble_eq_true rfl, Nat.le_of_ble_eq_true rfl⟩ (Nat.le_of_ble_eq_true rfl) ⟨Nat.zero_le _, Nat.zero_le _⟩ dX12_column_34 (fun xx σ2 hq => ?_)
        obtain ⟨hgx, rfl⟩ := hq
        obtain rfl := hgx.trans (congrArg bI (inB_01))
        refine m_ifne_b 42 dX12_column_37 (by decide) (fun c4_ => ?_) (fun c4_ => ?_)
        ·
          refine m_aload_n 0 rfl rfl dX12_column_42 ?_
          refine m_iload_n 1 rfl rfl dX12_column_43 ?_
          refine m_iload_n 2 rfl rfl dX12_column_44 ?_
          refine m_iload_n 3 rfl rfl dX12_column_45 ?_
          refine m_callVi cv_X12_157 [.int (nI (wq)), .int (nI (xq)), .int (nI (yq))] [] (k_m_answerOf l G a_ ho_ im h_ hM wq hwq xq yq (by omega) (by omega)) (by decide) (ce_4 G _ _ _ _ _ _ _ _ _ _) rfl rfl rfl ⟨Nat.le_of_ble_eq_true rfl, Nat.le_of_ble_eq_true rfl⟩ (Nat.le_of_ble_eq_true rfl) ⟨Nat.zero_le _, Nat.zero_le _⟩ dX12_column_46 (fun xx σ2 hq => ?_)
          obtain ⟨rfl, V5, rfl, hwV5⟩ := hq
          refine m_pop rfl dX12_column_49 ?_
          refine m_iload 5 rfl dX12_column_50 ?_
          refine m_if_ne 65 dX12_column_52 (by decide) (fun c6_ => ?_) (fun c6_ => ?_)
          ·
            refine m_aload_n 0 rfl rfl dX12_column_65 ?_
            refine gf_X12_150 dX12_column_66 ?_
            refine m_topi hwV5.2 ?_
            refine m_iload 4 rfl dX12_column_69 ?_
            refine m_ishr dX12_column_71 ?_
            refine m_iconst 1 dX12_column_72 rfl ?_
            refine m_iand dX12_column_73 ?_
            exact m_iret dX12_column_74 (Nat.le_refl _) (Nat.le_refl _) (⟨by first | (simp [columnI, c1_, c2_, c3_, c4_, c6_, hclwq, hclxq, hclyq, hclcq, hc0, hc4]; done) | grind [columnI], _, _, rfl⟩)
          ·
            refine m_aload_n 0 rfl rfl dX12_column_55 ?_
            refine gf_X12_46 dX12_column_56 ?_
            refine m_iload 4 rfl dX12_column_59 ?_
            refine al_52 cq rfl (by omega) dX12_column_61 ?_
            refine m_topi (hwV5.1 cq (by omega)) ?_
            refine m_goto 74 dX12_column_62 (by decide) ?_
            exact m_iret dX12_column_74 (Nat.le_refl _) (Nat.le_refl _) (⟨by first | (simp [columnI, c1_, c2_, c3_, c4_, c6_, hclwq, hclxq, hclyq, hclcq, hc0, hc4]; done) | grind [columnI], _, _, rfl⟩)
        ·
          refine m_iconst (-1) dX12_column_40 rfl ?_
          exact m_iret dX12_column_41 (Nat.le_refl _) (Nat.le_refl _) (⟨by first | (simp [columnI, c1_, c2_, c3_, c4_, hclwq, hclxq, hclyq, hclcq, hc0, hc4]; done) | grind [columnI], _, _, rfl⟩)
set_option maxRecDepth 100000 in
set_option maxHeartbeats 4000000 in
theorem k_m_right (l : Launch) (G : owG) {A S Z B T V : owF} {J : Nat → Nat → Int64} {Y : Nat → Nat → Nat → Option Nat} {P : Nat → Option owW} (a_ : owK) (ho_ : aOk a_) (im : Option owK) (h_ : owH) (hM : MR B a_ im h_) (x_ y_ : Int32) : Ct l G yX12_right cX12_right 3 ((some .int)) 5 0 0 [.ref (gK G 4 0), .int x_, .int y_] (A, S, Z, B, T, V, J, Y, P) (qI (fun r_ σ => r_ = rightI a_ x_ y_ ∧ ∃ (T2 V2 : owF), σ = (A, S, Z, B, T2, V2, J, Y, P))) := by
  refine ct_of (by decide +kernel) (Nat.le_of_ble_eq_true rfl) ?_
  have h10 := ho_.1
  have h8_ := ho_.2.1
  have hX := hM.1
  show Wm l G cX12_right 3 RX12 ((some .int)) (rmk 5 0 0) (fun _ => True) (QfM G (qI (fun r_ σ => r_ = rightI a_ x_ y_ ∧ ∃ (T2 V2 : owF), σ = (A, S, Z, B, T2, V2, J, Y, P))) 0 0) 0 [(0, .ref (gK G 4 0)), (1, .int x_), (2, .int y_)] [] (A, S, Z, B, T, V, J, Y, P) 0 0
  refine m_iload_n 1 rfl rfl dX12_right_0 ?_
  refine m_iload_n 2 rfl rfl dX12_right_1 ?_
  refine m_callSi cs_X12_153 [.int x_, .int y_] [] (k_m_isSum l G x_ y_) rfl rfl ⟨Nat.le_of_ble_eq_true rfl, Nat.le_of_ble_eq_true rfl⟩ (Nat.le_of_ble_eq_true rfl) ⟨Nat.zero_le _, Nat.zero_le _⟩ dX12_right_2 (fun xx σ2 hq => ?_)
  obtain ⟨rfl, rfl⟩ := hq
  refine m_ifeq_b 20 dX12_right_5 (by decide) (fun c1_ => ?_) (fun c1_ => ?_)
  ·
    refine m_iconst (-1) dX12_right_20 rfl ?_
    exact m_iret dX12_right_21 (Nat.le_refl _) (Nat.le_refl _) (⟨by first | (simp [rightI, c1_]; done) | (simp_all [rightI, rN, rX, rQ, rV]; done) | grind [rightI], _, _, rfl⟩)
  ·
    obtain ⟨xq, yq, rfl, rfl, hy_, hx_⟩ := sumNat c1_
    have hclxq : (nI xq).toNatClampNeg = xq := nI_clamp (by omega)
    have hclyq : (nI yq).toNatClampNeg = yq := nI_clamp (by omega)
    refine m_aload_n 0 rfl rfl dX12_right_8 ?_
    refine m_iload_n 1 rfl rfl dX12_right_9 ?_
    refine m_iload_n 2 rfl rfl dX12_right_10 ?_
    refine m_iload_n 1 rfl rfl dX12_right_11 ?_
    refine m_iload_n 2 rfl rfl dX12_right_12 ?_
    refine m_isub dX12_right_13 ?_
    refine m_callVi cv_X12_162 [.int (nI (xq)), .int (nI (yq)), .int ((nI (xq)) - (nI (yq)))] [] (k_m_whoseOf l G a_ ho_ im h_ hM xq yq (by omega) (by omega) ((nI (xq)) - (nI (yq)))) (by decide) (ce_4 G _ _ _ _ _ _ _ _ _ _) rfl rfl rfl ⟨Nat.le_of_ble_eq_true rfl, Nat.le_of_ble_eq_true rfl⟩ (Nat.le_of_ble_eq_true rfl) ⟨Nat.zero_le _, Nat.zero_le _⟩ dX12_right_14 (fun xx σ2 hq => ?_)
    obtain ⟨rfl, V2, rfl⟩ := hq
    refine m_goto 21 dX12_right_17 (by decide) ?_
    exact m_iret dX12_right_21 (Nat.le_refl _) (Nat.le_refl _) (⟨by first | (simp [rightI, c1_, hclxq, hclyq]; done) | (simp_all [rightI, rN, rX, rQ, rV]; done) | grind [rightI], _, _, rfl⟩)
set_option maxRecDepth 100000 in
set_option maxHeartbeats 4000000 in
theorem k_m_parts (l : Launch) (G : owG) {A S Z B T V : owF} {J : Nat → Nat → Int64} {Y : Nat → Nat → Nat → Option Nat} {P : Nat → Option owW} (a_ : owK) (ho_ : aOk a_) (im : Option owK) (h_ : owH) (hM : MR B a_ im h_) (x_ y_ b_ : Int32) : Ct l G yX12_parts cX12_parts 4 ((some .int)) 6 0 0 [.ref (gK G 4 0), .int x_, .int y_, .int b_] (A, S, Z, B, T, V, J, Y, P) (qI (fun r_ σ => r_ = partsI a_ x_ y_ b_ ∧ ∃ (T2 V2 : owF), σ = (A, S, Z, B, T2, V2, J, Y, P))) := by
  refine ct_of (by decide +kernel) (Nat.le_of_ble_eq_true rfl) ?_
  have h10 := ho_.1
  have h8_ := ho_.2.1
  have hX := hM.1
  show Wm l G cX12_parts 4 RX12 ((some .int)) (rmk 6 0 0) (fun _ => True) (QfM G (qI (fun r_ σ => r_ = partsI a_ x_ y_ b_ ∧ ∃ (T2 V2 : owF), σ = (A, S, Z, B, T2, V2, J, Y, P))) 0 0) 0 [(0, .ref (gK G 4 0)), (1, .int x_), (2, .int y_), (3, .int b_)] [] (A, S, Z, B, T, V, J, Y, P) 0 0
  refine m_iload_n 1 rfl rfl dX12_parts_0 ?_
  refine m_iload_n 2 rfl rfl dX12_parts_1 ?_
  refine m_callSi cs_X12_153 [.int x_, .int y_] [] (k_m_isSum l G x_ y_) rfl rfl ⟨Nat.le_of_ble_eq_true rfl, Nat.le_of_ble_eq_true rfl⟩ (Nat.le_of_ble_eq_true rfl) ⟨Nat.zero_le _, Nat.zero_le _⟩ dX12_parts_2 (fun xx σ2 hq => ?_)
  obtain ⟨rfl, rfl⟩ := hq
  refine m_ifeq_b 26 dX12_parts_5 (by decide) (fun c1_ => ?_) (fun c1_ => ?_)
  ·
    refine m_iconst (-1) dX12_parts_26 rfl ?_
    exact m_iret dX12_parts_27 (Nat.le_refl _) (Nat.le_refl _) (⟨by first | (simp [partsI, c1_]; done) | (simp_all [partsI, rN, rX, rQ, rV]; done) | grind [partsI], _, _, rfl⟩)
  ·
    obtain ⟨xq, yq, rfl, rfl, hy_, hx_⟩ := sumNat c1_
    have hclxq : (nI xq).toNatClampNeg = xq := nI_clamp (by omega)
    have hclyq : (nI yq).toNatClampNeg = yq := nI_clamp (by omega)
    refine m_aload_n 0 rfl rfl dX12_parts_8 ?_
    refine m_iload_n 3 rfl rfl dX12_parts_9 ?_
    refine m_callVi cv_X12_165 [.int b_] [] (k_m_areWays l G a_ ho_ im h_ hM b_) (by decide) (ce_4 G _ _ _ _ _ _ _ _ _ _) rfl rfl rfl ⟨Nat.le_of_ble_eq_true rfl, Nat.le_of_ble_eq_true rfl⟩ (Nat.le_of_ble_eq_true rfl) ⟨Nat.zero_le _, Nat.zero_le _⟩ dX12_parts_10 (fun xx σ2 hq => ?_)
    obtain ⟨rfl, rfl⟩ := hq
    refine m_ifeq_b 26 dX12_parts_13 (by decide) (fun c2_ => ?_) (fun c2_ => ?_)
    ·
      refine m_iconst (-1) dX12_parts_26 rfl ?_
      exact m_iret dX12_parts_27 (Nat.le_refl _) (Nat.le_refl _) (⟨by first | (simp [partsI, c1_, c2_, hclxq, hclyq]; done) | (simp_all [partsI, rN, rX, rQ, rV]; done) | grind [partsI], _, _, rfl⟩)
    ·
      have har := c2_
      obtain ⟨m_, hm_, rfl⟩ := (areW_nat ho_).mp c2_
      refine m_aload_n 0 rfl rfl dX12_parts_16 ?_
      refine m_iload_n 1 rfl rfl dX12_parts_17 ?_
      refine m_iload_n 2 rfl rfl dX12_parts_18 ?_
      refine m_iload_n 3 rfl rfl dX12_parts_19 ?_
      refine m_callVi cv_X12_168 [.int (nI (xq)), .int (nI (yq)), .int (nI (m_))] [] (k_m_partsOf l G a_ ho_ im h_ hM xq yq (by omega) (by omega) m_ hm_) (by decide) (ce_4 G _ _ _ _ _ _ _ _ _ _) rfl rfl rfl ⟨Nat.le_of_ble_eq_true rfl, Nat.le_of_ble_eq_true rfl⟩ (Nat.le_of_ble_eq_true rfl) ⟨Nat.zero_le _, Nat.zero_le _⟩ dX12_parts_20 (fun xx σ2 hq => ?_)
      obtain ⟨rfl, V3, rfl⟩ := hq
      refine m_goto 27 dX12_parts_23 (by decide) ?_
      exact m_iret dX12_parts_27 (Nat.le_refl _) (Nat.le_refl _) (⟨by first | (simp [partsI, c1_, c2_, hclxq, hclyq]; done) | (simp_all [partsI, rN, rX, rQ, rV]; done) | grind [partsI], _, _, rfl⟩)
set_option maxRecDepth 100000 in
set_option maxHeartbeats 4000000 in
theorem k_m_whose (l : Launch) (G : owG) {A S Z B T V : owF} {J : Nat → Nat → Int64} {Y : Nat → Nat → Nat → Option Nat} {P : Nat → Option owW} (a_ : owK) (ho_ : aOk a_) (im : Option owK) (h_ : owH) (hM : MR B a_ im h_) (x_ y_ v_ : Int32) : Ct l G yX12_whose cX12_whose 4 ((some .int)) 5 0 0 [.ref (gK G 4 0), .int x_, .int y_, .int v_] (A, S, Z, B, T, V, J, Y, P) (qI (fun r_ σ => r_ = whoseI a_ x_ y_ v_ ∧ ∃ (T2 V2 : owF), σ = (A, S, Z, B, T2, V2, J, Y, P))) := by
  refine ct_of (by decide +kernel) (Nat.le_of_ble_eq_true rfl) ?_
  have h10 := ho_.1
  have h8_ := ho_.2.1
  have hX := hM.1
  show Wm l G cX12_whose 4 RX12 ((some .int)) (rmk 5 0 0) (fun _ => True) (QfM G (qI (fun r_ σ => r_ = whoseI a_ x_ y_ v_ ∧ ∃ (T2 V2 : owF), σ = (A, S, Z, B, T2, V2, J, Y, P))) 0 0) 0 [(0, .ref (gK G 4 0)), (1, .int x_), (2, .int y_), (3, .int v_)] [] (A, S, Z, B, T, V, J, Y, P) 0 0
  refine m_iload_n 1 rfl rfl dX12_whose_0 ?_
  refine m_iload_n 2 rfl rfl dX12_whose_1 ?_
  refine m_callSi cs_X12_153 [.int x_, .int y_] [] (k_m_isSum l G x_ y_) rfl rfl ⟨Nat.le_of_ble_eq_true rfl, Nat.le_of_ble_eq_true rfl⟩ (Nat.le_of_ble_eq_true rfl) ⟨Nat.zero_le _, Nat.zero_le _⟩ dX12_whose_2 (fun xx σ2 hq => ?_)
  obtain ⟨rfl, rfl⟩ := hq
  refine m_ifeq_b 30 dX12_whose_5 (by decide) (fun c1_ => ?_) (fun c1_ => ?_)
  ·
    refine m_iconst (-1) dX12_whose_30 rfl ?_
    exact m_iret dX12_whose_31 (Nat.le_refl _) (Nat.le_refl _) (⟨by first | (simp [whoseI, c1_]; done) | (simp_all [whoseI, rN, rX, rQ, rV]; done) | grind [whoseI], _, _, rfl⟩)
  ·
    obtain ⟨xq, yq, rfl, rfl, hy_, hx_⟩ := sumNat c1_
    have hclxq : (nI xq).toNatClampNeg = xq := nI_clamp (by omega)
    have hclyq : (nI yq).toNatClampNeg = yq := nI_clamp (by omega)
    refine m_iload_n 3 rfl rfl dX12_whose_8 ?_
    refine m_i2l dX12_whose_9 ?_
    refine m_lconst 0 dX12_whose_10 rfl ?_
    refine m_topl (show (0 : Int64) = (0 : Int32).toInt64 by decide) ?_
    refine m_ldc2 9999 tw_1201 dX12_whose_11 ?_
    refine m_topl (show (9999 : Int64) = (9999 : Int32).toInt64 by decide) ?_
    refine m_callSi cs_X12_62 [.long (v_.toInt64), .long ((0 : Int32).toInt64), .long ((9999 : Int32).toInt64)] [] (k_m_isIn l G v_ 0 9999) rfl rfl ⟨Nat.le_of_ble_eq_true rfl, Nat.le_of_ble_eq_true rfl⟩ (Nat.le_of_ble_eq_true rfl) ⟨Nat.zero_le _, Nat.zero_le _⟩ dX12_whose_14 (fun xx σ2 hq => ?_)
    obtain ⟨hgx, rfl⟩ := hq
    obtain rfl := hgx.trans (congrArg bI (inB_A))
    refine m_ifeq_b 30 dX12_whose_17 (by decide) (fun c2_ => ?_) (fun c2_ => ?_)
    ·
      refine m_iconst (-1) dX12_whose_30 rfl ?_
      exact m_iret dX12_whose_31 (Nat.le_refl _) (Nat.le_refl _) (⟨by first | (simp [whoseI, c1_, c2_, hclxq, hclyq]; done) | (simp_all [whoseI, rN, rX, rQ, rV]; done) | grind [whoseI], _, _, rfl⟩)
    ·
      refine m_aload_n 0 rfl rfl dX12_whose_20 ?_
      refine m_iload_n 1 rfl rfl dX12_whose_21 ?_
      refine m_iload_n 2 rfl rfl dX12_whose_22 ?_
      refine m_iload_n 3 rfl rfl dX12_whose_23 ?_
      refine m_callVi cv_X12_162 [.int (nI (xq)), .int (nI (yq)), .int v_] [] (k_m_whoseOf l G a_ ho_ im h_ hM xq yq (by omega) (by omega) v_) (by decide) (ce_4 G _ _ _ _ _ _ _ _ _ _) rfl rfl rfl ⟨Nat.le_of_ble_eq_true rfl, Nat.le_of_ble_eq_true rfl⟩ (Nat.le_of_ble_eq_true rfl) ⟨Nat.zero_le _, Nat.zero_le _⟩ dX12_whose_24 (fun xx σ2 hq => ?_)
      obtain ⟨rfl, V3, rfl⟩ := hq
      refine m_goto 31 dX12_whose_27 (by decide) ?_
      exact m_iret dX12_whose_31 (Nat.le_refl _) (Nat.le_refl _) (⟨by first | (simp [whoseI, c1_, c2_, hclxq, hclyq]; done) | (simp_all [whoseI, rN, rX, rQ, rV]; done) | grind [whoseI], _, _, rfl⟩)
set_option maxRecDepth 100000 in
set_option maxHeartbeats 4000000 in
theorem k_m_slip (l : Launch) (G : owG) {A S Z B T V : owF} {J : Nat → Nat → Int64} {Y : Nat → Nat → Nat → Option Nat} {P : Nat → Option owW} (a_ : owK) (ho_ : aOk a_) (im : Option owK) (h_ : owH) (hM : MR B a_ im h_) (v_ x_ z_ : Int32) : Ct l G yX12_slip cX12_slip 5 ((some .int)) 5 0 0 [.ref (gK G 4 0), .int v_, .int x_, .int z_] (A, S, Z, B, T, V, J, Y, P) (qI (fun r_ σ => r_ = slipI a_ h_ v_ x_ z_ ∧ ∃ (T2 V2 : owF), σ = (A, S, Z, B, T2, V2, J, Y, P))) := by
  refine ct_of (by decide +kernel) (Nat.le_of_ble_eq_true rfl) ?_
  have h10 := ho_.1
  have h8_ := ho_.2.1
  have hX := hM.1
  show Wm l G cX12_slip 5 RX12 ((some .int)) (rmk 5 0 0) (fun _ => True) (QfM G (qI (fun r_ σ => r_ = slipI a_ h_ v_ x_ z_ ∧ ∃ (T2 V2 : owF), σ = (A, S, Z, B, T2, V2, J, Y, P))) 0 0) 0 [(0, .ref (gK G 4 0)), (1, .int v_), (2, .int x_), (3, .int z_)] [] (A, S, Z, B, T, V, J, Y, P) 0 0
  refine m_aload_n 0 rfl rfl dX12_slip_0 ?_
  refine m_iload_n 1 rfl rfl dX12_slip_1 ?_
  refine m_callVi cv_X12_114 [.int v_] [] (k_m_isWay l G a_ ho_ im h_ hM v_) (by decide) (ce_4 G _ _ _ _ _ _ _ _ _ _) rfl rfl rfl ⟨Nat.le_of_ble_eq_true rfl, Nat.le_of_ble_eq_true rfl⟩ (Nat.le_of_ble_eq_true rfl) ⟨Nat.zero_le _, Nat.zero_le _⟩ dX12_slip_2 (fun xx σ2 hq => ?_)
  obtain ⟨rfl, rfl⟩ := hq
  refine m_ifne_b 10 dX12_slip_5 (by decide) (fun c1_ => ?_) (fun c1_ => ?_)
  ·
    have hwc := c1_
    obtain ⟨wq, hwq, rfl⟩ := isW_nat ho_ c1_
    have hclwq : (nI wq).toNatClampNeg = wq := nI_clamp (by omega)
    refine m_aload_n 0 rfl rfl dX12_slip_10 ?_
    refine m_iload_n 2 rfl rfl dX12_slip_11 ?_
    refine m_iload_n 3 rfl rfl dX12_slip_12 ?_
    refine m_callVi cv_X12_187 [.int x_, .int z_] [] (k_m_wrongBoth l G a_ ho_ im h_ hM x_ z_) (by decide) (ce_4 G _ _ _ _ _ _ _ _ _ _) rfl rfl rfl ⟨Nat.le_of_ble_eq_true rfl, Nat.le_of_ble_eq_true rfl⟩ (Nat.le_of_ble_eq_true rfl) ⟨Nat.zero_le _, Nat.zero_le _⟩ dX12_slip_13 (fun xx σ2 hq => ?_)
    obtain ⟨rfl, rfl⟩ := hq
    refine m_istore [(4, .int (boRefI h_ x_ z_)), (0, .ref (gK G 4 0)), (1, .int (nI (wq))), (2, .int x_), (3, .int z_)] (by decide) rfl dX12_slip_16 ?_
    refine m_iload 0 rfl dX12_slip_18 ?_
    refine m_if_eq 28 dX12_slip_20 (by decide) (fun c2_ => ?_) (fun c2_ => ?_)
    ·
      have hb0 := c2_
      obtain ⟨dq, eq, hdq, heq, rfl, rfl, hsr, hke, hne⟩ := boRefI_0 hb0
      have hcldq : (nI dq).toNatClampNeg = dq := nI_clamp (by omega)
      have hcleq : (nI eq).toNatClampNeg = eq := nI_clamp (by omega)
      obtain ⟨hk2, hso2, hev, h24, hsm⟩ := shRef_ok hsr
      have hn12 : shN h_ dq ≤ 12 := by unfold shN; omega
      refine m_aload_n 1 rfl rfl dX12_slip_28 ?_
      refine m_iload_n 2 rfl rfl dX12_slip_29 ?_
      refine m_iload_n 3 rfl rfl dX12_slip_30 ?_
      refine m_iload_n 4 rfl rfl dX12_slip_31 ?_
      refine m_callVi cv_X12_190 [.int (nI (wq)), .int (nI (dq)), .int (nI (eq))] [] (k_m_slipsOf l G a_ ho_ im h_ hM wq hwq dq hdq hsr eq heq hke hne) (by decide) (ce_4 G _ _ _ _ _ _ _ _ _ _) rfl rfl rfl ⟨Nat.le_of_ble_eq_true rfl, Nat.le_of_ble_eq_true rfl⟩ (Nat.le_of_ble_eq_true rfl) ⟨Nat.zero_le _, Nat.zero_le _⟩ dX12_slip_32 (fun xx σ2 hq => ?_)
      obtain ⟨rfl, V3, rfl⟩ := hq
      have hsl := slN_le (a := a_) (X := shX h_ dq) (Q := shY h_ dq) (V := hE h_ eq) (w := wq) (n := shN h_ dq) hn12
      exact m_iret dX12_slip_35 (Nat.le_refl _) (Nat.le_refl _) (⟨by first | (simp [slipI, c1_, c2_, hclwq, hcldq, hcleq, hb0, rN, rX, rQ, rV]; done) | (simp_all [slipI, rN, rX, rQ, rV]; done) | grind [slipI], _, _, rfl⟩)
    ·
      refine m_iload 0 rfl dX12_slip_23 ?_
      refine m_goto 35 dX12_slip_25 (by decide) ?_
      exact m_iret dX12_slip_35 (Nat.le_refl _) (Nat.le_refl _) (⟨by first | (simp [slipI, c1_, c2_, hclwq]; done) | (simp_all [slipI, rN, rX, rQ, rV]; done) | grind [slipI], _, _, rfl⟩)
  ·
    refine m_iconst (-1) dX12_slip_8 rfl ?_
    exact m_iret dX12_slip_9 (Nat.le_refl _) (Nat.le_refl _) (⟨by first | (simp [slipI, c1_]; done) | (simp_all [slipI, rN, rX, rQ, rV]; done) | grind [slipI], _, _, rfl⟩)
set_option maxRecDepth 100000 in
set_option maxHeartbeats 4000000 in
theorem k_m_fits (l : Launch) (G : owG) {A S Z B T V : owF} {J : Nat → Nat → Int64} {Y : Nat → Nat → Nat → Option Nat} {P : Nat → Option owW} (a_ : owK) (ho_ : aOk a_) (im : Option owK) (h_ : owH) (hM : MR B a_ im h_) (x_ z_ m_ : Int32) : Ct l G yX12_fits cX12_fits 5 ((some .int)) 6 0 0 [.ref (gK G 4 0), .int x_, .int z_, .int m_] (A, S, Z, B, T, V, J, Y, P) (qI (fun r_ σ => r_ = fitsI a_ h_ x_ z_ m_ ∧ ∃ (T2 V2 : owF), σ = (A, S, Z, B, T2, V2, J, Y, P))) := by
  refine ct_of (by decide +kernel) (Nat.le_of_ble_eq_true rfl) ?_
  have h10 := ho_.1
  have h8_ := ho_.2.1
  have hX := hM.1
  show Wm l G cX12_fits 5 RX12 ((some .int)) (rmk 6 0 0) (fun _ => True) (QfM G (qI (fun r_ σ => r_ = fitsI a_ h_ x_ z_ m_ ∧ ∃ (T2 V2 : owF), σ = (A, S, Z, B, T2, V2, J, Y, P))) 0 0) 0 [(0, .ref (gK G 4 0)), (1, .int x_), (2, .int z_), (3, .int m_)] [] (A, S, Z, B, T, V, J, Y, P) 0 0
  refine m_iload_n 3 rfl rfl dX12_fits_0 ?_
  refine m_i2l dX12_fits_1 ?_
  refine m_lconst 0 dX12_fits_2 rfl ?_
  refine m_topl (show (0 : Int64) = (0 : Int32).toInt64 by decide) ?_
  refine m_ldc2 12 tw_1283 dX12_fits_3 ?_
  refine m_topl (show (12 : Int64) = (12 : Int32).toInt64 by decide) ?_
  refine m_callSi cs_X12_62 [.long (m_.toInt64), .long ((0 : Int32).toInt64), .long ((12 : Int32).toInt64)] [] (k_m_isIn l G m_ 0 12) rfl rfl ⟨Nat.le_of_ble_eq_true rfl, Nat.le_of_ble_eq_true rfl⟩ (Nat.le_of_ble_eq_true rfl) ⟨Nat.zero_le _, Nat.zero_le _⟩ dX12_fits_6 (fun xx σ2 hq => ?_)
  obtain ⟨rfl, rfl⟩ := hq
  refine m_ifne_b 14 dX12_fits_9 (by decide) (fun c1_ => ?_) (fun c1_ => ?_)
  ·
    obtain ⟨mq, hmq, rfl⟩ := inN (n := 12) (by decide) c1_
    have hclmq : (nI mq).toNatClampNeg = mq := nI_clamp (by omega)
    have hm0 : (0 : Int32) ≤ nI mq := nI_pos' (by omega)
    have hm12 : nI mq ≤ 12 := nI_le (b := 12) hmq (by decide)
    refine m_aload_n 0 rfl rfl dX12_fits_14 ?_
    refine m_iload_n 1 rfl rfl dX12_fits_15 ?_
    refine m_iload_n 2 rfl rfl dX12_fits_16 ?_
    refine m_callVi cv_X12_187 [.int x_, .int z_] [] (k_m_wrongBoth l G a_ ho_ im h_ hM x_ z_) (by decide) (ce_4 G _ _ _ _ _ _ _ _ _ _) rfl rfl rfl ⟨Nat.le_of_ble_eq_true rfl, Nat.le_of_ble_eq_true rfl⟩ (Nat.le_of_ble_eq_true rfl) ⟨Nat.zero_le _, Nat.zero_le _⟩ dX12_fits_17 (fun xx σ2 hq => ?_)
    obtain ⟨rfl, rfl⟩ := hq
    refine m_istore [(4, .int (boRefI h_ x_ z_)), (0, .ref (gK G 4 0)), (1, .int x_), (2, .int z_), (3, .int (nI (mq)))] (by decide) rfl dX12_fits_20 ?_
    refine m_iload 0 rfl dX12_fits_22 ?_
    refine m_if_eq 32 dX12_fits_24 (by decide) (fun c2_ => ?_) (fun c2_ => ?_)
    ·
      have hb0 := c2_
      obtain ⟨dq, eq, hdq, heq, rfl, rfl, hsr, hke, hne⟩ := boRefI_0 hb0
      have hcldq : (nI dq).toNatClampNeg = dq := nI_clamp (by omega)
      have hcleq : (nI eq).toNatClampNeg = eq := nI_clamp (by omega)
      obtain ⟨hk2, hso2, hev, h24, hsm⟩ := shRef_ok hsr
      have hn12 : shN h_ dq ≤ 12 := by unfold shN; omega
      refine m_aload_n 1 rfl rfl dX12_fits_32 ?_
      refine m_iload_n 2 rfl rfl dX12_fits_33 ?_
      refine m_iload_n 3 rfl rfl dX12_fits_34 ?_
      refine m_iload_n 4 rfl rfl dX12_fits_35 ?_
      refine m_callVi cv_X12_195 [.int (nI (dq)), .int (nI (eq)), .int (nI (mq))] [] (k_m_fitting l G a_ ho_ im h_ hM dq hdq hsr eq heq hke hne mq (by omega)) (by decide) (ce_4 G _ _ _ _ _ _ _ _ _ _) rfl rfl rfl ⟨Nat.le_of_ble_eq_true rfl, Nat.le_of_ble_eq_true rfl⟩ (Nat.le_of_ble_eq_true rfl) ⟨Nat.zero_le _, Nat.zero_le _⟩ dX12_fits_36 (fun xx σ2 hq => ?_)
      obtain ⟨rfl, V3, rfl⟩ := hq
      exact m_iret dX12_fits_39 (Nat.le_refl _) (Nat.le_refl _) (⟨by unfold fitsI; grind [rN, rX, rQ, rV], _, _, rfl⟩)
    ·
      refine m_iload 0 rfl dX12_fits_27 ?_
      refine m_goto 39 dX12_fits_29 (by decide) ?_
      exact m_iret dX12_fits_39 (Nat.le_refl _) (Nat.le_refl _) (⟨by unfold fitsI; grind [rN, rX, rQ, rV], _, _, rfl⟩)
  ·
    have hm9 : ¬ (0 ≤ m_ ∧ m_ ≤ 12) := of_decide_eq_false c1_
    refine m_iconst (-1) dX12_fits_12 rfl ?_
    exact m_iret dX12_fits_13 (Nat.le_refl _) (Nat.le_refl _) (⟨by unfold fitsI; rw [if_neg hm9], _, _, rfl⟩)
set_option maxRecDepth 100000 in
set_option maxHeartbeats 4000000 in
theorem k_m_likely (l : Launch) (G : owG) {A S Z B T V : owF} {J : Nat → Nat → Int64} {Y : Nat → Nat → Nat → Option Nat} {P : Nat → Option owW} (a_ : owK) (ho_ : aOk a_) (im : Option owK) (h_ : owH) (hM : MR B a_ im h_) (x_ z_ : Int32) : Ct l G yX12_likely cX12_likely 8 ((some .int)) 5 0 0 [.ref (gK G 4 0), .int x_, .int z_] (A, S, Z, B, T, V, J, Y, P) (qI (fun r_ σ => r_ = likelyI a_ h_ x_ z_ ∧ ∃ (T2 V2 : owF), σ = (A, S, Z, B, T2, V2, J, Y, P))) := by
  refine ct_of (by decide +kernel) (Nat.le_of_ble_eq_true rfl) ?_
  have h10 := ho_.1
  have h8_ := ho_.2.1
  have hX := hM.1
  show Wm l G cX12_likely 8 RX12 ((some .int)) (rmk 5 0 0) (fun _ => True) (QfM G (qI (fun r_ σ => r_ = likelyI a_ h_ x_ z_ ∧ ∃ (T2 V2 : owF), σ = (A, S, Z, B, T2, V2, J, Y, P))) 0 0) 0 [(0, .ref (gK G 4 0)), (1, .int x_), (2, .int z_)] [] (A, S, Z, B, T, V, J, Y, P) 0 0
  refine m_aload_n 0 rfl rfl dX12_likely_0 ?_
  refine m_iload_n 1 rfl rfl dX12_likely_1 ?_
  refine m_iload_n 2 rfl rfl dX12_likely_2 ?_
  refine m_callVi cv_X12_187 [.int x_, .int z_] [] (k_m_wrongBoth l G a_ ho_ im h_ hM x_ z_) (by decide) (ce_4 G _ _ _ _ _ _ _ _ _ _) rfl rfl rfl ⟨Nat.le_of_ble_eq_true rfl, Nat.le_of_ble_eq_true rfl⟩ (Nat.le_of_ble_eq_true rfl) ⟨Nat.zero_le _, Nat.zero_le _⟩ dX12_likely_3 (fun xx σ2 hq => ?_)
  obtain ⟨rfl, rfl⟩ := hq
  refine m_istore_n [(3, .int (boRefI h_ x_ z_)), (0, .ref (gK G 4 0)), (1, .int x_), (2, .int z_)] rfl (by decide) rfl dX12_likely_6 ?_
  refine m_iload_n 0 rfl rfl dX12_likely_7 ?_
  refine m_if_eq 13 dX12_likely_8 (by decide) (fun c1_ => ?_) (fun c1_ => ?_)
  ·
    have hb0 := c1_
    obtain ⟨dq, eq, hdq, heq, rfl, rfl, hsr, hke, hne⟩ := boRefI_0 hb0
    have hcldq : (nI dq).toNatClampNeg = dq := nI_clamp (by omega)
    have hcleq : (nI eq).toNatClampNeg = eq := nI_clamp (by omega)
    obtain ⟨hk2, hso2, hev, h24, hsm⟩ := shRef_ok hsr
    have hn12 : shN h_ dq ≤ 12 := by unfold shN; omega
    refine m_bipush (-4) dX12_likely_13 rfl ?_
    refine m_istore [(4, .int (-4)), (3, .int (boRefI h_ (nI dq) (nI eq))), (0, .ref (gK G 4 0)), (1, .int (nI (dq))), (2, .int (nI (eq)))] (by decide) rfl dX12_likely_15 ?_
    refine m_iconst 0 dX12_likely_17 rfl ?_
    refine m_istore [(5, .int 0), (4, .int (-4)), (3, .int (boRefI h_ (nI dq) (nI eq))), (0, .ref (gK G 4 0)), (1, .int (nI (dq))), (2, .int (nI (eq)))] (by decide) rfl dX12_likely_18 ?_
    refine m_iconst 0 dX12_likely_20 rfl ?_
    refine m_istore [(6, .int 0), (5, .int 0), (4, .int (-4)), (3, .int (boRefI h_ (nI dq) (nI eq))), (0, .ref (gK G 4 0)), (1, .int (nI (dq))), (2, .int (nI (eq)))] (by decide) rfl dX12_likely_21 ?_
    have lp23 : ∀ (dd : Nat) (k_ : Nat) (V9 : owF), k_ ≤ aN a_ → aN a_ - k_ < dd → Wm l G cX12_likely 8 RX12 ((some .int)) (rmk 5 0 0) (fun _ => True) (QfM G (qI (fun r_ σ => r_ = likelyI a_ h_ (nI dq) (nI eq) ∧ ∃ (T2 V2 : owF), σ = (A, S, Z, B, T2, V2, J, Y, P))) 0 0) 23 [(0, .ref (gK G 4 0)), (1, .int (nI (dq))), (2, .int (nI (eq))), (3, .int (boRefI h_ (nI dq) (nI eq))), (4, .int (optI (likS (slN a_ (shN h_ dq) (shX h_ dq) (shY h_ dq) (hE h_ eq)) (aG a_) k_))), (5, .int (lesF (slN a_ (shN h_ dq) (shX h_ dq) (shY h_ dq) (hE h_ eq)) (likS (slN a_ (shN h_ dq) (shX h_ dq) (shY h_ dq) (hE h_ eq)) (aG a_) k_))), (6, .int (nI (k_)))] [] (A, S, Z, B, T, V9, J, Y, P) 0 0 := by
      intro dd
      induction dd with
      | zero => intro k_ V9 hk_ hdd; exact absurd hdd (Nat.not_lt_zero _)
      | succ dd ih23 =>
        intro k_ V9 hk_ hdd23
        refine m_iload 6 rfl dX12_likely_23 ?_
        refine m_aload_n 0 rfl rfl dX12_likely_25 ?_
        refine gf_X12_9 dX12_likely_26 ?_
        refine m_iconst 0 dX12_likely_29 rfl ?_
        refine al_40 0 rfl (by omega) dX12_likely_30 ?_
        refine m_topi hX.1 ?_
        refine m_icmpn_ge k_ (aN a_) 97 (by omega) (by omega) dX12_likely_31 (by decide) (fun c2_ => ?_) (fun c2_ => ?_)
        ·
          refine m_iload 4 rfl dX12_likely_97 ?_
          exact m_iret dX12_likely_99 (Nat.le_refl _) (Nat.le_refl _) ((by obtain rfl : k_ = aN a_ := (by omega); exact ⟨by unfold likelyI; rw [if_pos hb0, show rN h_ (nI dq) = shN h_ dq from congrArg (shN h_) hcldq, show rX h_ (nI dq) = shX h_ dq from congrArg (shX h_) hcldq, show rQ h_ (nI dq) = shY h_ dq from congrArg (shY h_) hcldq, show rV h_ (nI eq) = hE h_ eq from congrArg (hE h_) hcleq]; rfl, _, _, rfl⟩))
        ·
          refine m_aload_n 0 rfl rfl dX12_likely_34 ?_
          refine m_iload 6 rfl dX12_likely_35 ?_
          refine m_iload_n 1 rfl rfl dX12_likely_37 ?_
          refine m_iload_n 2 rfl rfl dX12_likely_38 ?_
          refine m_callVi cv_X12_190 [.int (nI (k_)), .int (nI (dq)), .int (nI (eq))] [] (k_m_slipsOf l G a_ ho_ im h_ hM k_ (by omega) dq hdq hsr eq heq hke hne) (by decide) (ce_4 G _ _ _ _ _ _ _ _ _ _) rfl rfl rfl ⟨Nat.le_of_ble_eq_true rfl, Nat.le_of_ble_eq_true rfl⟩ (Nat.le_of_ble_eq_true rfl) ⟨Nat.zero_le _, Nat.zero_le _⟩ dX12_likely_39 (fun xx σ2 hq => ?_)
          obtain ⟨rfl, V3, rfl⟩ := hq
          have hsl := slN_le (a := a_) (X := shX h_ dq) (Q := shY h_ dq) (V := hE h_ eq) (w := k_) (n := shN h_ dq) hn12
          refine m_istore [(7, .int (nI (slN a_ (shN h_ dq) (shX h_ dq) (shY h_ dq) (hE h_ eq) k_))), (0, .ref (gK G 4 0)), (1, .int (nI (dq))), (2, .int (nI (eq))), (3, .int (boRefI h_ (nI dq) (nI eq))), (4, .int (optI (likS (slN a_ (shN h_ dq) (shX h_ dq) (shY h_ dq) (hE h_ eq)) (aG a_) k_))), (5, .int (lesF (slN a_ (shN h_ dq) (shX h_ dq) (shY h_ dq) (hE h_ eq)) (likS (slN a_ (shN h_ dq) (shX h_ dq) (shY h_ dq) (hE h_ eq)) (aG a_) k_))), (6, .int (nI (k_)))] (by decide) rfl dX12_likely_42 ?_
          cases hl0 : likS (slN a_ (shN h_ dq) (shX h_ dq) (shY h_ dq) (hE h_ eq)) (aG a_) k_ with
          | none =>
            refine m_iload 5 rfl dX12_likely_44 ?_
            refine m_if_lt 83 dX12_likely_46 (by decide) (fun _ => ?_) (fun c4_ => absurd c4_ (by decide))
            refine m_iload 7 rfl dX12_likely_83 ?_
            refine m_istore [(4, .int (nI (k_))), (7, .int (nI (slN a_ (shN h_ dq) (shX h_ dq) (shY h_ dq) (hE h_ eq) k_))), (0, .ref (gK G 4 0)), (1, .int (nI (dq))), (2, .int (nI (eq))), (3, .int (boRefI h_ (nI dq) (nI eq))), (5, .int 0), (6, .int (nI (k_)))] (by decide) rfl dX12_likely_85 ?_
            refine m_iload 1 rfl dX12_likely_87 ?_
            refine m_istore [(5, .int (nI (slN a_ (shN h_ dq) (shX h_ dq) (shY h_ dq) (hE h_ eq) k_))), (4, .int (nI (k_))), (7, .int (nI (slN a_ (shN h_ dq) (shX h_ dq) (shY h_ dq) (hE h_ eq) k_))), (0, .ref (gK G 4 0)), (1, .int (nI (dq))), (2, .int (nI (eq))), (3, .int (boRefI h_ (nI dq) (nI eq))), (6, .int (nI (k_)))] (by decide) rfl dX12_likely_89 ?_
            refine m_iinc (nI (k_ + 1)) 7 [(6, .int (nI (k_ + 1))), (5, .int (nI (slN a_ (shN h_ dq) (shX h_ dq) (shY h_ dq) (hE h_ eq) k_))), (4, .int (nI (k_))), (7, .int (nI (slN a_ (shN h_ dq) (shX h_ dq) (shY h_ dq) (hE h_ eq) k_))), (0, .ref (gK G 4 0)), (1, .int (nI (dq))), (2, .int (nI (eq))), (3, .int (boRefI h_ (nI dq) (nI eq)))] rfl (nI_1 _) (by decide) rfl dX12_likely_91 ?_
            refine m_goto 23 dX12_likely_94 (by decide) ?_
            refine m_lv [(0, .ref (gK G 4 0)), (1, .int (nI (dq))), (2, .int (nI (eq))), (3, .int (boRefI h_ (nI dq) (nI eq))), (4, .int (nI (k_))), (5, .int (nI (slN a_ (shN h_ dq) (shX h_ dq) (shY h_ dq) (hE h_ eq) k_))), (6, .int (nI (k_ + 1)))] [4, 5, 6, 7, 2, 1, 0] rfl ?_
            have ihx := ih23 (k_ + 1) V3 (by omega) (by omega)
            rw [likS_0 hl0] at ihx
            exact ihx
          | some bw =>
            have hbk := likS_lt hl0
            have hslb := slN_le (a := a_) (X := shX h_ dq) (Q := shY h_ dq) (V := hE h_ eq) (w := bw) (n := shN h_ dq) hn12
            have hgk := (ho_.2.2.1 k_ (by omega)).2.2.2
            have hgb := (ho_.2.2.1 bw (by omega)).2.2.2
            refine m_iload 5 rfl dX12_likely_44 ?_
            refine m_ifn_lt bw 83 (by omega) dX12_likely_46 (by decide) (fun c5_ => m_dead c5_) (fun _ => ?_)
            refine m_iload 0 rfl dX12_likely_49 ?_
            refine m_iload 6 rfl dX12_likely_51 ?_
            refine m_icmpn_gt (slN a_ (shN h_ dq) (shX h_ dq) (shY h_ dq) (hE h_ eq) k_) (slN a_ (shN h_ dq) (shX h_ dq) (shY h_ dq) (hE h_ eq) bw) 91 (by omega) (by omega) dX12_likely_53 (by decide) (fun c6_ => ?_) (fun c6_ => ?_)
            ·
              refine m_iinc (nI (k_ + 1)) 7 [(6, .int (nI (k_ + 1))), (7, .int (nI (slN a_ (shN h_ dq) (shX h_ dq) (shY h_ dq) (hE h_ eq) k_))), (0, .ref (gK G 4 0)), (1, .int (nI (dq))), (2, .int (nI (eq))), (3, .int (boRefI h_ (nI dq) (nI eq))), (4, .int (nI (bw))), (5, .int (nI (slN a_ (shN h_ dq) (shX h_ dq) (shY h_ dq) (hE h_ eq) bw)))] rfl (nI_1 _) (by decide) rfl dX12_likely_91 ?_
              refine m_goto 23 dX12_likely_94 (by decide) ?_
              refine m_lv [(0, .ref (gK G 4 0)), (1, .int (nI (dq))), (2, .int (nI (eq))), (3, .int (boRefI h_ (nI dq) (nI eq))), (4, .int (nI (bw))), (5, .int (nI (slN a_ (shN h_ dq) (shX h_ dq) (shY h_ dq) (hE h_ eq) bw))), (6, .int (nI (k_ + 1)))] [2, 3, 4, 5, 6, 7, 0] rfl ?_
              have ihx := ih23 (k_ + 1) V3 (by omega) (by omega)
              rw [likS_n hl0 (show ¬ (slN a_ (shN h_ dq) (shX h_ dq) (shY h_ dq) (hE h_ eq) k_ < slN a_ (shN h_ dq) (shX h_ dq) (shY h_ dq) (hE h_ eq) bw ∨ slN a_ (shN h_ dq) (shX h_ dq) (shY h_ dq) (hE h_ eq) k_ = slN a_ (shN h_ dq) (shX h_ dq) (shY h_ dq) (hE h_ eq) bw ∧ aG a_ bw < aG a_ k_) by omega)] at ihx
              exact ihx
            ·
              refine m_iload 0 rfl dX12_likely_56 ?_
              refine m_iload 6 rfl dX12_likely_58 ?_
              refine m_icmpn_ne (slN a_ (shN h_ dq) (shX h_ dq) (shY h_ dq) (hE h_ eq) k_) (slN a_ (shN h_ dq) (shX h_ dq) (shY h_ dq) (hE h_ eq) bw) 83 (by omega) (by omega) dX12_likely_60 (by decide) (fun c7_ => ?_) (fun c7_ => ?_)
              ·
                refine m_iload 7 rfl dX12_likely_83 ?_
                refine m_istore [(4, .int (nI (k_))), (7, .int (nI (slN a_ (shN h_ dq) (shX h_ dq) (shY h_ dq) (hE h_ eq) k_))), (0, .ref (gK G 4 0)), (1, .int (nI (dq))), (2, .int (nI (eq))), (3, .int (boRefI h_ (nI dq) (nI eq))), (5, .int (nI (slN a_ (shN h_ dq) (shX h_ dq) (shY h_ dq) (hE h_ eq) bw))), (6, .int (nI (k_)))] (by decide) rfl dX12_likely_85 ?_
                refine m_iload 1 rfl dX12_likely_87 ?_
                refine m_istore [(5, .int (nI (slN a_ (shN h_ dq) (shX h_ dq) (shY h_ dq) (hE h_ eq) k_))), (4, .int (nI (k_))), (7, .int (nI (slN a_ (shN h_ dq) (shX h_ dq) (shY h_ dq) (hE h_ eq) k_))), (0, .ref (gK G 4 0)), (1, .int (nI (dq))), (2, .int (nI (eq))), (3, .int (boRefI h_ (nI dq) (nI eq))), (6, .int (nI (k_)))] (by decide) rfl dX12_likely_89 ?_
                refine m_iinc (nI (k_ + 1)) 7 [(6, .int (nI (k_ + 1))), (5, .int (nI (slN a_ (shN h_ dq) (shX h_ dq) (shY h_ dq) (hE h_ eq) k_))), (4, .int (nI (k_))), (7, .int (nI (slN a_ (shN h_ dq) (shX h_ dq) (shY h_ dq) (hE h_ eq) k_))), (0, .ref (gK G 4 0)), (1, .int (nI (dq))), (2, .int (nI (eq))), (3, .int (boRefI h_ (nI dq) (nI eq)))] rfl (nI_1 _) (by decide) rfl dX12_likely_91 ?_
                refine m_goto 23 dX12_likely_94 (by decide) ?_
                refine m_lv [(0, .ref (gK G 4 0)), (1, .int (nI (dq))), (2, .int (nI (eq))), (3, .int (boRefI h_ (nI dq) (nI eq))), (4, .int (nI (k_))), (5, .int (nI (slN a_ (shN h_ dq) (shX h_ dq) (shY h_ dq) (hE h_ eq) k_))), (6, .int (nI (k_ + 1)))] [4, 5, 6, 7, 2, 1, 0] rfl ?_
                have ihx := ih23 (k_ + 1) V3 (by omega) (by omega)
                rw [likS_y hl0 (show slN a_ (shN h_ dq) (shX h_ dq) (shY h_ dq) (hE h_ eq) k_ < slN a_ (shN h_ dq) (shX h_ dq) (shY h_ dq) (hE h_ eq) bw ∨ slN a_ (shN h_ dq) (shX h_ dq) (shY h_ dq) (hE h_ eq) k_ = slN a_ (shN h_ dq) (shX h_ dq) (shY h_ dq) (hE h_ eq) bw ∧ aG a_ bw < aG a_ k_ by omega)] at ihx
                exact ihx
              ·
                refine m_aload_n 1 rfl rfl dX12_likely_63 ?_
                refine m_iload 7 rfl dX12_likely_64 ?_
                refine m_iconst 2 dX12_likely_66 rfl ?_
                refine m_callVi cv_X12_119 [.int (nI (k_)), .int 2] [] (k_m_get l G a_ ho_ im h_ hM k_ (by omega) 2 (by decide)) (by decide) (ce_4 G _ _ _ _ _ _ _ _ _ _) rfl rfl rfl ⟨Nat.le_of_ble_eq_true rfl, Nat.le_of_ble_eq_true rfl⟩ (Nat.le_of_ble_eq_true rfl) ⟨Nat.zero_le _, Nat.zero_le _⟩ dX12_likely_67 (fun xx σ2 hq => ?_)
                obtain ⟨hgx, rfl⟩ := hq
                obtain rfl : xx = nI (aG a_ k_) := hgx
                refine m_aload_n 1 rfl rfl dX12_likely_70 ?_
                refine m_iload 5 rfl dX12_likely_71 ?_
                refine m_iconst 2 dX12_likely_73 rfl ?_
                refine m_callVi cv_X12_119 [.int (nI (bw)), .int 2] [.int (nI (aG a_ k_))] (k_m_get l G a_ ho_ im h_ hM bw (by omega) 2 (by decide)) (by decide) (ce_4 G _ _ _ _ _ _ _ _ _ _) rfl rfl rfl ⟨Nat.le_of_ble_eq_true rfl, Nat.le_of_ble_eq_true rfl⟩ (Nat.le_of_ble_eq_true rfl) ⟨Nat.zero_le _, Nat.zero_le _⟩ dX12_likely_74 (fun xx σ2 hq => ?_)
                obtain ⟨hgx, rfl⟩ := hq
                obtain rfl : xx = nI (aG a_ bw) := hgx
                refine m_icmpn_gt (aG a_ k_) (aG a_ bw) 83 (by omega) (by omega) dX12_likely_77 (by decide) (fun c8_ => ?_) (fun c8_ => ?_)
                ·
                  refine m_iload 7 rfl dX12_likely_83 ?_
                  refine m_istore [(4, .int (nI (k_))), (7, .int (nI (slN a_ (shN h_ dq) (shX h_ dq) (shY h_ dq) (hE h_ eq) k_))), (0, .ref (gK G 4 0)), (1, .int (nI (dq))), (2, .int (nI (eq))), (3, .int (boRefI h_ (nI dq) (nI eq))), (5, .int (nI (slN a_ (shN h_ dq) (shX h_ dq) (shY h_ dq) (hE h_ eq) bw))), (6, .int (nI (k_)))] (by decide) rfl dX12_likely_85 ?_
                  refine m_iload 1 rfl dX12_likely_87 ?_
                  refine m_istore [(5, .int (nI (slN a_ (shN h_ dq) (shX h_ dq) (shY h_ dq) (hE h_ eq) k_))), (4, .int (nI (k_))), (7, .int (nI (slN a_ (shN h_ dq) (shX h_ dq) (shY h_ dq) (hE h_ eq) k_))), (0, .ref (gK G 4 0)), (1, .int (nI (dq))), (2, .int (nI (eq))), (3, .int (boRefI h_ (nI dq) (nI eq))), (6, .int (nI (k_)))] (by decide) rfl dX12_likely_89 ?_
                  refine m_iinc (nI (k_ + 1)) 7 [(6, .int (nI (k_ + 1))), (5, .int (nI (slN a_ (shN h_ dq) (shX h_ dq) (shY h_ dq) (hE h_ eq) k_))), (4, .int (nI (k_))), (7, .int (nI (slN a_ (shN h_ dq) (shX h_ dq) (shY h_ dq) (hE h_ eq) k_))), (0, .ref (gK G 4 0)), (1, .int (nI (dq))), (2, .int (nI (eq))), (3, .int (boRefI h_ (nI dq) (nI eq)))] rfl (nI_1 _) (by decide) rfl dX12_likely_91 ?_
                  refine m_goto 23 dX12_likely_94 (by decide) ?_
                  refine m_lv [(0, .ref (gK G 4 0)), (1, .int (nI (dq))), (2, .int (nI (eq))), (3, .int (boRefI h_ (nI dq) (nI eq))), (4, .int (nI (k_))), (5, .int (nI (slN a_ (shN h_ dq) (shX h_ dq) (shY h_ dq) (hE h_ eq) k_))), (6, .int (nI (k_ + 1)))] [4, 5, 6, 7, 2, 1, 0] rfl ?_
                  have ihx := ih23 (k_ + 1) V3 (by omega) (by omega)
                  rw [likS_y hl0 (show slN a_ (shN h_ dq) (shX h_ dq) (shY h_ dq) (hE h_ eq) k_ < slN a_ (shN h_ dq) (shX h_ dq) (shY h_ dq) (hE h_ eq) bw ∨ slN a_ (shN h_ dq) (shX h_ dq) (shY h_ dq) (hE h_ eq) k_ = slN a_ (shN h_ dq) (shX h_ dq) (shY h_ dq) (hE h_ eq) bw ∧ aG a_ bw < aG a_ k_ by omega)] at ihx
                  exact ihx
                ·
                  refine m_goto 91 dX12_likely_80 (by decide) ?_
                  refine m_iinc (nI (k_ + 1)) 7 [(6, .int (nI (k_ + 1))), (7, .int (nI (slN a_ (shN h_ dq) (shX h_ dq) (shY h_ dq) (hE h_ eq) k_))), (0, .ref (gK G 4 0)), (1, .int (nI (dq))), (2, .int (nI (eq))), (3, .int (boRefI h_ (nI dq) (nI eq))), (4, .int (nI (bw))), (5, .int (nI (slN a_ (shN h_ dq) (shX h_ dq) (shY h_ dq) (hE h_ eq) bw)))] rfl (nI_1 _) (by decide) rfl dX12_likely_91 ?_
                  refine m_goto 23 dX12_likely_94 (by decide) ?_
                  refine m_lv [(0, .ref (gK G 4 0)), (1, .int (nI (dq))), (2, .int (nI (eq))), (3, .int (boRefI h_ (nI dq) (nI eq))), (4, .int (nI (bw))), (5, .int (nI (slN a_ (shN h_ dq) (shX h_ dq) (shY h_ dq) (hE h_ eq) bw))), (6, .int (nI (k_ + 1)))] [2, 3, 4, 5, 6, 7, 0] rfl ?_
                  have ihx := ih23 (k_ + 1) V3 (by omega) (by omega)
                  rw [likS_n hl0 (show ¬ (slN a_ (shN h_ dq) (shX h_ dq) (shY h_ dq) (hE h_ eq) k_ < slN a_ (shN h_ dq) (shX h_ dq) (shY h_ dq) (hE h_ eq) bw ∨ slN a_ (shN h_ dq) (shX h_ dq) (shY h_ dq) (hE h_ eq) k_ = slN a_ (shN h_ dq) (shX h_ dq) (shY h_ dq) (hE h_ eq) bw ∧ aG a_ bw < aG a_ k_) by omega)] at ihx
                  exact ihx
    refine m_lv [(0, .ref (gK G 4 0)), (1, .int (nI (dq))), (2, .int (nI (eq))), (3, .int (boRefI h_ (nI dq) (nI eq))), (4, .int (-4)), (5, .int 0), (6, .int 0)] [4, 5, 6, 3, 2, 1, 0] rfl ?_
    exact lp23 ((aN a_ - 0) + 1) 0 V (Nat.zero_le _) (Nat.lt_succ_self _)
  ·
    refine m_iload_n 0 rfl rfl dX12_likely_11 ?_
    exact m_iret dX12_likely_12 (Nat.le_refl _) (Nat.le_refl _) (⟨by unfold likelyI; rw [if_neg c1_], _, _, rfl⟩)
