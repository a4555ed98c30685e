theorem getI_sg {h_ : owH} {d_ p_ : Nat} (hn : hN h_ d_ ≤ 100) (hp : p_ < 2 ^ 31) : getI h_ d_ (nI p_) = sgI h_ d_ p_ := by
  unfold sgI
  rcases Nat.lt_or_ge p_ (hN h_ d_) with z_ | z_
  · rw [if_pos z_]; exact getI_in hn z_
  · rw [if_neg (Nat.not_lt.mpr z_)]; exact getI_out hn z_ hp
set_option maxRecDepth 100000 in
set_option maxHeartbeats 4000000 in
theorem k_c_dig_n (l : Launch) (G : owG) {A S Z B T V : owF} {J : Nat → Nat → Int64} {Y : Nat → Nat → Nat → Option Nat} {P : Nat → Option owW} (d_ : Nat) (hd_ : d_ < owN 3) (h_ : owH) (hrow : hK h_ d_ = 2 ∧ Y 3 d_ 0 = none ∧ A 3 d_ 1 = nI (hSo h_ d_) ∧ hSo h_ d_ ≤ 2 ∧ A 3 d_ 2 = nI (hN h_ d_) ∧ hN h_ d_ ≤ 100 ∧ ∀ j_, j_ < 100 → A 16 d_ j_ = hE h_ d_ j_) (p_ : Nat) (hp : p_ ≤ hN h_ d_) (hpos : S 1 1 7 = nI p_) (k_ : Int32) (hdg : dgB h_ d_ p_ = false) : Ct l G yX5_readsDigit cX5_readsDigit 4 ((some .boolean)) 2 0 0 [.ref (gK G 1 1), .ref (gK G 3 d_), .int k_] (A, S, Z, B, T, V, J, Y, P) (qI (fun r_ σ => r_ = 0 ∧ σ = (A, S, Z, B, T, V, J, Y, P))) := by
  refine ct_of (by decide +kernel) (Nat.le_of_ble_eq_true rfl) ?_
  have hn100 := hrow.2.2.2.2.2.1
  show Wm l G cX5_readsDigit 4 RX5 ((some .boolean)) (rmk 2 0 0) (fun _ => True) (QfM G (qI (fun r_ σ => r_ = 0 ∧ σ = (A, S, Z, B, T, V, J, Y, P))) 0 0) 0 [(0, .ref (gK G 1 1)), (1, .ref (gK G 3 d_)), (2, .int k_)] [] (A, S, Z, B, T, V, J, Y, P) 0 0
  refine m_aload_n 1 rfl rfl dX5_readsDigit_0 ?_
  refine m_aload_n 0 rfl rfl dX5_readsDigit_1 ?_
  refine gf_X5_62 (by decide) dX5_readsDigit_2 ?_
  refine m_topi hpos ?_
  refine m_callVi cv_X5_78 [.int (nI (p_))] [] (k_get l G d_ hd_ h_ hrow (nI p_)) hd_ (ce_3 G _ _ _ _ _ _ _ _ _ _) rfl rfl rfl ⟨Nat.le_of_ble_eq_true rfl, Nat.le_of_ble_eq_true rfl⟩ (Nat.le_of_ble_eq_true rfl) ⟨Nat.zero_le _, Nat.zero_le _⟩ dX5_readsDigit_5 (fun xx σ2 hq => ?_)
  obtain ⟨hgx, rfl⟩ := hq
  obtain rfl := hgx.trans (getI_sg hn100 (by omega))
  refine m_istore_n [(3, .int (sgI h_ d_ p_)), (0, .ref (gK G 1 1)), (1, .ref (gK G 3 d_)), (2, .int k_)] rfl (by decide) rfl dX5_readsDigit_8 ?_
  refine m_iload_n 0 rfl rfl dX5_readsDigit_9 ?_
  refine m_bipush (48) dX5_readsDigit_10 rfl ?_
  refine m_icmp_lt 21 dX5_readsDigit_12 (by decide) (fun c1_ => ?_) (fun c1_ => ?_)
  ·
    refine m_iconst 0 dX5_readsDigit_21 rfl ?_
    exact m_zret dX5_readsDigit_22 (Nat.le_refl _) (Nat.le_refl _) nar0 (⟨rfl, rfl⟩)
  ·
    refine m_iload_n 0 rfl rfl dX5_readsDigit_15 ?_
    refine m_bipush (57) dX5_readsDigit_16 rfl ?_
    refine m_icmp_le 23 dX5_readsDigit_18 (by decide) (fun c2_ => ?_) (fun c2_ => ?_)
    ·
      have hz : False := by unfold sgI at c1_ c2_; by_cases cc : p_ < hN h_ d_ <;> (first | (rw [if_pos cc] at c1_ c2_; exact dg_n cc hdg ⟨Int32.not_lt.mp c1_, c2_⟩) | (rw [if_neg cc] at c1_; exact c1_ (by decide)))
      exact m_dead (by first | omega | assumption)
    ·
      refine m_iconst 0 dX5_readsDigit_21 rfl ?_
      exact m_zret dX5_readsDigit_22 (Nat.le_refl _) (Nat.le_refl _) nar0 (⟨rfl, rfl⟩)
set_option maxRecDepth 100000 in
set_option maxHeartbeats 4000000 in
theorem k_c_dig_y (l : Launch) (G : owG) {A S Z B T V : owF} {J : Nat → Nat → Int64} {Y : Nat → Nat → Nat → Option Nat} {P : Nat → Option owW} (d_ : Nat) (hd_ : d_ < owN 3) (h_ : owH) (hrow : hK h_ d_ = 2 ∧ Y 3 d_ 0 = none ∧ A 3 d_ 1 = nI (hSo h_ d_) ∧ hSo h_ d_ ≤ 2 ∧ A 3 d_ 2 = nI (hN h_ d_) ∧ hN h_ d_ ≤ 100 ∧ ∀ j_, j_ < 100 → A 16 d_ j_ = hE h_ d_ j_) (p_ : Nat) (hp : p_ ≤ hN h_ d_) (hpos : S 1 1 7 = nI p_) (k_ : Nat) (hk3 : k_ < 3) (hdg : dgB h_ d_ p_ = true) : Ct l G yX5_readsDigit cX5_readsDigit 4 ((some .boolean)) 2 0 0 [.ref (gK G 1 1), .ref (gK G 3 d_), .int (nI (k_))] (A, S, Z, B, T, V, J, Y, P) (qI (fun r_ σ => r_ = 1 ∧ ∃ S2 : owF, σ = (A, S2, Z, B, T, V, J, Y, P) ∧ S2 1 1 7 = nI (p_ + 1) ∧ S2 14 1 k_ = nI (dgV h_ d_ p_) ∧ (∀ j_, j_ ≠ k_ → S2 14 1 j_ = S 14 1 j_) ∧ S2 1 1 8 = S 1 1 8)) := by
  refine ct_of (by decide +kernel) (Nat.le_of_ble_eq_true rfl) ?_
  have hn100 := hrow.2.2.2.2.2.1
  have hv9 := (dg_v hdg).2.1
  have hlt := (dg_v hdg).1
  show Wm l G cX5_readsDigit 4 RX5 ((some .boolean)) (rmk 2 0 0) (fun _ => True) (QfM G (qI (fun r_ σ => r_ = 1 ∧ ∃ S2 : owF, σ = (A, S2, Z, B, T, V, J, Y, P) ∧ S2 1 1 7 = nI (p_ + 1) ∧ S2 14 1 k_ = nI (dgV h_ d_ p_) ∧ (∀ j_, j_ ≠ k_ → S2 14 1 j_ = S 14 1 j_) ∧ S2 1 1 8 = S 1 1 8)) 0 0) 0 [(0, .ref (gK G 1 1)), (1, .ref (gK G 3 d_)), (2, .int (nI (k_)))] [] (A, S, Z, B, T, V, J, Y, P) 0 0
  refine m_aload_n 1 rfl rfl dX5_readsDigit_0 ?_
  refine m_aload_n 0 rfl rfl dX5_readsDigit_1 ?_
  refine gf_X5_62 (by decide) dX5_readsDigit_2 ?_
  refine m_topi hpos ?_
  refine m_callVi cv_X5_78 [.int (nI (p_))] [] (k_get l G d_ hd_ h_ hrow (nI p_)) hd_ (ce_3 G _ _ _ _ _ _ _ _ _ _) rfl rfl rfl ⟨Nat.le_of_ble_eq_true rfl, Nat.le_of_ble_eq_true rfl⟩ (Nat.le_of_ble_eq_true rfl) ⟨Nat.zero_le _, Nat.zero_le _⟩ dX5_readsDigit_5 (fun xx σ2 hq => ?_)
  obtain ⟨hgx, rfl⟩ := hq
  obtain rfl := hgx.trans ((getI_sg hn100 (by omega)).trans ((show sgI h_ d_ p_ = nI (48 + dgV h_ d_ p_) from (if_pos (dg_v hdg).1).trans (dg_v hdg).2.2.1)))
  refine m_istore_n [(3, .int (nI (48 + dgV h_ d_ p_))), (0, .ref (gK G 1 1)), (1, .ref (gK G 3 d_)), (2, .int (nI (k_)))] rfl (by decide) rfl dX5_readsDigit_8 ?_
  refine m_iload_n 0 rfl rfl dX5_readsDigit_9 ?_
  refine m_bipush (48) dX5_readsDigit_10 rfl ?_
  refine m_icmpn_lt (48 + dgV h_ d_ p_) 48 21 (by omega) (by decide) dX5_readsDigit_12 (by decide) (fun c1_ => ?_) (fun c1_ => ?_)
  ·
    exact m_dead (by first | omega | assumption)
  ·
    refine m_iload_n 0 rfl rfl dX5_readsDigit_15 ?_
    refine m_bipush (57) dX5_readsDigit_16 rfl ?_
    refine m_icmpn_le (48 + dgV h_ d_ p_) 57 23 (by omega) (by decide) dX5_readsDigit_18 (by decide) (fun c2_ => ?_) (fun c2_ => ?_)
    ·
      refine m_aload_n 1 rfl rfl dX5_readsDigit_23 ?_
      refine gf_X5_30 (by decide) dX5_readsDigit_24 ?_
      refine m_iload_n 3 rfl rfl dX5_readsDigit_27 ?_
      refine m_iload_n 0 rfl rfl dX5_readsDigit_28 ?_
      refine m_bipush (48) dX5_readsDigit_29 rfl ?_
      refine m_isub dX5_readsDigit_31 ?_
      refine m_topi ((show nI (48 + dgV h_ d_ p_) - 48 = nI (dgV h_ d_ p_) from (pk_sub (b := 48) (by omega)).trans (congrArg nI (by omega)))) ?_
      refine m_callNv cn_X5_98 [.ref (gK G 14 1), .int (nI (k_)), .int (nI (dgV h_ d_ p_))] [] (k_set_14 l G (by decide) k_ (by omega) (nI (dgV h_ d_ p_))) rfl rfl ⟨Nat.le_of_ble_eq_true rfl, Nat.le_of_ble_eq_true rfl⟩ (Nat.le_of_ble_eq_true rfl) ⟨Nat.zero_le _, Nat.zero_le _⟩ dX5_readsDigit_32 (fun σ2 hq => ?_)
      obtain rfl := hq
      obtain ⟨S3, hS3⟩ : ∃ q_ : owF, q_ = up3 S 14 1 k_ (nI (dgV h_ d_ p_)) := ⟨_, rfl⟩
      rw [← hS3]
      refine m_aload_n 1 rfl rfl dX5_readsDigit_35 ?_
      refine m_dup rfl dX5_readsDigit_36 ?_
      refine gf_X5_62 (by decide) dX5_readsDigit_37 ?_
      refine m_topi (up3_t hS3 (by decide) hpos) ?_
      refine m_iconst 1 dX5_readsDigit_40 rfl ?_
      refine m_iadd dX5_readsDigit_41 ?_
      refine m_topi (show (nI (p_)) + 1 = nI (p_ + 1) from nI_add _ _) ?_
      refine pf_X5_62 (by decide) dX5_readsDigit_42 (fun S4 hS4 => ?_)
      refine m_iconst 1 dX5_readsDigit_45 rfl ?_
      exact m_zret dX5_readsDigit_46 (Nat.le_refl _) (Nat.le_refl _) nar1 (⟨rfl, S4, rfl, (up3_e hS4), ((up3_o hS4 14 1 k_ (by omega)).trans (up3_e hS3)), fun j_ hj => ((up3_o hS4 14 1 j_ (by omega)).trans ((up3_o hS3 14 1 j_ (by omega)).trans rfl)), ((up3_o hS4 1 1 8 (by omega)).trans ((up3_o hS3 1 1 8 (by omega)).trans rfl))⟩)
    ·
      exact m_dead (by first | omega | assumption)
set_option maxRecDepth 100000 in
set_option maxHeartbeats 4000000 in
theorem k_c_opt_y (l : Launch) (G : owG) {A S Z B T V : owF} {J : Nat → Nat → Int64} {Y : Nat → Nat → Nat → Option Nat} {P : Nat → Option owW} (d_ : Nat) (hd_ : d_ < owN 3) (h_ : owH) (hrow : hK h_ d_ = 2 ∧ Y 3 d_ 0 = none ∧ A 3 d_ 1 = nI (hSo h_ d_) ∧ hSo h_ d_ ≤ 2 ∧ A 3 d_ 2 = nI (hN h_ d_) ∧ hN h_ d_ ≤ 100 ∧ ∀ j_, j_ < 100 → A 16 d_ j_ = hE h_ d_ j_) (p_ : Nat) (hp : p_ ≤ hN h_ d_) (hpos : S 1 1 7 = nI p_) (k_ : Nat) (hk3 : k_ < 3) (hgp : dgB h_ d_ p_ = true) : Ct l G yX5_readsPerhapsDigit cX5_readsPerhapsDigit 3 ((some .boolean)) 3 0 0 [.ref (gK G 1 1), .ref (gK G 3 d_), .int (nI (k_))] (A, S, Z, B, T, V, J, Y, P) (qI (fun r_ σ => r_ = 1 ∧ ∃ S2 : owF, σ = (A, S2, Z, B, T, V, J, Y, P) ∧ S2 1 1 7 = nI (p_ + 1) ∧ S2 14 1 k_ = nI (dgV h_ d_ p_) ∧ (∀ j_, j_ ≠ k_ → S2 14 1 j_ = S 14 1 j_) ∧ S2 1 1 8 = S 1 1 8)) := by
  refine ct_of (by decide +kernel) (Nat.le_of_ble_eq_true rfl) ?_
  have hn100 := hrow.2.2.2.2.2.1
  show Wm l G cX5_readsPerhapsDigit 3 RX5 ((some .boolean)) (rmk 3 0 0) (fun _ => True) (QfM G (qI (fun r_ σ => r_ = 1 ∧ ∃ S2 : owF, σ = (A, S2, Z, B, T, V, J, Y, P) ∧ S2 1 1 7 = nI (p_ + 1) ∧ S2 14 1 k_ = nI (dgV h_ d_ p_) ∧ (∀ j_, j_ ≠ k_ → S2 14 1 j_ = S 14 1 j_) ∧ S2 1 1 8 = S 1 1 8)) 0 0) 0 [(0, .ref (gK G 1 1)), (1, .ref (gK G 3 d_)), (2, .int (nI (k_)))] [] (A, S, Z, B, T, V, J, Y, P) 0 0
  refine m_aload_n 0 rfl rfl dX5_readsPerhapsDigit_0 ?_
  refine m_aload_n 1 rfl rfl dX5_readsPerhapsDigit_1 ?_
  refine m_iload_n 2 rfl rfl dX5_readsPerhapsDigit_2 ?_
  refine m_callVi cv_X5_85 [.ref (gK G 3 d_), .int (nI (k_))] [] (k_c_dig_y l G d_ hd_ h_ hrow p_ hp hpos k_ hk3 hgp) (by decide) (ce_1 G _ _ _ _ _ _ _ _ _ _) rfl rfl rfl ⟨Nat.le_of_ble_eq_true rfl, Nat.le_of_ble_eq_true rfl⟩ (Nat.le_of_ble_eq_true rfl) ⟨Nat.zero_le _, Nat.zero_le _⟩ dX5_readsPerhapsDigit_3 (fun xx σ2 hq => ?_)
  obtain ⟨rfl, S1, rfl, hrS10, hrS11, hrS12, hrS13⟩ := hq
  refine m_if_ne 18 dX5_readsPerhapsDigit_6 (by decide) (fun _ => ?_) (fun c2_ => absurd c2_ (by decide))
  refine m_iconst 1 dX5_readsPerhapsDigit_18 rfl ?_
  exact m_zret dX5_readsPerhapsDigit_19 (Nat.le_refl _) (Nat.le_refl _) nar1 (⟨rfl, S1, rfl, hrS10, hrS11, hrS12, hrS13⟩)
set_option maxRecDepth 100000 in
set_option maxHeartbeats 4000000 in
theorem k_c_opt_n (l : Launch) (G : owG) {A S Z B T V : owF} {J : Nat → Nat → Int64} {Y : Nat → Nat → Nat → Option Nat} {P : Nat → Option owW} (d_ : Nat) (hd_ : d_ < owN 3) (h_ : owH) (hrow : hK h_ d_ = 2 ∧ Y 3 d_ 0 = none ∧ A 3 d_ 1 = nI (hSo h_ d_) ∧ hSo h_ d_ ≤ 2 ∧ A 3 d_ 2 = nI (hN h_ d_) ∧ hN h_ d_ ≤ 100 ∧ ∀ j_, j_ < 100 → A 16 d_ j_ = hE h_ d_ j_) (p_ : Nat) (hp : p_ ≤ hN h_ d_) (hpos : S 1 1 7 = nI p_) (k_ : Nat) (hk3 : k_ < 3) (hgp : dgB h_ d_ p_ = false) : Ct l G yX5_readsPerhapsDigit cX5_readsPerhapsDigit 3 ((some .boolean)) 3 0 0 [.ref (gK G 1 1), .ref (gK G 3 d_), .int (nI (k_))] (A, S, Z, B, T, V, J, Y, P) (qI (fun r_ σ => r_ = 1 ∧ ∃ S2 : owF, σ = (A, S2, Z, B, T, V, J, Y, P) ∧ S2 1 1 7 = nI (p_) ∧ S2 14 1 k_ = nI (0) ∧ (∀ j_, j_ ≠ k_ → S2 14 1 j_ = S 14 1 j_) ∧ S2 1 1 8 = S 1 1 8)) := by
  refine ct_of (by decide +kernel) (Nat.le_of_ble_eq_true rfl) ?_
  have hn100 := hrow.2.2.2.2.2.1
  show Wm l G cX5_readsPerhapsDigit 3 RX5 ((some .boolean)) (rmk 3 0 0) (fun _ => True) (QfM G (qI (fun r_ σ => r_ = 1 ∧ ∃ S2 : owF, σ = (A, S2, Z, B, T, V, J, Y, P) ∧ S2 1 1 7 = nI (p_) ∧ S2 14 1 k_ = nI (0) ∧ (∀ j_, j_ ≠ k_ → S2 14 1 j_ = S 14 1 j_) ∧ S2 1 1 8 = S 1 1 8)) 0 0) 0 [(0, .ref (gK G 1 1)), (1, .ref (gK G 3 d_)), (2, .int (nI (k_)))] [] (A, S, Z, B, T, V, J, Y, P) 0 0
  refine m_aload_n 0 rfl rfl dX5_readsPerhapsDigit_0 ?_
  refine m_aload_n 1 rfl rfl dX5_readsPerhapsDigit_1 ?_
  refine m_iload_n 2 rfl rfl dX5_readsPerhapsDigit_2 ?_
  refine m_callVi cv_X5_85 [.ref (gK G 3 d_), .int (nI (k_))] [] (k_c_dig_n l G d_ hd_ h_ hrow p_ hp hpos (nI (k_)) hgp) (by decide) (ce_1 G _ _ _ _ _ _ _ _ _ _) rfl rfl rfl ⟨Nat.le_of_ble_eq_true rfl, Nat.le_of_ble_eq_true rfl⟩ (Nat.le_of_ble_eq_true rfl) ⟨Nat.zero_le _, Nat.zero_le _⟩ dX5_readsPerhapsDigit_3 (fun xx σ2 hq => ?_)
  obtain ⟨rfl, rfl⟩ := hq
  refine m_if_ne 18 dX5_readsPerhapsDigit_6 (by decide) (fun c1_ => absurd c1_ (by decide)) (fun _ => ?_)
  refine m_aload_n 0 rfl rfl dX5_readsPerhapsDigit_9 ?_
  refine gf_X5_30 (by decide) dX5_readsPerhapsDigit_10 ?_
  refine m_iload_n 2 rfl rfl dX5_readsPerhapsDigit_13 ?_
  refine m_iconst 0 dX5_readsPerhapsDigit_14 rfl ?_
  refine m_callNv cn_X5_98 [.ref (gK G 14 1), .int (nI (k_)), .int 0] [] (k_set_14 l G (by decide) k_ (by omega) 0) rfl rfl ⟨Nat.le_of_ble_eq_true rfl, Nat.le_of_ble_eq_true rfl⟩ (Nat.le_of_ble_eq_true rfl) ⟨Nat.zero_le _, Nat.zero_le _⟩ dX5_readsPerhapsDigit_15 (fun σ2 hq => ?_)
  obtain rfl := hq
  obtain ⟨S2, hS2⟩ : ∃ q_ : owF, q_ = up3 S 14 1 k_ 0 := ⟨_, rfl⟩
  rw [← hS2]
  refine m_iconst 1 dX5_readsPerhapsDigit_18 rfl ?_
  exact m_zret dX5_readsPerhapsDigit_19 (Nat.le_refl _) (Nat.le_refl _) nar1 (⟨rfl, S2, rfl, ((up3_o hS2 1 1 7 (by omega)).trans hpos), (up3_e hS2), fun j_ hj => ((up3_o hS2 14 1 j_ (by omega)).trans rfl), ((up3_o hS2 1 1 8 (by omega)).trans rfl)⟩)
set_option maxRecDepth 100000 in
set_option maxHeartbeats 4000000 in
theorem k_c_num_y (l : Launch) (G : owG) {A S Z B T V : owF} {J : Nat → Nat → Int64} {Y : Nat → Nat → Nat → Option Nat} {P : Nat → Option owW} (d_ : Nat) (hd_ : d_ < owN 3) (h_ : owH) (hrow : hK h_ d_ = 2 ∧ Y 3 d_ 0 = none ∧ A 3 d_ 1 = nI (hSo h_ d_) ∧ hSo h_ d_ ≤ 2 ∧ A 3 d_ 2 = nI (hN h_ d_) ∧ hN h_ d_ ≤ 100 ∧ ∀ j_, j_ < 100 → A 16 d_ j_ = hE h_ d_ j_) (p_ : Nat) (hp : p_ ≤ hN h_ d_) (hpos : S 1 1 7 = nI p_) (k_ : Nat) (hk3 : k_ < 3) (hgp : dgB h_ d_ p_ = true) : Ct l G yX5_readsNumber cX5_readsNumber 4 ((some .boolean)) 3 0 0 [.ref (gK G 1 1), .ref (gK G 3 d_), .int (nI (k_))] (A, S, Z, B, T, V, J, Y, P) (qI (fun r_ σ => r_ = 1 ∧ ∃ S2 : owF, σ = (A, S2, Z, B, T, V, J, Y, P) ∧ S2 1 1 7 = nI (nmP h_ d_ p_) ∧ S2 14 1 k_ = nI (nmV h_ d_ p_) ∧ (∀ j_, j_ ≠ k_ → S2 14 1 j_ = S 14 1 j_) ∧ S2 1 1 8 = S 1 1 8)) := by
  refine ct_of (by decide +kernel) (Nat.le_of_ble_eq_true rfl) ?_
  have hn100 := hrow.2.2.2.2.2.1
  have hv9 := (dg_v hgp).2.1
  show Wm l G cX5_readsNumber 4 RX5 ((some .boolean)) (rmk 3 0 0) (fun _ => True) (QfM G (qI (fun r_ σ => r_ = 1 ∧ ∃ S2 : owF, σ = (A, S2, Z, B, T, V, J, Y, P) ∧ S2 1 1 7 = nI (nmP h_ d_ p_) ∧ S2 14 1 k_ = nI (nmV h_ d_ p_) ∧ (∀ j_, j_ ≠ k_ → S2 14 1 j_ = S 14 1 j_) ∧ S2 1 1 8 = S 1 1 8)) 0 0) 0 [(0, .ref (gK G 1 1)), (1, .ref (gK G 3 d_)), (2, .int (nI (k_)))] [] (A, S, Z, B, T, V, J, Y, P) 0 0
  refine m_aload_n 0 rfl rfl dX5_readsNumber_0 ?_
  refine m_aload_n 1 rfl rfl dX5_readsNumber_1 ?_
  refine m_iload_n 2 rfl rfl dX5_readsNumber_2 ?_
  refine m_callVi cv_X5_85 [.ref (gK G 3 d_), .int (nI (k_))] [] (k_c_dig_y l G d_ hd_ h_ hrow p_ hp hpos k_ hk3 hgp) (by decide) (ce_1 G _ _ _ _ _ _ _ _ _ _) rfl rfl rfl ⟨Nat.le_of_ble_eq_true rfl, Nat.le_of_ble_eq_true rfl⟩ (Nat.le_of_ble_eq_true rfl) ⟨Nat.zero_le _, Nat.zero_le _⟩ dX5_readsNumber_3 (fun xx σ2 hq => ?_)
  obtain ⟨rfl, S1, rfl, hrS10, hrS11, hrS12, hrS13⟩ := hq
  refine m_if_ne 11 dX5_readsNumber_6 (by decide) (fun _ => ?_) (fun c2_ => absurd c2_ (by decide))
  refine m_aload_n 0 rfl rfl dX5_readsNumber_11 ?_
  refine gf_X5_30 (by decide) dX5_readsNumber_12 ?_
  refine m_iload_n 2 rfl rfl dX5_readsNumber_15 ?_
  refine m_callNi cn_X5_58 [.ref (gK G 14 1), .int (nI (k_))] [] (k_at (t := 14) (n := 3) l G (by decide) (ce_14 G _ _ _ _ _ _ _ _ _ 1) (by decide) (nI k_)) rfl rfl ⟨Nat.le_of_ble_eq_true rfl, Nat.le_of_ble_eq_true rfl⟩ (Nat.le_of_ble_eq_true rfl) ⟨Nat.zero_le _, Nat.zero_le _⟩ dX5_readsNumber_16 (fun xx σ2 hq => ?_)
  obtain rfl := hq.2
  obtain rfl : xx = nI (dgV h_ d_ p_) := hq.1.trans ((atV_in (by omega) (by decide)).trans hrS11)
  refine m_istore_n [(3, .int (nI (dgV h_ d_ p_))), (0, .ref (gK G 1 1)), (1, .ref (gK G 3 d_)), (2, .int (nI (k_)))] rfl (by decide) rfl dX5_readsNumber_19 ?_
  refine m_iload_n 0 rfl rfl dX5_readsNumber_20 ?_
  refine m_ifn_eq (dgV h_ d_ p_) 54 (by omega) dX5_readsNumber_21 (by decide) (fun c3_ => ?_) (fun c3_ => ?_)
  ·
    refine m_iconst 1 dX5_readsNumber_54 rfl ?_
    exact m_zret dX5_readsNumber_55 (Nat.le_refl _) (Nat.le_refl _) nar1 (⟨rfl, S1, rfl, hrS10.trans (congrArg nI (show p_ + 1 = nmP h_ d_ p_ from by unfold nmP; rw [show twB h_ d_ p_ = false from by unfold twB; first | (rw [hgp1, Bool.and_false]; done) | (rw [decide_eq_false (by omega)]; rfl)]; rfl)), hrS11.trans (congrArg nI (show dgV h_ d_ p_ = nmV h_ d_ p_ from by unfold nmV; rw [show twB h_ d_ p_ = false from by unfold twB; first | (rw [hgp1, Bool.and_false]; done) | (rw [decide_eq_false (by omega)]; rfl)]; rfl)), hrS12, hrS13⟩)
  ·
    refine m_aload_n 1 rfl rfl dX5_readsNumber_24 ?_
    refine m_aload_n 2 rfl rfl dX5_readsNumber_25 ?_
    refine m_iload_n 3 rfl rfl dX5_readsNumber_26 ?_
    cases hgp1 : dgB h_ d_ (p_ + 1) with
    | false =>
      refine m_callVi cv_X5_85 [.ref (gK G 3 d_), .int (nI (k_))] [] (k_c_dig_n l G d_ hd_ h_ hrow (p_ + 1) (dg_v hgp).1 hrS10 (nI (k_)) hgp1) (by decide) (ce_1 G _ _ _ _ _ _ _ _ _ _) rfl rfl rfl ⟨Nat.le_of_ble_eq_true rfl, Nat.le_of_ble_eq_true rfl⟩ (Nat.le_of_ble_eq_true rfl) ⟨Nat.zero_le _, Nat.zero_le _⟩ dX5_readsNumber_27 (fun xx σ2 hq => ?_)
      obtain ⟨rfl, rfl⟩ := hq
      refine m_if_eq 54 dX5_readsNumber_30 (by decide) (fun _ => ?_) (fun c4_ => absurd c4_ (by decide))
      refine m_iconst 1 dX5_readsNumber_54 rfl ?_
      exact m_zret dX5_readsNumber_55 (Nat.le_refl _) (Nat.le_refl _) nar1 (⟨rfl, S1, rfl, hrS10.trans (congrArg nI (show p_ + 1 = nmP h_ d_ p_ from by unfold nmP; rw [show twB h_ d_ p_ = false from by unfold twB; first | (rw [hgp1, Bool.and_false]; done) | (rw [decide_eq_false (by omega)]; rfl)]; rfl)), hrS11.trans (congrArg nI (show dgV h_ d_ p_ = nmV h_ d_ p_ from by unfold nmV; rw [show twB h_ d_ p_ = false from by unfold twB; first | (rw [hgp1, Bool.and_false]; done) | (rw [decide_eq_false (by omega)]; rfl)]; rfl)), hrS12, hrS13⟩)
    | true =>
      refine m_callVi cv_X5_85 [.ref (gK G 3 d_), .int (nI (k_))] [] (k_c_dig_y l G d_ hd_ h_ hrow (p_ + 1) (dg_v hgp).1 hrS10 k_ hk3 hgp1) (by decide) (ce_1 G _ _ _ _ _ _ _ _ _ _) rfl rfl rfl ⟨Nat.le_of_ble_eq_true rfl, Nat.le_of_ble_eq_true rfl⟩ (Nat.le_of_ble_eq_true rfl) ⟨Nat.zero_le _, Nat.zero_le _⟩ dX5_readsNumber_27 (fun xx σ2 hq => ?_)
      obtain ⟨rfl, S5, rfl, hrS50, hrS51, hrS52, hrS53⟩ := hq
      refine m_if_eq 54 dX5_readsNumber_30 (by decide) (fun c6_ => absurd c6_ (by decide)) (fun _ => ?_)
      have hv92 := (dg_v hgp1).2.1
      refine m_aload_n 1 rfl rfl dX5_readsNumber_33 ?_
      refine gf_X5_30 (by decide) dX5_readsNumber_34 ?_
      refine m_iload_n 3 rfl rfl dX5_readsNumber_37 ?_
      refine m_bipush (10) dX5_readsNumber_38 rfl ?_
      refine m_iload_n 0 rfl rfl dX5_readsNumber_40 ?_
      refine m_imul dX5_readsNumber_41 ?_
      refine m_topi (show 10 * (nI (dgV h_ d_ p_)) = nI (10 * (dgV h_ d_ p_)) from pk_mul _ _) ?_
      refine m_aload_n 1 rfl rfl dX5_readsNumber_42 ?_
      refine gf_X5_30 (by decide) dX5_readsNumber_43 ?_
      refine m_iload_n 3 rfl rfl dX5_readsNumber_46 ?_
      refine m_callNi cn_X5_58 [.ref (gK G 14 1), .int (nI (k_))] [.int (nI (10 * (dgV h_ d_ p_))), .int (nI (k_)), .ref (gK G 14 1)] (k_at (t := 14) (n := 3) l G (by decide) (ce_14 G _ _ _ _ _ _ _ _ _ 1) (by decide) (nI k_)) rfl rfl ⟨Nat.le_of_ble_eq_true rfl, Nat.le_of_ble_eq_true rfl⟩ (Nat.le_of_ble_eq_true rfl) ⟨Nat.zero_le _, Nat.zero_le _⟩ dX5_readsNumber_47 (fun xx σ2 hq => ?_)
      obtain rfl := hq.2
      obtain rfl : xx = nI (dgV h_ d_ (p_ + 1)) := hq.1.trans ((atV_in (by omega) (by decide)).trans hrS51)
      refine m_iadd dX5_readsNumber_50 ?_
      refine m_topi (show (nI (10 * (dgV h_ d_ p_))) + (nI (dgV h_ d_ (p_ + 1))) = nI ((10 * (dgV h_ d_ p_)) + (dgV h_ d_ (p_ + 1))) from nI_add _ _) ?_
      refine m_callNv cn_X5_98 [.ref (gK G 14 1), .int (nI (k_)), .int (nI ((10 * (dgV h_ d_ p_)) + (dgV h_ d_ (p_ + 1))))] [] (k_set_14 l G (by decide) k_ (by omega) (nI ((10 * (dgV h_ d_ p_)) + (dgV h_ d_ (p_ + 1))))) rfl rfl ⟨Nat.le_of_ble_eq_true rfl, Nat.le_of_ble_eq_true rfl⟩ (Nat.le_of_ble_eq_true rfl) ⟨Nat.zero_le _, Nat.zero_le _⟩ dX5_readsNumber_51 (fun σ2 hq => ?_)
      obtain rfl := hq
      obtain ⟨S7, hS7⟩ : ∃ q_ : owF, q_ = up3 S5 14 1 k_ (nI ((10 * (dgV h_ d_ p_)) + (dgV h_ d_ (p_ + 1)))) := ⟨_, rfl⟩
      rw [← hS7]
      refine m_iconst 1 dX5_readsNumber_54 rfl ?_
      exact m_zret dX5_readsNumber_55 (Nat.le_refl _) (Nat.le_refl _) nar1 (⟨rfl, S7, rfl, ((up3_o hS7 1 1 7 (by omega)).trans hrS50).trans (congrArg nI (show p_ + 2 = nmP h_ d_ p_ from by unfold nmP; rw [show twB h_ d_ p_ = true from by unfold twB; rw [decide_eq_true (by omega), hgp1]; rfl]; rfl)), (up3_e hS7).trans (congrArg nI (show 10 * dgV h_ d_ p_ + dgV h_ d_ (p_ + 1) = nmV h_ d_ p_ from by unfold nmV; rw [show twB h_ d_ p_ = true from by unfold twB; rw [decide_eq_true (by omega), hgp1]; rfl]; rfl)), fun j_ hj => ((up3_o hS7 14 1 j_ (by omega)).trans ((hrS52 j_ hj).trans (hrS12 j_ hj))), ((up3_o hS7 1 1 8 (by omega)).trans (hrS53.trans hrS13))⟩)
set_option maxRecDepth 100000 in
set_option maxHeartbeats 4000000 in
theorem k_c_num_n (l : Launch) (G : owG) {A S Z B T V : owF} {J : Nat → Nat → Int64} {Y : Nat → Nat → Nat → Option Nat} {P : Nat → Option owW} (d_ : Nat) (hd_ : d_ < owN 3) (h_ : owH) (hrow : hK h_ d_ = 2 ∧ Y 3 d_ 0 = none ∧ A 3 d_ 1 = nI (hSo h_ d_) ∧ hSo h_ d_ ≤ 2 ∧ A 3 d_ 2 = nI (hN h_ d_) ∧ hN h_ d_ ≤ 100 ∧ ∀ j_, j_ < 100 → A 16 d_ j_ = hE h_ d_ j_) (p_ : Nat) (hp : p_ ≤ hN h_ d_) (hpos : S 1 1 7 = nI p_) (k_ : Int32) (hgp : dgB h_ d_ p_ = false) : Ct l G yX5_readsNumber cX5_readsNumber 4 ((some .boolean)) 3 0 0 [.ref (gK G 1 1), .ref (gK G 3 d_), .int k_] (A, S, Z, B, T, V, J, Y, P) (qI (fun r_ σ => r_ = 0 ∧ σ = (A, S, Z, B, T, V, J, Y, P))) := by
  refine ct_of (by decide +kernel) (Nat.le_of_ble_eq_true rfl) ?_
  have hn100 := hrow.2.2.2.2.2.1
  show Wm l G cX5_readsNumber 4 RX5 ((some .boolean)) (rmk 3 0 0) (fun _ => True) (QfM G (qI (fun r_ σ => r_ = 0 ∧ σ = (A, S, Z, B, T, V, J, Y, P))) 0 0) 0 [(0, .ref (gK G 1 1)), (1, .ref (gK G 3 d_)), (2, .int k_)] [] (A, S, Z, B, T, V, J, Y, P) 0 0
  refine m_aload_n 0 rfl rfl dX5_readsNumber_0 ?_
  refine m_aload_n 1 rfl rfl dX5_readsNumber_1 ?_
  refine m_iload_n 2 rfl rfl dX5_readsNumber_2 ?_
  refine m_callVi cv_X5_85 [.ref (gK G 3 d_), .int k_] [] (k_c_dig_n l G d_ hd_ h_ hrow p_ hp hpos k_ hgp) (by decide) (ce_1 G _ _ _ _ _ _ _ _ _ _) rfl rfl rfl ⟨Nat.le_of_ble_eq_true rfl, Nat.le_of_ble_eq_true rfl⟩ (Nat.le_of_ble_eq_true rfl) ⟨Nat.zero_le _, Nat.zero_le _⟩ dX5_readsNumber_3 (fun xx σ2 hq => ?_)
  obtain ⟨rfl, rfl⟩ := hq
  refine m_if_ne 11 dX5_readsNumber_6 (by decide) (fun c1_ => absurd c1_ (by decide)) (fun _ => ?_)
  refine m_iconst 0 dX5_readsNumber_9 rfl ?_
  exact m_zret dX5_readsNumber_10 (Nat.le_refl _) (Nat.le_refl _) nar0 (⟨rfl, rfl⟩)
set_option maxRecDepth 100000 in
set_option maxHeartbeats 4000000 in
theorem k_c_end_y (l : Launch) (G : owG) {A S Z B T V : owF} {J : Nat → Nat → Int64} {Y : Nat → Nat → Nat → Option Nat} {P : Nat → Option owW} (d_ : Nat) (hd_ : d_ < owN 3) (h_ : owH) (hrow : hK h_ d_ = 2 ∧ Y 3 d_ 0 = none ∧ A 3 d_ 1 = nI (hSo h_ d_) ∧ hSo h_ d_ ≤ 2 ∧ A 3 d_ 2 = nI (hN h_ d_) ∧ hN h_ d_ ≤ 100 ∧ ∀ j_, j_ < 100 → A 16 d_ j_ = hE h_ d_ j_) (p_ : Nat) (hp : p_ ≤ hN h_ d_) (hpos : S 1 1 7 = nI p_) (hen : enB h_ d_ p_ = true) : Ct l G yX5_readsEnd cX5_readsEnd 2 ((some .boolean)) 2 0 0 [.ref (gK G 1 1), .ref (gK G 3 d_)] (A, S, Z, B, T, V, J, Y, P) (qI (fun r_ σ => r_ = 1 ∧ ∃ S2 : owF, σ = (A, S2, Z, B, T, V, J, Y, P) ∧ S2 1 1 7 = nI (p_ + 1) ∧ (∀ j_, S2 14 1 j_ = S 14 1 j_) ∧ S2 1 1 8 = S 1 1 8)) := by
  refine ct_of (by decide +kernel) (Nat.le_of_ble_eq_true rfl) ?_
  have hn100 := hrow.2.2.2.2.2.1
  show Wm l G cX5_readsEnd 2 RX5 ((some .boolean)) (rmk 2 0 0) (fun _ => True) (QfM G (qI (fun r_ σ => r_ = 1 ∧ ∃ S2 : owF, σ = (A, S2, Z, B, T, V, J, Y, P) ∧ S2 1 1 7 = nI (p_ + 1) ∧ (∀ j_, S2 14 1 j_ = S 14 1 j_) ∧ S2 1 1 8 = S 1 1 8)) 0 0) 0 [(0, .ref (gK G 1 1)), (1, .ref (gK G 3 d_))] [] (A, S, Z, B, T, V, J, Y, P) 0 0
  refine m_aload_n 1 rfl rfl dX5_readsEnd_0 ?_
  refine m_aload_n 0 rfl rfl dX5_readsEnd_1 ?_
  refine gf_X5_62 (by decide) dX5_readsEnd_2 ?_
  refine m_topi hpos ?_
  refine m_callVi cv_X5_78 [.int (nI (p_))] [] (k_get l G d_ hd_ h_ hrow (nI p_)) hd_ (ce_3 G _ _ _ _ _ _ _ _ _ _) rfl rfl rfl ⟨Nat.le_of_ble_eq_true rfl, Nat.le_of_ble_eq_true rfl⟩ (Nat.le_of_ble_eq_true rfl) ⟨Nat.zero_le _, Nat.zero_le _⟩ dX5_readsEnd_5 (fun xx σ2 hq => ?_)
  obtain ⟨hgx, rfl⟩ := hq
  obtain rfl := hgx.trans (getI_sg hn100 (by omega))
  refine m_bipush (59) dX5_readsEnd_8 rfl ?_
  refine m_icmp_eq 15 dX5_readsEnd_10 (by decide) (fun c1_ => ?_) (fun c1_ => ?_)
  ·
    refine m_aload_n 0 rfl rfl dX5_readsEnd_15 ?_
    refine m_dup rfl dX5_readsEnd_16 ?_
    refine gf_X5_62 (by decide) dX5_readsEnd_17 ?_
    refine m_topi hpos ?_
    refine m_iconst 1 dX5_readsEnd_20 rfl ?_
    refine m_iadd dX5_readsEnd_21 ?_
    refine m_topi (show (nI (p_)) + 1 = nI (p_ + 1) from nI_add _ _) ?_
    refine pf_X5_62 (by decide) dX5_readsEnd_22 (fun S2 hS2 => ?_)
    refine m_iconst 1 dX5_readsEnd_25 rfl ?_
    exact m_zret dX5_readsEnd_26 (Nat.le_refl _) (Nat.le_refl _) nar1 (⟨rfl, S2, rfl, (up3_e hS2), fun j_ => ((up3_o hS2 14 1 j_ (by omega)).trans rfl), ((up3_o hS2 1 1 8 (by omega)).trans rfl)⟩)
  ·
    have hz : False := by have q2_ := of_decide_eq_true hen; unfold sgI at c1_; rw [if_pos q2_.1] at c1_; exact c1_ q2_.2
    exact m_dead (by first | omega | assumption)
set_option maxRecDepth 100000 in
set_option maxHeartbeats 4000000 in
theorem k_c_end_n (l : Launch) (G : owG) {A S Z B T V : owF} {J : Nat → Nat → Int64} {Y : Nat → Nat → Nat → Option Nat} {P : Nat → Option owW} (d_ : Nat) (hd_ : d_ < owN 3) (h_ : owH) (hrow : hK h_ d_ = 2 ∧ Y 3 d_ 0 = none ∧ A 3 d_ 1 = nI (hSo h_ d_) ∧ hSo h_ d_ ≤ 2 ∧ A 3 d_ 2 = nI (hN h_ d_) ∧ hN h_ d_ ≤ 100 ∧ ∀ j_, j_ < 100 → A 16 d_ j_ = hE h_ d_ j_) (p_ : Nat) (hp : p_ ≤ hN h_ d_) (hpos : S 1 1 7 = nI p_) (hen : enB h_ d_ p_ = false) : Ct l G yX5_readsEnd cX5_readsEnd 2 ((some .boolean)) 2 0 0 [.ref (gK G 1 1), .ref (gK G 3 d_)] (A, S, Z, B, T, V, J, Y, P) (qI (fun r_ σ => r_ = 0 ∧ σ = (A, S, Z, B, T, V, J, Y, P))) := by
  refine ct_of (by decide +kernel) (Nat.le_of_ble_eq_true rfl) ?_
  have hn100 := hrow.2.2.2.2.2.1
  show Wm l G cX5_readsEnd 2 RX5 ((some .boolean)) (rmk 2 0 0) (fun _ => True) (QfM G (qI (fun r_ σ => r_ = 0 ∧ σ = (A, S, Z, B, T, V, J, Y, P))) 0 0) 0 [(0, .ref (gK G 1 1)), (1, .ref (gK G 3 d_))] [] (A, S, Z, B, T, V, J, Y, P) 0 0
  refine m_aload_n 1 rfl rfl dX5_readsEnd_0 ?_
  refine m_aload_n 0 rfl rfl dX5_readsEnd_1 ?_
  refine gf_X5_62 (by decide) dX5_readsEnd_2 ?_
  refine m_topi hpos ?_
  refine m_callVi cv_X5_78 [.int (nI (p_))] [] (k_get l G d_ hd_ h_ hrow (nI p_)) hd_ (ce_3 G _ _ _ _ _ _ _ _ _ _) rfl rfl rfl ⟨Nat.le_of_ble_eq_true rfl, Nat.le_of_ble_eq_true rfl⟩ (Nat.le_of_ble_eq_true rfl) ⟨Nat.zero_le _, Nat.zero_le _⟩ dX5_readsEnd_5 (fun xx σ2 hq => ?_)
  obtain ⟨hgx, rfl⟩ := hq
  obtain rfl := hgx.trans (getI_sg hn100 (by omega))
  refine m_bipush (59) dX5_readsEnd_8 rfl ?_
  refine m_icmp_eq 15 dX5_readsEnd_10 (by decide) (fun c1_ => ?_) (fun c1_ => ?_)
  ·
    have hz : False := by have q2_ := of_decide_eq_false hen; unfold sgI at c1_; by_cases cc : p_ < hN h_ d_ <;> (first | (rw [if_pos cc] at c1_; exact q2_ ⟨cc, c1_⟩) | (rw [if_neg cc] at c1_; exact absurd c1_ (by decide)))
    exact m_dead (by first | omega | assumption)
  ·
    refine m_iconst 0 dX5_readsEnd_13 rfl ?_
    exact m_zret dX5_readsEnd_14 (Nat.le_refl _) (Nat.le_refl _) nar0 (⟨rfl, rfl⟩)
