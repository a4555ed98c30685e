theorem isW_dec {a : owK} {x : Nat} (ho : aOk a) (hx : x < 2 ^ 31) : isW a (nI x) = decide (x < aN a) := by
  have h10 := ho.1
  unfold isW
  exact decide_eq_decide.mpr ⟨fun q => (nI_ltI hx (by omega)).mp q.2, fun q => ⟨nI_pos' hx, nI_lt q (by omega)⟩⟩
theorem RX.adC {A A2 : owF} {Y : Nat → Nat → Nat → Option Nat} {P : Nat → Option owW} {i : Nat} {a : owK} {x0 x1 : Nat} (ho : aOk a) (hC : aC a < 8) (h : RX A Y P i a) (e1 : A2 1 i 5 = nI (aC a + 1)) (e10 : A2 10 i (aC a) = nI x0) (e12 : A2 12 i (aC a) = nI x1) (e11 : A2 11 i (aC a) = nI x0) (hf : ∀ t j, ¬ (t = 1 ∧ j = 5) → ¬ ((t = 10 ∨ t = 11 ∨ t = 12) ∧ j = aC a) → A2 t i j = A t i j) : RX A2 Y P i (adC a x0 x1) := by
  refine ⟨(hf 1 1 (by omega) (by omega)).trans h.1, e1, h.2.2.1, fun c hc => ?_, fun j hj => (hf 13 j (by omega) (by omega)).trans (h.2.2.2.2 j hj)⟩
  have hc' : c < aC a + 1 := hc
  show A2 10 i c = nI (if c = aC a then (x0, x1, x0) else a.2.2.2.1 c).1 ∧ A2 12 i c = nI (if c = aC a then (x0, x1, x0) else a.2.2.2.1 c).2.1 ∧ A2 11 i c = nI (if c = aC a then (x0, x1, x0) else a.2.2.2.1 c).2.2
  by_cases z : c = aC a
  · rw [if_pos z, z]; exact ⟨e10, e12, e11⟩
  · rw [if_neg z, hf 10 c (by omega) (by omega), hf 12 c (by omega) (by omega), hf 11 c (by omega) (by omega)]
    exact h.2.2.2.1 c (by omega)
theorem RX.adT {A A2 : owF} {Y : Nat → Nat → Nat → Option Nat} {P : Nat → Option owW} {i : Nat} {a : owK} {k x0 x1 : Nat} (ho : aOk a) (hk : k < 10) (h0 : x0 < aN a) (h : RX A Y P i a) (e : A2 13 i (k * 10 + x0) = nI (x1 + 1)) (hf : ∀ t j, ¬ (t = 13 ∧ j = k * 10 + x0) → A2 t i j = A t i j) : RX A2 Y P i (adT a k x0 x1) := by
  have h10 := ho.1
  refine ⟨(hf 1 1 (by omega)).trans h.1, (hf 1 5 (by omega)).trans h.2.1, h.2.2.1, fun c hc => ?_, fun j hj => ?_⟩
  · rw [hf 10 c (by omega), hf 12 c (by omega), hf 11 c (by omega)]
    exact h.2.2.2.1 c hc
  · show A2 13 i j = nI (if j / 10 = k ∧ j % 10 = x0 then x1 + 1 else aT a (j / 10) (j % 10))
    by_cases z : j / 10 = k ∧ j % 10 = x0
    · rw [if_pos z, show j = k * 10 + x0 by omega]; exact e
    · rw [if_neg z, hf 13 j (by omega)]; exact h.2.2.2.2 j hj
set_option maxRecDepth 100000 in
set_option maxHeartbeats 4000000 in
theorem k_c_takesChild (l : Launch) (G : owG) {A S Z B T V : owF} {J : Nat → Nat → Int64} {Y : Nat → Nat → Nat → Option Nat} {P : Nat → Option owW} (a_ : owK) (ho_ : aOk a_) (hR : RX A Y P 1 a_) (x0 x1 : Nat) (h0_ : x0 ≤ 99) (h1_ : x1 ≤ 99) : Ct l G yX5_takesChild cX5_takesChild 3 ((some .boolean)) 2 0 0 [.ref (gK G 1 1), .int (nI (x0)), .int (nI (x1))] (A, S, Z, B, T, V, J, Y, P) (qI (fun r_ σ => r_ = bI (decide (x0 < aN a_ ∧ x1 ≤ 50 ∧ aC a_ < 8)) ∧ ∃ A2 : owF, σ = (A2, S, Z, B, T, V, J, Y, P) ∧ sfr 1 A A2 ∧ RX A2 Y P 1 (if x0 < aN a_ ∧ x1 ≤ 50 ∧ aC a_ < 8 then adC a_ x0 x1 else a_))) := by
  refine ct_of (by decide +kernel) (Nat.le_of_ble_eq_true rfl) ?_
  have h10 := ho_.1
  have h8_ := ho_.2.1
  show Wm l G cX5_takesChild 3 RX5 ((some .boolean)) (rmk 2 0 0) (fun _ => True) (QfM G (qI (fun r_ σ => r_ = bI (decide (x0 < aN a_ ∧ x1 ≤ 50 ∧ aC a_ < 8)) ∧ ∃ A2 : owF, σ = (A2, S, Z, B, T, V, J, Y, P) ∧ sfr 1 A A2 ∧ RX A2 Y P 1 (if x0 < aN a_ ∧ x1 ≤ 50 ∧ aC a_ < 8 then adC a_ x0 x1 else a_))) 0 0) 0 [(0, .ref (gK G 1 1)), (1, .int (nI (x0))), (2, .int (nI (x1)))] [] (A, S, Z, B, T, V, J, Y, P) 0 0
  refine m_aload_n 0 rfl rfl dX5_takesChild_0 ?_
  refine m_iload_n 1 rfl rfl dX5_takesChild_1 ?_
  refine m_callVi cv_X5_54 [.int (nI (x0))] [] (k_hasWay l G 1 (by decide) a_ ho_ hR (nI x0)) (by decide) (ce_1 G _ _ _ _ _ _ _ _ _ _) rfl rfl rfl ⟨Nat.le_of_ble_eq_true rfl, Nat.le_of_ble_eq_true rfl⟩ (Nat.le_of_ble_eq_true rfl) ⟨Nat.zero_le _, Nat.zero_le _⟩ dX5_takesChild_2 (fun xx σ2 hq => ?_)
  obtain ⟨hgx, rfl⟩ := hq
  obtain rfl := hgx.trans (congrArg bI (isW_dec (x := x0) ho_ (by omega)))
  refine m_ifeq_b 23 dX5_takesChild_5 (by decide) (fun c1_ => ?_) (fun c1_ => ?_)
  ·
    have hdc1 := of_decide_eq_false c1_
    refine m_iconst 0 dX5_takesChild_23 rfl ?_
    exact m_zret dX5_takesChild_24 (Nat.le_refl _) (Nat.le_refl _) nar0 (⟨by rw [decide_eq_false (by omega)]; rfl, A, rfl, sfr_rf, by rw [if_neg (by omega)]; exact hR⟩)
  ·
    have hdc1 := of_decide_eq_true c1_
    refine m_iload_n 2 rfl rfl dX5_takesChild_8 ?_
    refine m_bipush (50) dX5_takesChild_9 rfl ?_
    refine m_icmpn_gt x1 50 23 (by omega) (by decide) dX5_takesChild_11 (by decide) (fun c2_ => ?_) (fun c2_ => ?_)
    ·
      refine m_iconst 0 dX5_takesChild_23 rfl ?_
      exact m_zret dX5_takesChild_24 (Nat.le_refl _) (Nat.le_refl _) nar0 (⟨by rw [decide_eq_false (by omega)]; rfl, A, rfl, sfr_rf, by rw [if_neg (by omega)]; exact hR⟩)
    ·
      refine m_aload_n 0 rfl rfl dX5_takesChild_14 ?_
      refine gf_X5_45 (by decide) dX5_takesChild_15 ?_
      refine m_topi hR.2.1 ?_
      refine m_bipush (8) dX5_takesChild_18 rfl ?_
      refine m_icmpn_lt (aC a_) 8 25 (by omega) (by decide) dX5_takesChild_20 (by decide) (fun c3_ => ?_) (fun c3_ => ?_)
      ·
        refine m_aload_n 0 rfl rfl dX5_takesChild_25 ?_
        refine gf_X5_17 (by decide) dX5_takesChild_26 ?_
        refine m_aload_n 0 rfl rfl dX5_takesChild_29 ?_
        refine gf_X5_45 (by decide) dX5_takesChild_30 ?_
        refine m_topi hR.2.1 ?_
        refine m_iload_n 1 rfl rfl dX5_takesChild_33 ?_
        refine m_callNv cn_X5_98 [.ref (gK G 10 1), .int (nI (aC a_)), .int (nI (x0))] [] (k_set_10 l G (by decide) (aC a_) (by omega) (nI (x0))) rfl rfl ⟨Nat.le_of_ble_eq_true rfl, Nat.le_of_ble_eq_true rfl⟩ (Nat.le_of_ble_eq_true rfl) ⟨Nat.zero_le _, Nat.zero_le _⟩ dX5_takesChild_34 (fun σ2 hq => ?_)
        obtain rfl := hq
        obtain ⟨A4, hA4⟩ : ∃ q_ : owF, q_ = up3 A 10 1 (aC a_) (nI (x0)) := ⟨_, rfl⟩
        rw [← hA4]
        refine m_aload_n 0 rfl rfl dX5_takesChild_37 ?_
        refine gf_X5_21 (by decide) dX5_takesChild_38 ?_
        refine m_aload_n 0 rfl rfl dX5_takesChild_41 ?_
        refine gf_X5_45 (by decide) dX5_takesChild_42 ?_
        refine m_topi (up3_t hA4 (by decide) hR.2.1) ?_
        refine m_iload_n 1 rfl rfl dX5_takesChild_45 ?_
        refine m_callNv cn_X5_98 [.ref (gK G 11 1), .int (nI (aC a_)), .int (nI (x0))] [] (k_set_11 l G (by decide) (aC a_) (by omega) (nI (x0))) rfl rfl ⟨Nat.le_of_ble_eq_true rfl, Nat.le_of_ble_eq_true rfl⟩ (Nat.le_of_ble_eq_true rfl) ⟨Nat.zero_le _, Nat.zero_le _⟩ dX5_takesChild_46 (fun σ2 hq => ?_)
        obtain rfl := hq
        obtain ⟨A5, hA5⟩ : ∃ q_ : owF, q_ = up3 A4 11 1 (aC a_) (nI (x0)) := ⟨_, rfl⟩
        rw [← hA5]
        refine m_aload_n 0 rfl rfl dX5_takesChild_49 ?_
        refine gf_X5_24 (by decide) dX5_takesChild_50 ?_
        refine m_aload_n 0 rfl rfl dX5_takesChild_53 ?_
        refine gf_X5_45 (by decide) dX5_takesChild_54 ?_
        refine m_topi (up3_t hA5 (by decide) (up3_t hA4 (by decide) hR.2.1)) ?_
        refine m_iload_n 2 rfl rfl dX5_takesChild_57 ?_
        refine m_callNv cn_X5_98 [.ref (gK G 12 1), .int (nI (aC a_)), .int (nI (x1))] [] (k_set_12 l G (by decide) (aC a_) (by omega) (nI (x1))) rfl rfl ⟨Nat.le_of_ble_eq_true rfl, Nat.le_of_ble_eq_true rfl⟩ (Nat.le_of_ble_eq_true rfl) ⟨Nat.zero_le _, Nat.zero_le _⟩ dX5_takesChild_58 (fun σ2 hq => ?_)
        obtain rfl := hq
        obtain ⟨A6, hA6⟩ : ∃ q_ : owF, q_ = up3 A5 12 1 (aC a_) (nI (x1)) := ⟨_, rfl⟩
        rw [← hA6]
        refine m_aload_n 0 rfl rfl dX5_takesChild_61 ?_
        refine m_dup rfl dX5_takesChild_62 ?_
        refine gf_X5_45 (by decide) dX5_takesChild_63 ?_
        refine m_topi (up3_t hA6 (by decide) (up3_t hA5 (by decide) (up3_t hA4 (by decide) hR.2.1))) ?_
        refine m_iconst 1 dX5_takesChild_66 rfl ?_
        refine m_iadd dX5_takesChild_67 ?_
        refine m_topi (show (nI (aC a_)) + 1 = nI ((aC a_) + 1) from nI_add _ _) ?_
        refine pf_X5_45 (by decide) dX5_takesChild_68 (fun A7 hA7 => ?_)
        refine m_iconst 1 dX5_takesChild_71 rfl ?_
        exact m_zret dX5_takesChild_72 (Nat.le_refl _) (Nat.le_refl _) nar1 (⟨by rw [decide_eq_true (by omega)]; rfl, A7, rfl, (sfr_up (sfr_up (sfr_up (sfr_up sfr_rf hA4 rfl) hA5 rfl) hA6 rfl) hA7 rfl), by rw [if_pos (by omega)]; exact RX.adC ho_ (by omega) hR (up3_e hA7) ((up3_o hA7 10 1 (aC a_) (by omega)).trans ((up3_o hA6 10 1 (aC a_) (by omega)).trans ((up3_o hA5 10 1 (aC a_) (by omega)).trans (up3_e hA4)))) ((up3_o hA7 12 1 (aC a_) (by omega)).trans (up3_e hA6)) ((up3_o hA7 11 1 (aC a_) (by omega)).trans ((up3_o hA6 11 1 (aC a_) (by omega)).trans (up3_e hA5))) (fun t_ j_ h1_ h2_ => ((up3_o hA7 t_ 1 j_ (by omega)).trans ((up3_o hA6 t_ 1 j_ (by omega)).trans ((up3_o hA5 t_ 1 j_ (by omega)).trans ((up3_o hA4 t_ 1 j_ (by omega)).trans rfl)))))⟩)
      ·
        refine m_iconst 0 dX5_takesChild_23 rfl ?_
        exact m_zret dX5_takesChild_24 (Nat.le_refl _) (Nat.le_refl _) nar0 (⟨by rw [decide_eq_false (by omega)]; rfl, A, rfl, sfr_rf, by rw [if_neg (by omega)]; exact hR⟩)
set_option maxRecDepth 100000 in
set_option maxHeartbeats 4000000 in
theorem k_c_takesSaying (l : Launch) (G : owG) {A S Z B T V : owF} {J : Nat → Nat → Int64} {Y : Nat → Nat → Nat → Option Nat} {P : Nat → Option owW} (a_ : owK) (ho_ : aOk a_) (hR : RX A Y P 1 a_) (x2 x0 x1 : Nat) (h2_ : x2 < 10) (h0_ : x0 ≤ 99) (h1_ : x1 ≤ 99) : Ct l G yX5_takesSaying cX5_takesSaying 4 ((some .boolean)) 2 0 0 [.ref (gK G 1 1), .int (nI (x2)), .int (nI (x0)), .int (nI (x1))] (A, S, Z, B, T, V, J, Y, P) (qI (fun r_ σ => r_ = bI (decide (x0 < aN a_ ∧ x1 < aN a_)) ∧ ∃ A2 : owF, σ = (A2, S, Z, B, T, V, J, Y, P) ∧ sfr 1 A A2 ∧ RX A2 Y P 1 (if x0 < aN a_ ∧ x1 < aN a_ then adT a_ x2 x0 x1 else a_))) := by
  refine ct_of (by decide +kernel) (Nat.le_of_ble_eq_true rfl) ?_
  have h10 := ho_.1
  have h8_ := ho_.2.1
  show Wm l G cX5_takesSaying 4 RX5 ((some .boolean)) (rmk 2 0 0) (fun _ => True) (QfM G (qI (fun r_ σ => r_ = bI (decide (x0 < aN a_ ∧ x1 < aN a_)) ∧ ∃ A2 : owF, σ = (A2, S, Z, B, T, V, J, Y, P) ∧ sfr 1 A A2 ∧ RX A2 Y P 1 (if x0 < aN a_ ∧ x1 < aN a_ then adT a_ x2 x0 x1 else a_))) 0 0) 0 [(0, .ref (gK G 1 1)), (1, .int (nI (x2))), (2, .int (nI (x0))), (3, .int (nI (x1)))] [] (A, S, Z, B, T, V, J, Y, P) 0 0
  refine m_aload_n 0 rfl rfl dX5_takesSaying_0 ?_
  refine m_iload_n 2 rfl rfl dX5_takesSaying_1 ?_
  refine m_callVi cv_X5_54 [.int (nI (x0))] [] (k_hasWay l G 1 (by decide) a_ ho_ hR (nI x0)) (by decide) (ce_1 G _ _ _ _ _ _ _ _ _ _) rfl rfl rfl ⟨Nat.le_of_ble_eq_true rfl, Nat.le_of_ble_eq_true rfl⟩ (Nat.le_of_ble_eq_true rfl) ⟨Nat.zero_le _, Nat.zero_le _⟩ dX5_takesSaying_2 (fun xx σ2 hq => ?_)
  obtain ⟨hgx, rfl⟩ := hq
  obtain rfl := hgx.trans (congrArg bI (isW_dec (x := x0) ho_ (by omega)))
  refine m_ifeq_b 16 dX5_takesSaying_5 (by decide) (fun c1_ => ?_) (fun c1_ => ?_)
  ·
    have hdc1 := of_decide_eq_false c1_
    refine m_iconst 0 dX5_takesSaying_16 rfl ?_
    exact m_zret dX5_takesSaying_17 (Nat.le_refl _) (Nat.le_refl _) nar0 (⟨by rw [decide_eq_false (by omega)]; rfl, A, rfl, sfr_rf, by rw [if_neg (by omega)]; exact hR⟩)
  ·
    have hdc1 := of_decide_eq_true c1_
    refine m_aload_n 0 rfl rfl dX5_takesSaying_8 ?_
    refine m_iload_n 3 rfl rfl dX5_takesSaying_9 ?_
    refine m_callVi cv_X5_54 [.int (nI (x1))] [] (k_hasWay l G 1 (by decide) a_ ho_ hR (nI x1)) (by decide) (ce_1 G _ _ _ _ _ _ _ _ _ _) rfl rfl rfl ⟨Nat.le_of_ble_eq_true rfl, Nat.le_of_ble_eq_true rfl⟩ (Nat.le_of_ble_eq_true rfl) ⟨Nat.zero_le _, Nat.zero_le _⟩ dX5_takesSaying_10 (fun xx σ2 hq => ?_)
    obtain ⟨hgx, rfl⟩ := hq
    obtain rfl := hgx.trans (congrArg bI (isW_dec (x := x1) ho_ (by omega)))
    refine m_ifne_b 18 dX5_takesSaying_13 (by decide) (fun c2_ => ?_) (fun c2_ => ?_)
    ·
      have hdc2 := of_decide_eq_true c2_
      refine m_aload_n 0 rfl rfl dX5_takesSaying_18 ?_
      refine gf_X5_27 (by decide) dX5_takesSaying_19 ?_
      refine m_iload_n 1 rfl rfl dX5_takesSaying_22 ?_
      refine m_bipush (10) dX5_takesSaying_23 rfl ?_
      refine m_imul dX5_takesSaying_25 ?_
      refine m_topi (show (nI (x2)) * 10 = nI (x2 * 10) from pk_mul _ _) ?_
      refine m_iload_n 2 rfl rfl dX5_takesSaying_26 ?_
      refine m_iadd dX5_takesSaying_27 ?_
      refine m_topi (show (nI (x2 * 10)) + (nI (x0)) = nI ((x2 * 10) + x0) from nI_add _ _) ?_
      refine m_iload_n 3 rfl rfl dX5_takesSaying_28 ?_
      refine m_iconst 1 dX5_takesSaying_29 rfl ?_
      refine m_iadd dX5_takesSaying_30 ?_
      refine m_topi (show (nI (x1)) + 1 = nI (x1 + 1) from nI_add _ _) ?_
      refine m_callNv cn_X5_98 [.ref (gK G 13 1), .int (nI ((x2 * 10) + x0)), .int (nI (x1 + 1))] [] (k_set_13 l G (by decide) ((x2 * 10) + x0) (by omega) (nI (x1 + 1))) rfl rfl ⟨Nat.le_of_ble_eq_true rfl, Nat.le_of_ble_eq_true rfl⟩ (Nat.le_of_ble_eq_true rfl) ⟨Nat.zero_le _, Nat.zero_le _⟩ dX5_takesSaying_31 (fun σ2 hq => ?_)
      obtain rfl := hq
      obtain ⟨A3, hA3⟩ : ∃ q_ : owF, q_ = up3 A 13 1 ((x2 * 10) + x0) (nI (x1 + 1)) := ⟨_, rfl⟩
      rw [← hA3]
      refine m_iconst 1 dX5_takesSaying_34 rfl ?_
      exact m_zret dX5_takesSaying_35 (Nat.le_refl _) (Nat.le_refl _) nar1 (⟨by rw [decide_eq_true (by omega)]; rfl, A3, rfl, (sfr_up sfr_rf hA3 rfl), by rw [if_pos (by omega)]; exact RX.adT ho_ (by omega) (by omega) hR (up3_e hA3) (fun t_ j_ h1_ => ((up3_o hA3 t_ 1 j_ (by omega)).trans rfl))⟩)
    ·
      have hdc2 := of_decide_eq_false c2_
      refine m_iconst 0 dX5_takesSaying_16 rfl ?_
      exact m_zret dX5_takesSaying_17 (Nat.le_refl _) (Nat.le_refl _) nar0 (⟨by rw [decide_eq_false (by omega)]; rfl, A, rfl, sfr_rf, by rw [if_neg (by omega)]; exact hR⟩)
