/-! what the model refuses -/
def wrI (h : owH) (x : Int32) (so : Nat) : Int32 := if isD x = true then sortRef h x.toNatClampNeg so else -1
def wnI (h : owH) (x : Int32) : Int32 := if isD x = true then rowRef h x.toNatClampNeg else -1
theorem wrI_0 {h : owH} {x : Int32} {so : Nat} (q : wrI h x so = 0) : ∃ d, d < 8 ∧ x = nI d ∧ hK h d = 2 ∧ hSo h d = so ∧ isD x = true := by
  cases hD : isD x with
  | false => unfold wrI at q; rw [hD, if_neg (by decide)] at q; exact absurd q (by decide)
  | true =>
    obtain ⟨d, hd, rfl⟩ := isD_nat hD
    unfold wrI at q
    rw [hD, if_pos rfl, nI_clamp (by omega)] at q
    unfold sortRef at q
    by_cases h0 : hK h d = 0
    · rw [if_pos h0] at q; exact absurd q (by decide)
    · rw [if_neg h0] at q
      by_cases h2 : hK h d = 2 ∧ hSo h d = so
      · exact ⟨d, hd, rfl, h2.1, h2.2, rfl⟩
      · rw [if_neg h2] at q; exact absurd q (by decide)
theorem wnI_0 {h : owH} {x : Int32} (q : wnI h x = 0) : ∃ d, d < 8 ∧ x = nI d ∧ hK h d = 2 ∧ isD x = true := by
  cases hD : isD x with
  | false => unfold wnI at q; rw [hD, if_neg (by decide)] at q; exact absurd q (by decide)
  | true =>
    obtain ⟨d, hd, rfl⟩ := isD_nat hD
    unfold wnI at q
    rw [hD, if_pos rfl, nI_clamp (by omega)] at q
    unfold rowRef at q
    by_cases h0 : hK h d = 0
    · rw [if_pos h0] at q; exact absurd q (by decide)
    · rw [if_neg h0] at q
      by_cases h2 : hK h d = 2
      · exact ⟨d, hd, rfl, h2, rfl⟩
      · rw [if_neg h2] at q; exact absurd q (by decide)
theorem isSumB_nat {x y : Int32} (q : isSumB x y = true) : x = nI x.toNatClampNeg ∧ y = nI y.toNatClampNeg ∧ y.toNatClampNeg ≤ x.toNatClampNeg ∧ x.toNatClampNeg ≤ 9999 := by
  have h := of_decide_eq_true q
  obtain ⟨a, ha, rfl⟩ := nI_of2 (M := 9999) (n := 9999) (by decide) (Int32.not_lt.mpr (Int32.le_trans h.1 h.2.1)) h.2.2
  obtain ⟨b, hb, rfl⟩ := nI_of2 (M := 9999) (n := 9999) (by decide) (Int32.not_lt.mpr h.1) (Int32.le_trans h.2.1 h.2.2)
  rw [nI_clamp (by omega), nI_clamp (by omega)]
  exact ⟨rfl, rfl, (nI_leI (by omega) (by omega)).mp h.2.1, ha⟩
theorem shRef_ok {h : owH} {d : Nat} (q : shRef h d = 0) : hK h d = 2 ∧ hSo h d = 2 ∧ hN h d % 2 = 0 ∧ hN h d ≤ 24 ∧ ∀ s, s < shN h d → hE h d (2 * s) = nI (shX h d s) ∧ hE h d ((2 * s) + 1) = nI (shY h d s) ∧ shY h d s ≤ shX h d s ∧ shX h d s ≤ 9999 := by
  unfold shRef at q
  by_cases h0 : hK h d = 0
  · rw [if_pos h0] at q; exact absurd q (by decide)
  rw [if_neg h0] at q
  by_cases h2 : hK h d = 2 ∧ hSo h d = 2
  · rw [if_pos h2] at q
    by_cases h3 : hN h d % 2 = 0 ∧ hN h d ≤ 24
    · rw [if_pos h3] at q
      cases h4 : allB (sumB h d) (shN h d) with
      | false => rw [h4, if_neg (by decide)] at q; exact absurd q (by decide)
      | true =>
        refine ⟨h2.1, h2.2, h3.1, h3.2, fun s hs => ?_⟩
        exact isSumB_nat (allB_iff.mp h4 s hs)
    · rw [if_neg h3] at q; exact absurd q (by decide)
  · rw [if_neg h2] at q; exact absurd q (by decide)
theorem shRefI_0 {h : owH} {x : Int32} (q : shRefI h x = 0) : ∃ d, d < 8 ∧ x = nI d ∧ shRef h d = 0 ∧ isD x = true := by
  cases hD : isD x with
  | false => rw [shRefI_n hD] at q; exact absurd q (by decide)
  | true =>
    obtain ⟨d, hd, rfl⟩ := isD_nat hD
    rw [shRefI_nat hd] at q
    exact ⟨d, hd, rfl, q, rfl⟩
theorem anRefI_0 {h : owH} {x : Int32} {n : Nat} (q : anRefI h x n = 0) : ∃ e, e < 8 ∧ x = nI e ∧ hK h e = 2 ∧ hSo h e = 2 ∧ hN h e = n := by
  cases hD : isD x with
  | false => unfold anRefI at q; rw [hD, if_neg (by decide)] at q; exact absurd q (by decide)
  | true =>
    obtain ⟨d, hd, rfl⟩ := isD_nat hD
    unfold anRefI at q
    rw [hD, if_pos rfl, nI_clamp (by omega)] at q
    unfold anRef at q
    by_cases h0 : hK h d = 0
    · rw [if_pos h0] at q; exact absurd q (by decide)
    rw [if_neg h0] at q
    by_cases h2 : hK h d = 2 ∧ hSo h d = 2
    · rw [if_pos h2] at q
      by_cases h3 : hN h d = n
      · exact ⟨d, hd, rfl, h2.1, h2.2, h3⟩
      · rw [if_neg h3] at q; exact absurd q (by decide)
    · rw [if_neg h2] at q; exact absurd q (by decide)
theorem boRefI_0 {h : owH} {x z : Int32} (q : boRefI h x z = 0) : ∃ d e, d < 8 ∧ e < 8 ∧ x = nI d ∧ z = nI e ∧ shRef h d = 0 ∧ hK h e = 2 ∧ hN h e = shN h d := by
  unfold boRefI at q
  by_cases h0 : shRefI h x = 0
  · rw [if_pos h0] at q
    obtain ⟨d, hd, rfl, h1, -⟩ := shRefI_0 h0
    rw [nI_clamp (by omega)] at q
    obtain ⟨e, he, rfl, h2, -, h3⟩ := anRefI_0 q
    exact ⟨d, e, hd, he, rfl, rfl, h1, h2, h3⟩
  · rw [if_neg h0] at q; exact absurd q h0
set_option maxRecDepth 100000 in
set_option maxHeartbeats 4000000 in
theorem k_m_wrongRow (l : Launch) (G : owG) {A S Z B T V : owF} {J : Nat → Nat → Int64} {Y : Nat → Nat → Nat → Option Nat} {P : Nat → Option owW} (a_ : owK) (ho_ : aOk a_) (im : Option owK) (h_ : owH) (hM : MR B a_ im h_) (x_ : Int32) (so : Nat) (hso : so ≤ 2) : Ct l G yX12_wrongRow cX12_wrongRow 3 ((some .int)) 2 0 0 [.ref (gK G 4 0), .int x_, .int (nI (so))] (A, S, Z, B, T, V, J, Y, P) (qI (fun r_ σ => r_ = wrI h_ x_ so ∧ σ = (A, S, Z, B, T, V, J, Y, P))) := by
  refine ct_of (by decide +kernel) (Nat.le_of_ble_eq_true rfl) ?_
  have h10 := ho_.1
  have h8_ := ho_.2.1
  have hX := hM.1
  show Wm l G cX12_wrongRow 3 RX12 ((some .int)) (rmk 2 0 0) (fun _ => True) (QfM G (qI (fun r_ σ => r_ = wrI h_ x_ so ∧ σ = (A, S, Z, B, T, V, J, Y, P))) 0 0) 0 [(0, .ref (gK G 4 0)), (1, .int x_), (2, .int (nI (so)))] [] (A, S, Z, B, T, V, J, Y, P) 0 0
  refine m_iload_n 1 rfl rfl dX12_wrongRow_0 ?_
  refine m_callSi cs_X12_101 [.int x_] [] (k_m_isShelf l G x_) rfl rfl ⟨Nat.le_of_ble_eq_true rfl, Nat.le_of_ble_eq_true rfl⟩ (Nat.le_of_ble_eq_true rfl) ⟨Nat.zero_le _, Nat.zero_le _⟩ dX12_wrongRow_1 (fun xx σ2 hq => ?_)
  obtain ⟨rfl, rfl⟩ := hq
  refine m_ifne_b 11 dX12_wrongRow_4 (by decide) (fun c1_ => ?_) (fun c1_ => ?_)
  ·
    obtain ⟨dq, hdq, rfl⟩ := isD_nat c1_
    have hcldq : (nI dq).toNatClampNeg = dq := nI_clamp (by omega)
    have hms := hM.2.2.2 dq hdq
    have hk3 := hms.1
    refine m_aload_n 0 rfl rfl dX12_wrongRow_11 ?_
    refine gf_X12_19 dX12_wrongRow_12 ?_
    refine m_iload_n 1 rfl rfl dX12_wrongRow_15 ?_
    refine al_43 dq rfl (by omega) dX12_wrongRow_16 ?_
    refine m_topi hms.2.1 ?_
    refine m_ifn_ne (hK h_ dq) 25 (by omega) dX12_wrongRow_17 (by decide) (fun c2_ => ?_) (fun c2_ => ?_)
    ·
      refine m_aload_n 0 rfl rfl dX12_wrongRow_25 ?_
      refine gf_X12_19 dX12_wrongRow_26 ?_
      refine m_iload_n 1 rfl rfl dX12_wrongRow_29 ?_
      refine al_43 dq rfl (by omega) dX12_wrongRow_30 ?_
      refine m_topi hms.2.1 ?_
      refine m_iconst 2 dX12_wrongRow_31 rfl ?_
      refine m_icmpn_ne (hK h_ dq) 2 49 (by omega) (by decide) dX12_wrongRow_32 (by decide) (fun c3_ => ?_) (fun c3_ => ?_)
      ·
        refine m_bipush (-12) dX12_wrongRow_49 rfl ?_
        refine m_goto 55 dX12_wrongRow_51 (by decide) ?_
        exact m_iret dX12_wrongRow_55 (Nat.le_refl _) (Nat.le_refl _) (⟨by unfold wrI; rw [if_pos c1_, hcldq]; unfold sortRef; grind, rfl⟩)
      ·
        have hm2 := hms.2.2.1 c3_
        have hs2 := hm2.2.1
        refine m_iload_n 2 rfl rfl dX12_wrongRow_35 ?_
        refine m_ifn_lt so 54 (by omega) dX12_wrongRow_36 (by decide) (fun c4_ => m_dead c4_) (fun _ => ?_)
        refine m_aload_n 0 rfl rfl dX12_wrongRow_39 ?_
        refine gf_X12_22 dX12_wrongRow_40 ?_
        refine m_iload_n 1 rfl rfl dX12_wrongRow_43 ?_
        refine al_44 dq rfl (by omega) dX12_wrongRow_44 ?_
        refine m_topi hm2.1 ?_
        refine m_iload_n 2 rfl rfl dX12_wrongRow_45 ?_
        refine m_icmpn_eq (hSo h_ dq) so 54 (by omega) (by omega) dX12_wrongRow_46 (by decide) (fun c5_ => ?_) (fun c5_ => ?_)
        ·
          refine m_iconst 0 dX12_wrongRow_54 rfl ?_
          exact m_iret dX12_wrongRow_55 (Nat.le_refl _) (Nat.le_refl _) (⟨by unfold wrI; rw [if_pos c1_, hcldq]; unfold sortRef; grind, rfl⟩)
        ·
          refine m_bipush (-12) dX12_wrongRow_49 rfl ?_
          refine m_goto 55 dX12_wrongRow_51 (by decide) ?_
          exact m_iret dX12_wrongRow_55 (Nat.le_refl _) (Nat.le_refl _) (⟨by unfold wrI; rw [if_pos c1_, hcldq]; unfold sortRef; grind, rfl⟩)
    ·
      refine m_bipush (-11) dX12_wrongRow_20 rfl ?_
      refine m_goto 55 dX12_wrongRow_22 (by decide) ?_
      exact m_iret dX12_wrongRow_55 (Nat.le_refl _) (Nat.le_refl _) (⟨by unfold wrI; rw [if_pos c1_, hcldq]; unfold sortRef; grind, rfl⟩)
  ·
    refine m_iconst (-1) dX12_wrongRow_7 rfl ?_
    refine m_goto 55 dX12_wrongRow_8 (by decide) ?_
    exact m_iret dX12_wrongRow_55 (Nat.le_refl _) (Nat.le_refl _) (⟨by unfold wrI; rw [if_neg (by rw [c1_]; decide)], rfl⟩)
set_option maxRecDepth 100000 in
set_option maxHeartbeats 4000000 in
theorem k_m_wrongRowN (l : Launch) (G : owG) {A S Z B T V : owF} {J : Nat → Nat → Int64} {Y : Nat → Nat → Nat → Option Nat} {P : Nat → Option owW} (a_ : owK) (ho_ : aOk a_) (im : Option owK) (h_ : owH) (hM : MR B a_ im h_) (x_ : Int32) : Ct l G yX12_wrongRow cX12_wrongRow 3 ((some .int)) 2 0 0 [.ref (gK G 4 0), .int x_, .int (-1)] (A, S, Z, B, T, V, J, Y, P) (qI (fun r_ σ => r_ = wnI h_ x_ ∧ σ = (A, S, Z, B, T, V, J, Y, P))) := by
  refine ct_of (by decide +kernel) (Nat.le_of_ble_eq_true rfl) ?_
  have h10 := ho_.1
  have h8_ := ho_.2.1
  have hX := hM.1
  show Wm l G cX12_wrongRow 3 RX12 ((some .int)) (rmk 2 0 0) (fun _ => True) (QfM G (qI (fun r_ σ => r_ = wnI h_ x_ ∧ σ = (A, S, Z, B, T, V, J, Y, P))) 0 0) 0 [(0, .ref (gK G 4 0)), (1, .int x_), (2, .int (-1))] [] (A, S, Z, B, T, V, J, Y, P) 0 0
  refine m_iload_n 1 rfl rfl dX12_wrongRow_0 ?_
  refine m_callSi cs_X12_101 [.int x_] [] (k_m_isShelf l G x_) rfl rfl ⟨Nat.le_of_ble_eq_true rfl, Nat.le_of_ble_eq_true rfl⟩ (Nat.le_of_ble_eq_true rfl) ⟨Nat.zero_le _, Nat.zero_le _⟩ dX12_wrongRow_1 (fun xx σ2 hq => ?_)
  obtain ⟨rfl, rfl⟩ := hq
  refine m_ifne_b 11 dX12_wrongRow_4 (by decide) (fun c1_ => ?_) (fun c1_ => ?_)
  ·
    obtain ⟨dq, hdq, rfl⟩ := isD_nat c1_
    have hcldq : (nI dq).toNatClampNeg = dq := nI_clamp (by omega)
    have hms := hM.2.2.2 dq hdq
    have hk3 := hms.1
    refine m_aload_n 0 rfl rfl dX12_wrongRow_11 ?_
    refine gf_X12_19 dX12_wrongRow_12 ?_
    refine m_iload_n 1 rfl rfl dX12_wrongRow_15 ?_
    refine al_43 dq rfl (by omega) dX12_wrongRow_16 ?_
    refine m_topi hms.2.1 ?_
    refine m_ifn_ne (hK h_ dq) 25 (by omega) dX12_wrongRow_17 (by decide) (fun c2_ => ?_) (fun c2_ => ?_)
    ·
      refine m_aload_n 0 rfl rfl dX12_wrongRow_25 ?_
      refine gf_X12_19 dX12_wrongRow_26 ?_
      refine m_iload_n 1 rfl rfl dX12_wrongRow_29 ?_
      refine al_43 dq rfl (by omega) dX12_wrongRow_30 ?_
      refine m_topi hms.2.1 ?_
      refine m_iconst 2 dX12_wrongRow_31 rfl ?_
      refine m_icmpn_ne (hK h_ dq) 2 49 (by omega) (by decide) dX12_wrongRow_32 (by decide) (fun c3_ => ?_) (fun c3_ => ?_)
      ·
        refine m_bipush (-12) dX12_wrongRow_49 rfl ?_
        refine m_goto 55 dX12_wrongRow_51 (by decide) ?_
        exact m_iret dX12_wrongRow_55 (Nat.le_refl _) (Nat.le_refl _) (⟨by unfold wnI; rw [if_pos c1_, hcldq]; unfold rowRef; grind, rfl⟩)
      ·
        have hm2 := hms.2.2.1 c3_
        have hs2 := hm2.2.1
        refine m_iload_n 2 rfl rfl dX12_wrongRow_35 ?_
        refine m_if_lt 54 dX12_wrongRow_36 (by decide) (fun _ => ?_) (fun c4_ => absurd c4_ (by decide))
        refine m_iconst 0 dX12_wrongRow_54 rfl ?_
        exact m_iret dX12_wrongRow_55 (Nat.le_refl _) (Nat.le_refl _) (⟨by unfold wnI; rw [if_pos c1_, hcldq]; unfold rowRef; grind, rfl⟩)
    ·
      refine m_bipush (-11) dX12_wrongRow_20 rfl ?_
      refine m_goto 55 dX12_wrongRow_22 (by decide) ?_
      exact m_iret dX12_wrongRow_55 (Nat.le_refl _) (Nat.le_refl _) (⟨by unfold wnI; rw [if_pos c1_, hcldq]; unfold rowRef; grind, rfl⟩)
  ·
    refine m_iconst (-1) dX12_wrongRow_7 rfl ?_
    refine m_goto 55 dX12_wrongRow_8 (by decide) ?_
    exact m_iret dX12_wrongRow_55 (Nat.le_refl _) (Nat.le_refl _) (⟨by unfold wnI; rw [if_neg (by rw [c1_]; decide)], rfl⟩)
set_option maxRecDepth 100000 in
set_option maxHeartbeats 4000000 in
theorem k_m_sums (l : Launch) (G : owG) {A S Z B T V : owF} {J : Nat → Nat → Int64} {Y : Nat → Nat → Nat → Option Nat} {P : Nat → Option owW} (a_ : owK) (ho_ : aOk a_) (im : Option owK) (h_ : owH) (hM : MR B a_ im h_) (d_ : Nat) (hd_ : d_ < 8) (hk2 : hK h_ d_ = 2)  : Ct l G yX12_sums cX12_sums 2 ((some .int)) 0 0 0 [.ref (gK G 4 0), .int (nI (d_))] (A, S, Z, B, T, V, J, Y, P) (qI (fun r_ σ => r_ = nI (shN h_ d_) ∧ σ = (A, S, Z, B, T, V, J, Y, P))) := by
  refine ct_of (by decide +kernel) (Nat.le_of_ble_eq_true rfl) ?_
  have h10 := ho_.1
  have h8_ := ho_.2.1
  have hX := hM.1
  have hms := hM.2.2.2 d_ hd_
  have hm2 := hms.2.2.1 hk2
  have hs2 := hm2.2.1
  have hn100 := hm2.2.2.2.1
  show Wm l G cX12_sums 2 RX12 ((some .int)) (rmk 0 0 0) (fun _ => True) (QfM G (qI (fun r_ σ => r_ = nI (shN h_ d_) ∧ σ = (A, S, Z, B, T, V, J, Y, P))) 0 0) 0 [(0, .ref (gK G 4 0)), (1, .int (nI (d_)))] [] (A, S, Z, B, T, V, J, Y, P) 0 0
  refine m_aload_n 0 rfl rfl dX12_sums_0 ?_
  refine gf_X12_25 dX12_sums_1 ?_
  refine m_iload_n 1 rfl rfl dX12_sums_4 ?_
  refine al_45 d_ rfl (by omega) dX12_sums_5 ?_
  refine m_topi hm2.2.2.1 ?_
  refine m_iconst 2 dX12_sums_6 rfl ?_
  refine m_idiv (by decide) dX12_sums_7 ?_
  refine m_topi (show (nI (hN h_ d_)) / 2 = nI ((hN h_ d_) / 2) from pk_div (by omega) (by decide) (by decide)) ?_
  exact m_iret dX12_sums_8 (Nat.le_refl _) (Nat.le_refl _) (⟨rfl, rfl⟩)
set_option maxRecDepth 100000 in
set_option maxHeartbeats 4000000 in
theorem k_m_upperOf (l : Launch) (G : owG) {A S Z B T V : owF} {J : Nat → Nat → Int64} {Y : Nat → Nat → Nat → Option Nat} {P : Nat → Option owW} (a_ : owK) (ho_ : aOk a_) (im : Option owK) (h_ : owH) (hM : MR B a_ im h_) (d_ : Nat) (hd_ : d_ < 8) (hsr : shRef h_ d_ = 0) (i_ : Nat) (hi_ : i_ < shN h_ d_) : Ct l G yX12_upperOf cX12_upperOf 3 ((some .int)) 0 0 0 [.ref (gK G 4 0), .int (nI (d_)), .int (nI (i_))] (A, S, Z, B, T, V, J, Y, P) (qI (fun r_ σ => r_ = nI (shX h_ d_ i_) ∧ σ = (A, S, Z, B, T, V, J, Y, P))) := by
  refine ct_of (by decide +kernel) (Nat.le_of_ble_eq_true rfl) ?_
  have h10 := ho_.1
  have h8_ := ho_.2.1
  have hX := hM.1
  obtain ⟨hk2, hso2, hev, h24, hsm⟩ := shRef_ok hsr
  have hms := hM.2.2.2 d_ hd_
  have hm2 := hms.2.2.1 hk2
  have hs2 := hm2.2.1
  have hn100 := hm2.2.2.2.1
  have hsn : shN h_ d_ = hN h_ d_ / 2 := rfl
  show Wm l G cX12_upperOf 3 RX12 ((some .int)) (rmk 0 0 0) (fun _ => True) (QfM G (qI (fun r_ σ => r_ = nI (shX h_ d_ i_) ∧ σ = (A, S, Z, B, T, V, J, Y, P))) 0 0) 0 [(0, .ref (gK G 4 0)), (1, .int (nI (d_))), (2, .int (nI (i_)))] [] (A, S, Z, B, T, V, J, Y, P) 0 0
  refine m_aload_n 0 rfl rfl dX12_upperOf_0 ?_
  refine gf_X12_28 dX12_upperOf_1 ?_
  refine m_bipush (100) dX12_upperOf_4 rfl ?_
  refine m_iload_n 1 rfl rfl dX12_upperOf_6 ?_
  refine m_imul dX12_upperOf_7 ?_
  refine m_topi (show 100 * (nI (d_)) = nI (100 * d_) from pk_mul _ _) ?_
  refine m_iconst 2 dX12_upperOf_8 rfl ?_
  refine m_iload_n 2 rfl rfl dX12_upperOf_9 ?_
  refine m_imul dX12_upperOf_10 ?_
  refine m_topi (show 2 * (nI (i_)) = nI (2 * i_) from pk_mul _ _) ?_
  refine m_iadd dX12_upperOf_11 ?_
  refine m_topi (show (nI (100 * d_)) + (nI (2 * i_)) = nI ((100 * d_) + (2 * i_)) from nI_add _ _) ?_
  refine al_46 ((100 * d_) + (2 * i_)) rfl (by omega) dX12_upperOf_12 ?_
  refine m_topi ((hm2.2.2.2.2 (2 * i_) (by omega)).trans (hsm i_ hi_).1) ?_
  exact m_iret dX12_upperOf_13 (Nat.le_refl _) (Nat.le_refl _) (⟨rfl, rfl⟩)
set_option maxRecDepth 100000 in
set_option maxHeartbeats 4000000 in
theorem k_m_lowerOf (l : Launch) (G : owG) {A S Z B T V : owF} {J : Nat → Nat → Int64} {Y : Nat → Nat → Nat → Option Nat} {P : Nat → Option owW} (a_ : owK) (ho_ : aOk a_) (im : Option owK) (h_ : owH) (hM : MR B a_ im h_) (d_ : Nat) (hd_ : d_ < 8) (hsr : shRef h_ d_ = 0) (i_ : Nat) (hi_ : i_ < shN h_ d_) : Ct l G yX12_lowerOf cX12_lowerOf 3 ((some .int)) 0 0 0 [.ref (gK G 4 0), .int (nI (d_)), .int (nI (i_))] (A, S, Z, B, T, V, J, Y, P) (qI (fun r_ σ => r_ = nI (shY h_ d_ i_) ∧ σ = (A, S, Z, B, T, V, J, Y, P))) := by
  refine ct_of (by decide +kernel) (Nat.le_of_ble_eq_true rfl) ?_
  have h10 := ho_.1
  have h8_ := ho_.2.1
  have hX := hM.1
  obtain ⟨hk2, hso2, hev, h24, hsm⟩ := shRef_ok hsr
  have hms := hM.2.2.2 d_ hd_
  have hm2 := hms.2.2.1 hk2
  have hs2 := hm2.2.1
  have hn100 := hm2.2.2.2.1
  have hsn : shN h_ d_ = hN h_ d_ / 2 := rfl
  show Wm l G cX12_lowerOf 3 RX12 ((some .int)) (rmk 0 0 0) (fun _ => True) (QfM G (qI (fun r_ σ => r_ = nI (shY h_ d_ i_) ∧ σ = (A, S, Z, B, T, V, J, Y, P))) 0 0) 0 [(0, .ref (gK G 4 0)), (1, .int (nI (d_))), (2, .int (nI (i_)))] [] (A, S, Z, B, T, V, J, Y, P) 0 0
  refine m_aload_n 0 rfl rfl dX12_lowerOf_0 ?_
  refine gf_X12_28 dX12_lowerOf_1 ?_
  refine m_bipush (100) dX12_lowerOf_4 rfl ?_
  refine m_iload_n 1 rfl rfl dX12_lowerOf_6 ?_
  refine m_imul dX12_lowerOf_7 ?_
  refine m_topi (show 100 * (nI (d_)) = nI (100 * d_) from pk_mul _ _) ?_
  refine m_iconst 2 dX12_lowerOf_8 rfl ?_
  refine m_iload_n 2 rfl rfl dX12_lowerOf_9 ?_
  refine m_imul dX12_lowerOf_10 ?_
  refine m_topi (show 2 * (nI (i_)) = nI (2 * i_) from pk_mul _ _) ?_
  refine m_iadd dX12_lowerOf_11 ?_
  refine m_topi (show (nI (100 * d_)) + (nI (2 * i_)) = nI ((100 * d_) + (2 * i_)) from nI_add _ _) ?_
  refine m_iconst 1 dX12_lowerOf_12 rfl ?_
  refine m_iadd dX12_lowerOf_13 ?_
  refine m_topi (show (nI ((100 * d_) + (2 * i_))) + 1 = nI (((100 * d_) + (2 * i_)) + 1) from nI_add _ _) ?_
  refine al_46 (((100 * d_) + (2 * i_)) + 1) rfl (by omega) dX12_lowerOf_14 ?_
  refine m_topi ((hm2.2.2.2.2 ((2 * i_) + 1) (by omega)).trans (hsm i_ hi_).2.1) ?_
  exact m_iret dX12_lowerOf_15 (Nat.le_refl _) (Nat.le_refl _) (⟨rfl, rfl⟩)
set_option maxRecDepth 100000 in
set_option maxHeartbeats 4000000 in
theorem k_m_wrongSheet (l : Launch) (G : owG) {A S Z B T V : owF} {J : Nat → Nat → Int64} {Y : Nat → Nat → Nat → Option Nat} {P : Nat → Option owW} (a_ : owK) (ho_ : aOk a_) (im : Option owK) (h_ : owH) (hM : MR B a_ im h_) (x_ : Int32) : Ct l G yX12_wrongSheet cX12_wrongSheet 4 ((some .int)) 3 0 0 [.ref (gK G 4 0), .int x_] (A, S, Z, B, T, V, J, Y, P) (qI (fun r_ σ => r_ = shRefI h_ x_ ∧ σ = (A, S, Z, B, T, V, J, Y, P))) := by
  refine ct_of (by decide +kernel) (Nat.le_of_ble_eq_true rfl) ?_
  have h10 := ho_.1
  have h8_ := ho_.2.1
  have hX := hM.1
  show Wm l G cX12_wrongSheet 4 RX12 ((some .int)) (rmk 3 0 0) (fun _ => True) (QfM G (qI (fun r_ σ => r_ = shRefI h_ x_ ∧ σ = (A, S, Z, B, T, V, J, Y, P))) 0 0) 0 [(0, .ref (gK G 4 0)), (1, .int x_)] [] (A, S, Z, B, T, V, J, Y, P) 0 0
  refine m_aload_n 0 rfl rfl dX12_wrongSheet_0 ?_
  refine m_iload_n 1 rfl rfl dX12_wrongSheet_1 ?_
  refine m_iconst 2 dX12_wrongSheet_2 rfl ?_
  refine m_callVi cv_X12_104 [.int x_, .int 2] [] (k_m_wrongRow l G a_ ho_ im h_ hM x_ 2 (by omega)) (by decide) (ce_4 G _ _ _ _ _ _ _ _ _ _) rfl rfl rfl ⟨Nat.le_of_ble_eq_true rfl, Nat.le_of_ble_eq_true rfl⟩ (Nat.le_of_ble_eq_true rfl) ⟨Nat.zero_le _, Nat.zero_le _⟩ dX12_wrongSheet_3 (fun xx σ2 hq => ?_)
  obtain ⟨rfl, rfl⟩ := hq
  refine m_istore_n [(2, .int (wrI h_ x_ 2)), (0, .ref (gK G 4 0)), (1, .int x_)] rfl (by decide) rfl dX12_wrongSheet_6 ?_
  refine m_iload_n 0 rfl rfl dX12_wrongSheet_7 ?_
  refine m_if_eq 13 dX12_wrongSheet_8 (by decide) (fun c1_ => ?_) (fun c1_ => ?_)
  ·
    have hw0 := c1_
    obtain ⟨dq, hdq, rfl, hk2, hso2, hDx⟩ := wrI_0 c1_
    have hcldq : (nI dq).toNatClampNeg = dq := nI_clamp (by omega)
    have hm2 := (hM.2.2.2 dq hdq).2.2.1 hk2
    have hn100 := hm2.2.2.2.1
    have hsn : shN h_ dq = hN h_ dq / 2 := rfl
    refine m_aload_n 1 rfl rfl dX12_wrongSheet_13 ?_
    refine gf_X12_25 dX12_wrongSheet_14 ?_
    refine m_iload_n 2 rfl rfl dX12_wrongSheet_17 ?_
    refine al_45 dq rfl (by omega) dX12_wrongSheet_18 ?_
    refine m_topi hm2.2.2.1 ?_
    refine m_iconst 2 dX12_wrongSheet_19 rfl ?_
    refine m_irem (by decide) dX12_wrongSheet_20 ?_
    refine m_topi (show (nI (hN h_ dq)) - (nI (hN h_ dq)) / 2 * 2 = nI ((hN h_ dq) % 2) from pk_rem (by omega) (by decide) (by decide)) ?_
    refine m_iconst 1 dX12_wrongSheet_21 rfl ?_
    refine m_icmpn_eq ((hN h_ dq) % 2) 1 36 (by omega) (by decide) dX12_wrongSheet_22 (by decide) (fun c2_ => ?_) (fun c2_ => ?_)
    ·
      refine m_bipush (-13) dX12_wrongSheet_36 rfl ?_
      exact m_iret dX12_wrongSheet_38 (Nat.le_refl _) (Nat.le_refl _) (⟨by unfold shRefI; rw [hDx, if_pos rfl, hcldq]; unfold shRef; rw [if_neg (by omega), if_pos ⟨hk2, hso2⟩]; rw [if_neg (by omega)], rfl⟩)
    ·
      refine m_aload_n 1 rfl rfl dX12_wrongSheet_25 ?_
      refine gf_X12_25 dX12_wrongSheet_26 ?_
      refine m_iload_n 2 rfl rfl dX12_wrongSheet_29 ?_
      refine al_45 dq rfl (by omega) dX12_wrongSheet_30 ?_
      refine m_topi hm2.2.2.1 ?_
      refine m_bipush (24) dX12_wrongSheet_31 rfl ?_
      refine m_icmpn_le (hN h_ dq) 24 39 (by omega) (by decide) dX12_wrongSheet_33 (by decide) (fun c3_ => ?_) (fun c3_ => ?_)
      ·
        have h24 := c3_
        have hev : hN h_ dq % 2 = 0 := by omega
        refine m_iconst 0 dX12_wrongSheet_39 rfl ?_
        refine m_istore_n [(3, .int 0), (2, .int (wrI h_ (nI dq) 2)), (0, .ref (gK G 4 0)), (1, .int (nI (dq)))] rfl (by decide) rfl dX12_wrongSheet_40 ?_
        have lp41 : ∀ (dd : Nat) (k_ : Nat) , 2 * k_ ≤ hN h_ dq → allB (sumB h_ dq) k_ = true → 100 - k_ < dd → Wm l G cX12_wrongSheet 4 RX12 ((some .int)) (rmk 3 0 0) (fun _ => True) (QfM G (qI (fun r_ σ => r_ = shRefI h_ (nI dq) ∧ σ = (A, S, Z, B, T, V, J, Y, P))) 0 0) 41 [(0, .ref (gK G 4 0)), (1, .int (nI (dq))), (2, .int (wrI h_ (nI dq) 2)), (3, .int (nI (2 * k_)))] [] (A, S, Z, B, T, V, J, Y, P) 0 0 := by
          intro dd
          induction dd with
          | zero => intro k_  hk_ hal hdd; exact absurd hdd (Nat.not_lt_zero _)
          | succ dd ih41 =>
            intro k_  hk_ hal hdd41
            refine m_iload_n 3 rfl rfl dX12_wrongSheet_41 ?_
            refine m_aload_n 0 rfl rfl dX12_wrongSheet_42 ?_
            refine gf_X12_25 dX12_wrongSheet_43 ?_
            refine m_iload_n 1 rfl rfl dX12_wrongSheet_46 ?_
            refine al_45 dq rfl (by omega) dX12_wrongSheet_47 ?_
            refine m_topi hm2.2.2.1 ?_
            refine m_icmpn_ge (2 * k_) (hN h_ dq) 90 (by omega) (by omega) dX12_wrongSheet_48 (by decide) (fun c4_ => ?_) (fun c4_ => ?_)
            ·
              refine m_iconst 0 dX12_wrongSheet_90 rfl ?_
              exact m_iret dX12_wrongSheet_91 (Nat.le_refl _) (Nat.le_refl _) (⟨by unfold shRefI; rw [hDx, if_pos rfl, hcldq]; unfold shRef; rw [if_neg (by omega), if_pos ⟨hk2, hso2⟩]; rw [if_pos ⟨hev, h24⟩, show shN h_ dq = k_ from by omega, hal, if_pos rfl], rfl⟩)
            ·
              refine m_aload_n 0 rfl rfl dX12_wrongSheet_51 ?_
              refine gf_X12_28 dX12_wrongSheet_52 ?_
              refine m_bipush (100) dX12_wrongSheet_55 rfl ?_
              refine m_iload_n 1 rfl rfl dX12_wrongSheet_57 ?_
              refine m_imul dX12_wrongSheet_58 ?_
              refine m_topi (show 100 * (nI (dq)) = nI (100 * dq) from pk_mul _ _) ?_
              refine m_iload_n 3 rfl rfl dX12_wrongSheet_59 ?_
              refine m_iadd dX12_wrongSheet_60 ?_
              refine m_topi (show (nI (100 * dq)) + (nI (2 * k_)) = nI ((100 * dq) + (2 * k_)) from nI_add _ _) ?_
              refine al_46 ((100 * dq) + (2 * k_)) rfl (by omega) dX12_wrongSheet_61 ?_
              refine m_topi (hm2.2.2.2.2 (2 * k_) (by omega)) ?_
              refine m_aload_n 0 rfl rfl dX12_wrongSheet_62 ?_
              refine gf_X12_28 dX12_wrongSheet_63 ?_
              refine m_bipush (100) dX12_wrongSheet_66 rfl ?_
              refine m_iload_n 1 rfl rfl dX12_wrongSheet_68 ?_
              refine m_imul dX12_wrongSheet_69 ?_
              refine m_topi (show 100 * (nI (dq)) = nI (100 * dq) from pk_mul _ _) ?_
              refine m_iload_n 3 rfl rfl dX12_wrongSheet_70 ?_
              refine m_iadd dX12_wrongSheet_71 ?_
              refine m_topi (show (nI (100 * dq)) + (nI (2 * k_)) = nI ((100 * dq) + (2 * k_)) from nI_add _ _) ?_
              refine m_iconst 1 dX12_wrongSheet_72 rfl ?_
              refine m_iadd dX12_wrongSheet_73 ?_
              refine m_topi (show (nI ((100 * dq) + (2 * k_))) + 1 = nI (((100 * dq) + (2 * k_)) + 1) from nI_add _ _) ?_
              refine al_46 (((100 * dq) + (2 * k_)) + 1) rfl (by omega) dX12_wrongSheet_74 ?_
              refine m_topi (hm2.2.2.2.2 ((2 * k_) + 1) (by omega)) ?_
              refine m_callSi cs_X12_153 [.int (hE h_ dq (2 * k_)), .int (hE h_ dq ((2 * k_) + 1))] [] (k_m_isSum l G (hE h_ dq (2 * k_)) (hE h_ dq ((2 * k_) + 1))) rfl rfl ⟨Nat.le_of_ble_eq_true rfl, Nat.le_of_ble_eq_true rfl⟩ (Nat.le_of_ble_eq_true rfl) ⟨Nat.zero_le _, Nat.zero_le _⟩ dX12_wrongSheet_75 (fun xx σ2 hq => ?_)
              obtain ⟨rfl, rfl⟩ := hq
              refine m_ifne_b 84 dX12_wrongSheet_78 (by decide) (fun c5_ => ?_) (fun c5_ => ?_)
              ·
                refine m_iinc (nI ((2 * k_) + 2)) 3 [(3, .int (nI ((2 * k_) + 2))), (0, .ref (gK G 4 0)), (1, .int (nI (dq))), (2, .int (wrI h_ (nI dq) 2))] rfl (nI_add _ 2) (by decide) rfl dX12_wrongSheet_84 ?_
                refine m_goto 41 dX12_wrongSheet_87 (by decide) ?_
                refine m_lv [(0, .ref (gK G 4 0)), (1, .int (nI (dq))), (2, .int (wrI h_ (nI dq) 2)), (3, .int (nI ((2 * k_) + 2)))] [1, 2, 3, 0] rfl ?_
                rw [show 2 * k_ + 2 = 2 * (k_ + 1) from by omega]
                exact ih41 (k_ + 1)  (by omega) (by show (allB (sumB h_ dq) k_ && sumB h_ dq k_) = true; rw [hal]; exact c5_) (by omega)
              ·
                refine m_bipush (-13) dX12_wrongSheet_81 rfl ?_
                exact m_iret dX12_wrongSheet_83 (Nat.le_refl _) (Nat.le_refl _) (⟨by unfold shRefI; rw [hDx, if_pos rfl, hcldq]; unfold shRef; rw [if_neg (by omega), if_pos ⟨hk2, hso2⟩]; rw [if_pos ⟨hev, h24⟩, if_neg (fun q_ => absurd (allB_iff.mp q_ k_ (by omega)) (by show ¬ isSumB _ _ = true; rw [c5_]; decide))], rfl⟩)
        refine m_lv [(0, .ref (gK G 4 0)), (1, .int (nI (dq))), (2, .int (wrI h_ (nI dq) 2)), (3, .int 0)] [2, 3, 1, 0] rfl ?_
        exact lp41 ((100 - 0) + 1) 0  (by omega) rfl (Nat.lt_succ_self _)
      ·
        refine m_bipush (-13) dX12_wrongSheet_36 rfl ?_
        exact m_iret dX12_wrongSheet_38 (Nat.le_refl _) (Nat.le_refl _) (⟨by unfold shRefI; rw [hDx, if_pos rfl, hcldq]; unfold shRef; rw [if_neg (by omega), if_pos ⟨hk2, hso2⟩]; rw [if_neg (by omega)], rfl⟩)
  ·
    refine m_iload_n 0 rfl rfl dX12_wrongSheet_11 ?_
    exact m_iret dX12_wrongSheet_12 (Nat.le_refl _) (Nat.le_refl _) (⟨(by unfold shRefI; have hc1 := c1_; unfold wrI at hc1 ⊢; grind [shRef, sortRef]), rfl⟩)
set_option maxRecDepth 100000 in
set_option maxHeartbeats 4000000 in
theorem k_m_wrongAnswers (l : Launch) (G : owG) {A S Z B T V : owF} {J : Nat → Nat → Int64} {Y : Nat → Nat → Nat → Option Nat} {P : Nat → Option owW} (a_ : owK) (ho_ : aOk a_) (im : Option owK) (h_ : owH) (hM : MR B a_ im h_) (d_ : Nat) (hd_ : d_ < 8) (hk2 : hK h_ d_ = 2) (z_ : Int32) : Ct l G yX12_wrongAnswers cX12_wrongAnswers 4 ((some .int)) 3 0 0 [.ref (gK G 4 0), .int (nI (d_)), .int z_] (A, S, Z, B, T, V, J, Y, P) (qI (fun r_ σ => r_ = anRefI h_ z_ (shN h_ d_) ∧ σ = (A, S, Z, B, T, V, J, Y, P))) := by
  refine ct_of (by decide +kernel) (Nat.le_of_ble_eq_true rfl) ?_
  have h10 := ho_.1
  have h8_ := ho_.2.1
  have hX := hM.1
  have hms := hM.2.2.2 d_ hd_
  have hm2 := hms.2.2.1 hk2
  have hs2 := hm2.2.1
  have hn100 := hm2.2.2.2.1
  show Wm l G cX12_wrongAnswers 4 RX12 ((some .int)) (rmk 3 0 0) (fun _ => True) (QfM G (qI (fun r_ σ => r_ = anRefI h_ z_ (shN h_ d_) ∧ σ = (A, S, Z, B, T, V, J, Y, P))) 0 0) 0 [(0, .ref (gK G 4 0)), (1, .int (nI (d_))), (2, .int z_)] [] (A, S, Z, B, T, V, J, Y, P) 0 0
  refine m_aload_n 0 rfl rfl dX12_wrongAnswers_0 ?_
  refine m_iload_n 2 rfl rfl dX12_wrongAnswers_1 ?_
  refine m_iconst 2 dX12_wrongAnswers_2 rfl ?_
  refine m_callVi cv_X12_104 [.int z_, .int 2] [] (k_m_wrongRow l G a_ ho_ im h_ hM z_ 2 (by omega)) (by decide) (ce_4 G _ _ _ _ _ _ _ _ _ _) rfl rfl rfl ⟨Nat.le_of_ble_eq_true rfl, Nat.le_of_ble_eq_true rfl⟩ (Nat.le_of_ble_eq_true rfl) ⟨Nat.zero_le _, Nat.zero_le _⟩ dX12_wrongAnswers_3 (fun xx σ2 hq => ?_)
  obtain ⟨rfl, rfl⟩ := hq
  refine m_istore_n [(3, .int (wrI h_ z_ 2)), (0, .ref (gK G 4 0)), (1, .int (nI (d_))), (2, .int z_)] rfl (by decide) rfl dX12_wrongAnswers_6 ?_
  refine m_iload_n 0 rfl rfl dX12_wrongAnswers_7 ?_
  refine m_if_eq 15 dX12_wrongAnswers_8 (by decide) (fun c1_ => ?_) (fun c1_ => ?_)
  ·
    have hw0 := c1_
    obtain ⟨eq, heq, rfl, hke, hse, hDe⟩ := wrI_0 c1_
    have hcleq : (nI eq).toNatClampNeg = eq := nI_clamp (by omega)
    have hme := (hM.2.2.2 eq heq).2.2.1 hke
    have hne100 := hme.2.2.2.1
    have hsn : shN h_ d_ = hN h_ d_ / 2 := rfl
    refine m_aload_n 1 rfl rfl dX12_wrongAnswers_15 ?_
    refine gf_X12_25 dX12_wrongAnswers_16 ?_
    refine m_iload_n 3 rfl rfl dX12_wrongAnswers_19 ?_
    refine al_45 eq rfl (by omega) dX12_wrongAnswers_20 ?_
    refine m_topi hme.2.2.1 ?_
    refine m_aload_n 1 rfl rfl dX12_wrongAnswers_21 ?_
    refine m_iload_n 2 rfl rfl dX12_wrongAnswers_22 ?_
    refine m_callVi cv_X12_171 [.int (nI (d_))] [.int (nI (hN h_ eq))] (k_m_sums l G a_ ho_ im h_ hM d_ (by omega) hk2) (by decide) (ce_4 G _ _ _ _ _ _ _ _ _ _) rfl rfl rfl ⟨Nat.le_of_ble_eq_true rfl, Nat.le_of_ble_eq_true rfl⟩ (Nat.le_of_ble_eq_true rfl) ⟨Nat.zero_le _, Nat.zero_le _⟩ dX12_wrongAnswers_23 (fun xx σ2 hq => ?_)
    obtain ⟨rfl, rfl⟩ := hq
    refine m_icmpn_ne (hN h_ eq) (shN h_ d_) 33 (by omega) (by omega) dX12_wrongAnswers_26 (by decide) (fun c2_ => ?_) (fun c2_ => ?_)
    ·
      refine m_bipush (-13) dX12_wrongAnswers_33 rfl ?_
      exact m_iret dX12_wrongAnswers_35 (Nat.le_refl _) (Nat.le_refl _) (⟨by unfold anRefI; rw [hDe, if_pos rfl, hcleq]; unfold anRef; rw [if_neg (by omega), if_pos ⟨hke, hse⟩]; grind, rfl⟩)
    ·
      refine m_iconst 0 dX12_wrongAnswers_29 rfl ?_
      refine m_goto 35 dX12_wrongAnswers_30 (by decide) ?_
      exact m_iret dX12_wrongAnswers_35 (Nat.le_refl _) (Nat.le_refl _) (⟨by unfold anRefI; rw [hDe, if_pos rfl, hcleq]; unfold anRef; rw [if_neg (by omega), if_pos ⟨hke, hse⟩]; grind, rfl⟩)
  ·
    refine m_iload_n 0 rfl rfl dX12_wrongAnswers_11 ?_
    refine m_goto 35 dX12_wrongAnswers_12 (by decide) ?_
    exact m_iret dX12_wrongAnswers_35 (Nat.le_refl _) (Nat.le_refl _) (⟨(by have hc1 := c1_; unfold anRefI; unfold wrI at hc1 ⊢; grind [anRef, sortRef]), rfl⟩)
set_option maxRecDepth 100000 in
set_option maxHeartbeats 4000000 in
theorem k_m_wrongBoth (l : Launch) (G : owG) {A S Z B T V : owF} {J : Nat → Nat → Int64} {Y : Nat → Nat → Nat → Option Nat} {P : Nat → Option owW} (a_ : owK) (ho_ : aOk a_) (im : Option owK) (h_ : owH) (hM : MR B a_ im h_) (x_ z_ : Int32) : Ct l G yX12_wrongBoth cX12_wrongBoth 4 ((some .int)) 4 0 0 [.ref (gK G 4 0), .int x_, .int z_] (A, S, Z, B, T, V, J, Y, P) (qI (fun r_ σ => r_ = boRefI h_ x_ z_ ∧ σ = (A, S, Z, B, T, V, J, Y, P))) := by
  refine ct_of (by decide +kernel) (Nat.le_of_ble_eq_true rfl) ?_
  have h10 := ho_.1
  have h8_ := ho_.2.1
  have hX := hM.1
  show Wm l G cX12_wrongBoth 4 RX12 ((some .int)) (rmk 4 0 0) (fun _ => True) (QfM G (qI (fun r_ σ => r_ = boRefI h_ x_ z_ ∧ σ = (A, S, Z, B, T, V, J, Y, P))) 0 0) 0 [(0, .ref (gK G 4 0)), (1, .int x_), (2, .int z_)] [] (A, S, Z, B, T, V, J, Y, P) 0 0
  refine m_aload_n 0 rfl rfl dX12_wrongBoth_0 ?_
  refine m_iload_n 1 rfl rfl dX12_wrongBoth_1 ?_
  refine m_callVi cv_X12_175 [.int x_] [] (k_m_wrongSheet l G a_ ho_ im h_ hM x_) (by decide) (ce_4 G _ _ _ _ _ _ _ _ _ _) rfl rfl rfl ⟨Nat.le_of_ble_eq_true rfl, Nat.le_of_ble_eq_true rfl⟩ (Nat.le_of_ble_eq_true rfl) ⟨Nat.zero_le _, Nat.zero_le _⟩ dX12_wrongBoth_2 (fun xx σ2 hq => ?_)
  obtain ⟨rfl, rfl⟩ := hq
  refine m_istore_n [(3, .int (shRefI h_ x_)), (0, .ref (gK G 4 0)), (1, .int x_), (2, .int z_)] rfl (by decide) rfl dX12_wrongBoth_5 ?_
  refine m_iload_n 0 rfl rfl dX12_wrongBoth_6 ?_
  refine m_if_eq 14 dX12_wrongBoth_7 (by decide) (fun c1_ => ?_) (fun c1_ => ?_)
  ·
    have hw0 := c1_
    obtain ⟨dq, hdq, rfl, hsr, hDx⟩ := shRefI_0 c1_
    have hcldq : (nI dq).toNatClampNeg = dq := nI_clamp (by omega)
    have hk2 := (shRef_ok hsr).1
    refine m_aload_n 1 rfl rfl dX12_wrongBoth_14 ?_
    refine m_iload_n 2 rfl rfl dX12_wrongBoth_15 ?_
    refine m_iload_n 3 rfl rfl dX12_wrongBoth_16 ?_
    refine m_callVi cv_X12_178 [.int (nI (dq)), .int z_] [] (k_m_wrongAnswers l G a_ ho_ im h_ hM dq (by omega) hk2 z_) (by decide) (ce_4 G _ _ _ _ _ _ _ _ _ _) rfl rfl rfl ⟨Nat.le_of_ble_eq_true rfl, Nat.le_of_ble_eq_true rfl⟩ (Nat.le_of_ble_eq_true rfl) ⟨Nat.zero_le _, Nat.zero_le _⟩ dX12_wrongBoth_17 (fun xx σ2 hq => ?_)
    obtain ⟨rfl, rfl⟩ := hq
    exact m_iret dX12_wrongBoth_20 (Nat.le_refl _) (Nat.le_refl _) (⟨by unfold boRefI; rw [if_pos hw0, hcldq], rfl⟩)
  ·
    refine m_iload_n 0 rfl rfl dX12_wrongBoth_10 ?_
    refine m_goto 20 dX12_wrongBoth_11 (by decide) ?_
    exact m_iret dX12_wrongBoth_20 (Nat.le_refl _) (Nat.le_refl _) (⟨by unfold boRefI; rw [if_neg c1_], rfl⟩)
