set_option maxRecDepth 100000 in
set_option maxHeartbeats 4000000 in
theorem k_wayAt_s (l : Launch) (G : owG) {A S Z B T V : owF} {J : Nat → Nat → Int64} {Y : Nat → Nat → Nat → Option Nat} {P : Nat → Option owW} (i : Nat) (hi : i < owN 1) (a : owK) (ho : aOk a) (hR : RX A Y P i a) (w : Nat) (hw : w < aN a) : Ct l G yX5_wayAt cX5_wayAt 2 ((some (.object "OwnWays$Way"))) 0 0 0 [.ref (gK G 1 i), .int (nI (w))] (A, S, Z, B, T, V, J, Y, P) (qR (fun r σ => r = Y 15 i w ∧ σ = (A, S, Z, B, T, V, J, Y, P))) := by
  refine ct_of (by decide +kernel) (Nat.le_of_ble_eq_true rfl) ?_
  have h10 := ho.1
  have h8 := ho.2.1
  show Wm l G cX5_wayAt 2 RX5 ((some (.object "OwnWays$Way"))) (rmk 0 0 0) (fun _ => True) (QfM G (qR (fun r σ => r = Y 15 i w ∧ σ = (A, S, Z, B, T, V, J, Y, P))) 0 0) 0 [(0, .ref (gK G 1 i)), (1, .int (nI (w)))] [] (A, S, Z, B, T, V, J, Y, P) 0 0
  refine m_iload_n 1 rfl rfl dX5_wayAt_0 ?_
  refine m_ifn_lt w 27 (by omega) dX5_wayAt_1 (by decide) (fun c1 => ?_) (fun c1 => ?_)
  ·
    refine m_null dX5_wayAt_27 ?_
    exact m_dead (by first | assumption | omega)
  ·
    refine m_iload_n 1 rfl rfl dX5_wayAt_4 ?_
    refine m_aload_n 0 rfl rfl dX5_wayAt_5 ?_
    refine gf_X5_33 hi dX5_wayAt_6 ?_
    refine m_topi hR.1 ?_
    refine m_icmpn_ge w (aN a) 27 (by omega) (by omega) dX5_wayAt_9 (by decide) (fun c2 => ?_) (fun c2 => ?_)
    ·
      refine m_null dX5_wayAt_27 ?_
      exact m_dead (by first | assumption | omega)
    ·
      refine m_iload_n 1 rfl rfl dX5_wayAt_12 ?_
      refine m_bipush (10) dX5_wayAt_13 rfl ?_
      refine m_icmpn_ge w 10 27 (by omega) (by decide) dX5_wayAt_15 (by decide) (fun c3 => ?_) (fun c3 => ?_)
      ·
        refine m_null dX5_wayAt_27 ?_
        exact m_dead (by first | assumption | omega)
      ·
        refine m_aload_n 0 rfl rfl dX5_wayAt_18 ?_
        refine gf_X5_11 hi dX5_wayAt_19 ?_
        refine m_iload_n 1 rfl rfl dX5_wayAt_22 ?_
        refine al_15 hi w rfl (by omega) dX5_wayAt_23 ?_
        refine m_goto 28 dX5_wayAt_24 (by decide) ?_
        exact m_aret dX5_wayAt_28 (Nat.le_refl _) (Nat.le_refl _) (⟨rfl, rfl⟩)
set_option maxRecDepth 100000 in
set_option maxHeartbeats 4000000 in
theorem k_wayAt_n (l : Launch) (G : owG) {A S Z B T V : owF} {J : Nat → Nat → Int64} {Y : Nat → Nat → Nat → Option Nat} {P : Nat → Option owW} (i : Nat) (hi : i < owN 1) (a : owK) (ho : aOk a) (hR : RX A Y P i a) (x : Int32) (hx : isW a x = false) : Ct l G yX5_wayAt cX5_wayAt 2 ((some (.object "OwnWays$Way"))) 0 0 0 [.ref (gK G 1 i), .int x] (A, S, Z, B, T, V, J, Y, P) (qR (fun r σ => r = none ∧ σ = (A, S, Z, B, T, V, J, Y, P))) := by
  refine ct_of (by decide +kernel) (Nat.le_of_ble_eq_true rfl) ?_
  have h10 := ho.1
  have h8 := ho.2.1
  have hx2 := of_decide_eq_false hx
  show Wm l G cX5_wayAt 2 RX5 ((some (.object "OwnWays$Way"))) (rmk 0 0 0) (fun _ => True) (QfM G (qR (fun r σ => r = none ∧ σ = (A, S, Z, B, T, V, J, Y, P))) 0 0) 0 [(0, .ref (gK G 1 i)), (1, .int x)] [] (A, S, Z, B, T, V, J, Y, P) 0 0
  refine m_iload_n 1 rfl rfl dX5_wayAt_0 ?_
  refine m_if_lt 27 dX5_wayAt_1 (by decide) (fun c1 => ?_) (fun c1 => ?_)
  ·
    refine m_null dX5_wayAt_27 ?_
    exact m_arefn dX5_wayAt_28 (Nat.le_refl _) (Nat.le_refl _) (⟨rfl, rfl⟩)
  ·
    refine m_iload_n 1 rfl rfl dX5_wayAt_4 ?_
    refine m_aload_n 0 rfl rfl dX5_wayAt_5 ?_
    refine gf_X5_33 hi dX5_wayAt_6 ?_
    refine m_topi hR.1 ?_
    refine m_icmp_ge 27 dX5_wayAt_9 (by decide) (fun c2 => ?_) (fun c2 => ?_)
    ·
      refine m_null dX5_wayAt_27 ?_
      exact m_arefn dX5_wayAt_28 (Nat.le_refl _) (Nat.le_refl _) (⟨rfl, rfl⟩)
    ·
      refine m_iload_n 1 rfl rfl dX5_wayAt_12 ?_
      refine m_bipush (10) dX5_wayAt_13 rfl ?_
      refine m_icmp_ge 27 dX5_wayAt_15 (by decide) (fun c3 => ?_) (fun c3 => ?_)
      ·
        refine m_null dX5_wayAt_27 ?_
        exact m_arefn dX5_wayAt_28 (Nat.le_refl _) (Nat.le_refl _) (⟨rfl, rfl⟩)
      · exact absurd ⟨by grind, by grind⟩ hx2
set_option maxRecDepth 100000 in
set_option maxHeartbeats 4000000 in
theorem k_hasWay (l : Launch) (G : owG) {A S Z B T V : owF} {J : Nat → Nat → Int64} {Y : Nat → Nat → Nat → Option Nat} {P : Nat → Option owW} (i : Nat) (hi : i < owN 1) (a : owK) (ho : aOk a) (hR : RX A Y P i a) (x : Int32) : Ct l G yX5_hasWay cX5_hasWay 2 ((some .boolean)) 1 0 0 [.ref (gK G 1 i), .int x] (A, S, Z, B, T, V, J, Y, P) (qI (fun r σ => r = bI (isW a x) ∧ σ = (A, S, Z, B, T, V, J, Y, P))) := by
  refine ct_of (by decide +kernel) (Nat.le_of_ble_eq_true rfl) ?_
  have h10 := ho.1
  have h8 := ho.2.1
  show Wm l G cX5_hasWay 2 RX5 ((some .boolean)) (rmk 1 0 0) (fun _ => True) (QfM G (qI (fun r σ => r = bI (isW a x) ∧ σ = (A, S, Z, B, T, V, J, Y, P))) 0 0) 0 [(0, .ref (gK G 1 i)), (1, .int x)] [] (A, S, Z, B, T, V, J, Y, P) 0 0
  refine m_aload_n 0 rfl rfl dX5_hasWay_0 ?_
  refine m_iload_n 1 rfl rfl dX5_hasWay_1 ?_
  cases hw0 : isW a x with
  | false =>
    refine m_callVr cv_X5_37 [.int x] [] (k_wayAt_n l G i hi a ho hR x hw0) hi (ce_1 G _ _ _ _ _ _ _ _ _ _) rfl rfl rfl ⟨Nat.le_of_ble_eq_true rfl, Nat.le_of_ble_eq_true rfl⟩ (Nat.le_of_ble_eq_true rfl) ⟨Nat.zero_le _, Nat.zero_le _⟩ dX5_hasWay_2 (fun xx σ2 hq => ?_)
    obtain ⟨rfl, rfl⟩ := hq
    refine m_ifnullN 12 dX5_hasWay_5 (by decide) ?_
    refine m_iconst 0 dX5_hasWay_12 rfl ?_
    exact m_zret dX5_hasWay_13 (Nat.le_refl _) (Nat.le_refl _) nar0 (⟨rfl, rfl⟩)
  | true =>
    obtain ⟨w, hw, rfl⟩ := isW_nat ho hw0
    refine m_callVr cv_X5_37 [.int (nI w)] [] (k_wayAt_s l G i hi a ho hR w hw) hi (ce_1 G _ _ _ _ _ _ _ _ _ _) rfl rfl rfl ⟨Nat.le_of_ble_eq_true rfl, Nat.le_of_ble_eq_true rfl⟩ (Nat.le_of_ble_eq_true rfl) ⟨Nat.zero_le _, Nat.zero_le _⟩ dX5_hasWay_2 (fun xx σ2 hq => ?_)
    obtain ⟨rfl, rfl⟩ := hq
    obtain ⟨ad1, hYad1, hPad1⟩ := hR.2.2.1 w hw
    have hkad1 := aK_lt ho hw
    have hfad1 := aF_le ho hw
    refine m_topr hYad1 ?_
    refine m_ifnull dX5_hasWay_5 ?_
    refine m_iconst 1 dX5_hasWay_8 rfl ?_
    refine m_goto 13 dX5_hasWay_9 (by decide) ?_
    exact m_zret dX5_hasWay_13 (Nat.le_refl _) (Nat.le_refl _) nar1 (⟨rfl, rfl⟩)
set_option maxRecDepth 100000 in
set_option maxHeartbeats 4000000 in
theorem k_allWays (l : Launch) (G : owG) {A S Z B T V : owF} {J : Nat → Nat → Int64} {Y : Nat → Nat → Nat → Option Nat} {P : Nat → Option owW} (i : Nat) (hi : i < owN 1) (a : owK) (ho : aOk a) (hR : RX A Y P i a)  : Ct l G yX5_allWays cX5_allWays 1 ((some .int)) 0 0 0 [.ref (gK G 1 i)] (A, S, Z, B, T, V, J, Y, P) (qI (fun r σ => r = allI a ∧ σ = (A, S, Z, B, T, V, J, Y, P))) := by
  refine ct_of (by decide +kernel) (Nat.le_of_ble_eq_true rfl) ?_
  have h10 := ho.1
  have h8 := ho.2.1
  show Wm l G cX5_allWays 1 RX5 ((some .int)) (rmk 0 0 0) (fun _ => True) (QfM G (qI (fun r σ => r = allI a ∧ σ = (A, S, Z, B, T, V, J, Y, P))) 0 0) 0 [(0, .ref (gK G 1 i))] [] (A, S, Z, B, T, V, J, Y, P) 0 0
  refine m_iconst 1 dX5_allWays_0 rfl ?_
  refine m_aload_n 0 rfl rfl dX5_allWays_1 ?_
  refine gf_X5_33 hi dX5_allWays_2 ?_
  refine m_topi hR.1 ?_
  refine m_ishl dX5_allWays_5 ?_
  refine m_iconst 1 dX5_allWays_6 rfl ?_
  refine m_isub dX5_allWays_7 ?_
  exact m_iret dX5_allWays_8 (Nat.le_refl _) (Nat.le_refl _) (⟨rfl, rfl⟩)
set_option maxRecDepth 100000 in
set_option maxHeartbeats 4000000 in
theorem k_hasWays (l : Launch) (G : owG) {A S Z B T V : owF} {J : Nat → Nat → Int64} {Y : Nat → Nat → Nat → Option Nat} {P : Nat → Option owW} (i : Nat) (hi : i < owN 1) (a : owK) (ho : aOk a) (hR : RX A Y P i a) (x : Int32) : Ct l G yX5_hasWays cX5_hasWays 2 ((some .boolean)) 1 0 0 [.ref (gK G 1 i), .int x] (A, S, Z, B, T, V, J, Y, P) (qI (fun r σ => r = bI (areW a x) ∧ σ = (A, S, Z, B, T, V, J, Y, P))) := by
  refine ct_of (by decide +kernel) (Nat.le_of_ble_eq_true rfl) ?_
  have h10 := ho.1
  have h8 := ho.2.1
  show Wm l G cX5_hasWays 2 RX5 ((some .boolean)) (rmk 1 0 0) (fun _ => True) (QfM G (qI (fun r σ => r = bI (areW a x) ∧ σ = (A, S, Z, B, T, V, J, Y, P))) 0 0) 0 [(0, .ref (gK G 1 i)), (1, .int x)] [] (A, S, Z, B, T, V, J, Y, P) 0 0
  refine m_iload_n 1 rfl rfl dX5_hasWays_0 ?_
  refine m_aload_n 0 rfl rfl dX5_hasWays_1 ?_
  refine m_callVi cv_X5_41 [] [.int x] (k_allWays l G i hi a ho hR) hi (ce_1 G _ _ _ _ _ _ _ _ _ _) rfl rfl rfl ⟨Nat.le_of_ble_eq_true rfl, Nat.le_of_ble_eq_true rfl⟩ (Nat.le_of_ble_eq_true rfl) ⟨Nat.zero_le _, Nat.zero_le _⟩ dX5_hasWays_2 (fun xx σ2 hq => ?_)
  obtain ⟨rfl, rfl⟩ := hq
  refine m_iconst (-1) dX5_hasWays_5 rfl ?_
  refine m_ixor dX5_hasWays_6 ?_
  refine m_iand dX5_hasWays_7 ?_
  refine m_if_ne 15 dX5_hasWays_8 (by decide) (fun c1 => ?_) (fun c1 => ?_)
  ·
    refine m_iconst 0 dX5_hasWays_15 rfl ?_
    exact m_zret dX5_hasWays_16 (Nat.le_refl _) (Nat.le_refl _) nar0 (⟨by grind [areW, bI], rfl⟩)
  ·
    refine m_iconst 1 dX5_hasWays_11 rfl ?_
    refine m_goto 16 dX5_hasWays_12 (by decide) ?_
    exact m_zret dX5_hasWays_16 (Nat.le_refl _) (Nat.le_refl _) nar1 (⟨by grind [areW, bI], rfl⟩)
set_option maxRecDepth 100000 in
set_option maxHeartbeats 4000000 in
theorem k_hasChild (l : Launch) (G : owG) {A S Z B T V : owF} {J : Nat → Nat → Int64} {Y : Nat → Nat → Nat → Option Nat} {P : Nat → Option owW} (i : Nat) (hi : i < owN 1) (a : owK) (ho : aOk a) (hR : RX A Y P i a) (x : Int32) : Ct l G yX5_hasChild cX5_hasChild 2 ((some .boolean)) 0 0 0 [.ref (gK G 1 i), .int x] (A, S, Z, B, T, V, J, Y, P) (qI (fun r σ => r = bI (isC a x) ∧ σ = (A, S, Z, B, T, V, J, Y, P))) := by
  refine ct_of (by decide +kernel) (Nat.le_of_ble_eq_true rfl) ?_
  have h10 := ho.1
  have h8 := ho.2.1
  show Wm l G cX5_hasChild 2 RX5 ((some .boolean)) (rmk 0 0 0) (fun _ => True) (QfM G (qI (fun r σ => r = bI (isC a x) ∧ σ = (A, S, Z, B, T, V, J, Y, P))) 0 0) 0 [(0, .ref (gK G 1 i)), (1, .int x)] [] (A, S, Z, B, T, V, J, Y, P) 0 0
  refine m_iload_n 1 rfl rfl dX5_hasChild_0 ?_
  refine m_if_lt 16 dX5_hasChild_1 (by decide) (fun c1 => ?_) (fun c1 => ?_)
  ·
    refine m_iconst 0 dX5_hasChild_16 rfl ?_
    exact m_zret dX5_hasChild_17 (Nat.le_refl _) (Nat.le_refl _) nar0 (⟨by grind [isC, bI], rfl⟩)
  ·
    refine m_iload_n 1 rfl rfl dX5_hasChild_4 ?_
    refine m_aload_n 0 rfl rfl dX5_hasChild_5 ?_
    refine gf_X5_45 hi dX5_hasChild_6 ?_
    refine m_topi hR.2.1 ?_
    refine m_icmp_ge 16 dX5_hasChild_9 (by decide) (fun c2 => ?_) (fun c2 => ?_)
    ·
      refine m_iconst 0 dX5_hasChild_16 rfl ?_
      exact m_zret dX5_hasChild_17 (Nat.le_refl _) (Nat.le_refl _) nar0 (⟨by grind [isC, bI], rfl⟩)
    ·
      refine m_iconst 1 dX5_hasChild_12 rfl ?_
      refine m_goto 17 dX5_hasChild_13 (by decide) ?_
      exact m_zret dX5_hasChild_17 (Nat.le_refl _) (Nat.le_refl _) nar1 (⟨by grind [isC, bI], rfl⟩)
set_option maxRecDepth 100000 in
set_option maxHeartbeats 4000000 in
theorem k_kindOf (l : Launch) (G : owG) {A S Z B T V : owF} {J : Nat → Nat → Int64} {Y : Nat → Nat → Nat → Option Nat} {P : Nat → Option owW} (i : Nat) (hi : i < owN 1) (a : owK) (ho : aOk a) (hR : RX A Y P i a) (x : Int32) : Ct l G yX5_kindOf cX5_kindOf 3 ((some .int)) 1 0 0 [.ref (gK G 1 i), .int x] (A, S, Z, B, T, V, J, Y, P) (qI (fun r σ => r = kindI a x ∧ σ = (A, S, Z, B, T, V, J, Y, P))) := by
  refine ct_of (by decide +kernel) (Nat.le_of_ble_eq_true rfl) ?_
  have h10 := ho.1
  have h8 := ho.2.1
  show Wm l G cX5_kindOf 3 RX5 ((some .int)) (rmk 1 0 0) (fun _ => True) (QfM G (qI (fun r σ => r = kindI a x ∧ σ = (A, S, Z, B, T, V, J, Y, P))) 0 0) 0 [(0, .ref (gK G 1 i)), (1, .int x)] [] (A, S, Z, B, T, V, J, Y, P) 0 0
  refine m_aload_n 0 rfl rfl dX5_kindOf_0 ?_
  refine m_iload_n 1 rfl rfl dX5_kindOf_1 ?_
  cases hw0 : isW a x with
  | false =>
    refine m_callVr cv_X5_37 [.int x] [] (k_wayAt_n l G i hi a ho hR x hw0) hi (ce_1 G _ _ _ _ _ _ _ _ _ _) rfl rfl rfl ⟨Nat.le_of_ble_eq_true rfl, Nat.le_of_ble_eq_true rfl⟩ (Nat.le_of_ble_eq_true rfl) ⟨Nat.zero_le _, Nat.zero_le _⟩ dX5_kindOf_2 (fun xx σ2 hq => ?_)
    obtain ⟨rfl, rfl⟩ := hq
    refine m_astore_nN [(2, .null), (0, .ref (gK G 1 i)), (1, .int x)] rfl (by decide) rfl dX5_kindOf_5 ?_
    refine m_aload_nN 0 rfl rfl dX5_kindOf_6 ?_
    refine m_ifnonnullN dX5_kindOf_7 ?_
    refine m_iconst (-1) dX5_kindOf_10 rfl ?_
    refine m_goto 18 dX5_kindOf_11 (by decide) ?_
    exact m_iret dX5_kindOf_18 (Nat.le_refl _) (Nat.le_refl _) (⟨by unfold kindI; rw [hw0]; rfl, rfl⟩)
  | true =>
    obtain ⟨w, hw, rfl⟩ := isW_nat ho hw0
    refine m_callVr cv_X5_37 [.int (nI w)] [] (k_wayAt_s l G i hi a ho hR w hw) hi (ce_1 G _ _ _ _ _ _ _ _ _ _) rfl rfl rfl ⟨Nat.le_of_ble_eq_true rfl, Nat.le_of_ble_eq_true rfl⟩ (Nat.le_of_ble_eq_true rfl) ⟨Nat.zero_le _, Nat.zero_le _⟩ dX5_kindOf_2 (fun xx σ2 hq => ?_)
    obtain ⟨rfl, rfl⟩ := hq
    obtain ⟨ad1, hYad1, hPad1⟩ := hR.2.2.1 w hw
    have hkad1 := aK_lt ho hw
    have hfad1 := aF_le ho hw
    refine m_topr hYad1 ?_
    refine m_astore_n [(2, .ref ad1), (0, .ref (gK G 1 i)), (1, .int (nI (w)))] rfl (by decide) rfl dX5_kindOf_5 ?_
    refine m_aload_n 0 rfl rfl dX5_kindOf_6 ?_
    refine m_ifnonnull 14 dX5_kindOf_7 (by decide) ?_
    refine m_aload_n 0 rfl rfl dX5_kindOf_14 ?_
    refine gwa_X5_48 hkad1 hPad1 dX5_kindOf_15 ?_
    exact m_iret dX5_kindOf_18 (Nat.le_refl _) (Nat.le_refl _) (⟨(kindI_nat ho hw).symm, rfl⟩)
set_option maxRecDepth 100000 in
set_option maxHeartbeats 4000000 in
theorem k_weightOf (l : Launch) (G : owG) {A S Z B T V : owF} {J : Nat → Nat → Int64} {Y : Nat → Nat → Nat → Option Nat} {P : Nat → Option owW} (i : Nat) (hi : i < owN 1) (a : owK) (ho : aOk a) (hR : RX A Y P i a) (x : Int32) : Ct l G yX5_weightOf cX5_weightOf 3 ((some .int)) 1 0 0 [.ref (gK G 1 i), .int x] (A, S, Z, B, T, V, J, Y, P) (qI (fun r σ => r = wgtI a x ∧ σ = (A, S, Z, B, T, V, J, Y, P))) := by
  refine ct_of (by decide +kernel) (Nat.le_of_ble_eq_true rfl) ?_
  have h10 := ho.1
  have h8 := ho.2.1
  show Wm l G cX5_weightOf 3 RX5 ((some .int)) (rmk 1 0 0) (fun _ => True) (QfM G (qI (fun r σ => r = wgtI a x ∧ σ = (A, S, Z, B, T, V, J, Y, P))) 0 0) 0 [(0, .ref (gK G 1 i)), (1, .int x)] [] (A, S, Z, B, T, V, J, Y, P) 0 0
  refine m_aload_n 0 rfl rfl dX5_weightOf_0 ?_
  refine m_iload_n 1 rfl rfl dX5_weightOf_1 ?_
  cases hw0 : isW a x with
  | false =>
    refine m_callVr cv_X5_37 [.int x] [] (k_wayAt_n l G i hi a ho hR x hw0) hi (ce_1 G _ _ _ _ _ _ _ _ _ _) rfl rfl rfl ⟨Nat.le_of_ble_eq_true rfl, Nat.le_of_ble_eq_true rfl⟩ (Nat.le_of_ble_eq_true rfl) ⟨Nat.zero_le _, Nat.zero_le _⟩ dX5_weightOf_2 (fun xx σ2 hq => ?_)
    obtain ⟨rfl, rfl⟩ := hq
    refine m_astore_nN [(2, .null), (0, .ref (gK G 1 i)), (1, .int x)] rfl (by decide) rfl dX5_weightOf_5 ?_
    refine m_aload_nN 0 rfl rfl dX5_weightOf_6 ?_
    refine m_ifnonnullN dX5_weightOf_7 ?_
    refine m_iconst 0 dX5_weightOf_10 rfl ?_
    refine m_goto 18 dX5_weightOf_11 (by decide) ?_
    exact m_iret dX5_weightOf_18 (Nat.le_refl _) (Nat.le_refl _) (⟨by unfold wgtI; rw [hw0]; rfl, rfl⟩)
  | true =>
    obtain ⟨w, hw, rfl⟩ := isW_nat ho hw0
    refine m_callVr cv_X5_37 [.int (nI w)] [] (k_wayAt_s l G i hi a ho hR w hw) hi (ce_1 G _ _ _ _ _ _ _ _ _ _) rfl rfl rfl ⟨Nat.le_of_ble_eq_true rfl, Nat.le_of_ble_eq_true rfl⟩ (Nat.le_of_ble_eq_true rfl) ⟨Nat.zero_le _, Nat.zero_le _⟩ dX5_weightOf_2 (fun xx σ2 hq => ?_)
    obtain ⟨rfl, rfl⟩ := hq
    obtain ⟨ad1, hYad1, hPad1⟩ := hR.2.2.1 w hw
    have hkad1 := aK_lt ho hw
    have hfad1 := aF_le ho hw
    refine m_topr hYad1 ?_
    refine m_astore_n [(2, .ref ad1), (0, .ref (gK G 1 i)), (1, .int (nI (w)))] rfl (by decide) rfl dX5_weightOf_5 ?_
    refine m_aload_n 0 rfl rfl dX5_weightOf_6 ?_
    refine m_ifnonnull 14 dX5_weightOf_7 (by decide) ?_
    refine m_aload_n 0 rfl rfl dX5_weightOf_14 ?_
    refine gwa_X5_51 hkad1 hPad1 dX5_weightOf_15 ?_
    exact m_iret dX5_weightOf_18 (Nat.le_refl _) (Nat.le_refl _) (⟨(wgtI_nat ho hw).symm, rfl⟩)
set_option maxRecDepth 100000 in
set_option maxHeartbeats 4000000 in
theorem k_toldBy (l : Launch) (G : owG) {A S Z B T V : owF} {J : Nat → Nat → Int64} {Y : Nat → Nat → Nat → Option Nat} {P : Nat → Option owW} (i : Nat) (hi : i < owN 1) (a : owK) (ho : aOk a) (hR : RX A Y P i a) (x y : Int32) : Ct l G yX5_toldBy cX5_toldBy 4 ((some .int)) 2 0 0 [.ref (gK G 1 i), .int x, .int y] (A, S, Z, B, T, V, J, Y, P) (qI (fun r σ => r = toldI a x y ∧ σ = (A, S, Z, B, T, V, J, Y, P))) := by
  refine ct_of (by decide +kernel) (Nat.le_of_ble_eq_true rfl) ?_
  have h10 := ho.1
  have h8 := ho.2.1
  show Wm l G cX5_toldBy 4 RX5 ((some .int)) (rmk 2 0 0) (fun _ => True) (QfM G (qI (fun r σ => r = toldI a x y ∧ σ = (A, S, Z, B, T, V, J, Y, P))) 0 0) 0 [(0, .ref (gK G 1 i)), (1, .int x), (2, .int y)] [] (A, S, Z, B, T, V, J, Y, P) 0 0
  refine m_iload_n 1 rfl rfl dX5_toldBy_0 ?_
  refine m_if_lt 18 dX5_toldBy_1 (by decide) (fun c1 => ?_) (fun c1 => ?_)
  ·
    refine m_iconst (-1) dX5_toldBy_18 rfl ?_
    exact m_iret dX5_toldBy_19 (Nat.le_refl _) (Nat.le_refl _) (⟨by grind [toldI], rfl⟩)
  ·
    refine m_iload_n 1 rfl rfl dX5_toldBy_4 ?_
    refine m_bipush (10) dX5_toldBy_5 rfl ?_
    refine m_icmp_ge 18 dX5_toldBy_7 (by decide) (fun c2 => ?_) (fun c2 => ?_)
    ·
      refine m_iconst (-1) dX5_toldBy_18 rfl ?_
      exact m_iret dX5_toldBy_19 (Nat.le_refl _) (Nat.le_refl _) (⟨by grind [toldI], rfl⟩)
    ·
      refine m_aload_n 0 rfl rfl dX5_toldBy_10 ?_
      refine m_iload_n 2 rfl rfl dX5_toldBy_11 ?_
      refine m_callVi cv_X5_54 [.int y] [] (k_hasWay l G i hi a ho hR y) hi (ce_1 G _ _ _ _ _ _ _ _ _ _) rfl rfl rfl ⟨Nat.le_of_ble_eq_true rfl, Nat.le_of_ble_eq_true rfl⟩ (Nat.le_of_ble_eq_true rfl) ⟨Nat.zero_le _, Nat.zero_le _⟩ dX5_toldBy_12 (fun xx σ2 hq => ?_)
      obtain ⟨rfl, rfl⟩ := hq
      refine m_ifne_b 20 dX5_toldBy_15 (by decide) (fun c3 => ?_) (fun c3 => ?_)
      ·
        obtain ⟨k, hk, rfl⟩ := natOf2 (x := x) (n := 10) (by grind) (show x < (10 : Int32) by grind) (by decide)
        obtain ⟨w, hw, rfl⟩ := isW_nat ho (x := y) (by assumption)
        have hT := (ho.2.2.2.2 k w hk (by omega)).1
        refine m_aload_n 0 rfl rfl dX5_toldBy_20 ?_
        refine gf_X5_27 hi dX5_toldBy_21 ?_
        refine m_iload_n 1 rfl rfl dX5_toldBy_24 ?_
        refine m_bipush (10) dX5_toldBy_25 rfl ?_
        refine m_imul dX5_toldBy_27 ?_
        refine m_topi (show (nI (k)) * 10 = nI (k * 10) from pk_mul _ _) ?_
        refine m_iload_n 2 rfl rfl dX5_toldBy_28 ?_
        refine m_iadd dX5_toldBy_29 ?_
        refine m_topi (show (nI (k * 10)) + (nI (w)) = nI ((k * 10) + w) from nI_add _ _) ?_
        refine m_callNi cn_X5_58 [.ref (gK G 13 i), .int (nI ((k * 10) + w))] [] (k_at (t := 13) (n := 100) l G hi (ce_13 G _ _ _ _ _ _ _ _ _ i) (by decide) (nI ((k * 10) + w))) rfl rfl ⟨Nat.le_of_ble_eq_true rfl, Nat.le_of_ble_eq_true rfl⟩ (Nat.le_of_ble_eq_true rfl) ⟨Nat.zero_le _, Nat.zero_le _⟩ dX5_toldBy_30 (fun xx σ2 hq => ?_)
        obtain rfl : xx = A 13 i ((k * 10) + w) := hq.1.trans (atV_in (by omega) (by decide))
        obtain rfl := hq.2
        refine m_topi (hR.tl hk (by omega)) ?_
        refine m_istore_n [(3, .int (nI (aT a k w))), (0, .ref (gK G 1 i)), (1, .int (nI (k))), (2, .int (nI (w)))] rfl (by decide) rfl dX5_toldBy_33 ?_
        refine m_iload_n 0 rfl rfl dX5_toldBy_34 ?_
        refine m_ifn_ne (aT a k w) 42 (by omega) dX5_toldBy_35 (by decide) (fun c5 => ?_) (fun c5 => ?_)
        ·
          refine m_iload_n 0 rfl rfl dX5_toldBy_42 ?_
          refine m_iconst 1 dX5_toldBy_43 rfl ?_
          refine m_isub dX5_toldBy_44 ?_
          refine m_topi ((show (nI (aT a k w)) - 1 = nI ((aT a k w) - 1) from pk_sub (b := 1) (by omega))) ?_
          exact m_iret dX5_toldBy_45 (Nat.le_refl _) (Nat.le_refl _) (⟨by rw [toldI_nat ho hk hw]; unfold tdW; grind, rfl⟩)
        ·
          refine m_iload_n 3 rfl rfl dX5_toldBy_38 ?_
          refine m_goto 45 dX5_toldBy_39 (by decide) ?_
          exact m_iret dX5_toldBy_45 (Nat.le_refl _) (Nat.le_refl _) (⟨by rw [toldI_nat ho hk hw]; unfold tdW; grind, rfl⟩)
      ·
        refine m_iconst (-1) dX5_toldBy_18 rfl ?_
        exact m_iret dX5_toldBy_19 (Nat.le_refl _) (Nat.le_refl _) (⟨by grind [toldI], rfl⟩)
set_option maxRecDepth 100000 in
set_option maxHeartbeats 4000000 in
theorem k_toldCount (l : Launch) (G : owG) {A S Z B T V : owF} {J : Nat → Nat → Int64} {Y : Nat → Nat → Nat → Option Nat} {P : Nat → Option owW} (i : Nat) (hi : i < owN 1) (a : owK) (ho : aOk a) (hR : RX A Y P i a)  : Ct l G yX5_toldCount cX5_toldCount 3 ((some .int)) 0 0 0 [.ref (gK G 1 i)] (A, S, Z, B, T, V, J, Y, P) (qI (fun r σ => r = nI (toldN a) ∧ σ = (A, S, Z, B, T, V, J, Y, P))) := by
  refine ct_of (by decide +kernel) (Nat.le_of_ble_eq_true rfl) ?_
  have h10 := ho.1
  have h8 := ho.2.1
  show Wm l G cX5_toldCount 3 RX5 ((some .int)) (rmk 0 0 0) (fun _ => True) (QfM G (qI (fun r σ => r = nI (toldN a) ∧ σ = (A, S, Z, B, T, V, J, Y, P))) 0 0) 0 [(0, .ref (gK G 1 i))] [] (A, S, Z, B, T, V, J, Y, P) 0 0
  refine m_iconst 0 dX5_toldCount_0 rfl ?_
  refine m_istore_n [(1, .int 0), (0, .ref (gK G 1 i))] rfl (by decide) rfl dX5_toldCount_1 ?_
  refine m_iconst 0 dX5_toldCount_2 rfl ?_
  refine m_istore_n [(2, .int 0), (1, .int 0), (0, .ref (gK G 1 i))] rfl (by decide) rfl dX5_toldCount_3 ?_
  have lp4 : ∀ (dd : Nat) (k : Nat) , k ≤ 100 → 100 - k < dd → Wm l G cX5_toldCount 3 RX5 ((some .int)) (rmk 0 0 0) (fun _ => True) (QfM G (qI (fun r σ => r = nI (toldN a) ∧ σ = (A, S, Z, B, T, V, J, Y, P))) 0 0) 4 [(0, .ref (gK G 1 i)), (1, .int (nI (cntB (fun j => decide (aT a (j / 10) (j % 10) ≠ 0)) k))), (2, .int (nI (k)))] [] (A, S, Z, B, T, V, J, Y, P) 0 0 := by
    intro dd
    induction dd with
    | zero => intro k  hk hdd; exact absurd hdd (Nat.not_lt_zero _)
    | succ dd ih4 =>
      intro k  hk hdd4
      have hc := cntB_le (fun j => decide (aT a (j / 10) (j % 10) ≠ 0)) k
      refine m_iload_n 2 rfl rfl dX5_toldCount_4 ?_
      refine m_aload_n 0 rfl rfl dX5_toldCount_5 ?_
      refine gf_X5_27 hi dX5_toldCount_6 ?_
      refine ln_13 hi dX5_toldCount_9 ?_
      refine m_icmpn_ge k 100 31 (by omega) (by decide) dX5_toldCount_10 (by decide) (fun c1 => ?_) (fun c1 => ?_)
      ·
        refine m_iload_n 1 rfl rfl dX5_toldCount_31 ?_
        exact m_iret dX5_toldCount_32 (Nat.le_refl _) (Nat.le_refl _) ((by obtain rfl : k = 100 := (by omega); exact ⟨rfl, rfl⟩))
      ·
        have hT := (ho.2.2.2.2 (k / 10) (k % 10) (by omega) (by omega)).1
        refine m_aload_n 0 rfl rfl dX5_toldCount_13 ?_
        refine gf_X5_27 hi dX5_toldCount_14 ?_
        refine m_iload_n 2 rfl rfl dX5_toldCount_17 ?_
        refine al_13 hi k rfl (by omega) dX5_toldCount_18 ?_
        refine m_topi (hR.2.2.2.2 k (by omega)) ?_
        refine m_ifn_eq (aT a (k / 10) (k % 10)) 25 (by omega) dX5_toldCount_19 (by decide) (fun c2 => ?_) (fun c2 => ?_)
        ·
          refine m_iinc (nI (k + 1)) 2 [(2, .int (nI (k + 1))), (0, .ref (gK G 1 i)), (1, .int (nI (cntB (fun j => decide (aT a (j / 10) (j % 10) ≠ 0)) k)))] rfl (nI_1 _) (by decide) rfl dX5_toldCount_25 ?_
          refine m_goto 4 dX5_toldCount_28 (by decide) ?_
          refine m_lv [(0, .ref (gK G 1 i)), (1, .int (nI (cntB (fun j => decide (aT a (j / 10) (j % 10) ≠ 0)) k))), (2, .int (nI (k + 1)))] [1, 2, 0] rfl ?_
          rw [show cntB (fun j => decide (aT a (j / 10) (j % 10) ≠ 0)) k = cntB (fun j => decide (aT a (j / 10) (j % 10) ≠ 0)) (k + 1) from cntB_f (p := (fun j => decide (aT a (j / 10) (j % 10) ≠ 0))) (by grind)]
          exact ih4 (k + 1)  (by omega) (by omega)
        ·
          refine m_iinc (nI (cntB (fun j => decide (aT a (j / 10) (j % 10) ≠ 0)) k + 1)) 1 [(1, .int (nI (cntB (fun j => decide (aT a (j / 10) (j % 10) ≠ 0)) k + 1))), (0, .ref (gK G 1 i)), (2, .int (nI (k)))] rfl (nI_1 _) (by decide) rfl dX5_toldCount_22 ?_
          refine m_iinc (nI (k + 1)) 2 [(2, .int (nI (k + 1))), (1, .int (nI (cntB (fun j => decide (aT a (j / 10) (j % 10) ≠ 0)) k + 1))), (0, .ref (gK G 1 i))] rfl (nI_1 _) (by decide) rfl dX5_toldCount_25 ?_
          refine m_goto 4 dX5_toldCount_28 (by decide) ?_
          refine m_lv [(0, .ref (gK G 1 i)), (1, .int (nI (cntB (fun j => decide (aT a (j / 10) (j % 10) ≠ 0)) k + 1))), (2, .int (nI (k + 1)))] [2, 1, 0] rfl ?_
          rw [show (cntB (fun j => decide (aT a (j / 10) (j % 10) ≠ 0)) k) + 1 = cntB (fun j => decide (aT a (j / 10) (j % 10) ≠ 0)) (k + 1) from cntB_t (p := (fun j => decide (aT a (j / 10) (j % 10) ≠ 0))) (by grind)]
          exact ih4 (k + 1)  (by omega) (by omega)
  refine m_lv [(0, .ref (gK G 1 i)), (1, .int 0), (2, .int 0)] [2, 1, 0] rfl ?_
  exact lp4 ((100 - 0) + 1) 0  (by omega) (Nat.lt_succ_self _)
