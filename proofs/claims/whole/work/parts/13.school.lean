set_option maxRecDepth 100000 in
set_option maxHeartbeats 4000000 in
theorem k_wayAt_s (l : Launch) (G : owG) {A S Z B T V : owF} {J : Nat → Nat → Int64} {Y : Nat → Nat → Nat → Option Nat} {P : Nat → Option owW} (i_ : Nat) (hi_ : i_ < owN 1) (a_ : owK) (ho_ : aOk a_) (hR : RX A Y P i_ a_) (w_ : Nat) (hw_ : w_ < aN a_) : Ct l G yX5_wayAt cX5_wayAt 2 ((some (.object "OwnWays$Way"))) 0 0 0 [.ref (gK G 1 i_), .int (nI (w_))] (A, S, Z, B, T, V, J, Y, P) (qR (fun r_ σ => r_ = Y 15 i_ w_ ∧ σ = (A, S, Z, B, T, V, J, Y, P))) := by
  refine ct_of (by decide +kernel) (Nat.le_of_ble_eq_true rfl) ?_
  have h10 := ho_.1
  have h8_ := ho_.2.1
  show Wm l G cX5_wayAt 2 RX5 ((some (.object "OwnWays$Way"))) (rmk 0 0 0) (fun _ => True) (QfM G (qR (fun r_ σ => r_ = Y 15 i_ w_ ∧ σ = (A, S, Z, B, T, V, J, Y, P))) 0 0) 0 [(0, .ref (gK G 1 i_)), (1, .int (nI (w_)))] [] (A, S, Z, B, T, V, J, Y, P) 0 0
  refine m_iload_n 1 rfl rfl dX5_wayAt_0 ?_
  refine m_ifn_lt w_ 27 (by omega) dX5_wayAt_1 (by decide) (fun c1_ => ?_) (fun c1_ => ?_)
  ·
    refine m_null dX5_wayAt_27 ?_
    exact m_dead (by first | assumption | omega)
  ·
    refine m_iload_n 1 rfl rfl dX5_wayAt_4 ?_
    refine m_aload_n 0 rfl rfl dX5_wayAt_5 ?_
    refine gf_X5_33 hi_ dX5_wayAt_6 ?_
    refine m_topi hR.1 ?_
    refine m_icmpn_ge w_ (aN a_) 27 (by omega) (by omega) dX5_wayAt_9 (by decide) (fun c2_ => ?_) (fun c2_ => ?_)
    ·
      refine m_null dX5_wayAt_27 ?_
      exact m_dead (by first | assumption | omega)
    ·
      refine m_iload_n 1 rfl rfl dX5_wayAt_12 ?_
      refine m_bipush (10) dX5_wayAt_13 rfl ?_
      refine m_icmpn_ge w_ 10 27 (by omega) (by decide) dX5_wayAt_15 (by decide) (fun c3_ => ?_) (fun c3_ => ?_)
      ·
        refine m_null dX5_wayAt_27 ?_
        exact m_dead (by first | assumption | omega)
      ·
        refine m_aload_n 0 rfl rfl dX5_wayAt_18 ?_
        refine gf_X5_11 hi_ dX5_wayAt_19 ?_
        refine m_iload_n 1 rfl rfl dX5_wayAt_22 ?_
        refine al_15 hi_ w_ rfl (by omega) dX5_wayAt_23 ?_
        refine m_goto 28 dX5_wayAt_24 (by decide) ?_
        exact m_aret dX5_wayAt_28 (Nat.le_refl _) (Nat.le_refl _) (⟨rfl, rfl⟩)
set_option maxRecDepth 100000 in
set_option maxHeartbeats 4000000 in
theorem k_wayAt_n (l : Launch) (G : owG) {A S Z B T V : owF} {J : Nat → Nat → Int64} {Y : Nat → Nat → Nat → Option Nat} {P : Nat → Option owW} (i_ : Nat) (hi_ : i_ < owN 1) (a_ : owK) (ho_ : aOk a_) (hR : RX A Y P i_ a_) (x_ : Int32) (hx_ : isW a_ x_ = false) : Ct l G yX5_wayAt cX5_wayAt 2 ((some (.object "OwnWays$Way"))) 0 0 0 [.ref (gK G 1 i_), .int x_] (A, S, Z, B, T, V, J, Y, P) (qR (fun r_ σ => r_ = none ∧ σ = (A, S, Z, B, T, V, J, Y, P))) := by
  refine ct_of (by decide +kernel) (Nat.le_of_ble_eq_true rfl) ?_
  have h10 := ho_.1
  have h8_ := ho_.2.1
  have hx2 := of_decide_eq_false hx_
  show Wm l G cX5_wayAt 2 RX5 ((some (.object "OwnWays$Way"))) (rmk 0 0 0) (fun _ => True) (QfM G (qR (fun r_ σ => r_ = none ∧ σ = (A, S, Z, B, T, V, J, Y, P))) 0 0) 0 [(0, .ref (gK G 1 i_)), (1, .int x_)] [] (A, S, Z, B, T, V, J, Y, P) 0 0
  refine m_iload_n 1 rfl rfl dX5_wayAt_0 ?_
  refine m_if_lt 27 dX5_wayAt_1 (by decide) (fun c1_ => ?_) (fun c1_ => ?_)
  ·
    refine m_null dX5_wayAt_27 ?_
    exact m_arefn dX5_wayAt_28 (Nat.le_refl _) (Nat.le_refl _) (⟨rfl, rfl⟩)
  ·
    refine m_iload_n 1 rfl rfl dX5_wayAt_4 ?_
    refine m_aload_n 0 rfl rfl dX5_wayAt_5 ?_
    refine gf_X5_33 hi_ dX5_wayAt_6 ?_
    refine m_topi hR.1 ?_
    refine m_icmp_ge 27 dX5_wayAt_9 (by decide) (fun c2_ => ?_) (fun c2_ => ?_)
    ·
      refine m_null dX5_wayAt_27 ?_
      exact m_arefn dX5_wayAt_28 (Nat.le_refl _) (Nat.le_refl _) (⟨rfl, rfl⟩)
    ·
      refine m_iload_n 1 rfl rfl dX5_wayAt_12 ?_
      refine m_bipush (10) dX5_wayAt_13 rfl ?_
      refine m_icmp_ge 27 dX5_wayAt_15 (by decide) (fun c3_ => ?_) (fun c3_ => ?_)
      ·
        refine m_null dX5_wayAt_27 ?_
        exact m_arefn dX5_wayAt_28 (Nat.le_refl _) (Nat.le_refl _) (⟨rfl, rfl⟩)
      · exact absurd ⟨by grind, by grind⟩ hx2
set_option maxRecDepth 100000 in
set_option maxHeartbeats 4000000 in
theorem k_hasWay (l : Launch) (G : owG) {A S Z B T V : owF} {J : Nat → Nat → Int64} {Y : Nat → Nat → Nat → Option Nat} {P : Nat → Option owW} (i_ : Nat) (hi_ : i_ < owN 1) (a_ : owK) (ho_ : aOk a_) (hR : RX A Y P i_ a_) (x_ : Int32) : Ct l G yX5_hasWay cX5_hasWay 2 ((some .boolean)) 1 0 0 [.ref (gK G 1 i_), .int x_] (A, S, Z, B, T, V, J, Y, P) (qI (fun r_ σ => r_ = bI (isW a_ x_) ∧ σ = (A, S, Z, B, T, V, J, Y, P))) := by
  refine ct_of (by decide +kernel) (Nat.le_of_ble_eq_true rfl) ?_
  have h10 := ho_.1
  have h8_ := ho_.2.1
  show Wm l G cX5_hasWay 2 RX5 ((some .boolean)) (rmk 1 0 0) (fun _ => True) (QfM G (qI (fun r_ σ => r_ = bI (isW a_ x_) ∧ σ = (A, S, Z, B, T, V, J, Y, P))) 0 0) 0 [(0, .ref (gK G 1 i_)), (1, .int x_)] [] (A, S, Z, B, T, V, J, Y, P) 0 0
  refine m_aload_n 0 rfl rfl dX5_hasWay_0 ?_
  refine m_iload_n 1 rfl rfl dX5_hasWay_1 ?_
  cases hw0 : isW a_ x_ with
  | false =>
    refine m_callVr cv_X5_37 [.int x_] [] (k_wayAt_n l G i_ hi_ a_ ho_ hR x_ hw0) hi_ (ce_1 G _ _ _ _ _ _ _ _ _ _) rfl rfl rfl ⟨Nat.le_of_ble_eq_true rfl, Nat.le_of_ble_eq_true rfl⟩ (Nat.le_of_ble_eq_true rfl) ⟨Nat.zero_le _, Nat.zero_le _⟩ dX5_hasWay_2 (fun xx σ2 hq => ?_)
    obtain ⟨rfl, rfl⟩ := hq
    refine m_ifnullN 12 dX5_hasWay_5 (by decide) ?_
    refine m_iconst 0 dX5_hasWay_12 rfl ?_
    exact m_zret dX5_hasWay_13 (Nat.le_refl _) (Nat.le_refl _) nar0 (⟨rfl, rfl⟩)
  | true =>
    obtain ⟨w_, hw_, rfl⟩ := isW_nat ho_ hw0
    refine m_callVr cv_X5_37 [.int (nI w_)] [] (k_wayAt_s l G i_ hi_ a_ ho_ hR w_ hw_) hi_ (ce_1 G _ _ _ _ _ _ _ _ _ _) rfl rfl rfl ⟨Nat.le_of_ble_eq_true rfl, Nat.le_of_ble_eq_true rfl⟩ (Nat.le_of_ble_eq_true rfl) ⟨Nat.zero_le _, Nat.zero_le _⟩ dX5_hasWay_2 (fun xx σ2 hq => ?_)
    obtain ⟨rfl, rfl⟩ := hq
    obtain ⟨ad1, hYad1, hPad1⟩ := hR.2.2.1 w_ hw_
    have hkad1 := aK_lt ho_ hw_
    have hfad1 := aF_le ho_ hw_
    refine m_topr hYad1 ?_
    refine m_ifnull dX5_hasWay_5 ?_
    refine m_iconst 1 dX5_hasWay_8 rfl ?_
    refine m_goto 13 dX5_hasWay_9 (by decide) ?_
    exact m_zret dX5_hasWay_13 (Nat.le_refl _) (Nat.le_refl _) nar1 (⟨rfl, rfl⟩)
set_option maxRecDepth 100000 in
set_option maxHeartbeats 4000000 in
theorem k_allWays (l : Launch) (G : owG) {A S Z B T V : owF} {J : Nat → Nat → Int64} {Y : Nat → Nat → Nat → Option Nat} {P : Nat → Option owW} (i_ : Nat) (hi_ : i_ < owN 1) (a_ : owK) (ho_ : aOk a_) (hR : RX A Y P i_ a_)  : Ct l G yX5_allWays cX5_allWays 1 ((some .int)) 0 0 0 [.ref (gK G 1 i_)] (A, S, Z, B, T, V, J, Y, P) (qI (fun r_ σ => r_ = allI a_ ∧ σ = (A, S, Z, B, T, V, J, Y, P))) := by
  refine ct_of (by decide +kernel) (Nat.le_of_ble_eq_true rfl) ?_
  have h10 := ho_.1
  have h8_ := ho_.2.1
  show Wm l G cX5_allWays 1 RX5 ((some .int)) (rmk 0 0 0) (fun _ => True) (QfM G (qI (fun r_ σ => r_ = allI a_ ∧ σ = (A, S, Z, B, T, V, J, Y, P))) 0 0) 0 [(0, .ref (gK G 1 i_))] [] (A, S, Z, B, T, V, J, Y, P) 0 0
  refine m_iconst 1 dX5_allWays_0 rfl ?_
  refine m_aload_n 0 rfl rfl dX5_allWays_1 ?_
  refine gf_X5_33 hi_ dX5_allWays_2 ?_
  refine m_topi hR.1 ?_
  refine m_ishl dX5_allWays_5 ?_
  refine m_iconst 1 dX5_allWays_6 rfl ?_
  refine m_isub dX5_allWays_7 ?_
  exact m_iret dX5_allWays_8 (Nat.le_refl _) (Nat.le_refl _) (⟨rfl, rfl⟩)
set_option maxRecDepth 100000 in
set_option maxHeartbeats 4000000 in
theorem k_hasWays (l : Launch) (G : owG) {A S Z B T V : owF} {J : Nat → Nat → Int64} {Y : Nat → Nat → Nat → Option Nat} {P : Nat → Option owW} (i_ : Nat) (hi_ : i_ < owN 1) (a_ : owK) (ho_ : aOk a_) (hR : RX A Y P i_ a_) (x_ : Int32) : Ct l G yX5_hasWays cX5_hasWays 2 ((some .boolean)) 1 0 0 [.ref (gK G 1 i_), .int x_] (A, S, Z, B, T, V, J, Y, P) (qI (fun r_ σ => r_ = bI (areW a_ x_) ∧ σ = (A, S, Z, B, T, V, J, Y, P))) := by
  refine ct_of (by decide +kernel) (Nat.le_of_ble_eq_true rfl) ?_
  have h10 := ho_.1
  have h8_ := ho_.2.1
  show Wm l G cX5_hasWays 2 RX5 ((some .boolean)) (rmk 1 0 0) (fun _ => True) (QfM G (qI (fun r_ σ => r_ = bI (areW a_ x_) ∧ σ = (A, S, Z, B, T, V, J, Y, P))) 0 0) 0 [(0, .ref (gK G 1 i_)), (1, .int x_)] [] (A, S, Z, B, T, V, J, Y, P) 0 0
  refine m_iload_n 1 rfl rfl dX5_hasWays_0 ?_
  refine m_aload_n 0 rfl rfl dX5_hasWays_1 ?_
  refine m_callVi cv_X5_41 [] [.int x_] (k_allWays l G i_ hi_ a_ ho_ hR) hi_ (ce_1 G _ _ _ _ _ _ _ _ _ _) rfl rfl rfl ⟨Nat.le_of_ble_eq_true rfl, Nat.le_of_ble_eq_true rfl⟩ (Nat.le_of_ble_eq_true rfl) ⟨Nat.zero_le _, Nat.zero_le _⟩ dX5_hasWays_2 (fun xx σ2 hq => ?_)
  obtain ⟨rfl, rfl⟩ := hq
  refine m_iconst (-1) dX5_hasWays_5 rfl ?_
  refine m_ixor dX5_hasWays_6 ?_
  refine m_iand dX5_hasWays_7 ?_
  refine m_if_ne 15 dX5_hasWays_8 (by decide) (fun c1_ => ?_) (fun c1_ => ?_)
  ·
    refine m_iconst 0 dX5_hasWays_15 rfl ?_
    exact m_zret dX5_hasWays_16 (Nat.le_refl _) (Nat.le_refl _) nar0 (⟨by grind [areW, bI], rfl⟩)
  ·
    refine m_iconst 1 dX5_hasWays_11 rfl ?_
    refine m_goto 16 dX5_hasWays_12 (by decide) ?_
    exact m_zret dX5_hasWays_16 (Nat.le_refl _) (Nat.le_refl _) nar1 (⟨by grind [areW, bI], rfl⟩)
set_option maxRecDepth 100000 in
set_option maxHeartbeats 4000000 in
theorem k_hasChild (l : Launch) (G : owG) {A S Z B T V : owF} {J : Nat → Nat → Int64} {Y : Nat → Nat → Nat → Option Nat} {P : Nat → Option owW} (i_ : Nat) (hi_ : i_ < owN 1) (a_ : owK) (ho_ : aOk a_) (hR : RX A Y P i_ a_) (x_ : Int32) : Ct l G yX5_hasChild cX5_hasChild 2 ((some .boolean)) 0 0 0 [.ref (gK G 1 i_), .int x_] (A, S, Z, B, T, V, J, Y, P) (qI (fun r_ σ => r_ = bI (isC a_ x_) ∧ σ = (A, S, Z, B, T, V, J, Y, P))) := by
  refine ct_of (by decide +kernel) (Nat.le_of_ble_eq_true rfl) ?_
  have h10 := ho_.1
  have h8_ := ho_.2.1
  show Wm l G cX5_hasChild 2 RX5 ((some .boolean)) (rmk 0 0 0) (fun _ => True) (QfM G (qI (fun r_ σ => r_ = bI (isC a_ x_) ∧ σ = (A, S, Z, B, T, V, J, Y, P))) 0 0) 0 [(0, .ref (gK G 1 i_)), (1, .int x_)] [] (A, S, Z, B, T, V, J, Y, P) 0 0
  refine m_iload_n 1 rfl rfl dX5_hasChild_0 ?_
  refine m_if_lt 16 dX5_hasChild_1 (by decide) (fun c1_ => ?_) (fun c1_ => ?_)
  ·
    refine m_iconst 0 dX5_hasChild_16 rfl ?_
    exact m_zret dX5_hasChild_17 (Nat.le_refl _) (Nat.le_refl _) nar0 (⟨by grind [isC, bI], rfl⟩)
  ·
    refine m_iload_n 1 rfl rfl dX5_hasChild_4 ?_
    refine m_aload_n 0 rfl rfl dX5_hasChild_5 ?_
    refine gf_X5_45 hi_ dX5_hasChild_6 ?_
    refine m_topi hR.2.1 ?_
    refine m_icmp_ge 16 dX5_hasChild_9 (by decide) (fun c2_ => ?_) (fun c2_ => ?_)
    ·
      refine m_iconst 0 dX5_hasChild_16 rfl ?_
      exact m_zret dX5_hasChild_17 (Nat.le_refl _) (Nat.le_refl _) nar0 (⟨by grind [isC, bI], rfl⟩)
    ·
      refine m_iconst 1 dX5_hasChild_12 rfl ?_
      refine m_goto 17 dX5_hasChild_13 (by decide) ?_
      exact m_zret dX5_hasChild_17 (Nat.le_refl _) (Nat.le_refl _) nar1 (⟨by grind [isC, bI], rfl⟩)
set_option maxRecDepth 100000 in
set_option maxHeartbeats 4000000 in
theorem k_kindOf (l : Launch) (G : owG) {A S Z B T V : owF} {J : Nat → Nat → Int64} {Y : Nat → Nat → Nat → Option Nat} {P : Nat → Option owW} (i_ : Nat) (hi_ : i_ < owN 1) (a_ : owK) (ho_ : aOk a_) (hR : RX A Y P i_ a_) (x_ : Int32) : Ct l G yX5_kindOf cX5_kindOf 3 ((some .int)) 1 0 0 [.ref (gK G 1 i_), .int x_] (A, S, Z, B, T, V, J, Y, P) (qI (fun r_ σ => r_ = kindI a_ x_ ∧ σ = (A, S, Z, B, T, V, J, Y, P))) := by
  refine ct_of (by decide +kernel) (Nat.le_of_ble_eq_true rfl) ?_
  have h10 := ho_.1
  have h8_ := ho_.2.1
  show Wm l G cX5_kindOf 3 RX5 ((some .int)) (rmk 1 0 0) (fun _ => True) (QfM G (qI (fun r_ σ => r_ = kindI a_ x_ ∧ σ = (A, S, Z, B, T, V, J, Y, P))) 0 0) 0 [(0, .ref (gK G 1 i_)), (1, .int x_)] [] (A, S, Z, B, T, V, J, Y, P) 0 0
  refine m_aload_n 0 rfl rfl dX5_kindOf_0 ?_
  refine m_iload_n 1 rfl rfl dX5_kindOf_1 ?_
  cases hw0 : isW a_ x_ with
  | false =>
    refine m_callVr cv_X5_37 [.int x_] [] (k_wayAt_n l G i_ hi_ a_ ho_ hR x_ hw0) hi_ (ce_1 G _ _ _ _ _ _ _ _ _ _) rfl rfl rfl ⟨Nat.le_of_ble_eq_true rfl, Nat.le_of_ble_eq_true rfl⟩ (Nat.le_of_ble_eq_true rfl) ⟨Nat.zero_le _, Nat.zero_le _⟩ dX5_kindOf_2 (fun xx σ2 hq => ?_)
    obtain ⟨rfl, rfl⟩ := hq
    refine m_astore_nN [(2, .null), (0, .ref (gK G 1 i_)), (1, .int x_)] rfl (by decide) rfl dX5_kindOf_5 ?_
    refine m_aload_nN 0 rfl rfl dX5_kindOf_6 ?_
    refine m_ifnonnullN dX5_kindOf_7 ?_
    refine m_iconst (-1) dX5_kindOf_10 rfl ?_
    refine m_goto 18 dX5_kindOf_11 (by decide) ?_
    exact m_iret dX5_kindOf_18 (Nat.le_refl _) (Nat.le_refl _) (⟨by unfold kindI; rw [hw0]; rfl, rfl⟩)
  | true =>
    obtain ⟨w_, hw_, rfl⟩ := isW_nat ho_ hw0
    refine m_callVr cv_X5_37 [.int (nI w_)] [] (k_wayAt_s l G i_ hi_ a_ ho_ hR w_ hw_) hi_ (ce_1 G _ _ _ _ _ _ _ _ _ _) rfl rfl rfl ⟨Nat.le_of_ble_eq_true rfl, Nat.le_of_ble_eq_true rfl⟩ (Nat.le_of_ble_eq_true rfl) ⟨Nat.zero_le _, Nat.zero_le _⟩ dX5_kindOf_2 (fun xx σ2 hq => ?_)
    obtain ⟨rfl, rfl⟩ := hq
    obtain ⟨ad1, hYad1, hPad1⟩ := hR.2.2.1 w_ hw_
    have hkad1 := aK_lt ho_ hw_
    have hfad1 := aF_le ho_ hw_
    refine m_topr hYad1 ?_
    refine m_astore_n [(2, .ref ad1), (0, .ref (gK G 1 i_)), (1, .int (nI (w_)))] rfl (by decide) rfl dX5_kindOf_5 ?_
    refine m_aload_n 0 rfl rfl dX5_kindOf_6 ?_
    refine m_ifnonnull 14 dX5_kindOf_7 (by decide) ?_
    refine m_aload_n 0 rfl rfl dX5_kindOf_14 ?_
    refine gwa_X5_48 hkad1 hPad1 dX5_kindOf_15 ?_
    exact m_iret dX5_kindOf_18 (Nat.le_refl _) (Nat.le_refl _) (⟨(kindI_nat ho_ hw_).symm, rfl⟩)
set_option maxRecDepth 100000 in
set_option maxHeartbeats 4000000 in
theorem k_weightOf (l : Launch) (G : owG) {A S Z B T V : owF} {J : Nat → Nat → Int64} {Y : Nat → Nat → Nat → Option Nat} {P : Nat → Option owW} (i_ : Nat) (hi_ : i_ < owN 1) (a_ : owK) (ho_ : aOk a_) (hR : RX A Y P i_ a_) (x_ : Int32) : Ct l G yX5_weightOf cX5_weightOf 3 ((some .int)) 1 0 0 [.ref (gK G 1 i_), .int x_] (A, S, Z, B, T, V, J, Y, P) (qI (fun r_ σ => r_ = wgtI a_ x_ ∧ σ = (A, S, Z, B, T, V, J, Y, P))) := by
  refine ct_of (by decide +kernel) (Nat.le_of_ble_eq_true rfl) ?_
  have h10 := ho_.1
  have h8_ := ho_.2.1
  show Wm l G cX5_weightOf 3 RX5 ((some .int)) (rmk 1 0 0) (fun _ => True) (QfM G (qI (fun r_ σ => r_ = wgtI a_ x_ ∧ σ = (A, S, Z, B, T, V, J, Y, P))) 0 0) 0 [(0, .ref (gK G 1 i_)), (1, .int x_)] [] (A, S, Z, B, T, V, J, Y, P) 0 0
  refine m_aload_n 0 rfl rfl dX5_weightOf_0 ?_
  refine m_iload_n 1 rfl rfl dX5_weightOf_1 ?_
  cases hw0 : isW a_ x_ with
  | false =>
    refine m_callVr cv_X5_37 [.int x_] [] (k_wayAt_n l G i_ hi_ a_ ho_ hR x_ hw0) hi_ (ce_1 G _ _ _ _ _ _ _ _ _ _) rfl rfl rfl ⟨Nat.le_of_ble_eq_true rfl, Nat.le_of_ble_eq_true rfl⟩ (Nat.le_of_ble_eq_true rfl) ⟨Nat.zero_le _, Nat.zero_le _⟩ dX5_weightOf_2 (fun xx σ2 hq => ?_)
    obtain ⟨rfl, rfl⟩ := hq
    refine m_astore_nN [(2, .null), (0, .ref (gK G 1 i_)), (1, .int x_)] rfl (by decide) rfl dX5_weightOf_5 ?_
    refine m_aload_nN 0 rfl rfl dX5_weightOf_6 ?_
    refine m_ifnonnullN dX5_weightOf_7 ?_
    refine m_iconst 0 dX5_weightOf_10 rfl ?_
    refine m_goto 18 dX5_weightOf_11 (by decide) ?_
    exact m_iret dX5_weightOf_18 (Nat.le_refl _) (Nat.le_refl _) (⟨by unfold wgtI; rw [hw0]; rfl, rfl⟩)
  | true =>
    obtain ⟨w_, hw_, rfl⟩ := isW_nat ho_ hw0
    refine m_callVr cv_X5_37 [.int (nI w_)] [] (k_wayAt_s l G i_ hi_ a_ ho_ hR w_ hw_) hi_ (ce_1 G _ _ _ _ _ _ _ _ _ _) rfl rfl rfl ⟨Nat.le_of_ble_eq_true rfl, Nat.le_of_ble_eq_true rfl⟩ (Nat.le_of_ble_eq_true rfl) ⟨Nat.zero_le _, Nat.zero_le _⟩ dX5_weightOf_2 (fun xx σ2 hq => ?_)
    obtain ⟨rfl, rfl⟩ := hq
    obtain ⟨ad1, hYad1, hPad1⟩ := hR.2.2.1 w_ hw_
    have hkad1 := aK_lt ho_ hw_
    have hfad1 := aF_le ho_ hw_
    refine m_topr hYad1 ?_
    refine m_astore_n [(2, .ref ad1), (0, .ref (gK G 1 i_)), (1, .int (nI (w_)))] rfl (by decide) rfl dX5_weightOf_5 ?_
    refine m_aload_n 0 rfl rfl dX5_weightOf_6 ?_
    refine m_ifnonnull 14 dX5_weightOf_7 (by decide) ?_
    refine m_aload_n 0 rfl rfl dX5_weightOf_14 ?_
    refine gwa_X5_51 hkad1 hPad1 dX5_weightOf_15 ?_
    exact m_iret dX5_weightOf_18 (Nat.le_refl _) (Nat.le_refl _) (⟨(wgtI_nat ho_ hw_).symm, rfl⟩)
set_option maxRecDepth 100000 in
set_option maxHeartbeats 4000000 in
theorem k_toldBy (l : Launch) (G : owG) {A S Z B T V : owF} {J : Nat → Nat → Int64} {Y : Nat → Nat → Nat → Option Nat} {P : Nat → Option owW} (i_ : Nat) (hi_ : i_ < owN 1) (a_ : owK) (ho_ : aOk a_) (hR : RX A Y P i_ a_) (x_ y_ : Int32) : Ct l G yX5_toldBy cX5_toldBy 4 ((some .int)) 2 0 0 [.ref (gK G 1 i_), .int x_, .int y_] (A, S, Z, B, T, V, J, Y, P) (qI (fun r_ σ => r_ = toldI a_ x_ y_ ∧ σ = (A, S, Z, B, T, V, J, Y, P))) := by
  refine ct_of (by decide +kernel) (Nat.le_of_ble_eq_true rfl) ?_
  have h10 := ho_.1
  have h8_ := ho_.2.1
  show Wm l G cX5_toldBy 4 RX5 ((some .int)) (rmk 2 0 0) (fun _ => True) (QfM G (qI (fun r_ σ => r_ = toldI a_ x_ y_ ∧ σ = (A, S, Z, B, T, V, J, Y, P))) 0 0) 0 [(0, .ref (gK G 1 i_)), (1, .int x_), (2, .int y_)] [] (A, S, Z, B, T, V, J, Y, P) 0 0
  refine m_iload_n 1 rfl rfl dX5_toldBy_0 ?_
  refine m_if_lt 18 dX5_toldBy_1 (by decide) (fun c1_ => ?_) (fun c1_ => ?_)
  ·
    refine m_iconst (-1) dX5_toldBy_18 rfl ?_
    exact m_iret dX5_toldBy_19 (Nat.le_refl _) (Nat.le_refl _) (⟨by grind [toldI], rfl⟩)
  ·
    refine m_iload_n 1 rfl rfl dX5_toldBy_4 ?_
    refine m_bipush (10) dX5_toldBy_5 rfl ?_
    refine m_icmp_ge 18 dX5_toldBy_7 (by decide) (fun c2_ => ?_) (fun c2_ => ?_)
    ·
      refine m_iconst (-1) dX5_toldBy_18 rfl ?_
      exact m_iret dX5_toldBy_19 (Nat.le_refl _) (Nat.le_refl _) (⟨by grind [toldI], rfl⟩)
    ·
      refine m_aload_n 0 rfl rfl dX5_toldBy_10 ?_
      refine m_iload_n 2 rfl rfl dX5_toldBy_11 ?_
      refine m_callVi cv_X5_54 [.int y_] [] (k_hasWay l G i_ hi_ a_ ho_ hR y_) hi_ (ce_1 G _ _ _ _ _ _ _ _ _ _) rfl rfl rfl ⟨Nat.le_of_ble_eq_true rfl, Nat.le_of_ble_eq_true rfl⟩ (Nat.le_of_ble_eq_true rfl) ⟨Nat.zero_le _, Nat.zero_le _⟩ dX5_toldBy_12 (fun xx σ2 hq => ?_)
      obtain ⟨rfl, rfl⟩ := hq
      refine m_ifne_b 20 dX5_toldBy_15 (by decide) (fun c3_ => ?_) (fun c3_ => ?_)
      ·
        obtain ⟨k_, hk_, rfl⟩ := natOf2 (x := x_) (n := 10) (by grind) (show x_ < (10 : Int32) by grind) (by decide)
        obtain ⟨w_, hw_, rfl⟩ := isW_nat ho_ (x := y_) (by assumption)
        have hT := (ho_.2.2.2.2 k_ w_ hk_ (by omega)).1
        refine m_aload_n 0 rfl rfl dX5_toldBy_20 ?_
        refine gf_X5_27 hi_ dX5_toldBy_21 ?_
        refine m_iload_n 1 rfl rfl dX5_toldBy_24 ?_
        refine m_bipush (10) dX5_toldBy_25 rfl ?_
        refine m_imul dX5_toldBy_27 ?_
        refine m_topi (show (nI (k_)) * 10 = nI (k_ * 10) from pk_mul _ _) ?_
        refine m_iload_n 2 rfl rfl dX5_toldBy_28 ?_
        refine m_iadd dX5_toldBy_29 ?_
        refine m_topi (show (nI (k_ * 10)) + (nI (w_)) = nI ((k_ * 10) + w_) from nI_add _ _) ?_
        refine m_callNi cn_X5_58 [.ref (gK G 13 i_), .int (nI ((k_ * 10) + w_))] [] (k_at (t := 13) (n := 100) l G hi_ (ce_13 G _ _ _ _ _ _ _ _ _ i_) (by decide) (nI ((k_ * 10) + w_))) rfl rfl ⟨Nat.le_of_ble_eq_true rfl, Nat.le_of_ble_eq_true rfl⟩ (Nat.le_of_ble_eq_true rfl) ⟨Nat.zero_le _, Nat.zero_le _⟩ dX5_toldBy_30 (fun xx σ2 hq => ?_)
        obtain rfl : xx = A 13 i_ ((k_ * 10) + w_) := hq.1.trans (atV_in (by omega) (by decide))
        obtain rfl := hq.2
        refine m_topi (hR.tl hk_ (by omega)) ?_
        refine m_istore_n [(3, .int (nI (aT a_ k_ w_))), (0, .ref (gK G 1 i_)), (1, .int (nI (k_))), (2, .int (nI (w_)))] rfl (by decide) rfl dX5_toldBy_33 ?_
        refine m_iload_n 0 rfl rfl dX5_toldBy_34 ?_
        refine m_ifn_ne (aT a_ k_ w_) 42 (by omega) dX5_toldBy_35 (by decide) (fun c5_ => ?_) (fun c5_ => ?_)
        ·
          refine m_iload_n 0 rfl rfl dX5_toldBy_42 ?_
          refine m_iconst 1 dX5_toldBy_43 rfl ?_
          refine m_isub dX5_toldBy_44 ?_
          refine m_topi ((show (nI (aT a_ k_ w_)) - 1 = nI ((aT a_ k_ w_) - 1) from pk_sub (b := 1) (by omega))) ?_
          exact m_iret dX5_toldBy_45 (Nat.le_refl _) (Nat.le_refl _) (⟨by rw [toldI_nat ho_ hk_ hw_]; unfold tdW; grind, rfl⟩)
        ·
          refine m_iload_n 3 rfl rfl dX5_toldBy_38 ?_
          refine m_goto 45 dX5_toldBy_39 (by decide) ?_
          exact m_iret dX5_toldBy_45 (Nat.le_refl _) (Nat.le_refl _) (⟨by rw [toldI_nat ho_ hk_ hw_]; unfold tdW; grind, rfl⟩)
      ·
        refine m_iconst (-1) dX5_toldBy_18 rfl ?_
        exact m_iret dX5_toldBy_19 (Nat.le_refl _) (Nat.le_refl _) (⟨by grind [toldI], rfl⟩)
set_option maxRecDepth 100000 in
set_option maxHeartbeats 4000000 in
theorem k_toldCount (l : Launch) (G : owG) {A S Z B T V : owF} {J : Nat → Nat → Int64} {Y : Nat → Nat → Nat → Option Nat} {P : Nat → Option owW} (i_ : Nat) (hi_ : i_ < owN 1) (a_ : owK) (ho_ : aOk a_) (hR : RX A Y P i_ a_)  : Ct l G yX5_toldCount cX5_toldCount 3 ((some .int)) 0 0 0 [.ref (gK G 1 i_)] (A, S, Z, B, T, V, J, Y, P) (qI (fun r_ σ => r_ = nI (toldN a_) ∧ σ = (A, S, Z, B, T, V, J, Y, P))) := by
  refine ct_of (by decide +kernel) (Nat.le_of_ble_eq_true rfl) ?_
  have h10 := ho_.1
  have h8_ := ho_.2.1
  show Wm l G cX5_toldCount 3 RX5 ((some .int)) (rmk 0 0 0) (fun _ => True) (QfM G (qI (fun r_ σ => r_ = nI (toldN a_) ∧ σ = (A, S, Z, B, T, V, J, Y, P))) 0 0) 0 [(0, .ref (gK G 1 i_))] [] (A, S, Z, B, T, V, J, Y, P) 0 0
  refine m_iconst 0 dX5_toldCount_0 rfl ?_
  refine m_istore_n [(1, .int 0), (0, .ref (gK G 1 i_))] rfl (by decide) rfl dX5_toldCount_1 ?_
  refine m_iconst 0 dX5_toldCount_2 rfl ?_
  refine m_istore_n [(2, .int 0), (1, .int 0), (0, .ref (gK G 1 i_))] rfl (by decide) rfl dX5_toldCount_3 ?_
  have lp4 : ∀ (dd : Nat) (k_ : Nat) , k_ ≤ 100 → 100 - k_ < dd → Wm l G cX5_toldCount 3 RX5 ((some .int)) (rmk 0 0 0) (fun _ => True) (QfM G (qI (fun r_ σ => r_ = nI (toldN a_) ∧ σ = (A, S, Z, B, T, V, J, Y, P))) 0 0) 4 [(0, .ref (gK G 1 i_)), (1, .int (nI (cntB (fun j_ => decide (aT a_ (j_ / 10) (j_ % 10) ≠ 0)) k_))), (2, .int (nI (k_)))] [] (A, S, Z, B, T, V, J, Y, P) 0 0 := by
    intro dd
    induction dd with
    | zero => intro k_  hk_ hdd; exact absurd hdd (Nat.not_lt_zero _)
    | succ dd ih4 =>
      intro k_  hk_ hdd4
      have hc_ := cntB_le (fun j_ => decide (aT a_ (j_ / 10) (j_ % 10) ≠ 0)) k_
      refine m_iload_n 2 rfl rfl dX5_toldCount_4 ?_
      refine m_aload_n 0 rfl rfl dX5_toldCount_5 ?_
      refine gf_X5_27 hi_ dX5_toldCount_6 ?_
      refine ln_13 hi_ dX5_toldCount_9 ?_
      refine m_icmpn_ge k_ 100 31 (by omega) (by decide) dX5_toldCount_10 (by decide) (fun c1_ => ?_) (fun c1_ => ?_)
      ·
        refine m_iload_n 1 rfl rfl dX5_toldCount_31 ?_
        exact m_iret dX5_toldCount_32 (Nat.le_refl _) (Nat.le_refl _) ((by obtain rfl : k_ = 100 := (by omega); exact ⟨rfl, rfl⟩))
      ·
        have hT := (ho_.2.2.2.2 (k_ / 10) (k_ % 10) (by omega) (by omega)).1
        refine m_aload_n 0 rfl rfl dX5_toldCount_13 ?_
        refine gf_X5_27 hi_ dX5_toldCount_14 ?_
        refine m_iload_n 2 rfl rfl dX5_toldCount_17 ?_
        refine al_13 hi_ k_ rfl (by omega) dX5_toldCount_18 ?_
        refine m_topi (hR.2.2.2.2 k_ (by omega)) ?_
        refine m_ifn_eq (aT a_ (k_ / 10) (k_ % 10)) 25 (by omega) dX5_toldCount_19 (by decide) (fun c2_ => ?_) (fun c2_ => ?_)
        ·
          refine m_iinc (nI (k_ + 1)) 2 [(2, .int (nI (k_ + 1))), (0, .ref (gK G 1 i_)), (1, .int (nI (cntB (fun j_ => decide (aT a_ (j_ / 10) (j_ % 10) ≠ 0)) k_)))] rfl (nI_1 _) (by decide) rfl dX5_toldCount_25 ?_
          refine m_goto 4 dX5_toldCount_28 (by decide) ?_
          refine m_lv [(0, .ref (gK G 1 i_)), (1, .int (nI (cntB (fun j_ => decide (aT a_ (j_ / 10) (j_ % 10) ≠ 0)) k_))), (2, .int (nI (k_ + 1)))] [1, 2, 0] rfl ?_
          rw [show cntB (fun j_ => decide (aT a_ (j_ / 10) (j_ % 10) ≠ 0)) k_ = cntB (fun j_ => decide (aT a_ (j_ / 10) (j_ % 10) ≠ 0)) (k_ + 1) from cntB_f (p := (fun j_ => decide (aT a_ (j_ / 10) (j_ % 10) ≠ 0))) (by grind)]
          exact ih4 (k_ + 1)  (by omega) (by omega)
        ·
          refine m_iinc (nI (cntB (fun j_ => decide (aT a_ (j_ / 10) (j_ % 10) ≠ 0)) k_ + 1)) 1 [(1, .int (nI (cntB (fun j_ => decide (aT a_ (j_ / 10) (j_ % 10) ≠ 0)) k_ + 1))), (0, .ref (gK G 1 i_)), (2, .int (nI (k_)))] rfl (nI_1 _) (by decide) rfl dX5_toldCount_22 ?_
          refine m_iinc (nI (k_ + 1)) 2 [(2, .int (nI (k_ + 1))), (1, .int (nI (cntB (fun j_ => decide (aT a_ (j_ / 10) (j_ % 10) ≠ 0)) k_ + 1))), (0, .ref (gK G 1 i_))] rfl (nI_1 _) (by decide) rfl dX5_toldCount_25 ?_
          refine m_goto 4 dX5_toldCount_28 (by decide) ?_
          refine m_lv [(0, .ref (gK G 1 i_)), (1, .int (nI (cntB (fun j_ => decide (aT a_ (j_ / 10) (j_ % 10) ≠ 0)) k_ + 1))), (2, .int (nI (k_ + 1)))] [2, 1, 0] rfl ?_
          rw [show (cntB (fun j_ => decide (aT a_ (j_ / 10) (j_ % 10) ≠ 0)) k_) + 1 = cntB (fun j_ => decide (aT a_ (j_ / 10) (j_ % 10) ≠ 0)) (k_ + 1) from cntB_t (p := (fun j_ => decide (aT a_ (j_ / 10) (j_ % 10) ≠ 0))) (by grind)]
          exact ih4 (k_ + 1)  (by omega) (by omega)
  refine m_lv [(0, .ref (gK G 1 i_)), (1, .int 0), (2, .int 0)] [2, 1, 0] rfl ?_
  exact lp4 ((100 - 0) + 1) 0  (by omega) (Nat.lt_succ_self _)
