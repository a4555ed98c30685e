set_option maxRecDepth 100000 in
set_option maxHeartbeats 4000000 in
theorem k_m_isIn (l : Launch) (G : owG) {A S Z B T V : owF} {J : Nat → Nat → Int64} {Y : Nat → Nat → Nat → Option Nat} {P : Nat → Option owW} (x_ lo hi_ : Int32) : Ct l G yX12_isIn cX12_isIn 6 ((some .boolean)) 0 0 0 [.long (x_.toInt64), .long (lo.toInt64), .long (hi_.toInt64)] (A, S, Z, B, T, V, J, Y, P) (qI (fun r_ σ => r_ = bI (inB x_ lo hi_) ∧ σ = (A, S, Z, B, T, V, J, Y, P))) := by
  refine ct_of (by decide +kernel) (Nat.le_of_ble_eq_true rfl) ?_
  show Wm l G cX12_isIn 6 RX12 ((some .boolean)) (rmk 0 0 0) (fun _ => True) (QfM G (qI (fun r_ σ => r_ = bI (inB x_ lo hi_) ∧ σ = (A, S, Z, B, T, V, J, Y, P))) 0 0) 0 [(0, .long (x_.toInt64)), (2, .long (lo.toInt64)), (4, .long (hi_.toInt64))] [] (A, S, Z, B, T, V, J, Y, P) 0 0
  refine m_lload_n 0 rfl rfl dX12_isIn_0 ?_
  refine m_lload_n 1 rfl rfl dX12_isIn_1 ?_
  refine m_lcmp dX12_isIn_2 ?_
  refine m_if_lt 17 dX12_isIn_3 (by decide) (fun c1_ => ?_) (fun c1_ => ?_)
  ·
    refine m_iconst 0 dX12_isIn_17 rfl ?_
    exact m_zret dX12_isIn_18 (Nat.le_refl _) (Nat.le_refl _) nar0 (⟨by unfold inB; simp only [lg_cmp_lt, lg_cmp_gt, Int32.toInt64_lt] at c1_; grind [bI], rfl⟩)
  ·
    refine m_lload_n 0 rfl rfl dX12_isIn_6 ?_
    refine m_lload 2 rfl dX12_isIn_7 ?_
    refine m_lcmp dX12_isIn_9 ?_
    refine m_if_gt 17 dX12_isIn_10 (by decide) (fun c2_ => ?_) (fun c2_ => ?_)
    ·
      refine m_iconst 0 dX12_isIn_17 rfl ?_
      exact m_zret dX12_isIn_18 (Nat.le_refl _) (Nat.le_refl _) nar0 (⟨by unfold inB; simp only [lg_cmp_lt, lg_cmp_gt, Int32.toInt64_lt] at c1_ c2_; grind [bI], rfl⟩)
    ·
      refine m_iconst 1 dX12_isIn_13 rfl ?_
      refine m_goto 18 dX12_isIn_14 (by decide) ?_
      exact m_zret dX12_isIn_18 (Nat.le_refl _) (Nat.le_refl _) nar1 (⟨by unfold inB; simp only [lg_cmp_lt, lg_cmp_gt, Int32.toInt64_lt] at c1_ c2_; grind [bI], rfl⟩)
set_option maxRecDepth 100000 in
set_option maxHeartbeats 4000000 in
theorem k_m_isWay (l : Launch) (G : owG) {A S Z B T V : owF} {J : Nat → Nat → Int64} {Y : Nat → Nat → Nat → Option Nat} {P : Nat → Option owW} (a_ : owK) (ho_ : aOk a_) (im : Option owK) (h_ : owH) (hM : MR B a_ im h_) (x_ : Int32) : Ct l G yX12_isWay cX12_isWay 2 ((some .boolean)) 1 0 0 [.ref (gK G 4 0), .int x_] (A, S, Z, B, T, V, J, Y, P) (qI (fun r_ σ => r_ = bI (isW a_ x_) ∧ σ = (A, S, Z, B, T, V, J, Y, P))) := by
  refine ct_of (by decide +kernel) (Nat.le_of_ble_eq_true rfl) ?_
  have h10 := ho_.1
  have h8_ := ho_.2.1
  have hX := hM.1
  show Wm l G cX12_isWay 2 RX12 ((some .boolean)) (rmk 1 0 0) (fun _ => True) (QfM G (qI (fun r_ σ => r_ = bI (isW a_ x_) ∧ σ = (A, S, Z, B, T, V, J, Y, P))) 0 0) 0 [(0, .ref (gK G 4 0)), (1, .int x_)] [] (A, S, Z, B, T, V, J, Y, P) 0 0
  refine m_iload_n 1 rfl rfl dX12_isWay_0 ?_
  refine m_i2l dX12_isWay_1 ?_
  refine m_lconst 0 dX12_isWay_2 rfl ?_
  refine m_topl (show (0 : Int64) = (0 : Int32).toInt64 by decide) ?_
  refine m_aload_n 0 rfl rfl dX12_isWay_3 ?_
  refine gf_X12_9 dX12_isWay_4 ?_
  refine m_iconst 0 dX12_isWay_7 rfl ?_
  refine al_40 0 rfl (by omega) dX12_isWay_8 ?_
  refine m_topi hX.1 ?_
  refine m_iconst 1 dX12_isWay_9 rfl ?_
  refine m_isub dX12_isWay_10 ?_
  refine m_i2l dX12_isWay_11 ?_
  refine m_callSi cs_X12_62 [.long (x_.toInt64), .long ((0 : Int32).toInt64), .long (((nI (aN a_)) - 1).toInt64)] [] (k_m_isIn l G x_ 0 ((nI (aN a_)) - 1)) rfl rfl ⟨Nat.le_of_ble_eq_true rfl, Nat.le_of_ble_eq_true rfl⟩ (Nat.le_of_ble_eq_true rfl) ⟨Nat.zero_le _, Nat.zero_le _⟩ dX12_isWay_12 (fun xx σ2 hq => ?_)
  obtain ⟨hgx, rfl⟩ := hq
  obtain rfl := hgx.trans (congrArg bI (inB_W ho_))
  exact m_zret dX12_isWay_15 (Nat.le_refl _) (Nat.le_refl _) (bI_nar _) (⟨rfl, rfl⟩)
set_option maxRecDepth 100000 in
set_option maxHeartbeats 4000000 in
theorem k_m_isChild (l : Launch) (G : owG) {A S Z B T V : owF} {J : Nat → Nat → Int64} {Y : Nat → Nat → Nat → Option Nat} {P : Nat → Option owW} (a_ : owK) (ho_ : aOk a_) (im : Option owK) (h_ : owH) (hM : MR B a_ im h_) (x_ : Int32) : Ct l G yX12_isChild cX12_isChild 2 ((some .boolean)) 1 0 0 [.ref (gK G 4 0), .int x_] (A, S, Z, B, T, V, J, Y, P) (qI (fun r_ σ => r_ = bI (isC a_ x_) ∧ σ = (A, S, Z, B, T, V, J, Y, P))) := by
  refine ct_of (by decide +kernel) (Nat.le_of_ble_eq_true rfl) ?_
  have h10 := ho_.1
  have h8_ := ho_.2.1
  have hX := hM.1
  show Wm l G cX12_isChild 2 RX12 ((some .boolean)) (rmk 1 0 0) (fun _ => True) (QfM G (qI (fun r_ σ => r_ = bI (isC a_ x_) ∧ σ = (A, S, Z, B, T, V, J, Y, P))) 0 0) 0 [(0, .ref (gK G 4 0)), (1, .int x_)] [] (A, S, Z, B, T, V, J, Y, P) 0 0
  refine m_iload_n 1 rfl rfl dX12_isChild_0 ?_
  refine m_i2l dX12_isChild_1 ?_
  refine m_lconst 0 dX12_isChild_2 rfl ?_
  refine m_topl (show (0 : Int64) = (0 : Int32).toInt64 by decide) ?_
  refine m_aload_n 0 rfl rfl dX12_isChild_3 ?_
  refine gf_X12_9 dX12_isChild_4 ?_
  refine m_iconst 1 dX12_isChild_7 rfl ?_
  refine al_40 1 rfl (by omega) dX12_isChild_8 ?_
  refine m_topi hX.2.1 ?_
  refine m_iconst 1 dX12_isChild_9 rfl ?_
  refine m_isub dX12_isChild_10 ?_
  refine m_i2l dX12_isChild_11 ?_
  refine m_callSi cs_X12_62 [.long (x_.toInt64), .long ((0 : Int32).toInt64), .long (((nI (aC a_)) - 1).toInt64)] [] (k_m_isIn l G x_ 0 ((nI (aC a_)) - 1)) rfl rfl ⟨Nat.le_of_ble_eq_true rfl, Nat.le_of_ble_eq_true rfl⟩ (Nat.le_of_ble_eq_true rfl) ⟨Nat.zero_le _, Nat.zero_le _⟩ dX12_isChild_12 (fun xx σ2 hq => ?_)
  obtain ⟨hgx, rfl⟩ := hq
  obtain rfl := hgx.trans (congrArg bI (inB_C ho_))
  exact m_zret dX12_isChild_15 (Nat.le_refl _) (Nat.le_refl _) (bI_nar _) (⟨rfl, rfl⟩)
set_option maxRecDepth 100000 in
set_option maxHeartbeats 4000000 in
theorem k_m_isShelf (l : Launch) (G : owG) {A S Z B T V : owF} {J : Nat → Nat → Int64} {Y : Nat → Nat → Nat → Option Nat} {P : Nat → Option owW} (x_ : Int32) : Ct l G yX12_isShelf cX12_isShelf 1 ((some .boolean)) 1 0 0 [.int x_] (A, S, Z, B, T, V, J, Y, P) (qI (fun r_ σ => r_ = bI (isD x_) ∧ σ = (A, S, Z, B, T, V, J, Y, P))) := by
  refine ct_of (by decide +kernel) (Nat.le_of_ble_eq_true rfl) ?_
  show Wm l G cX12_isShelf 1 RX12 ((some .boolean)) (rmk 1 0 0) (fun _ => True) (QfM G (qI (fun r_ σ => r_ = bI (isD x_) ∧ σ = (A, S, Z, B, T, V, J, Y, P))) 0 0) 0 [(0, .int x_)] [] (A, S, Z, B, T, V, J, Y, P) 0 0
  refine m_iload_n 0 rfl rfl dX12_isShelf_0 ?_
  refine m_i2l dX12_isShelf_1 ?_
  refine m_lconst 0 dX12_isShelf_2 rfl ?_
  refine m_topl (show (0 : Int64) = (0 : Int32).toInt64 by decide) ?_
  refine m_ldc2 7 tw_1122 dX12_isShelf_3 ?_
  refine m_topl (show (7 : Int64) = (7 : Int32).toInt64 by decide) ?_
  refine m_callSi cs_X12_62 [.long (x_.toInt64), .long ((0 : Int32).toInt64), .long ((7 : Int32).toInt64)] [] (k_m_isIn l G x_ 0 7) rfl rfl ⟨Nat.le_of_ble_eq_true rfl, Nat.le_of_ble_eq_true rfl⟩ (Nat.le_of_ble_eq_true rfl) ⟨Nat.zero_le _, Nat.zero_le _⟩ dX12_isShelf_6 (fun xx σ2 hq => ?_)
  obtain ⟨hgx, rfl⟩ := hq
  obtain rfl := hgx.trans (congrArg bI (inB_D))
  exact m_zret dX12_isShelf_9 (Nat.le_refl _) (Nat.le_refl _) (bI_nar _) (⟨rfl, rfl⟩)
set_option maxRecDepth 100000 in
set_option maxHeartbeats 4000000 in
theorem k_m_isSum (l : Launch) (G : owG) {A S Z B T V : owF} {J : Nat → Nat → Int64} {Y : Nat → Nat → Nat → Option Nat} {P : Nat → Option owW} (x_ y_ : Int32) : Ct l G yX12_isSum cX12_isSum 2 ((some .boolean)) 1 0 0 [.int x_, .int y_] (A, S, Z, B, T, V, J, Y, P) (qI (fun r_ σ => r_ = bI (isSumB x_ y_) ∧ σ = (A, S, Z, B, T, V, J, Y, P))) := by
  refine ct_of (by decide +kernel) (Nat.le_of_ble_eq_true rfl) ?_
  show Wm l G cX12_isSum 2 RX12 ((some .boolean)) (rmk 1 0 0) (fun _ => True) (QfM G (qI (fun r_ σ => r_ = bI (isSumB x_ y_) ∧ σ = (A, S, Z, B, T, V, J, Y, P))) 0 0) 0 [(0, .int x_), (1, .int y_)] [] (A, S, Z, B, T, V, J, Y, P) 0 0
  refine m_iload_n 0 rfl rfl dX12_isSum_0 ?_
  refine m_i2l dX12_isSum_1 ?_
  refine m_lconst 0 dX12_isSum_2 rfl ?_
  refine m_topl (show (0 : Int64) = (0 : Int32).toInt64 by decide) ?_
  refine m_ldc2 9999 tw_1201 dX12_isSum_3 ?_
  refine m_topl (show (9999 : Int64) = (9999 : Int32).toInt64 by decide) ?_
  refine m_callSi cs_X12_62 [.long (x_.toInt64), .long ((0 : Int32).toInt64), .long ((9999 : Int32).toInt64)] [] (k_m_isIn l G x_ 0 9999) rfl rfl ⟨Nat.le_of_ble_eq_true rfl, Nat.le_of_ble_eq_true rfl⟩ (Nat.le_of_ble_eq_true rfl) ⟨Nat.zero_le _, Nat.zero_le _⟩ dX12_isSum_6 (fun xx σ2 hq => ?_)
  obtain ⟨rfl, rfl⟩ := hq
  refine m_ifeq_b 27 dX12_isSum_9 (by decide) (fun c1_ => ?_) (fun c1_ => ?_)
  ·
    refine m_iconst 0 dX12_isSum_27 rfl ?_
    exact m_zret dX12_isSum_28 (Nat.le_refl _) (Nat.le_refl _) nar0 (⟨by rw [← inB_S]; simp [c1_, bI], rfl⟩)
  ·
    refine m_iload_n 1 rfl rfl dX12_isSum_12 ?_
    refine m_i2l dX12_isSum_13 ?_
    refine m_lconst 0 dX12_isSum_14 rfl ?_
    refine m_topl (show (0 : Int64) = (0 : Int32).toInt64 by decide) ?_
    refine m_iload_n 0 rfl rfl dX12_isSum_15 ?_
    refine m_i2l dX12_isSum_16 ?_
    refine m_callSi cs_X12_62 [.long (y_.toInt64), .long ((0 : Int32).toInt64), .long (x_.toInt64)] [] (k_m_isIn l G y_ 0 x_) rfl rfl ⟨Nat.le_of_ble_eq_true rfl, Nat.le_of_ble_eq_true rfl⟩ (Nat.le_of_ble_eq_true rfl) ⟨Nat.zero_le _, Nat.zero_le _⟩ dX12_isSum_17 (fun xx σ2 hq => ?_)
    obtain ⟨rfl, rfl⟩ := hq
    refine m_ifeq_b 27 dX12_isSum_20 (by decide) (fun c2_ => ?_) (fun c2_ => ?_)
    ·
      refine m_iconst 0 dX12_isSum_27 rfl ?_
      exact m_zret dX12_isSum_28 (Nat.le_refl _) (Nat.le_refl _) nar0 (⟨by rw [← inB_S]; simp [c1_, c2_, bI], rfl⟩)
    ·
      refine m_iconst 1 dX12_isSum_23 rfl ?_
      refine m_goto 28 dX12_isSum_24 (by decide) ?_
      exact m_zret dX12_isSum_28 (Nat.le_refl _) (Nat.le_refl _) nar1 (⟨by rw [← inB_S]; simp [c1_, c2_, bI], rfl⟩)
set_option maxRecDepth 100000 in
set_option maxHeartbeats 4000000 in
theorem k_m_areWays (l : Launch) (G : owG) {A S Z B T V : owF} {J : Nat → Nat → Int64} {Y : Nat → Nat → Nat → Option Nat} {P : Nat → Option owW} (a_ : owK) (ho_ : aOk a_) (im : Option owK) (h_ : owH) (hM : MR B a_ im h_) (x_ : Int32) : Ct l G yX12_areWays cX12_areWays 2 ((some .boolean)) 1 0 0 [.ref (gK G 4 0), .int x_] (A, S, Z, B, T, V, J, Y, P) (qI (fun r_ σ => r_ = bI (areW a_ x_) ∧ σ = (A, S, Z, B, T, V, J, Y, P))) := by
  refine ct_of (by decide +kernel) (Nat.le_of_ble_eq_true rfl) ?_
  have h10 := ho_.1
  have h8_ := ho_.2.1
  have hX := hM.1
  show Wm l G cX12_areWays 2 RX12 ((some .boolean)) (rmk 1 0 0) (fun _ => True) (QfM G (qI (fun r_ σ => r_ = bI (areW a_ x_) ∧ σ = (A, S, Z, B, T, V, J, Y, P))) 0 0) 0 [(0, .ref (gK G 4 0)), (1, .int x_)] [] (A, S, Z, B, T, V, J, Y, P) 0 0
  refine m_iload_n 1 rfl rfl dX12_areWays_0 ?_
  refine m_i2l dX12_areWays_1 ?_
  refine m_lconst 0 dX12_areWays_2 rfl ?_
  refine m_topl (show (0 : Int64) = (0 : Int32).toInt64 by decide) ?_
  refine m_iconst 1 dX12_areWays_3 rfl ?_
  refine m_aload_n 0 rfl rfl dX12_areWays_4 ?_
  refine gf_X12_9 dX12_areWays_5 ?_
  refine m_iconst 0 dX12_areWays_8 rfl ?_
  refine al_40 0 rfl (by omega) dX12_areWays_9 ?_
  refine m_topi hX.1 ?_
  refine m_ishl dX12_areWays_10 ?_
  refine m_iconst 1 dX12_areWays_11 rfl ?_
  refine m_isub dX12_areWays_12 ?_
  refine m_i2l dX12_areWays_13 ?_
  refine m_callSi cs_X12_62 [.long (x_.toInt64), .long ((0 : Int32).toInt64), .long (((1 <<< ((nI (aN a_)) &&& 31)) - 1).toInt64)] [] (k_m_isIn l G x_ 0 ((1 <<< ((nI (aN a_)) &&& 31)) - 1)) rfl rfl ⟨Nat.le_of_ble_eq_true rfl, Nat.le_of_ble_eq_true rfl⟩ (Nat.le_of_ble_eq_true rfl) ⟨Nat.zero_le _, Nat.zero_le _⟩ dX12_areWays_14 (fun xx σ2 hq => ?_)
  obtain ⟨hgx, rfl⟩ := hq
  obtain rfl := hgx.trans (congrArg bI (areW_in ho_))
  exact m_zret dX12_areWays_17 (Nat.le_refl _) (Nat.le_refl _) (bI_nar _) (⟨rfl, rfl⟩)
set_option maxRecDepth 100000 in
set_option maxHeartbeats 4000000 in
theorem k_m_thrown (l : Launch) (G : owG) {A S Z B T V : owF} {J : Nat → Nat → Int64} {Y : Nat → Nat → Nat → Option Nat} {P : Nat → Option owW}  : Ct l G yX12_thrown cX12_thrown 1 ((some .int)) 0 0 0 [.ref (gK G 4 0)] (A, S, Z, B, T, V, J, Y, P) (qI (fun r_ σ => r_ = T 4 0 10 ∧ σ = (A, S, Z, B, T, V, J, Y, P))) := by
  refine ct_of (by decide +kernel) (Nat.le_of_ble_eq_true rfl) ?_
  show Wm l G cX12_thrown 1 RX12 ((some .int)) (rmk 0 0 0) (fun _ => True) (QfM G (qI (fun r_ σ => r_ = T 4 0 10 ∧ σ = (A, S, Z, B, T, V, J, Y, P))) 0 0) 0 [(0, .ref (gK G 4 0))] [] (A, S, Z, B, T, V, J, Y, P) 0 0
  refine m_aload_n 0 rfl rfl dX12_thrown_0 ?_
  refine gf_X12_58 dX12_thrown_1 ?_
  exact m_iret dX12_thrown_4 (Nat.le_refl _) (Nat.le_refl _) (⟨rfl, rfl⟩)
set_option maxRecDepth 100000 in
set_option maxHeartbeats 4000000 in
theorem k_m_get (l : Launch) (G : owG) {A S Z B T V : owF} {J : Nat → Nat → Int64} {Y : Nat → Nat → Nat → Option Nat} {P : Nat → Option owW} (a_ : owK) (ho_ : aOk a_) (im : Option owK) (h_ : owH) (hM : MR B a_ im h_) (w_ : Nat) (hw_ : w_ < aN a_) (k_ : Nat) (hk_ : k_ < 3) : Ct l G yX12_get cX12_get 3 ((some .int)) 0 0 0 [.ref (gK G 4 0), .int (nI (w_)), .int (nI (k_))] (A, S, Z, B, T, V, J, Y, P) (qI (fun r_ σ => r_ = nI (mG a_ w_ k_) ∧ σ = (A, S, Z, B, T, V, J, Y, P))) := by
  refine ct_of (by decide +kernel) (Nat.le_of_ble_eq_true rfl) ?_
  have h10 := ho_.1
  have h8_ := ho_.2.1
  have hX := hM.1
  show Wm l G cX12_get 3 RX12 ((some .int)) (rmk 0 0 0) (fun _ => True) (QfM G (qI (fun r_ σ => r_ = nI (mG a_ w_ k_) ∧ σ = (A, S, Z, B, T, V, J, Y, P))) 0 0) 0 [(0, .ref (gK G 4 0)), (1, .int (nI (w_))), (2, .int (nI (k_)))] [] (A, S, Z, B, T, V, J, Y, P) 0 0
  refine m_aload_n 0 rfl rfl dX12_get_0 ?_
  refine gf_X12_9 dX12_get_1 ?_
  refine m_iconst 2 dX12_get_4 rfl ?_
  refine m_iconst 3 dX12_get_5 rfl ?_
  refine m_iload_n 1 rfl rfl dX12_get_6 ?_
  refine m_imul dX12_get_7 ?_
  refine m_topi (show 3 * (nI (w_)) = nI (3 * w_) from pk_mul _ _) ?_
  refine m_iadd dX12_get_8 ?_
  refine m_topi (show 2 + (nI (3 * w_)) = nI (2 + (3 * w_)) from nI_add _ _) ?_
  refine m_iload_n 2 rfl rfl dX12_get_9 ?_
  refine m_iadd dX12_get_10 ?_
  refine m_topi (show (nI (2 + (3 * w_))) + (nI (k_)) = nI ((2 + (3 * w_)) + k_) from nI_add _ _) ?_
  refine al_40 ((2 + (3 * w_)) + k_) rfl (by omega) dX12_get_11 ?_
  refine m_topi (hX.2.2.1 w_ hw_ k_ hk_) ?_
  exact m_iret dX12_get_12 (Nat.le_refl _) (Nat.le_refl _) (⟨rfl, rfl⟩)
set_option maxRecDepth 100000 in
set_option maxHeartbeats 4000000 in
theorem k_m_of (l : Launch) (G : owG) {A S Z B T V : owF} {J : Nat → Nat → Int64} {Y : Nat → Nat → Nat → Option Nat} {P : Nat → Option owW} (a_ : owK) (ho_ : aOk a_) (im : Option owK) (h_ : owH) (hM : MR B a_ im h_) (c_ : Nat) (hc_ : c_ < aC a_) (k_ : Nat) (hk_ : k_ < 3) : Ct l G yX12_of cX12_of 3 ((some .int)) 0 0 0 [.ref (gK G 4 0), .int (nI (c_)), .int (nI (k_))] (A, S, Z, B, T, V, J, Y, P) (qI (fun r_ σ => r_ = nI (mO a_ c_ k_) ∧ σ = (A, S, Z, B, T, V, J, Y, P))) := by
  refine ct_of (by decide +kernel) (Nat.le_of_ble_eq_true rfl) ?_
  have h10 := ho_.1
  have h8_ := ho_.2.1
  have hX := hM.1
  show Wm l G cX12_of 3 RX12 ((some .int)) (rmk 0 0 0) (fun _ => True) (QfM G (qI (fun r_ σ => r_ = nI (mO a_ c_ k_) ∧ σ = (A, S, Z, B, T, V, J, Y, P))) 0 0) 0 [(0, .ref (gK G 4 0)), (1, .int (nI (c_))), (2, .int (nI (k_)))] [] (A, S, Z, B, T, V, J, Y, P) 0 0
  refine m_aload_n 0 rfl rfl dX12_of_0 ?_
  refine gf_X12_9 dX12_of_1 ?_
  refine m_bipush (32) dX12_of_4 rfl ?_
  refine m_iconst 3 dX12_of_6 rfl ?_
  refine m_iload_n 1 rfl rfl dX12_of_7 ?_
  refine m_imul dX12_of_8 ?_
  refine m_topi (show 3 * (nI (c_)) = nI (3 * c_) from pk_mul _ _) ?_
  refine m_iadd dX12_of_9 ?_
  refine m_topi (show 32 + (nI (3 * c_)) = nI (32 + (3 * c_)) from nI_add _ _) ?_
  refine m_iload_n 2 rfl rfl dX12_of_10 ?_
  refine m_iadd dX12_of_11 ?_
  refine m_topi (show (nI (32 + (3 * c_))) + (nI (k_)) = nI ((32 + (3 * c_)) + k_) from nI_add _ _) ?_
  refine al_40 ((32 + (3 * c_)) + k_) rfl (by omega) dX12_of_12 ?_
  refine m_topi (hX.2.2.2.1 c_ hc_ k_ hk_) ?_
  exact m_iret dX12_of_13 (Nat.le_refl _) (Nat.le_refl _) (⟨rfl, rfl⟩)
set_option maxRecDepth 100000 in
set_option maxHeartbeats 4000000 in
theorem k_m_costBy_0 (l : Launch) (G : owG) {A S Z B T V : owF} {J : Nat → Nat → Int64} {Y : Nat → Nat → Nat → Option Nat} {P : Nat → Option owW} (fg_ : Nat) (hf : fg_ ≤ 9) : Ct l G yX12_costBy cX12_costBy 2 ((some .int)) 0 0 0 [.int 0, .int (nI (fg_))] (A, S, Z, B, T, V, J, Y, P) (qI (fun r_ σ => r_ = nI (costW 0 fg_) ∧ σ = (A, S, Z, B, T, V, J, Y, P))) := by
  refine ct_of (by decide +kernel) (Nat.le_of_ble_eq_true rfl) ?_
  show Wm l G cX12_costBy 2 RX12 ((some .int)) (rmk 0 0 0) (fun _ => True) (QfM G (qI (fun r_ σ => r_ = nI (costW 0 fg_) ∧ σ = (A, S, Z, B, T, V, J, Y, P))) 0 0) 0 [(0, .int 0), (1, .int (nI (fg_)))] [] (A, S, Z, B, T, V, J, Y, P) 0 0
  refine m_iload_n 0 rfl rfl dX12_costBy_0 ?_
  refine m_tableOut 67 dX12_costBy_1 (by decide) (by decide) ?_
  refine m_iconst 0 dX12_costBy_67 rfl ?_
  exact m_iret dX12_costBy_68 (Nat.le_refl _) (Nat.le_refl _) (⟨rfl, rfl⟩)
set_option maxRecDepth 100000 in
set_option maxHeartbeats 4000000 in
theorem k_m_costBy_1 (l : Launch) (G : owG) {A S Z B T V : owF} {J : Nat → Nat → Int64} {Y : Nat → Nat → Nat → Option Nat} {P : Nat → Option owW} (fg_ : Nat) (hf : fg_ ≤ 9) : Ct l G yX12_costBy cX12_costBy 2 ((some .int)) 0 0 0 [.int 1, .int (nI (fg_))] (A, S, Z, B, T, V, J, Y, P) (qI (fun r_ σ => r_ = nI (costW 1 fg_) ∧ σ = (A, S, Z, B, T, V, J, Y, P))) := by
  refine ct_of (by decide +kernel) (Nat.le_of_ble_eq_true rfl) ?_
  show Wm l G cX12_costBy 2 RX12 ((some .int)) (rmk 0 0 0) (fun _ => True) (QfM G (qI (fun r_ σ => r_ = nI (costW 1 fg_) ∧ σ = (A, S, Z, B, T, V, J, Y, P))) 0 0) 0 [(0, .int 1), (1, .int (nI (fg_)))] [] (A, S, Z, B, T, V, J, Y, P) 0 0
  refine m_iload_n 0 rfl rfl dX12_costBy_0 ?_
  refine m_tableIn 44 dX12_costBy_1 (by decide) (by decide) (by rfl) (by decide) ?_
  refine m_bipush (8) dX12_costBy_44 rfl ?_
  exact m_iret dX12_costBy_46 (Nat.le_refl _) (Nat.le_refl _) (⟨rfl, rfl⟩)
set_option maxRecDepth 100000 in
set_option maxHeartbeats 4000000 in
theorem k_m_costBy_2 (l : Launch) (G : owG) {A S Z B T V : owF} {J : Nat → Nat → Int64} {Y : Nat → Nat → Nat → Option Nat} {P : Nat → Option owW} (fg_ : Nat) (hf : fg_ ≤ 9) : Ct l G yX12_costBy cX12_costBy 2 ((some .int)) 0 0 0 [.int 2, .int (nI (fg_))] (A, S, Z, B, T, V, J, Y, P) (qI (fun r_ σ => r_ = nI (costW 2 fg_) ∧ σ = (A, S, Z, B, T, V, J, Y, P))) := by
  refine ct_of (by decide +kernel) (Nat.le_of_ble_eq_true rfl) ?_
  show Wm l G cX12_costBy 2 RX12 ((some .int)) (rmk 0 0 0) (fun _ => True) (QfM G (qI (fun r_ σ => r_ = nI (costW 2 fg_) ∧ σ = (A, S, Z, B, T, V, J, Y, P))) 0 0) 0 [(0, .int 2), (1, .int (nI (fg_)))] [] (A, S, Z, B, T, V, J, Y, P) 0 0
  refine m_iload_n 0 rfl rfl dX12_costBy_0 ?_
  refine m_tableIn 47 dX12_costBy_1 (by decide) (by decide) (by rfl) (by decide) ?_
  refine m_iconst 5 dX12_costBy_47 rfl ?_
  exact m_iret dX12_costBy_48 (Nat.le_refl _) (Nat.le_refl _) (⟨rfl, rfl⟩)
set_option maxRecDepth 100000 in
set_option maxHeartbeats 4000000 in
theorem k_m_costBy_3 (l : Launch) (G : owG) {A S Z B T V : owF} {J : Nat → Nat → Int64} {Y : Nat → Nat → Nat → Option Nat} {P : Nat → Option owW} (fg_ : Nat) (hf : fg_ ≤ 9) : Ct l G yX12_costBy cX12_costBy 2 ((some .int)) 0 0 0 [.int 3, .int (nI (fg_))] (A, S, Z, B, T, V, J, Y, P) (qI (fun r_ σ => r_ = nI (costW 3 fg_) ∧ σ = (A, S, Z, B, T, V, J, Y, P))) := by
  refine ct_of (by decide +kernel) (Nat.le_of_ble_eq_true rfl) ?_
  show Wm l G cX12_costBy 2 RX12 ((some .int)) (rmk 0 0 0) (fun _ => True) (QfM G (qI (fun r_ σ => r_ = nI (costW 3 fg_) ∧ σ = (A, S, Z, B, T, V, J, Y, P))) 0 0) 0 [(0, .int 3), (1, .int (nI (fg_)))] [] (A, S, Z, B, T, V, J, Y, P) 0 0
  refine m_iload_n 0 rfl rfl dX12_costBy_0 ?_
  refine m_tableIn 49 dX12_costBy_1 (by decide) (by decide) (by rfl) (by decide) ?_
  refine m_iload_n 1 rfl rfl dX12_costBy_49 ?_
  exact m_iret dX12_costBy_50 (Nat.le_refl _) (Nat.le_refl _) (⟨rfl, rfl⟩)
set_option maxRecDepth 100000 in
set_option maxHeartbeats 4000000 in
theorem k_m_costBy_4 (l : Launch) (G : owG) {A S Z B T V : owF} {J : Nat → Nat → Int64} {Y : Nat → Nat → Nat → Option Nat} {P : Nat → Option owW} (fg_ : Nat) (hf : fg_ ≤ 9) : Ct l G yX12_costBy cX12_costBy 2 ((some .int)) 0 0 0 [.int 4, .int (nI (fg_))] (A, S, Z, B, T, V, J, Y, P) (qI (fun r_ σ => r_ = nI (costW 4 fg_) ∧ σ = (A, S, Z, B, T, V, J, Y, P))) := by
  refine ct_of (by decide +kernel) (Nat.le_of_ble_eq_true rfl) ?_
  show Wm l G cX12_costBy 2 RX12 ((some .int)) (rmk 0 0 0) (fun _ => True) (QfM G (qI (fun r_ σ => r_ = nI (costW 4 fg_) ∧ σ = (A, S, Z, B, T, V, J, Y, P))) 0 0) 0 [(0, .int 4), (1, .int (nI (fg_)))] [] (A, S, Z, B, T, V, J, Y, P) 0 0
  refine m_iload_n 0 rfl rfl dX12_costBy_0 ?_
  refine m_tableIn 51 dX12_costBy_1 (by decide) (by decide) (by rfl) (by decide) ?_
  refine m_bipush (12) dX12_costBy_51 rfl ?_
  exact m_iret dX12_costBy_53 (Nat.le_refl _) (Nat.le_refl _) (⟨rfl, rfl⟩)
set_option maxRecDepth 100000 in
set_option maxHeartbeats 4000000 in
theorem k_m_costBy_5 (l : Launch) (G : owG) {A S Z B T V : owF} {J : Nat → Nat → Int64} {Y : Nat → Nat → Nat → Option Nat} {P : Nat → Option owW} (fg_ : Nat) (hf : fg_ ≤ 9) : Ct l G yX12_costBy cX12_costBy 2 ((some .int)) 0 0 0 [.int 5, .int (nI (fg_))] (A, S, Z, B, T, V, J, Y, P) (qI (fun r_ σ => r_ = nI (costW 5 fg_) ∧ σ = (A, S, Z, B, T, V, J, Y, P))) := by
  refine ct_of (by decide +kernel) (Nat.le_of_ble_eq_true rfl) ?_
  show Wm l G cX12_costBy 2 RX12 ((some .int)) (rmk 0 0 0) (fun _ => True) (QfM G (qI (fun r_ σ => r_ = nI (costW 5 fg_) ∧ σ = (A, S, Z, B, T, V, J, Y, P))) 0 0) 0 [(0, .int 5), (1, .int (nI (fg_)))] [] (A, S, Z, B, T, V, J, Y, P) 0 0
  refine m_iload_n 0 rfl rfl dX12_costBy_0 ?_
  refine m_tableIn 54 dX12_costBy_1 (by decide) (by decide) (by rfl) (by decide) ?_
  refine m_iconst 4 dX12_costBy_54 rfl ?_
  exact m_iret dX12_costBy_55 (Nat.le_refl _) (Nat.le_refl _) (⟨rfl, rfl⟩)
set_option maxRecDepth 100000 in
set_option maxHeartbeats 4000000 in
theorem k_m_costBy_6 (l : Launch) (G : owG) {A S Z B T V : owF} {J : Nat → Nat → Int64} {Y : Nat → Nat → Nat → Option Nat} {P : Nat → Option owW} (fg_ : Nat) (hf : fg_ ≤ 9) : Ct l G yX12_costBy cX12_costBy 2 ((some .int)) 0 0 0 [.int 6, .int (nI (fg_))] (A, S, Z, B, T, V, J, Y, P) (qI (fun r_ σ => r_ = nI (costW 6 fg_) ∧ σ = (A, S, Z, B, T, V, J, Y, P))) := by
  refine ct_of (by decide +kernel) (Nat.le_of_ble_eq_true rfl) ?_
  show Wm l G cX12_costBy 2 RX12 ((some .int)) (rmk 0 0 0) (fun _ => True) (QfM G (qI (fun r_ σ => r_ = nI (costW 6 fg_) ∧ σ = (A, S, Z, B, T, V, J, Y, P))) 0 0) 0 [(0, .int 6), (1, .int (nI (fg_)))] [] (A, S, Z, B, T, V, J, Y, P) 0 0
  refine m_iload_n 0 rfl rfl dX12_costBy_0 ?_
  refine m_tableIn 56 dX12_costBy_1 (by decide) (by decide) (by rfl) (by decide) ?_
  refine m_bipush (12) dX12_costBy_56 rfl ?_
  refine m_iload_n 1 rfl rfl dX12_costBy_58 ?_
  refine m_iadd dX12_costBy_59 ?_
  refine m_topi (show 12 + (nI (fg_)) = nI (12 + fg_) from nI_add _ _) ?_
  exact m_iret dX12_costBy_60 (Nat.le_refl _) (Nat.le_refl _) (⟨rfl, rfl⟩)
set_option maxRecDepth 100000 in
set_option maxHeartbeats 4000000 in
theorem k_m_costBy_7 (l : Launch) (G : owG) {A S Z B T V : owF} {J : Nat → Nat → Int64} {Y : Nat → Nat → Nat → Option Nat} {P : Nat → Option owW} (fg_ : Nat) (hf : fg_ ≤ 9) : Ct l G yX12_costBy cX12_costBy 2 ((some .int)) 0 0 0 [.int 7, .int (nI (fg_))] (A, S, Z, B, T, V, J, Y, P) (qI (fun r_ σ => r_ = nI (costW 7 fg_) ∧ σ = (A, S, Z, B, T, V, J, Y, P))) := by
  refine ct_of (by decide +kernel) (Nat.le_of_ble_eq_true rfl) ?_
  show Wm l G cX12_costBy 2 RX12 ((some .int)) (rmk 0 0 0) (fun _ => True) (QfM G (qI (fun r_ σ => r_ = nI (costW 7 fg_) ∧ σ = (A, S, Z, B, T, V, J, Y, P))) 0 0) 0 [(0, .int 7), (1, .int (nI (fg_)))] [] (A, S, Z, B, T, V, J, Y, P) 0 0
  refine m_iload_n 0 rfl rfl dX12_costBy_0 ?_
  refine m_tableIn 61 dX12_costBy_1 (by decide) (by decide) (by rfl) (by decide) ?_
  refine m_iconst 2 dX12_costBy_61 rfl ?_
  refine m_iload_n 1 rfl rfl dX12_costBy_62 ?_
  refine m_imul dX12_costBy_63 ?_
  refine m_topi (show 2 * (nI (fg_)) = nI (2 * fg_) from pk_mul _ _) ?_
  refine m_iconst 1 dX12_costBy_64 rfl ?_
  refine m_iadd dX12_costBy_65 ?_
  refine m_topi (show (nI (2 * fg_)) + 1 = nI ((2 * fg_) + 1) from nI_add _ _) ?_
  exact m_iret dX12_costBy_66 (Nat.le_refl _) (Nat.le_refl _) (⟨rfl, rfl⟩)
theorem k_m_costBy (l : Launch) (G : owG) {A S Z B T V : owF} {J : Nat → Nat → Int64} {Y : Nat → Nat → Nat → Option Nat} {P : Nat → Option owW} (kd_ fg_ : Nat) (hk_ : kd_ < 8) (hf : fg_ ≤ 9) : Ct l G yX12_costBy cX12_costBy 2 (some .int) 0 0 0 [.int (nI kd_), .int (nI fg_)] (A, S, Z, B, T, V, J, Y, P) (qI (fun r_ σ => r_ = nI (costW kd_ fg_) ∧ σ = (A, S, Z, B, T, V, J, Y, P))) := by
  match kd_, hk_ with
  | 0, _ => exact k_m_costBy_0 l G fg_ hf
  | 1, _ => exact k_m_costBy_1 l G fg_ hf
  | 2, _ => exact k_m_costBy_2 l G fg_ hf
  | 3, _ => exact k_m_costBy_3 l G fg_ hf
  | 4, _ => exact k_m_costBy_4 l G fg_ hf
  | 5, _ => exact k_m_costBy_5 l G fg_ hf
  | 6, _ => exact k_m_costBy_6 l G fg_ hf
  | 7, _ => exact k_m_costBy_7 l G fg_ hf
set_option maxRecDepth 100000 in
set_option maxHeartbeats 4000000 in
theorem k_m_saidOf (l : Launch) (G : owG) {A S Z B T V : owF} {J : Nat → Nat → Int64} {Y : Nat → Nat → Nat → Option Nat} {P : Nat → Option owW} (a_ : owK) (ho_ : aOk a_) (im : Option owK) (h_ : owH) (hM : MR B a_ im h_) (k_ : Nat) (hk_ : k_ < 10) (w_ : Nat) (hw_ : w_ < aN a_) : Ct l G yX12_saidOf cX12_saidOf 4 ((some .int)) 0 0 0 [.ref (gK G 4 0), .int (nI (k_)), .int (nI (w_))] (A, S, Z, B, T, V, J, Y, P) (qI (fun r_ σ => r_ = nI (tdW a_ k_ w_) ∧ σ = (A, S, Z, B, T, V, J, Y, P))) := by
  refine ct_of (by decide +kernel) (Nat.le_of_ble_eq_true rfl) ?_
  have h10 := ho_.1
  have h8_ := ho_.2.1
  have hX := hM.1
  show Wm l G cX12_saidOf 4 RX12 ((some .int)) (rmk 0 0 0) (fun _ => True) (QfM G (qI (fun r_ σ => r_ = nI (tdW a_ k_ w_) ∧ σ = (A, S, Z, B, T, V, J, Y, P))) 0 0) 0 [(0, .ref (gK G 4 0)), (1, .int (nI (k_))), (2, .int (nI (w_)))] [] (A, S, Z, B, T, V, J, Y, P) 0 0
  refine m_aload_n 0 rfl rfl dX12_saidOf_0 ?_
  refine gf_X12_9 dX12_saidOf_1 ?_
  refine m_bipush (56) dX12_saidOf_4 rfl ?_
  refine m_bipush (10) dX12_saidOf_6 rfl ?_
  refine m_iload_n 1 rfl rfl dX12_saidOf_8 ?_
  refine m_imul dX12_saidOf_9 ?_
  refine m_topi (show 10 * (nI (k_)) = nI (10 * k_) from pk_mul _ _) ?_
  refine m_iadd dX12_saidOf_10 ?_
  refine m_topi (show 56 + (nI (10 * k_)) = nI (56 + (10 * k_)) from nI_add _ _) ?_
  refine m_iload_n 2 rfl rfl dX12_saidOf_11 ?_
  refine m_iadd dX12_saidOf_12 ?_
  refine m_topi (show (nI (56 + (10 * k_))) + (nI (w_)) = nI ((56 + (10 * k_)) + w_) from nI_add _ _) ?_
  refine al_40 ((56 + (10 * k_)) + w_) rfl (by omega) dX12_saidOf_13 ?_
  refine m_topi (hX.2.2.2.2 k_ w_ hk_ (by omega)) ?_
  refine m_istore_n [(3, .int (sdI (aT a_ k_ w_))), (0, .ref (gK G 4 0)), (1, .int (nI (k_))), (2, .int (nI (w_)))] rfl (by decide) rfl dX12_saidOf_14 ?_
  refine m_iload_n 0 rfl rfl dX12_saidOf_15 ?_
  rcases Nat.eq_zero_or_pos (aT a_ k_ w_) with hz | hz
  ·
    refine m_topi (sdI_neg hz) ?_
    refine m_if_ge 23 dX12_saidOf_16 (by decide) (fun c1_ => absurd c1_ (by decide)) (fun _ => ?_)
    refine m_iload_n 3 rfl rfl dX12_saidOf_19 ?_
    refine m_goto 24 dX12_saidOf_20 (by decide) ?_
    exact m_iret dX12_saidOf_24 (Nat.le_refl _) (Nat.le_refl _) (⟨by rw [show tdW a_ k_ w_ = w_ from if_pos hz], rfl⟩)
  ·
    have hT := (ho_.2.2.2.2 k_ w_ hk_ (by omega)).1
    rw [sdI_pos (a := a_) (k := k_) (w := w_) (by omega)]
    refine m_ifn_ge (aT a_ k_ w_ - 1) 23 (by omega) dX12_saidOf_16 (by decide) (fun _ => ?_) (fun c2_ => m_dead c2_)
    refine m_iload_n 0 rfl rfl dX12_saidOf_23 ?_
    exact m_iret dX12_saidOf_24 (Nat.le_refl _) (Nat.le_refl _) (⟨by rw [show tdW a_ k_ w_ = aT a_ k_ w_ - 1 from if_neg (by omega)], rfl⟩)
