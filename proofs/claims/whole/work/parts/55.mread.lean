set_option maxRecDepth 100000 in
set_option maxHeartbeats 4000000 in
theorem k_m_here (l : Launch) (G : owG) {A S Z B T V : owF} {J : Nat → Nat → Int64} {Y : Nat → Nat → Nat → Option Nat} {P : Nat → Option owW} (a_ : owK) (ho_ : aOk a_) (im : Option owK) (h_ : owH) (hM : MR B a_ im h_) (d_ : Nat) (hk2 : hK h_ d_ = 2) (hd_ : d_ < 8) (p_ : Nat) (hp : p_ ≤ hN h_ d_) (hpos : T 4 0 11 = nI p_) (hbase : T 4 0 12 = nI (100 * d_)) (hend : T 4 0 13 = nI (hN h_ d_))  : Ct l G yX12_here cX12_here 1 ((some .int)) 0 0 0 [.ref (gK G 4 0)] (A, S, Z, B, T, V, J, Y, P) (qI (fun r_ σ => r_ = (if p_ < hN h_ d_ then hE h_ d_ p_ else -1000) ∧ σ = (A, S, Z, B, T, V, J, Y, P))) := by
  refine ct_of (by decide +kernel) (Nat.le_of_ble_eq_true rfl) ?_
  have h10 := ho_.1
  have h8_ := ho_.2.1
  have hX := hM.1
  have hms := hM.2.2.2 d_ hd_
  have hm2 := hms.2.2.1 hk2
  have hn100 := hm2.2.2.2.1
  show Wm l G cX12_here 1 RX12 ((some .int)) (rmk 0 0 0) (fun _ => True) (QfM G (qI (fun r_ σ => r_ = (if p_ < hN h_ d_ then hE h_ d_ p_ else -1000) ∧ σ = (A, S, Z, B, T, V, J, Y, P))) 0 0) 0 [(0, .ref (gK G 4 0))] [] (A, S, Z, B, T, V, J, Y, P) 0 0
  refine m_aload_n 0 rfl rfl dX12_here_0 ?_
  refine gf_X12_70 dX12_here_1 ?_
  refine m_topi hpos ?_
  refine m_aload_n 0 rfl rfl dX12_here_4 ?_
  refine gf_X12_73 dX12_here_5 ?_
  refine m_topi hend ?_
  refine m_icmpn_ge p_ (hN h_ d_) 28 (by omega) (by omega) dX12_here_8 (by decide) (fun c1_ => ?_) (fun c1_ => ?_)
  ·
    refine m_sipush (-1000) dX12_here_28 rfl ?_
    exact m_iret dX12_here_31 (Nat.le_refl _) (Nat.le_refl _) (⟨(if_neg (Nat.not_lt.mpr c1_)).symm, rfl⟩)
  ·
    refine m_aload_n 0 rfl rfl dX12_here_11 ?_
    refine gf_X12_28 dX12_here_12 ?_
    refine m_aload_n 0 rfl rfl dX12_here_15 ?_
    refine gf_X12_76 dX12_here_16 ?_
    refine m_topi hbase ?_
    refine m_aload_n 0 rfl rfl dX12_here_19 ?_
    refine gf_X12_70 dX12_here_20 ?_
    refine m_topi hpos ?_
    refine m_iadd dX12_here_23 ?_
    refine m_topi (show (nI (100 * d_)) + (nI (p_)) = nI ((100 * d_) + p_) from nI_add _ _) ?_
    refine al_46 ((100 * d_) + p_) rfl (by omega) dX12_here_24 ?_
    refine m_topi (hm2.2.2.2.2 p_ (by omega)) ?_
    refine m_goto 31 dX12_here_25 (by decide) ?_
    exact m_iret dX12_here_31 (Nat.le_refl _) (Nat.le_refl _) (⟨(if_pos c1_).symm, rfl⟩)
set_option maxRecDepth 100000 in
set_option maxHeartbeats 4000000 in
theorem k_m_isDigit_y (l : Launch) (G : owG) {A S Z B T V : owF} {J : Nat → Nat → Int64} {Y : Nat → Nat → Nat → Option Nat} {P : Nat → Option owW} (a_ : owK) (ho_ : aOk a_) (im : Option owK) (h_ : owH) (hM : MR B a_ im h_) (d_ : Nat) (hk2 : hK h_ d_ = 2) (hd_ : d_ < 8) (p_ : Nat) (hp : p_ ≤ hN h_ d_) (hpos : T 4 0 11 = nI p_) (hbase : T 4 0 12 = nI (100 * d_)) (hend : T 4 0 13 = nI (hN h_ d_)) (hdg : dgB h_ d_ p_ = true) : Ct l G yX12_isDigit cX12_isDigit 1 ((some .boolean)) 1 0 0 [.ref (gK G 4 0)] (A, S, Z, B, T, V, J, Y, P) (qI (fun r_ σ => r_ = 1 ∧ σ = (A, S, Z, B, T, V, J, Y, P))) := by
  refine ct_of (by decide +kernel) (Nat.le_of_ble_eq_true rfl) ?_
  have h10 := ho_.1
  have h8_ := ho_.2.1
  have hX := hM.1
  have hms := hM.2.2.2 d_ hd_
  have hm2 := hms.2.2.1 hk2
  have hn100 := hm2.2.2.2.1
  show Wm l G cX12_isDigit 1 RX12 ((some .boolean)) (rmk 1 0 0) (fun _ => True) (QfM G (qI (fun r_ σ => r_ = 1 ∧ σ = (A, S, Z, B, T, V, J, Y, P))) 0 0) 0 [(0, .ref (gK G 4 0))] [] (A, S, Z, B, T, V, J, Y, P) 0 0
  refine m_aload_n 0 rfl rfl dX12_isDigit_0 ?_
  refine m_callVi cv_X12_79 [] [] (k_m_here l G a_ ho_ im h_ hM d_ hk2 hd_ p_ hp hpos hbase hend) (by decide) (ce_4 G _ _ _ _ _ _ _ _ _ _) rfl rfl rfl ⟨Nat.le_of_ble_eq_true rfl, Nat.le_of_ble_eq_true rfl⟩ (Nat.le_of_ble_eq_true rfl) ⟨Nat.zero_le _, Nat.zero_le _⟩ dX12_isDigit_1 (fun xx σ2 hq => ?_)
  obtain ⟨rfl, rfl⟩ := hq
  refine m_i2l dX12_isDigit_4 ?_
  refine m_ldc2 48 tw_1142 dX12_isDigit_5 ?_
  refine m_topl (show (48 : Int64) = (48 : Int32).toInt64 by decide) ?_
  refine m_ldc2 57 tw_1143 dX12_isDigit_8 ?_
  refine m_topl (show (57 : Int64) = (57 : Int32).toInt64 by decide) ?_
  refine m_callSi cs_X12_62 [.long ((if p_ < hN h_ d_ then hE h_ d_ p_ else -1000).toInt64), .long ((48 : Int32).toInt64), .long ((57 : Int32).toInt64)] [] (k_m_isIn l G (if p_ < hN h_ d_ then hE h_ d_ p_ else -1000) 48 57) rfl rfl ⟨Nat.le_of_ble_eq_true rfl, Nat.le_of_ble_eq_true rfl⟩ (Nat.le_of_ble_eq_true rfl) ⟨Nat.zero_le _, Nat.zero_le _⟩ dX12_isDigit_11 (fun xx σ2 hq => ?_)
  obtain ⟨rfl, rfl⟩ := hq
  exact m_zret dX12_isDigit_14 (Nat.le_refl _) (Nat.le_refl _) (bI_nar _) (⟨congrArg bI (show inB (if p_ < hN h_ d_ then hE h_ d_ p_ else -1000) 48 57 = true from by have q_ := dg_v hdg; have q2_ := of_decide_eq_true hdg; rw [if_pos q_.1]; exact decide_eq_true q2_.2), rfl⟩)
set_option maxRecDepth 100000 in
set_option maxHeartbeats 4000000 in
theorem k_m_isDigit_n (l : Launch) (G : owG) {A S Z B T V : owF} {J : Nat → Nat → Int64} {Y : Nat → Nat → Nat → Option Nat} {P : Nat → Option owW} (a_ : owK) (ho_ : aOk a_) (im : Option owK) (h_ : owH) (hM : MR B a_ im h_) (d_ : Nat) (hk2 : hK h_ d_ = 2) (hd_ : d_ < 8) (p_ : Nat) (hp : p_ ≤ hN h_ d_) (hpos : T 4 0 11 = nI p_) (hbase : T 4 0 12 = nI (100 * d_)) (hend : T 4 0 13 = nI (hN h_ d_)) (hdg : dgB h_ d_ p_ = false) : Ct l G yX12_isDigit cX12_isDigit 1 ((some .boolean)) 1 0 0 [.ref (gK G 4 0)] (A, S, Z, B, T, V, J, Y, P) (qI (fun r_ σ => r_ = 0 ∧ σ = (A, S, Z, B, T, V, J, Y, P))) := by
  refine ct_of (by decide +kernel) (Nat.le_of_ble_eq_true rfl) ?_
  have h10 := ho_.1
  have h8_ := ho_.2.1
  have hX := hM.1
  have hms := hM.2.2.2 d_ hd_
  have hm2 := hms.2.2.1 hk2
  have hn100 := hm2.2.2.2.1
  show Wm l G cX12_isDigit 1 RX12 ((some .boolean)) (rmk 1 0 0) (fun _ => True) (QfM G (qI (fun r_ σ => r_ = 0 ∧ σ = (A, S, Z, B, T, V, J, Y, P))) 0 0) 0 [(0, .ref (gK G 4 0))] [] (A, S, Z, B, T, V, J, Y, P) 0 0
  refine m_aload_n 0 rfl rfl dX12_isDigit_0 ?_
  refine m_callVi cv_X12_79 [] [] (k_m_here l G a_ ho_ im h_ hM d_ hk2 hd_ p_ hp hpos hbase hend) (by decide) (ce_4 G _ _ _ _ _ _ _ _ _ _) rfl rfl rfl ⟨Nat.le_of_ble_eq_true rfl, Nat.le_of_ble_eq_true rfl⟩ (Nat.le_of_ble_eq_true rfl) ⟨Nat.zero_le _, Nat.zero_le _⟩ dX12_isDigit_1 (fun xx σ2 hq => ?_)
  obtain ⟨rfl, rfl⟩ := hq
  refine m_i2l dX12_isDigit_4 ?_
  refine m_ldc2 48 tw_1142 dX12_isDigit_5 ?_
  refine m_topl (show (48 : Int64) = (48 : Int32).toInt64 by decide) ?_
  refine m_ldc2 57 tw_1143 dX12_isDigit_8 ?_
  refine m_topl (show (57 : Int64) = (57 : Int32).toInt64 by decide) ?_
  refine m_callSi cs_X12_62 [.long ((if p_ < hN h_ d_ then hE h_ d_ p_ else -1000).toInt64), .long ((48 : Int32).toInt64), .long ((57 : Int32).toInt64)] [] (k_m_isIn l G (if p_ < hN h_ d_ then hE h_ d_ p_ else -1000) 48 57) rfl rfl ⟨Nat.le_of_ble_eq_true rfl, Nat.le_of_ble_eq_true rfl⟩ (Nat.le_of_ble_eq_true rfl) ⟨Nat.zero_le _, Nat.zero_le _⟩ dX12_isDigit_11 (fun xx σ2 hq => ?_)
  obtain ⟨rfl, rfl⟩ := hq
  exact m_zret dX12_isDigit_14 (Nat.le_refl _) (Nat.le_refl _) (bI_nar _) (⟨congrArg bI (show inB (if p_ < hN h_ d_ then hE h_ d_ p_ else -1000) 48 57 = false from by by_cases c_ : p_ < hN h_ d_ <;> (first | (rw [if_pos c_]; exact decide_eq_false (dg_n c_ hdg)) | (rw [if_neg c_]; rfl))), rfl⟩)
set_option maxRecDepth 100000 in
set_option maxHeartbeats 4000000 in
theorem k_m_takes_y (l : Launch) (G : owG) {A S Z B T V : owF} {J : Nat → Nat → Int64} {Y : Nat → Nat → Nat → Option Nat} {P : Nat → Option owW} (a_ : owK) (ho_ : aOk a_) (im : Option owK) (h_ : owH) (hM : MR B a_ im h_) (d_ : Nat) (hk2 : hK h_ d_ = 2) (hd_ : d_ < 8) (p_ : Nat) (hp : p_ ≤ hN h_ d_) (hpos : T 4 0 11 = nI p_) (hbase : T 4 0 12 = nI (100 * d_)) (hend : T 4 0 13 = nI (hN h_ d_)) (hen : enB h_ d_ p_ = true) : Ct l G yX12_takes cX12_takes 2 ((some .boolean)) 1 0 0 [.ref (gK G 4 0), .int 59] (A, S, Z, B, T, V, J, Y, P) (qI (fun r_ σ => r_ = 1 ∧ ∃ T2 : owF, σ = (A, S, Z, B, T2, V, J, Y, P) ∧ T2 = up3 T 4 0 11 (nI (p_ + 1)))) := by
  refine ct_of (by decide +kernel) (Nat.le_of_ble_eq_true rfl) ?_
  have h10 := ho_.1
  have h8_ := ho_.2.1
  have hX := hM.1
  have hms := hM.2.2.2 d_ hd_
  have hm2 := hms.2.2.1 hk2
  have hn100 := hm2.2.2.2.1
  show Wm l G cX12_takes 2 RX12 ((some .boolean)) (rmk 1 0 0) (fun _ => True) (QfM G (qI (fun r_ σ => r_ = 1 ∧ ∃ T2 : owF, σ = (A, S, Z, B, T2, V, J, Y, P) ∧ T2 = up3 T 4 0 11 (nI (p_ + 1)))) 0 0) 0 [(0, .ref (gK G 4 0)), (1, .int 59)] [] (A, S, Z, B, T, V, J, Y, P) 0 0
  refine m_aload_n 0 rfl rfl dX12_takes_0 ?_
  refine m_callVi cv_X12_79 [] [] (k_m_here l G a_ ho_ im h_ hM d_ hk2 hd_ p_ hp hpos hbase hend) (by decide) (ce_4 G _ _ _ _ _ _ _ _ _ _) rfl rfl rfl ⟨Nat.le_of_ble_eq_true rfl, Nat.le_of_ble_eq_true rfl⟩ (Nat.le_of_ble_eq_true rfl) ⟨Nat.zero_le _, Nat.zero_le _⟩ dX12_takes_1 (fun xx σ2 hq => ?_)
  obtain ⟨rfl, rfl⟩ := hq
  refine m_iload_n 1 rfl rfl dX12_takes_4 ?_
  refine m_icmp_eq 10 dX12_takes_5 (by decide) (fun c1_ => ?_) (fun c1_ => ?_)
  ·
    refine m_aload_n 0 rfl rfl dX12_takes_10 ?_
    refine m_dup rfl dX12_takes_11 ?_
    refine gf_X12_70 dX12_takes_12 ?_
    refine m_topi hpos ?_
    refine m_iconst 1 dX12_takes_15 rfl ?_
    refine m_iadd dX12_takes_16 ?_
    refine m_topi (show (nI (p_)) + 1 = nI (p_ + 1) from nI_add _ _) ?_
    refine pf_X12_70 dX12_takes_17 (fun T2 hT2 => ?_)
    refine m_iconst 1 dX12_takes_20 rfl ?_
    exact m_zret dX12_takes_21 (Nat.le_refl _) (Nat.le_refl _) nar1 (⟨rfl, _, rfl, hT2⟩)
  ·
    have hz : False := by have q2_ := of_decide_eq_true hen; rw [if_pos q2_.1] at c1_; exact c1_ q2_.2
    exact m_dead (by first | omega | assumption)
set_option maxRecDepth 100000 in
set_option maxHeartbeats 4000000 in
theorem k_m_takes_n (l : Launch) (G : owG) {A S Z B T V : owF} {J : Nat → Nat → Int64} {Y : Nat → Nat → Nat → Option Nat} {P : Nat → Option owW} (a_ : owK) (ho_ : aOk a_) (im : Option owK) (h_ : owH) (hM : MR B a_ im h_) (d_ : Nat) (hk2 : hK h_ d_ = 2) (hd_ : d_ < 8) (p_ : Nat) (hp : p_ ≤ hN h_ d_) (hpos : T 4 0 11 = nI p_) (hbase : T 4 0 12 = nI (100 * d_)) (hend : T 4 0 13 = nI (hN h_ d_)) (hen : enB h_ d_ p_ = false) : Ct l G yX12_takes cX12_takes 2 ((some .boolean)) 1 0 0 [.ref (gK G 4 0), .int 59] (A, S, Z, B, T, V, J, Y, P) (qI (fun r_ σ => r_ = 0 ∧ σ = (A, S, Z, B, T, V, J, Y, P))) := by
  refine ct_of (by decide +kernel) (Nat.le_of_ble_eq_true rfl) ?_
  have h10 := ho_.1
  have h8_ := ho_.2.1
  have hX := hM.1
  have hms := hM.2.2.2 d_ hd_
  have hm2 := hms.2.2.1 hk2
  have hn100 := hm2.2.2.2.1
  show Wm l G cX12_takes 2 RX12 ((some .boolean)) (rmk 1 0 0) (fun _ => True) (QfM G (qI (fun r_ σ => r_ = 0 ∧ σ = (A, S, Z, B, T, V, J, Y, P))) 0 0) 0 [(0, .ref (gK G 4 0)), (1, .int 59)] [] (A, S, Z, B, T, V, J, Y, P) 0 0
  refine m_aload_n 0 rfl rfl dX12_takes_0 ?_
  refine m_callVi cv_X12_79 [] [] (k_m_here l G a_ ho_ im h_ hM d_ hk2 hd_ p_ hp hpos hbase hend) (by decide) (ce_4 G _ _ _ _ _ _ _ _ _ _) rfl rfl rfl ⟨Nat.le_of_ble_eq_true rfl, Nat.le_of_ble_eq_true rfl⟩ (Nat.le_of_ble_eq_true rfl) ⟨Nat.zero_le _, Nat.zero_le _⟩ dX12_takes_1 (fun xx σ2 hq => ?_)
  obtain ⟨rfl, rfl⟩ := hq
  refine m_iload_n 1 rfl rfl dX12_takes_4 ?_
  refine m_icmp_eq 10 dX12_takes_5 (by decide) (fun c1_ => ?_) (fun c1_ => ?_)
  ·
    have hz : False := by have q2_ := of_decide_eq_false hen; by_cases cc : p_ < hN h_ d_ <;> (first | (rw [if_pos cc] at c1_; exact q2_ ⟨cc, c1_⟩) | (rw [if_neg cc] at c1_; exact absurd c1_ (by decide)))
    exact m_dead (by first | omega | assumption)
  ·
    refine m_iconst 0 dX12_takes_8 rfl ?_
    exact m_zret dX12_takes_9 (Nat.le_refl _) (Nat.le_refl _) nar0 (⟨rfl, rfl⟩)
set_option maxRecDepth 100000 in
set_option maxHeartbeats 4000000 in
theorem k_m_rd_n (l : Launch) (G : owG) {A S Z B T V : owF} {J : Nat → Nat → Int64} {Y : Nat → Nat → Nat → Option Nat} {P : Nat → Option owW} (a_ : owK) (ho_ : aOk a_) (im : Option owK) (h_ : owH) (hM : MR B a_ im h_) (d_ : Nat) (hk2 : hK h_ d_ = 2) (hd_ : d_ < 8) (p_ : Nat) (hp : p_ ≤ hN h_ d_) (hpos : T 4 0 11 = nI p_) (hbase : T 4 0 12 = nI (100 * d_)) (hend : T 4 0 13 = nI (hN h_ d_)) (mo : Int32) (hdg : dgB h_ d_ p_ = false) : Ct l G yX12_readsNumber cX12_readsNumber 3 ((some .boolean)) 2 0 0 [.ref (gK G 4 0), .int mo] (A, S, Z, B, T, V, J, Y, P) (qI (fun r_ σ => r_ = 0 ∧ σ = (A, S, Z, B, T, V, J, Y, P))) := by
  refine ct_of (by decide +kernel) (Nat.le_of_ble_eq_true rfl) ?_
  have h10 := ho_.1
  have h8_ := ho_.2.1
  have hX := hM.1
  have hms := hM.2.2.2 d_ hd_
  have hm2 := hms.2.2.1 hk2
  have hn100 := hm2.2.2.2.1
  show Wm l G cX12_readsNumber 3 RX12 ((some .boolean)) (rmk 2 0 0) (fun _ => True) (QfM G (qI (fun r_ σ => r_ = 0 ∧ σ = (A, S, Z, B, T, V, J, Y, P))) 0 0) 0 [(0, .ref (gK G 4 0)), (1, .int mo)] [] (A, S, Z, B, T, V, J, Y, P) 0 0
  refine m_aload_n 0 rfl rfl dX12_readsNumber_0 ?_
  refine m_callVi cv_X12_87 [] [] (k_m_isDigit_n l G a_ ho_ im h_ hM d_ hk2 hd_ p_ hp hpos hbase hend hdg) (by decide) (ce_4 G _ _ _ _ _ _ _ _ _ _) rfl rfl rfl ⟨Nat.le_of_ble_eq_true rfl, Nat.le_of_ble_eq_true rfl⟩ (Nat.le_of_ble_eq_true rfl) ⟨Nat.zero_le _, Nat.zero_le _⟩ dX12_readsNumber_1 (fun xx σ2 hq => ?_)
  obtain ⟨rfl, rfl⟩ := hq
  refine m_if_ne 9 dX12_readsNumber_4 (by decide) (fun c1_ => absurd c1_ (by decide)) (fun _ => ?_)
  refine m_iconst 0 dX12_readsNumber_7 rfl ?_
  exact m_zret dX12_readsNumber_8 (Nat.le_refl _) (Nat.le_refl _) nar0 (⟨rfl, rfl⟩)
set_option maxRecDepth 100000 in
set_option maxHeartbeats 4000000 in
theorem k_m_rd1_y (l : Launch) (G : owG) {A S Z B T V : owF} {J : Nat → Nat → Int64} {Y : Nat → Nat → Nat → Option Nat} {P : Nat → Option owW} (a_ : owK) (ho_ : aOk a_) (im : Option owK) (h_ : owH) (hM : MR B a_ im h_) (d_ : Nat) (hk2 : hK h_ d_ = 2) (hd_ : d_ < 8) (p_ : Nat) (hp : p_ ≤ hN h_ d_) (hpos : T 4 0 11 = nI p_) (hbase : T 4 0 12 = nI (100 * d_)) (hend : T 4 0 13 = nI (hN h_ d_)) (k_ : Nat) (hk3 : k_ < 3) (htold : T 4 0 14 = nI k_) (hdg : dgB h_ d_ p_ = true) : Ct l G yX12_readsNumber cX12_readsNumber 3 ((some .boolean)) 2 0 0 [.ref (gK G 4 0), .int 1] (A, S, Z, B, T, V, J, Y, P) (qI (fun r_ σ => r_ = 1 ∧ ∃ T2 : owF, σ = (A, S, Z, B, T2, V, J, Y, P) ∧ T2 4 0 11 = nI (p_ + 1) ∧ T2 4 0 12 = nI (100 * d_) ∧ T2 4 0 13 = nI (hN h_ d_) ∧ T2 4 0 14 = nI (k_ + 1) ∧ T2 49 0 k_ = nI (dgV h_ d_ p_) ∧ (∀ j_, j_ ≠ k_ → T2 49 0 j_ = T 49 0 j_) ∧ ∀ j_, T2 42 0 j_ = T 42 0 j_)) := by
  refine ct_of (by decide +kernel) (Nat.le_of_ble_eq_true rfl) ?_
  have h10 := ho_.1
  have h8_ := ho_.2.1
  have hX := hM.1
  have hms := hM.2.2.2 d_ hd_
  have hm2 := hms.2.2.1 hk2
  have hn100 := hm2.2.2.2.1
  have hv9 := (dg_v hdg).2.1
  have hpl := (dg_v hdg).1
  show Wm l G cX12_readsNumber 3 RX12 ((some .boolean)) (rmk 2 0 0) (fun _ => True) (QfM G (qI (fun r_ σ => r_ = 1 ∧ ∃ T2 : owF, σ = (A, S, Z, B, T2, V, J, Y, P) ∧ T2 4 0 11 = nI (p_ + 1) ∧ T2 4 0 12 = nI (100 * d_) ∧ T2 4 0 13 = nI (hN h_ d_) ∧ T2 4 0 14 = nI (k_ + 1) ∧ T2 49 0 k_ = nI (dgV h_ d_ p_) ∧ (∀ j_, j_ ≠ k_ → T2 49 0 j_ = T 49 0 j_) ∧ ∀ j_, T2 42 0 j_ = T 42 0 j_)) 0 0) 0 [(0, .ref (gK G 4 0)), (1, .int 1)] [] (A, S, Z, B, T, V, J, Y, P) 0 0
  refine m_aload_n 0 rfl rfl dX12_readsNumber_0 ?_
  refine m_callVi cv_X12_87 [] [] (k_m_isDigit_y l G a_ ho_ im h_ hM d_ hk2 hd_ p_ hp hpos hbase hend hdg) (by decide) (ce_4 G _ _ _ _ _ _ _ _ _ _) rfl rfl rfl ⟨Nat.le_of_ble_eq_true rfl, Nat.le_of_ble_eq_true rfl⟩ (Nat.le_of_ble_eq_true rfl) ⟨Nat.zero_le _, Nat.zero_le _⟩ dX12_readsNumber_1 (fun xx σ2 hq => ?_)
  obtain ⟨rfl, rfl⟩ := hq
  refine m_if_ne 9 dX12_readsNumber_4 (by decide) (fun _ => ?_) (fun c1_ => absurd c1_ (by decide))
  refine m_aload_n 0 rfl rfl dX12_readsNumber_9 ?_
  refine m_callVi cv_X12_79 [] [] (k_m_here l G a_ ho_ im h_ hM d_ hk2 hd_ p_ hp hpos hbase hend) (by decide) (ce_4 G _ _ _ _ _ _ _ _ _ _) rfl rfl rfl ⟨Nat.le_of_ble_eq_true rfl, Nat.le_of_ble_eq_true rfl⟩ (Nat.le_of_ble_eq_true rfl) ⟨Nat.zero_le _, Nat.zero_le _⟩ dX12_readsNumber_10 (fun xx σ2 hq => ?_)
  obtain ⟨hgx, rfl⟩ := hq
  obtain rfl := hgx.trans ((if_pos (dg_v hdg).1).trans (dg_v hdg).2.2.1)
  refine m_bipush (48) dX12_readsNumber_13 rfl ?_
  refine m_isub dX12_readsNumber_15 ?_
  refine m_topi ((show nI (48 + dgV h_ d_ p_) - 48 = nI (dgV h_ d_ p_) from (pk_sub (b := 48) (by omega)).trans (congrArg nI (by omega)))) ?_
  refine m_istore_n [(2, .int (nI (dgV h_ d_ p_))), (0, .ref (gK G 4 0)), (1, .int 1)] rfl (by decide) rfl dX12_readsNumber_16 ?_
  refine m_aload_n 1 rfl rfl dX12_readsNumber_17 ?_
  refine m_dup rfl dX12_readsNumber_18 ?_
  refine gf_X12_70 dX12_readsNumber_19 ?_
  refine m_topi hpos ?_
  refine m_iconst 1 dX12_readsNumber_22 rfl ?_
  refine m_iadd dX12_readsNumber_23 ?_
  refine m_topi (show (nI (p_)) + 1 = nI (p_ + 1) from nI_add _ _) ?_
  refine pf_X12_70 dX12_readsNumber_24 (fun T2 hT2 => ?_)
  refine m_iload_n 2 rfl rfl dX12_readsNumber_27 ?_
  refine m_iconst 1 dX12_readsNumber_28 rfl ?_
  refine m_icmp_le 66 dX12_readsNumber_29 (by decide) (fun _ => ?_) (fun c3_ => absurd c3_ (by decide))
  refine m_aload_n 1 rfl rfl dX12_readsNumber_66 ?_
  refine gf_X12_37 dX12_readsNumber_67 ?_
  refine m_aload_n 1 rfl rfl dX12_readsNumber_70 ?_
  refine gf_X12_91 dX12_readsNumber_71 ?_
  refine m_topi (up3_j hT2 (by decide) htold) ?_
  refine m_iload_n 0 rfl rfl dX12_readsNumber_74 ?_
  refine as_49 k_ rfl (by omega) dX12_readsNumber_75 (fun T4 hT4 => ?_)
  refine m_aload_n 1 rfl rfl dX12_readsNumber_76 ?_
  refine m_dup rfl dX12_readsNumber_77 ?_
  refine gf_X12_91 dX12_readsNumber_78 ?_
  refine m_topi (up3_t hT4 (by decide) (up3_j hT2 (by decide) htold)) ?_
  refine m_iconst 1 dX12_readsNumber_81 rfl ?_
  refine m_iadd dX12_readsNumber_82 ?_
  refine m_topi (show (nI (k_)) + 1 = nI (k_ + 1) from nI_add _ _) ?_
  refine pf_X12_91 dX12_readsNumber_83 (fun T5 hT5 => ?_)
  refine m_iconst 1 dX12_readsNumber_86 rfl ?_
  exact m_zret dX12_readsNumber_87 (Nat.le_refl _) (Nat.le_refl _) nar1 (⟨rfl, T5, rfl, ((up3_o hT5 4 0 11 (by omega)).trans ((up3_o hT4 4 0 11 (by omega)).trans (up3_e hT2))).trans (congrArg nI (show p_ + 1 = p_ + 1 from rfl).symm), ((up3_o hT5 4 0 12 (by omega)).trans ((up3_o hT4 4 0 12 (by omega)).trans ((up3_o hT2 4 0 12 (by omega)).trans hbase))), ((up3_o hT5 4 0 13 (by omega)).trans ((up3_o hT4 4 0 13 (by omega)).trans ((up3_o hT2 4 0 13 (by omega)).trans hend))), (up3_e hT5), ((up3_o hT5 49 0 k_ (by omega)).trans (up3_e hT4)).trans (congrArg nI (show dgV h_ d_ p_ = dgV h_ d_ p_ from rfl).symm), fun j_ hj => ((up3_o hT5 49 0 j_ (by omega)).trans ((up3_o hT4 49 0 j_ (by omega)).trans ((up3_o hT2 49 0 j_ (by omega)).trans rfl))), fun j_ => ((up3_o hT5 42 0 j_ (by omega)).trans ((up3_o hT4 42 0 j_ (by omega)).trans ((up3_o hT2 42 0 j_ (by omega)).trans rfl)))⟩)
set_option maxRecDepth 100000 in
set_option maxHeartbeats 4000000 in
theorem k_m_rd2_y (l : Launch) (G : owG) {A S Z B T V : owF} {J : Nat → Nat → Int64} {Y : Nat → Nat → Nat → Option Nat} {P : Nat → Option owW} (a_ : owK) (ho_ : aOk a_) (im : Option owK) (h_ : owH) (hM : MR B a_ im h_) (d_ : Nat) (hk2 : hK h_ d_ = 2) (hd_ : d_ < 8) (p_ : Nat) (hp : p_ ≤ hN h_ d_) (hpos : T 4 0 11 = nI p_) (hbase : T 4 0 12 = nI (100 * d_)) (hend : T 4 0 13 = nI (hN h_ d_)) (k_ : Nat) (hk3 : k_ < 3) (htold : T 4 0 14 = nI k_) (hdg : dgB h_ d_ p_ = true) : Ct l G yX12_readsNumber cX12_readsNumber 3 ((some .boolean)) 2 0 0 [.ref (gK G 4 0), .int 2] (A, S, Z, B, T, V, J, Y, P) (qI (fun r_ σ => r_ = 1 ∧ ∃ T2 : owF, σ = (A, S, Z, B, T2, V, J, Y, P) ∧ T2 4 0 11 = nI (nmP h_ d_ p_) ∧ T2 4 0 12 = nI (100 * d_) ∧ T2 4 0 13 = nI (hN h_ d_) ∧ T2 4 0 14 = nI (k_ + 1) ∧ T2 49 0 k_ = nI (nmV h_ d_ p_) ∧ (∀ j_, j_ ≠ k_ → T2 49 0 j_ = T 49 0 j_) ∧ ∀ j_, T2 42 0 j_ = T 42 0 j_)) := by
  refine ct_of (by decide +kernel) (Nat.le_of_ble_eq_true rfl) ?_
  have h10 := ho_.1
  have h8_ := ho_.2.1
  have hX := hM.1
  have hms := hM.2.2.2 d_ hd_
  have hm2 := hms.2.2.1 hk2
  have hn100 := hm2.2.2.2.1
  have hv9 := (dg_v hdg).2.1
  have hpl := (dg_v hdg).1
  show Wm l G cX12_readsNumber 3 RX12 ((some .boolean)) (rmk 2 0 0) (fun _ => True) (QfM G (qI (fun r_ σ => r_ = 1 ∧ ∃ T2 : owF, σ = (A, S, Z, B, T2, V, J, Y, P) ∧ T2 4 0 11 = nI (nmP h_ d_ p_) ∧ T2 4 0 12 = nI (100 * d_) ∧ T2 4 0 13 = nI (hN h_ d_) ∧ T2 4 0 14 = nI (k_ + 1) ∧ T2 49 0 k_ = nI (nmV h_ d_ p_) ∧ (∀ j_, j_ ≠ k_ → T2 49 0 j_ = T 49 0 j_) ∧ ∀ j_, T2 42 0 j_ = T 42 0 j_)) 0 0) 0 [(0, .ref (gK G 4 0)), (1, .int 2)] [] (A, S, Z, B, T, V, J, Y, P) 0 0
  refine m_aload_n 0 rfl rfl dX12_readsNumber_0 ?_
  refine m_callVi cv_X12_87 [] [] (k_m_isDigit_y l G a_ ho_ im h_ hM d_ hk2 hd_ p_ hp hpos hbase hend hdg) (by decide) (ce_4 G _ _ _ _ _ _ _ _ _ _) rfl rfl rfl ⟨Nat.le_of_ble_eq_true rfl, Nat.le_of_ble_eq_true rfl⟩ (Nat.le_of_ble_eq_true rfl) ⟨Nat.zero_le _, Nat.zero_le _⟩ dX12_readsNumber_1 (fun xx σ2 hq => ?_)
  obtain ⟨rfl, rfl⟩ := hq
  refine m_if_ne 9 dX12_readsNumber_4 (by decide) (fun _ => ?_) (fun c1_ => absurd c1_ (by decide))
  refine m_aload_n 0 rfl rfl dX12_readsNumber_9 ?_
  refine m_callVi cv_X12_79 [] [] (k_m_here l G a_ ho_ im h_ hM d_ hk2 hd_ p_ hp hpos hbase hend) (by decide) (ce_4 G _ _ _ _ _ _ _ _ _ _) rfl rfl rfl ⟨Nat.le_of_ble_eq_true rfl, Nat.le_of_ble_eq_true rfl⟩ (Nat.le_of_ble_eq_true rfl) ⟨Nat.zero_le _, Nat.zero_le _⟩ dX12_readsNumber_10 (fun xx σ2 hq => ?_)
  obtain ⟨hgx, rfl⟩ := hq
  obtain rfl := hgx.trans ((if_pos (dg_v hdg).1).trans (dg_v hdg).2.2.1)
  refine m_bipush (48) dX12_readsNumber_13 rfl ?_
  refine m_isub dX12_readsNumber_15 ?_
  refine m_topi ((show nI (48 + dgV h_ d_ p_) - 48 = nI (dgV h_ d_ p_) from (pk_sub (b := 48) (by omega)).trans (congrArg nI (by omega)))) ?_
  refine m_istore_n [(2, .int (nI (dgV h_ d_ p_))), (0, .ref (gK G 4 0)), (1, .int 2)] rfl (by decide) rfl dX12_readsNumber_16 ?_
  refine m_aload_n 1 rfl rfl dX12_readsNumber_17 ?_
  refine m_dup rfl dX12_readsNumber_18 ?_
  refine gf_X12_70 dX12_readsNumber_19 ?_
  refine m_topi hpos ?_
  refine m_iconst 1 dX12_readsNumber_22 rfl ?_
  refine m_iadd dX12_readsNumber_23 ?_
  refine m_topi (show (nI (p_)) + 1 = nI (p_ + 1) from nI_add _ _) ?_
  refine pf_X12_70 dX12_readsNumber_24 (fun T2 hT2 => ?_)
  refine m_iload_n 2 rfl rfl dX12_readsNumber_27 ?_
  refine m_iconst 1 dX12_readsNumber_28 rfl ?_
  refine m_icmp_le 66 dX12_readsNumber_29 (by decide) (fun c3_ => absurd c3_ (by decide)) (fun _ => ?_)
  refine m_iload_n 0 rfl rfl dX12_readsNumber_32 ?_
  refine m_ifn_le (dgV h_ d_ p_) 66 (by omega) dX12_readsNumber_33 (by decide) (fun c4_ => ?_) (fun c4_ => ?_)
  ·
    refine m_aload_n 1 rfl rfl dX12_readsNumber_66 ?_
    refine gf_X12_37 dX12_readsNumber_67 ?_
    refine m_aload_n 1 rfl rfl dX12_readsNumber_70 ?_
    refine gf_X12_91 dX12_readsNumber_71 ?_
    refine m_topi (up3_j hT2 (by decide) htold) ?_
    refine m_iload_n 0 rfl rfl dX12_readsNumber_74 ?_
    refine as_49 k_ rfl (by omega) dX12_readsNumber_75 (fun T5 hT5 => ?_)
    refine m_aload_n 1 rfl rfl dX12_readsNumber_76 ?_
    refine m_dup rfl dX12_readsNumber_77 ?_
    refine gf_X12_91 dX12_readsNumber_78 ?_
    refine m_topi (up3_t hT5 (by decide) (up3_j hT2 (by decide) htold)) ?_
    refine m_iconst 1 dX12_readsNumber_81 rfl ?_
    refine m_iadd dX12_readsNumber_82 ?_
    refine m_topi (show (nI (k_)) + 1 = nI (k_ + 1) from nI_add _ _) ?_
    refine pf_X12_91 dX12_readsNumber_83 (fun T6 hT6 => ?_)
    refine m_iconst 1 dX12_readsNumber_86 rfl ?_
    exact m_zret dX12_readsNumber_87 (Nat.le_refl _) (Nat.le_refl _) nar1 (⟨rfl, T6, rfl, ((up3_o hT6 4 0 11 (by omega)).trans ((up3_o hT5 4 0 11 (by omega)).trans (up3_e hT2))).trans (congrArg nI (show nmP h_ d_ p_ = p_ + 1 from (by unfold nmP; rw [show twB h_ d_ p_ = false from by unfold twB; first | (rw [hd2, Bool.and_false]; done) | (rw [decide_eq_false (by omega)]; rfl)]; rfl)).symm), ((up3_o hT6 4 0 12 (by omega)).trans ((up3_o hT5 4 0 12 (by omega)).trans ((up3_o hT2 4 0 12 (by omega)).trans hbase))), ((up3_o hT6 4 0 13 (by omega)).trans ((up3_o hT5 4 0 13 (by omega)).trans ((up3_o hT2 4 0 13 (by omega)).trans hend))), (up3_e hT6), ((up3_o hT6 49 0 k_ (by omega)).trans (up3_e hT5)).trans (congrArg nI (show nmV h_ d_ p_ = dgV h_ d_ p_ from (by unfold nmV; rw [show twB h_ d_ p_ = false from by unfold twB; first | (rw [hd2, Bool.and_false]; done) | (rw [decide_eq_false (by omega)]; rfl)]; rfl)).symm), fun j_ hj => ((up3_o hT6 49 0 j_ (by omega)).trans ((up3_o hT5 49 0 j_ (by omega)).trans ((up3_o hT2 49 0 j_ (by omega)).trans rfl))), fun j_ => ((up3_o hT6 42 0 j_ (by omega)).trans ((up3_o hT5 42 0 j_ (by omega)).trans ((up3_o hT2 42 0 j_ (by omega)).trans rfl)))⟩)
  ·
    refine m_aload_n 1 rfl rfl dX12_readsNumber_36 ?_
    cases hd2 : dgB h_ d_ (p_ + 1) with
    | false =>
      refine m_callVi cv_X12_87 [] [] (k_m_isDigit_n l G a_ ho_ im h_ hM d_ hk2 hd_ (p_ + 1) (by omega) (up3_e hT2) (up3_j hT2 (by decide) hbase) (up3_j hT2 (by decide) hend) hd2) (by decide) (ce_4 G _ _ _ _ _ _ _ _ _ _) rfl rfl rfl ⟨Nat.le_of_ble_eq_true rfl, Nat.le_of_ble_eq_true rfl⟩ (Nat.le_of_ble_eq_true rfl) ⟨Nat.zero_le _, Nat.zero_le _⟩ dX12_readsNumber_37 (fun xx σ2 hq => ?_)
      obtain ⟨rfl, rfl⟩ := hq
      refine m_if_eq 66 dX12_readsNumber_40 (by decide) (fun _ => ?_) (fun c7_ => absurd c7_ (by decide))
      refine m_aload_n 1 rfl rfl dX12_readsNumber_66 ?_
      refine gf_X12_37 dX12_readsNumber_67 ?_
      refine m_aload_n 1 rfl rfl dX12_readsNumber_70 ?_
      refine gf_X12_91 dX12_readsNumber_71 ?_
      refine m_topi (up3_j hT2 (by decide) htold) ?_
      refine m_iload_n 0 rfl rfl dX12_readsNumber_74 ?_
      refine as_49 k_ rfl (by omega) dX12_readsNumber_75 (fun T8 hT8 => ?_)
      refine m_aload_n 1 rfl rfl dX12_readsNumber_76 ?_
      refine m_dup rfl dX12_readsNumber_77 ?_
      refine gf_X12_91 dX12_readsNumber_78 ?_
      refine m_topi (up3_t hT8 (by decide) (up3_j hT2 (by decide) htold)) ?_
      refine m_iconst 1 dX12_readsNumber_81 rfl ?_
      refine m_iadd dX12_readsNumber_82 ?_
      refine m_topi (show (nI (k_)) + 1 = nI (k_ + 1) from nI_add _ _) ?_
      refine pf_X12_91 dX12_readsNumber_83 (fun T9 hT9 => ?_)
      refine m_iconst 1 dX12_readsNumber_86 rfl ?_
      exact m_zret dX12_readsNumber_87 (Nat.le_refl _) (Nat.le_refl _) nar1 (⟨rfl, T9, rfl, ((up3_o hT9 4 0 11 (by omega)).trans ((up3_o hT8 4 0 11 (by omega)).trans (up3_e hT2))).trans (congrArg nI (show nmP h_ d_ p_ = p_ + 1 from (by unfold nmP; rw [show twB h_ d_ p_ = false from by unfold twB; first | (rw [hd2, Bool.and_false]; done) | (rw [decide_eq_false (by omega)]; rfl)]; rfl)).symm), ((up3_o hT9 4 0 12 (by omega)).trans ((up3_o hT8 4 0 12 (by omega)).trans ((up3_o hT2 4 0 12 (by omega)).trans hbase))), ((up3_o hT9 4 0 13 (by omega)).trans ((up3_o hT8 4 0 13 (by omega)).trans ((up3_o hT2 4 0 13 (by omega)).trans hend))), (up3_e hT9), ((up3_o hT9 49 0 k_ (by omega)).trans (up3_e hT8)).trans (congrArg nI (show nmV h_ d_ p_ = dgV h_ d_ p_ from (by unfold nmV; rw [show twB h_ d_ p_ = false from by unfold twB; first | (rw [hd2, Bool.and_false]; done) | (rw [decide_eq_false (by omega)]; rfl)]; rfl)).symm), fun j_ hj => ((up3_o hT9 49 0 j_ (by omega)).trans ((up3_o hT8 49 0 j_ (by omega)).trans ((up3_o hT2 49 0 j_ (by omega)).trans rfl))), fun j_ => ((up3_o hT9 42 0 j_ (by omega)).trans ((up3_o hT8 42 0 j_ (by omega)).trans ((up3_o hT2 42 0 j_ (by omega)).trans rfl)))⟩)
    | true =>
      refine m_callVi cv_X12_87 [] [] (k_m_isDigit_y l G a_ ho_ im h_ hM d_ hk2 hd_ (p_ + 1) (by omega) (up3_e hT2) (up3_j hT2 (by decide) hbase) (up3_j hT2 (by decide) hend) hd2) (by decide) (ce_4 G _ _ _ _ _ _ _ _ _ _) rfl rfl rfl ⟨Nat.le_of_ble_eq_true rfl, Nat.le_of_ble_eq_true rfl⟩ (Nat.le_of_ble_eq_true rfl) ⟨Nat.zero_le _, Nat.zero_le _⟩ dX12_readsNumber_37 (fun xx σ2 hq => ?_)
      obtain ⟨rfl, rfl⟩ := hq
      refine m_if_eq 66 dX12_readsNumber_40 (by decide) (fun c10_ => absurd c10_ (by decide)) (fun _ => ?_)
      have hv92 := (dg_v hd2).2.1
      refine m_bipush (10) dX12_readsNumber_43 rfl ?_
      refine m_iload_n 0 rfl rfl dX12_readsNumber_45 ?_
      refine m_imul dX12_readsNumber_46 ?_
      refine m_topi (show 10 * (nI (dgV h_ d_ p_)) = nI (10 * (dgV h_ d_ p_)) from pk_mul _ _) ?_
      refine m_aload_n 1 rfl rfl dX12_readsNumber_47 ?_
      refine m_callVi cv_X12_79 [] [.int (nI (10 * (dgV h_ d_ p_)))] (k_m_here l G a_ ho_ im h_ hM d_ hk2 hd_ (p_ + 1) (by omega) (up3_e hT2) (up3_j hT2 (by decide) hbase) (up3_j hT2 (by decide) hend)) (by decide) (ce_4 G _ _ _ _ _ _ _ _ _ _) rfl rfl rfl ⟨Nat.le_of_ble_eq_true rfl, Nat.le_of_ble_eq_true rfl⟩ (Nat.le_of_ble_eq_true rfl) ⟨Nat.zero_le _, Nat.zero_le _⟩ dX12_readsNumber_48 (fun xx σ2 hq => ?_)
      obtain ⟨hgx, rfl⟩ := hq
      obtain rfl := hgx.trans ((if_pos (dg_v hd2).1).trans (dg_v hd2).2.2.1)
      refine m_iadd dX12_readsNumber_51 ?_
      refine m_topi (show (nI (10 * (dgV h_ d_ p_))) + (nI (48 + dgV h_ d_ (p_ + 1))) = nI ((10 * (dgV h_ d_ p_)) + (48 + dgV h_ d_ (p_ + 1))) from nI_add _ _) ?_
      refine m_bipush (48) dX12_readsNumber_52 rfl ?_
      refine m_isub dX12_readsNumber_54 ?_
      refine m_topi ((show (nI ((10 * (dgV h_ d_ p_)) + (48 + dgV h_ d_ (p_ + 1)))) - 48 = nI (10 * dgV h_ d_ p_ + dgV h_ d_ (p_ + 1)) from (pk_sub (b := 48) (by omega)).trans (congrArg nI (by omega)))) ?_
      refine m_istore_n [(2, .int (nI (10 * dgV h_ d_ p_ + dgV h_ d_ (p_ + 1)))), (0, .ref (gK G 4 0)), (1, .int 2)] rfl (by decide) rfl dX12_readsNumber_55 ?_
      refine m_aload_n 1 rfl rfl dX12_readsNumber_56 ?_
      refine m_dup rfl dX12_readsNumber_57 ?_
      refine gf_X12_70 dX12_readsNumber_58 ?_
      refine m_topi (up3_e hT2) ?_
      refine m_iconst 1 dX12_readsNumber_61 rfl ?_
      refine m_iadd dX12_readsNumber_62 ?_
      refine m_topi (show (nI (p_ + 1)) + 1 = nI ((p_ + 1) + 1) from nI_add _ _) ?_
      refine pf_X12_70 dX12_readsNumber_63 (fun T11 hT11 => ?_)
      refine m_aload_n 1 rfl rfl dX12_readsNumber_66 ?_
      refine gf_X12_37 dX12_readsNumber_67 ?_
      refine m_aload_n 1 rfl rfl dX12_readsNumber_70 ?_
      refine gf_X12_91 dX12_readsNumber_71 ?_
      refine m_topi (up3_j hT11 (by decide) (up3_j hT2 (by decide) htold)) ?_
      refine m_iload_n 0 rfl rfl dX12_readsNumber_74 ?_
      refine as_49 k_ rfl (by omega) dX12_readsNumber_75 (fun T12 hT12 => ?_)
      refine m_aload_n 1 rfl rfl dX12_readsNumber_76 ?_
      refine m_dup rfl dX12_readsNumber_77 ?_
      refine gf_X12_91 dX12_readsNumber_78 ?_
      refine m_topi (up3_t hT12 (by decide) (up3_j hT11 (by decide) (up3_j hT2 (by decide) htold))) ?_
      refine m_iconst 1 dX12_readsNumber_81 rfl ?_
      refine m_iadd dX12_readsNumber_82 ?_
      refine m_topi (show (nI (k_)) + 1 = nI (k_ + 1) from nI_add _ _) ?_
      refine pf_X12_91 dX12_readsNumber_83 (fun T13 hT13 => ?_)
      refine m_iconst 1 dX12_readsNumber_86 rfl ?_
      exact m_zret dX12_readsNumber_87 (Nat.le_refl _) (Nat.le_refl _) nar1 (⟨rfl, T13, rfl, ((up3_o hT13 4 0 11 (by omega)).trans ((up3_o hT12 4 0 11 (by omega)).trans (up3_e hT11))).trans (congrArg nI (show nmP h_ d_ p_ = p_ + 2 from (by unfold nmP; rw [show twB h_ d_ p_ = true from by unfold twB; rw [decide_eq_true (by omega), hd2]; rfl]; rfl)).symm), ((up3_o hT13 4 0 12 (by omega)).trans ((up3_o hT12 4 0 12 (by omega)).trans ((up3_o hT11 4 0 12 (by omega)).trans ((up3_o hT2 4 0 12 (by omega)).trans hbase)))), ((up3_o hT13 4 0 13 (by omega)).trans ((up3_o hT12 4 0 13 (by omega)).trans ((up3_o hT11 4 0 13 (by omega)).trans ((up3_o hT2 4 0 13 (by omega)).trans hend)))), (up3_e hT13), ((up3_o hT13 49 0 k_ (by omega)).trans (up3_e hT12)).trans (congrArg nI (show nmV h_ d_ p_ = 10 * dgV h_ d_ p_ + dgV h_ d_ (p_ + 1) from (by unfold nmV; rw [show twB h_ d_ p_ = true from by unfold twB; rw [decide_eq_true (by omega), hd2]; rfl]; rfl)).symm), fun j_ hj => ((up3_o hT13 49 0 j_ (by omega)).trans ((up3_o hT12 49 0 j_ (by omega)).trans ((up3_o hT11 49 0 j_ (by omega)).trans ((up3_o hT2 49 0 j_ (by omega)).trans rfl)))), fun j_ => ((up3_o hT13 42 0 j_ (by omega)).trans ((up3_o hT12 42 0 j_ (by omega)).trans ((up3_o hT11 42 0 j_ (by omega)).trans ((up3_o hT2 42 0 j_ (by omega)).trans rfl))))⟩)
