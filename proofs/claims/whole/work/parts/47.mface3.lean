theorem sdI_lt0 {t : Nat} (h : t ≤ 10) : sdI t < 0 ↔ t = 0 := by
  unfold sdI
  split
  · rename_i q
    exact ⟨fun _ => q, fun _ => by decide⟩
  · rename_i q
    exact ⟨fun z => absurd z (nI_pos (by omega)), fun z => absurd z q⟩
theorem among_all {a : owK} {k : Nat} (ho : aOk a) (hk : k < aN a) : amongB (allI a) (nI k) = true := by
  have h10 := ho.1
  have hp : 2 ^ aN a ≤ 2 ^ 10 := Nat.pow_le_pow_right (by decide) h10
  unfold allI
  rw [m1_shl (by omega), among_tb (by omega) (by omega), Nat.testBit_two_pow_sub_one, decide_eq_true hk]
theorem gk0 {a : owK} : ∀ {k}, (gkS a 0 k).2 = (if (gkS a 0 k).1 = 0 then 0 else chK a (nI (gkS a 0 k).1))
  | 0 => rfl
  | k + 1 => by
    have ih := gk0 (a := a) (k := k)
    show (if _ then _ else _ : Nat × Nat).2 = (if (if _ then _ else _ : Nat × Nat).1 = 0 then 0 else chK a (nI (if _ then _ else _ : Nat × Nat).1))
    split
    · rw [if_neg (Nat.succ_ne_zero k)]
    · exact ih
theorem among_0 {k : Nat} (hk : k ≤ 12) : amongB 0 (nI k) = false := by
  rw [show (0 : Int32) = nI 0 from rfl, among_tb (by decide) hk, Nat.zero_testBit]
set_option maxRecDepth 100000 in
set_option maxHeartbeats 4000000 in
theorem k_m_drawn (l : Launch) (G : owG) {A S Z B T V : owF} {J : Nat → Nat → Int64} {Y : Nat → Nat → Nat → Option Nat} {P : Nat → Option owW} (n_ : Int32) (hn : n_ ≠ 0) : Ct l G yX12_drawn cX12_drawn 2 ((some .int)) 0 0 0 [.ref (gK G 4 0), .int n_] (A, S, Z, B, T, V, J, Y, P) (qI (fun r_ σ => r_ = drI (nxt (T 4 0 21)) n_ ∧ σ = (A, S, Z, B, up3 T 4 0 21 (nxt (T 4 0 21)), V, J, Y, P))) := by
  refine ct_of (by decide +kernel) (Nat.le_of_ble_eq_true rfl) ?_
  show Wm l G cX12_drawn 2 RX12 ((some .int)) (rmk 0 0 0) (fun _ => True) (QfM G (qI (fun r_ σ => r_ = drI (nxt (T 4 0 21)) n_ ∧ σ = (A, S, Z, B, up3 T 4 0 21 (nxt (T 4 0 21)), V, J, Y, P))) 0 0) 0 [(0, .ref (gK G 4 0)), (1, .int n_)] [] (A, S, Z, B, T, V, J, Y, P) 0 0
  refine m_aload_n 0 rfl rfl dX12_drawn_0 ?_
  refine m_aload_n 0 rfl rfl dX12_drawn_1 ?_
  refine gf_X12_221 dX12_drawn_2 ?_
  refine m_ldc 1103515245 tw_1355 dX12_drawn_5 ?_
  refine m_imul dX12_drawn_7 ?_
  refine m_sipush (12345) dX12_drawn_8 rfl ?_
  refine m_iadd dX12_drawn_11 ?_
  refine pf_X12_221 dX12_drawn_12 (fun T1 hT1 => ?_)
  refine m_aload_n 0 rfl rfl dX12_drawn_15 ?_
  refine gf_X12_221 dX12_drawn_16 ?_
  refine m_topi (up3_e hT1) ?_
  refine m_ldc 2147483647 tw_1356 dX12_drawn_19 ?_
  refine m_iand dX12_drawn_21 ?_
  refine m_ldc 65536 tw_1357 dX12_drawn_22 ?_
  refine m_idiv (by decide) dX12_drawn_24 ?_
  refine m_iload_n 1 rfl rfl dX12_drawn_25 ?_
  refine m_irem hn dX12_drawn_26 ?_
  exact m_iret dX12_drawn_27 (Nat.le_refl _) (Nat.le_refl _) (⟨rfl, by rw [hT1]; rfl⟩)
set_option maxRecDepth 100000 in
set_option maxHeartbeats 4000000 in
theorem k_m_slipped (l : Launch) (G : owG) {A S Z B T V : owF} {J : Nat → Nat → Int64} {Y : Nat → Nat → Nat → Option Nat} {P : Nat → Option owW} (v_ : Int32) : Ct l G yX12_slipped cX12_slipped 6 ((some .int)) 1 0 0 [.ref (gK G 4 0), .int v_] (A, S, Z, B, T, V, J, Y, P) (qI (fun r_ σ => r_ = slpV v_ (T 4 0 21) ∧ ∃ T2 : owF, σ = (A, S, Z, B, T2, V, J, Y, P) ∧ T2 = up3 T 4 0 21 (nxt (nxt (T 4 0 21))))) := by
  refine ct_of (by decide +kernel) (Nat.le_of_ble_eq_true rfl) ?_
  show Wm l G cX12_slipped 6 RX12 ((some .int)) (rmk 1 0 0) (fun _ => True) (QfM G (qI (fun r_ σ => r_ = slpV v_ (T 4 0 21) ∧ ∃ T2 : owF, σ = (A, S, Z, B, T2, V, J, Y, P) ∧ T2 = up3 T 4 0 21 (nxt (nxt (T 4 0 21))))) 0 0) 0 [(0, .ref (gK G 4 0)), (1, .int v_)] [] (A, S, Z, B, T, V, J, Y, P) 0 0
  refine m_aload_n 0 rfl rfl dX12_slipped_0 ?_
  refine m_iconst 4 dX12_slipped_1 rfl ?_
  refine m_callVi cv_X12_227 [.int 4] [] (k_m_drawn l G 4 (by decide)) (by decide) (ce_4 G _ _ _ _ _ _ _ _ _ _) rfl rfl rfl ⟨Nat.le_of_ble_eq_true rfl, Nat.le_of_ble_eq_true rfl⟩ (Nat.le_of_ble_eq_true rfl) ⟨Nat.zero_le _, Nat.zero_le _⟩ dX12_slipped_2 (fun xx σ2 hq => ?_)
  obtain ⟨rfl, rfl⟩ := hq
  obtain ⟨T1, hT1⟩ : ∃ q_ : owF, q_ = up3 T 4 0 21 (nxt (T 4 0 21)) := ⟨_, rfl⟩
  rw [← hT1]
  obtain ⟨cq, hcq, ecq⟩ := drI_nat (nxt (T 4 0 21)) (n := 4) (by decide) (by decide)
  have hp10 := p10 hcq
  refine m_topi ecq ?_
  refine m_istore_n [(2, .int (nI (cq))), (0, .ref (gK G 4 0)), (1, .int v_)] rfl (by decide) rfl dX12_slipped_5 ?_
  refine m_iconst 1 dX12_slipped_6 rfl ?_
  refine m_istore_n [(3, .int 1), (2, .int (nI (cq))), (0, .ref (gK G 4 0)), (1, .int v_)] rfl (by decide) rfl dX12_slipped_7 ?_
  refine m_iconst 0 dX12_slipped_8 rfl ?_
  refine m_istore [(4, .int 0), (3, .int 1), (2, .int (nI (cq))), (0, .ref (gK G 4 0)), (1, .int v_)] (by decide) rfl dX12_slipped_9 ?_
  have lp11 : ∀ (dd : Nat) (k_ : Nat) , k_ ≤ cq → cq - k_ < dd → Wm l G cX12_slipped 6 RX12 ((some .int)) (rmk 1 0 0) (fun _ => True) (QfM G (qI (fun r_ σ => r_ = slpV v_ (T 4 0 21) ∧ ∃ T2 : owF, σ = (A, S, Z, B, T2, V, J, Y, P) ∧ T2 = up3 T 4 0 21 (nxt (nxt (T 4 0 21))))) 0 0) 11 [(0, .ref (gK G 4 0)), (1, .int v_), (2, .int (nI (cq))), (3, .int (nI (10 ^ k_))), (4, .int (nI (k_)))] [] (A, S, Z, B, T1, V, J, Y, P) 0 0 := by
    intro dd
    induction dd with
    | zero => intro k_  hk_ hdd; exact absurd hdd (Nat.not_lt_zero _)
    | succ dd ih11 =>
      intro k_  hk_ hdd11
      refine m_iload 4 rfl dX12_slipped_11 ?_
      refine m_iload_n 2 rfl rfl dX12_slipped_13 ?_
      refine m_icmpn_ge k_ cq 28 (by omega) (by omega) dX12_slipped_14 (by decide) (fun c2_ => ?_) (fun c2_ => ?_)
      ·
        obtain rfl : k_ = cq := (by omega)
        refine m_iload_n 1 rfl rfl dX12_slipped_28 ?_
        refine m_iload_n 3 rfl rfl dX12_slipped_29 ?_
        refine m_idiv (nI_ne0 (by omega) (by omega)) dX12_slipped_30 ?_
        refine m_bipush (10) dX12_slipped_31 rfl ?_
        refine m_irem (by decide) dX12_slipped_33 ?_
        refine m_istore [(4, .int ((v_ / (nI (10 ^ k_))) - (v_ / (nI (10 ^ k_))) / 10 * 10)), (0, .ref (gK G 4 0)), (1, .int v_), (2, .int (nI (k_))), (3, .int (nI (10 ^ k_)))] (by decide) rfl dX12_slipped_34 ?_
        refine m_aload_n 1 rfl rfl dX12_slipped_36 ?_
        refine m_iconst 2 dX12_slipped_37 rfl ?_
        refine m_callVi cv_X12_227 [.int 2] [] (k_m_drawn l G 2 (by decide)) (by decide) (ce_4 G _ _ _ _ _ _ _ _ _ _) rfl rfl rfl ⟨Nat.le_of_ble_eq_true rfl, Nat.le_of_ble_eq_true rfl⟩ (Nat.le_of_ble_eq_true rfl) ⟨Nat.zero_le _, Nat.zero_le _⟩ dX12_slipped_38 (fun xx σ2 hq => ?_)
        obtain ⟨rfl, rfl⟩ := hq
        obtain ⟨T3, hT3⟩ : ∃ q_ : owF, q_ = up3 T1 4 0 21 (nxt (T1 4 0 21)) := ⟨_, rfl⟩
        rw [← hT3]
        refine m_if_ne 54 dX12_slipped_41 (by decide) (fun c4_ => ?_) (fun c4_ => ?_)
        ·
          refine m_iload 0 rfl dX12_slipped_54 ?_
          refine m_bipush (9) dX12_slipped_56 rfl ?_
          refine m_iadd dX12_slipped_58 ?_
          refine m_bipush (10) dX12_slipped_59 rfl ?_
          refine m_irem (by decide) dX12_slipped_61 ?_
          refine m_istore [(5, .int ((((v_ / (nI (10 ^ k_))) - (v_ / (nI (10 ^ k_))) / 10 * 10) + 9) - (((v_ / (nI (10 ^ k_))) - (v_ / (nI (10 ^ k_))) / 10 * 10) + 9) / 10 * 10)), (4, .int ((v_ / (nI (10 ^ k_))) - (v_ / (nI (10 ^ k_))) / 10 * 10)), (0, .ref (gK G 4 0)), (1, .int v_), (2, .int (nI (k_))), (3, .int (nI (10 ^ k_)))] (by decide) rfl dX12_slipped_62 ?_
          refine m_iload_n 3 rfl rfl dX12_slipped_64 ?_
          refine m_iload_n 5 rfl rfl dX12_slipped_65 ?_
          refine m_iload 0 rfl dX12_slipped_66 ?_
          refine m_iload 1 rfl dX12_slipped_68 ?_
          refine m_isub dX12_slipped_70 ?_
          refine m_imul dX12_slipped_71 ?_
          refine m_iadd dX12_slipped_72 ?_
          exact m_iret dX12_slipped_73 (Nat.le_refl _) (Nat.le_refl _) (⟨by unfold slpV; rw [show (drI (nxt (T 4 0 21)) 4).toNatClampNeg = k_ from (congrArg Int32.toNatClampNeg ecq).trans (nI_clamp (by omega)), show nxt (nxt (T 4 0 21)) = nxt (T1 4 0 21) from congrArg nxt (up3_e hT1).symm, if_neg c4_]; unfold slpI; simp only []; rw [Int32.mul_comm (nI (10 ^ k_))], _, rfl, (up3_up3 hT1 hT3).trans (by rw [up3_e hT1])⟩)
        ·
          refine m_iload 0 rfl dX12_slipped_44 ?_
          refine m_iconst 1 dX12_slipped_46 rfl ?_
          refine m_iadd dX12_slipped_47 ?_
          refine m_bipush (10) dX12_slipped_48 rfl ?_
          refine m_irem (by decide) dX12_slipped_50 ?_
          refine m_goto 62 dX12_slipped_51 (by decide) ?_
          refine m_istore [(5, .int ((((v_ / (nI (10 ^ k_))) - (v_ / (nI (10 ^ k_))) / 10 * 10) + 1) - (((v_ / (nI (10 ^ k_))) - (v_ / (nI (10 ^ k_))) / 10 * 10) + 1) / 10 * 10)), (4, .int ((v_ / (nI (10 ^ k_))) - (v_ / (nI (10 ^ k_))) / 10 * 10)), (0, .ref (gK G 4 0)), (1, .int v_), (2, .int (nI (k_))), (3, .int (nI (10 ^ k_)))] (by decide) rfl dX12_slipped_62 ?_
          refine m_iload_n 3 rfl rfl dX12_slipped_64 ?_
          refine m_iload_n 5 rfl rfl dX12_slipped_65 ?_
          refine m_iload 0 rfl dX12_slipped_66 ?_
          refine m_iload 1 rfl dX12_slipped_68 ?_
          refine m_isub dX12_slipped_70 ?_
          refine m_imul dX12_slipped_71 ?_
          refine m_iadd dX12_slipped_72 ?_
          exact m_iret dX12_slipped_73 (Nat.le_refl _) (Nat.le_refl _) (⟨by unfold slpV; rw [show (drI (nxt (T 4 0 21)) 4).toNatClampNeg = k_ from (congrArg Int32.toNatClampNeg ecq).trans (nI_clamp (by omega)), show nxt (nxt (T 4 0 21)) = nxt (T1 4 0 21) from congrArg nxt (up3_e hT1).symm, if_pos c4_]; unfold slpI; simp only []; rw [Int32.mul_comm (nI (10 ^ k_))], _, rfl, (up3_up3 hT1 hT3).trans (by rw [up3_e hT1])⟩)
      ·
        refine m_iload_n 3 rfl rfl dX12_slipped_17 ?_
        refine m_bipush (10) dX12_slipped_18 rfl ?_
        refine m_imul dX12_slipped_20 ?_
        refine m_topi (show (nI (10 ^ k_)) * 10 = nI ((10 ^ k_) * 10) from pk_mul _ _) ?_
        refine m_istore_n [(3, .int (nI ((10 ^ k_) * 10))), (0, .ref (gK G 4 0)), (1, .int v_), (2, .int (nI (cq))), (4, .int (nI (k_)))] rfl (by decide) rfl dX12_slipped_21 ?_
        refine m_iinc (nI (k_ + 1)) 4 [(4, .int (nI (k_ + 1))), (3, .int (nI ((10 ^ k_) * 10))), (0, .ref (gK G 4 0)), (1, .int v_), (2, .int (nI (cq)))] rfl (nI_1 _) (by decide) rfl dX12_slipped_22 ?_
        refine m_goto 11 dX12_slipped_25 (by decide) ?_
        refine m_lv [(0, .ref (gK G 4 0)), (1, .int v_), (2, .int (nI (cq))), (3, .int (nI ((10 ^ k_) * 10))), (4, .int (nI (k_ + 1)))] [2, 3, 4, 1, 0] rfl ?_
        exact ih11 (k_ + 1)  (by omega) (by omega)
  refine m_lv [(0, .ref (gK G 4 0)), (1, .int v_), (2, .int (nI (cq))), (3, .int 1), (4, .int 0)] [3, 4, 2, 1, 0] rfl ?_
  exact lp11 ((cq - 0) + 1) 0  (Nat.zero_le _) (Nat.lt_succ_self _)
set_option maxRecDepth 100000 in
set_option maxHeartbeats 4000000 in
theorem k_m_groupOf (l : Launch) (G : owG) {A S Z B T V : owF} {J : Nat → Nat → Int64} {Y : Nat → Nat → Nat → Option Nat} {P : Nat → Option owW} (a_ : owK) (ho_ : aOk a_) (im : Option owK) (h_ : owH) (hM : MR B a_ im h_) (v_ : Int32) : Ct l G yX12_groupOf cX12_groupOf 4 ((some .int)) 1 0 0 [.ref (gK G 4 0), .int v_] (A, S, Z, B, T, V, J, Y, P) (qI (fun r_ σ => r_ = nI (chK a_ v_) ∧ σ = (A, S, Z, B, T, V, J, Y, P))) := by
  refine ct_of (by decide +kernel) (Nat.le_of_ble_eq_true rfl) ?_
  have h10 := ho_.1
  have h8_ := ho_.2.1
  have hX := hM.1
  show Wm l G cX12_groupOf 4 RX12 ((some .int)) (rmk 1 0 0) (fun _ => True) (QfM G (qI (fun r_ σ => r_ = nI (chK a_ v_) ∧ σ = (A, S, Z, B, T, V, J, Y, P))) 0 0) 0 [(0, .ref (gK G 4 0)), (1, .int v_)] [] (A, S, Z, B, T, V, J, Y, P) 0 0
  refine m_iconst 0 dX12_groupOf_0 rfl ?_
  refine m_istore_n [(2, .int 0), (0, .ref (gK G 4 0)), (1, .int v_)] rfl (by decide) rfl dX12_groupOf_1 ?_
  refine m_iconst 0 dX12_groupOf_2 rfl ?_
  refine m_istore_n [(3, .int 0), (2, .int 0), (0, .ref (gK G 4 0)), (1, .int v_)] rfl (by decide) rfl dX12_groupOf_3 ?_
  have lp4 : ∀ (dd : Nat) (k_ : Nat) , k_ ≤ aC a_ → aC a_ - k_ < dd → Wm l G cX12_groupOf 4 RX12 ((some .int)) (rmk 1 0 0) (fun _ => True) (QfM G (qI (fun r_ σ => r_ = nI (chK a_ v_) ∧ σ = (A, S, Z, B, T, V, J, Y, P))) 0 0) 4 [(0, .ref (gK G 4 0)), (1, .int v_), (2, .int (nI (cntB (fun c_ => decide (nI (aK a_ (aH a_ c_)) = v_)) k_))), (3, .int (nI (k_)))] [] (A, S, Z, B, T, V, J, Y, P) 0 0 := by
    intro dd
    induction dd with
    | zero => intro k_  hk_ hdd; exact absurd hdd (Nat.not_lt_zero _)
    | succ dd ih4 =>
      intro k_  hk_ hdd4
      have hcc := cntB_le (fun c_ => decide (nI (aK a_ (aH a_ c_)) = v_)) k_
      refine m_iload_n 3 rfl rfl dX12_groupOf_4 ?_
      refine m_aload_n 0 rfl rfl dX12_groupOf_5 ?_
      refine gf_X12_9 dX12_groupOf_6 ?_
      refine m_iconst 1 dX12_groupOf_9 rfl ?_
      refine al_40 1 rfl (by omega) dX12_groupOf_10 ?_
      refine m_topi hX.2.1 ?_
      refine m_icmpn_ge k_ (aC a_) 43 (by omega) (by omega) dX12_groupOf_11 (by decide) (fun c1_ => ?_) (fun c1_ => ?_)
      ·
        refine m_iload_n 2 rfl rfl dX12_groupOf_43 ?_
        exact m_iret dX12_groupOf_44 (Nat.le_refl _) (Nat.le_refl _) ((by obtain rfl : k_ = aC a_ := (by omega); exact ⟨rfl, rfl⟩))
      ·
        refine m_iload_n 2 rfl rfl dX12_groupOf_14 ?_
        refine m_aload_n 0 rfl rfl dX12_groupOf_15 ?_
        refine m_aload_n 0 rfl rfl dX12_groupOf_16 ?_
        refine m_iload_n 3 rfl rfl dX12_groupOf_17 ?_
        refine m_iconst 0 dX12_groupOf_18 rfl ?_
        refine m_callVi cv_X12_128 [.int (nI (k_)), .int 0] [.ref (gK G 4 0), .int (nI (cntB (fun c_ => decide (nI (aK a_ (aH a_ c_)) = v_)) k_))] (k_m_of l G a_ ho_ im h_ hM k_ (by omega) 0 (by decide)) (by decide) (ce_4 G _ _ _ _ _ _ _ _ _ _) rfl rfl rfl ⟨Nat.le_of_ble_eq_true rfl, Nat.le_of_ble_eq_true rfl⟩ (Nat.le_of_ble_eq_true rfl) ⟨Nat.zero_le _, Nat.zero_le _⟩ dX12_groupOf_19 (fun xx σ2 hq => ?_)
        obtain ⟨hgx, rfl⟩ := hq
        obtain rfl : xx = nI (aH a_ k_) := hgx
        refine m_iconst 0 dX12_groupOf_22 rfl ?_
        refine m_callVi cv_X12_119 [.int (nI (aH a_ k_)), .int 0] [.int (nI (cntB (fun c_ => decide (nI (aK a_ (aH a_ c_)) = v_)) k_))] (k_m_get l G a_ ho_ im h_ hM (aH a_ k_) (ho_.2.2.2.1 k_ (by omega)).1 0 (by decide)) (by decide) (ce_4 G _ _ _ _ _ _ _ _ _ _) rfl rfl rfl ⟨Nat.le_of_ble_eq_true rfl, Nat.le_of_ble_eq_true rfl⟩ (Nat.le_of_ble_eq_true rfl) ⟨Nat.zero_le _, Nat.zero_le _⟩ dX12_groupOf_23 (fun xx σ2 hq => ?_)
        obtain ⟨hgx, rfl⟩ := hq
        obtain rfl : xx = nI (aK a_ (aH a_ k_)) := hgx
        have hx2 := aK_lt ho_ (w := (aH a_ k_)) (ho_.2.2.2.1 k_ (by omega)).1
        refine m_iload_n 1 rfl rfl dX12_groupOf_26 ?_
        refine m_icmp_ne 34 dX12_groupOf_27 (by decide) (fun c3_ => ?_) (fun c3_ => ?_)
        ·
          refine m_iconst 0 dX12_groupOf_34 rfl ?_
          refine m_iadd dX12_groupOf_35 ?_
          refine m_topi (show (nI (cntB (fun c_ => decide (nI (aK a_ (aH a_ c_)) = v_)) k_)) + 0 = nI ((cntB (fun c_ => decide (nI (aK a_ (aH a_ c_)) = v_)) k_) + 0) from nI_add _ _) ?_
          refine m_istore_n [(2, .int (nI ((cntB (fun c_ => decide (nI (aK a_ (aH a_ c_)) = v_)) k_) + 0))), (0, .ref (gK G 4 0)), (1, .int v_), (3, .int (nI (k_)))] rfl (by decide) rfl dX12_groupOf_36 ?_
          refine m_iinc (nI (k_ + 1)) 3 [(3, .int (nI (k_ + 1))), (2, .int (nI ((cntB (fun c_ => decide (nI (aK a_ (aH a_ c_)) = v_)) k_) + 0))), (0, .ref (gK G 4 0)), (1, .int v_)] rfl (nI_1 _) (by decide) rfl dX12_groupOf_37 ?_
          refine m_goto 4 dX12_groupOf_40 (by decide) ?_
          refine m_lv [(0, .ref (gK G 4 0)), (1, .int v_), (2, .int (nI ((cntB (fun c_ => decide (nI (aK a_ (aH a_ c_)) = v_)) k_) + 0))), (3, .int (nI (k_ + 1)))] [2, 3, 1, 0] rfl ?_
          rw [show cntB (fun c_ => decide (nI (aK a_ (aH a_ c_)) = v_)) k_ = cntB (fun c_ => decide (nI (aK a_ (aH a_ c_)) = v_)) (k_ + 1) from cntB_f (p := (fun c_ => decide (nI (aK a_ (aH a_ c_)) = v_))) (by grind)]
          exact ih4 (k_ + 1)  (by omega) (by omega)
        ·
          refine m_iconst 1 dX12_groupOf_30 rfl ?_
          refine m_goto 35 dX12_groupOf_31 (by decide) ?_
          refine m_iadd dX12_groupOf_35 ?_
          refine m_topi (show (nI (cntB (fun c_ => decide (nI (aK a_ (aH a_ c_)) = v_)) k_)) + 1 = nI ((cntB (fun c_ => decide (nI (aK a_ (aH a_ c_)) = v_)) k_) + 1) from nI_add _ _) ?_
          refine m_istore_n [(2, .int (nI ((cntB (fun c_ => decide (nI (aK a_ (aH a_ c_)) = v_)) k_) + 1))), (0, .ref (gK G 4 0)), (1, .int v_), (3, .int (nI (k_)))] rfl (by decide) rfl dX12_groupOf_36 ?_
          refine m_iinc (nI (k_ + 1)) 3 [(3, .int (nI (k_ + 1))), (2, .int (nI ((cntB (fun c_ => decide (nI (aK a_ (aH a_ c_)) = v_)) k_) + 1))), (0, .ref (gK G 4 0)), (1, .int v_)] rfl (nI_1 _) (by decide) rfl dX12_groupOf_37 ?_
          refine m_goto 4 dX12_groupOf_40 (by decide) ?_
          refine m_lv [(0, .ref (gK G 4 0)), (1, .int v_), (2, .int (nI ((cntB (fun c_ => decide (nI (aK a_ (aH a_ c_)) = v_)) k_) + 1))), (3, .int (nI (k_ + 1)))] [2, 3, 1, 0] rfl ?_
          rw [show (cntB (fun c_ => decide (nI (aK a_ (aH a_ c_)) = v_)) k_) + 1 = cntB (fun c_ => decide (nI (aK a_ (aH a_ c_)) = v_)) (k_ + 1) from cntB_t (p := (fun c_ => decide (nI (aK a_ (aH a_ c_)) = v_))) (by grind)]
          exact ih4 (k_ + 1)  (by omega) (by omega)
  refine m_lv [(0, .ref (gK G 4 0)), (1, .int v_), (2, .int 0), (3, .int 0)] [2, 3, 1, 0] rfl ?_
  exact lp4 ((aC a_ - 0) + 1) 0  (Nat.zero_le _) (Nat.lt_succ_self _)
set_option maxRecDepth 100000 in
set_option maxHeartbeats 4000000 in
theorem k_m_groups (l : Launch) (G : owG) {A S Z B T V : owF} {J : Nat → Nat → Int64} {Y : Nat → Nat → Nat → Option Nat} {P : Nat → Option owW} (a_ : owK) (ho_ : aOk a_) (im : Option owK) (h_ : owH) (hM : MR B a_ im h_) (v_ : Int32) : Ct l G yX12_groups cX12_groups 2 ((some .int)) 2 0 0 [.ref (gK G 4 0), .int v_] (A, S, Z, B, T, V, J, Y, P) (qI (fun r_ σ => r_ = groupsI a_ v_ ∧ ∃ (T2 V2 : owF), σ = (A, S, Z, B, T2, V2, J, Y, P))) := by
  refine ct_of (by decide +kernel) (Nat.le_of_ble_eq_true rfl) ?_
  have h10 := ho_.1
  have h8_ := ho_.2.1
  have hX := hM.1
  show Wm l G cX12_groups 2 RX12 ((some .int)) (rmk 2 0 0) (fun _ => True) (QfM G (qI (fun r_ σ => r_ = groupsI a_ v_ ∧ ∃ (T2 V2 : owF), σ = (A, S, Z, B, T2, V2, J, Y, P))) 0 0) 0 [(0, .ref (gK G 4 0)), (1, .int v_)] [] (A, S, Z, B, T, V, J, Y, P) 0 0
  refine m_iload_n 1 rfl rfl dX12_groups_0 ?_
  refine m_i2l dX12_groups_1 ?_
  refine m_lconst 0 dX12_groups_2 rfl ?_
  refine m_topl (show (0 : Int64) = (0 : Int32).toInt64 by decide) ?_
  refine m_ldc2 7 tw_1122 dX12_groups_3 ?_
  refine m_topl (show (7 : Int64) = (7 : Int32).toInt64 by decide) ?_
  refine m_callSi cs_X12_62 [.long (v_.toInt64), .long ((0 : Int32).toInt64), .long ((7 : Int32).toInt64)] [] (k_m_isIn l G v_ 0 7) rfl rfl ⟨Nat.le_of_ble_eq_true rfl, Nat.le_of_ble_eq_true rfl⟩ (Nat.le_of_ble_eq_true rfl) ⟨Nat.zero_le _, Nat.zero_le _⟩ dX12_groups_6 (fun xx σ2 hq => ?_)
  obtain ⟨rfl, rfl⟩ := hq
  refine m_ifeq_b 20 dX12_groups_9 (by decide) (fun c1_ => ?_) (fun c1_ => ?_)
  ·
    refine m_iconst (-1) dX12_groups_20 rfl ?_
    exact m_iret dX12_groups_21 (Nat.le_refl _) (Nat.le_refl _) (⟨by unfold groupsI; rw [if_neg (show ¬ (0 ≤ v_ ∧ v_ < 8) from by rw [← show (v_ ≤ 7 ↔ v_ < 8) from le_lt1 (n := 7) (by decide)]; exact of_decide_eq_false c1_)], _, _, rfl⟩)
  ·
    refine m_aload_n 0 rfl rfl dX12_groups_12 ?_
    refine m_iload_n 1 rfl rfl dX12_groups_13 ?_
    refine m_callVi cv_X12_243 [.int v_] [] (k_m_groupOf l G a_ ho_ im h_ hM v_) (by decide) (ce_4 G _ _ _ _ _ _ _ _ _ _) rfl rfl rfl ⟨Nat.le_of_ble_eq_true rfl, Nat.le_of_ble_eq_true rfl⟩ (Nat.le_of_ble_eq_true rfl) ⟨Nat.zero_le _, Nat.zero_le _⟩ dX12_groups_14 (fun xx σ2 hq => ?_)
    obtain ⟨rfl, rfl⟩ := hq
    have hch1 := chK_le (a := a_) (v := v_) ho_
    refine m_goto 21 dX12_groups_17 (by decide) ?_
    exact m_iret dX12_groups_21 (Nat.le_refl _) (Nat.le_refl _) (⟨by unfold groupsI; rw [if_pos (show  (0 ≤ v_ ∧ v_ < 8) from by rw [← show (v_ ≤ 7 ↔ v_ < 8) from le_lt1 (n := 7) (by decide)]; exact of_decide_eq_true c1_)], _, _, rfl⟩)
set_option maxRecDepth 100000 in
set_option maxHeartbeats 4000000 in
theorem k_m_greatest (l : Launch) (G : owG) {A S Z B T V : owF} {J : Nat → Nat → Int64} {Y : Nat → Nat → Nat → Option Nat} {P : Nat → Option owW} (a_ : owK) (ho_ : aOk a_) (im : Option owK) (h_ : owH) (hM : MR B a_ im h_)  : Ct l G yX12_greatest cX12_greatest 3 ((some .int)) 2 0 0 [.ref (gK G 4 0)] (A, S, Z, B, T, V, J, Y, P) (qI (fun r_ σ => r_ = greatestI a_ ∧ ∃ (T2 V2 : owF), σ = (A, S, Z, B, T2, V2, J, Y, P))) := by
  refine ct_of (by decide +kernel) (Nat.le_of_ble_eq_true rfl) ?_
  have h10 := ho_.1
  have h8_ := ho_.2.1
  have hX := hM.1
  show Wm l G cX12_greatest 3 RX12 ((some .int)) (rmk 2 0 0) (fun _ => True) (QfM G (qI (fun r_ σ => r_ = greatestI a_ ∧ ∃ (T2 V2 : owF), σ = (A, S, Z, B, T2, V2, J, Y, P))) 0 0) 0 [(0, .ref (gK G 4 0))] [] (A, S, Z, B, T, V, J, Y, P) 0 0
  refine m_bipush (-4) dX12_greatest_0 rfl ?_
  refine m_istore_n [(1, .int (-4)), (0, .ref (gK G 4 0))] rfl (by decide) rfl dX12_greatest_2 ?_
  refine m_iconst 1 dX12_greatest_3 rfl ?_
  refine m_istore_n [(2, .int 1), (1, .int (-4)), (0, .ref (gK G 4 0))] rfl (by decide) rfl dX12_greatest_4 ?_
  have lp5 : ∀ (dd : Nat) (k_ : Nat) , k_ ≤ 7 → 7 - k_ < dd → Wm l G cX12_greatest 3 RX12 ((some .int)) (rmk 2 0 0) (fun _ => True) (QfM G (qI (fun r_ σ => r_ = greatestI a_ ∧ ∃ (T2 V2 : owF), σ = (A, S, Z, B, T2, V2, J, Y, P))) 0 0) 5 [(0, .ref (gK G 4 0)), (1, .int (kdI (gkS a_ 0 k_).1)), (2, .int (nI (k_ + 1)))] [] (A, S, Z, B, T, V, J, Y, P) 0 0 := by
    intro dd
    induction dd with
    | zero => intro k_  hk_ hdd; exact absurd hdd (Nat.not_lt_zero _)
    | succ dd ih5 =>
      intro k_  hk_ hdd5
      refine m_iload_n 2 rfl rfl dX12_greatest_5 ?_
      refine m_bipush (8) dX12_greatest_6 rfl ?_
      refine m_icmpn_ge (k_ + 1) 8 40 (by omega) (by decide) dX12_greatest_8 (by decide) (fun c1_ => ?_) (fun c1_ => ?_)
      ·
        refine m_iload_n 1 rfl rfl dX12_greatest_40 ?_
        exact m_iret dX12_greatest_41 (Nat.le_refl _) (Nat.le_refl _) ((by obtain rfl : k_ = 7 := (by omega); exact ⟨rfl, _, _, rfl⟩))
      ·
        refine m_aload_n 0 rfl rfl dX12_greatest_11 ?_
        refine m_iload_n 2 rfl rfl dX12_greatest_12 ?_
        refine m_callVi cv_X12_243 [.int (nI (k_ + 1))] [] (k_m_groupOf l G a_ ho_ im h_ hM (nI (k_ + 1))) (by decide) (ce_4 G _ _ _ _ _ _ _ _ _ _) rfl rfl rfl ⟨Nat.le_of_ble_eq_true rfl, Nat.le_of_ble_eq_true rfl⟩ (Nat.le_of_ble_eq_true rfl) ⟨Nat.zero_le _, Nat.zero_le _⟩ dX12_greatest_13 (fun xx σ2 hq => ?_)
        obtain ⟨rfl, rfl⟩ := hq
        have hch1 := chK_le (a := a_) (v := (nI (k_ + 1))) ho_
        rcases Nat.eq_zero_or_pos (gkS a_ 0 k_).1 with hb | hb
        ·
          have hg0 := gk0 (a := a_) (k := k_)
          rw [show kdI (gkS a_ 0 k_).1 = -4 from by rw [hb]; rfl]
          rw [hb, if_pos rfl] at hg0
          refine m_iload_n 1 rfl rfl dX12_greatest_16 ?_
          refine m_if_ge 24 dX12_greatest_17 (by decide) (fun c2_ => absurd c2_ (by decide)) (fun _ => ?_)
          refine m_iconst 0 dX12_greatest_20 rfl ?_
          refine m_goto 29 dX12_greatest_21 (by decide) ?_
          refine m_icmpn_le (chK a_ (nI (k_ + 1))) 0 34 (by omega) (by decide) dX12_greatest_29 (by decide) (fun c3_ => ?_) (fun c3_ => ?_)
          ·
            refine m_iinc (nI (k_ + 1 + 1)) 2 [(2, .int (nI (k_ + 1 + 1))), (0, .ref (gK G 4 0)), (1, .int (-4))] rfl (nI_1 _) (by decide) rfl dX12_greatest_34 ?_
            refine m_goto 5 dX12_greatest_37 (by decide) ?_
            refine m_lv [(0, .ref (gK G 4 0)), (1, .int (-4)), (2, .int (nI (k_ + 1 + 1)))] [1, 2, 0] rfl ?_
            have ihx := ih5 (k_ + 1)  (by omega) (by omega)
            rw [gkS_n (k := k_) (ws := 0) (fun q_ => absurd q_.1 (by omega))] at ihx
            rw [show kdI (gkS a_ 0 k_).1 = -4 from by rw [hb]; rfl] at ihx
            exact ihx
          ·
            refine m_iload_n 2 rfl rfl dX12_greatest_32 ?_
            refine m_istore_n [(1, .int (nI (k_ + 1))), (0, .ref (gK G 4 0)), (2, .int (nI (k_ + 1)))] rfl (by decide) rfl dX12_greatest_33 ?_
            refine m_iinc (nI (k_ + 1 + 1)) 2 [(2, .int (nI (k_ + 1 + 1))), (1, .int (nI (k_ + 1))), (0, .ref (gK G 4 0))] rfl (nI_1 _) (by decide) rfl dX12_greatest_34 ?_
            refine m_goto 5 dX12_greatest_37 (by decide) ?_
            refine m_lv [(0, .ref (gK G 4 0)), (1, .int (nI (k_ + 1))), (2, .int (nI (k_ + 1 + 1)))] [2, 1, 0] rfl ?_
            have ihx := ih5 (k_ + 1)  (by omega) (by omega)
            rw [gkS_y (k := k_) (ws := 0) (by omega) (among_0 (by omega))] at ihx
            exact ihx
        ·
          have hg0 := gk0 (a := a_) (k := k_)
          have hbk := gkS_k a_ 0 k_
          rw [show kdI (gkS a_ 0 k_).1 = nI (gkS a_ 0 k_).1 from if_neg (by omega)]
          rw [if_neg (by omega)] at hg0
          refine m_iload_n 1 rfl rfl dX12_greatest_16 ?_
          refine m_ifn_ge ((gkS a_ 0 k_).1) 24 (by omega) dX12_greatest_17 (by decide) (fun _ => ?_) (fun c4_ => m_dead c4_)
          refine m_aload_n 0 rfl rfl dX12_greatest_24 ?_
          refine m_iload_n 1 rfl rfl dX12_greatest_25 ?_
          refine m_callVi cv_X12_243 [.int (nI ((gkS a_ 0 k_).1))] [.int (nI (chK a_ (nI (k_ + 1))))] (k_m_groupOf l G a_ ho_ im h_ hM (nI ((gkS a_ 0 k_).1))) (by decide) (ce_4 G _ _ _ _ _ _ _ _ _ _) rfl rfl rfl ⟨Nat.le_of_ble_eq_true rfl, Nat.le_of_ble_eq_true rfl⟩ (Nat.le_of_ble_eq_true rfl) ⟨Nat.zero_le _, Nat.zero_le _⟩ dX12_greatest_26 (fun xx σ2 hq => ?_)
          obtain ⟨rfl, rfl⟩ := hq
          have hch4 := chK_le (a := a_) (v := (nI ((gkS a_ 0 k_).1))) ho_
          refine m_icmpn_le (chK a_ (nI (k_ + 1))) (chK a_ (nI ((gkS a_ 0 k_).1))) 34 (by omega) (by omega) dX12_greatest_29 (by decide) (fun c5_ => ?_) (fun c5_ => ?_)
          ·
            refine m_iinc (nI (k_ + 1 + 1)) 2 [(2, .int (nI (k_ + 1 + 1))), (0, .ref (gK G 4 0)), (1, .int (nI ((gkS a_ 0 k_).1)))] rfl (nI_1 _) (by decide) rfl dX12_greatest_34 ?_
            refine m_goto 5 dX12_greatest_37 (by decide) ?_
            refine m_lv [(0, .ref (gK G 4 0)), (1, .int (nI ((gkS a_ 0 k_).1))), (2, .int (nI (k_ + 1 + 1)))] [1, 2, 0] rfl ?_
            have ihx := ih5 (k_ + 1)  (by omega) (by omega)
            rw [gkS_n (k := k_) (ws := 0) (fun q_ => absurd q_.1 (by omega))] at ihx
            rw [show kdI (gkS a_ 0 k_).1 = nI (gkS a_ 0 k_).1 from if_neg (by omega)] at ihx
            exact ihx
          ·
            refine m_iload_n 2 rfl rfl dX12_greatest_32 ?_
            refine m_istore_n [(1, .int (nI (k_ + 1))), (0, .ref (gK G 4 0)), (2, .int (nI (k_ + 1)))] rfl (by decide) rfl dX12_greatest_33 ?_
            refine m_iinc (nI (k_ + 1 + 1)) 2 [(2, .int (nI (k_ + 1 + 1))), (1, .int (nI (k_ + 1))), (0, .ref (gK G 4 0))] rfl (nI_1 _) (by decide) rfl dX12_greatest_34 ?_
            refine m_goto 5 dX12_greatest_37 (by decide) ?_
            refine m_lv [(0, .ref (gK G 4 0)), (1, .int (nI (k_ + 1))), (2, .int (nI (k_ + 1 + 1)))] [2, 1, 0] rfl ?_
            have ihx := ih5 (k_ + 1)  (by omega) (by omega)
            rw [gkS_y (k := k_) (ws := 0) (by omega) (among_0 (by omega))] at ihx
            exact ihx
  refine m_lv [(0, .ref (gK G 4 0)), (1, .int (-4)), (2, .int 1)] [2, 1, 0] rfl ?_
  exact lp5 ((7 - 0) + 1) 0  (Nat.zero_le _) (Nat.lt_succ_self _)
set_option maxRecDepth 100000 in
set_option maxHeartbeats 4000000 in
theorem k_m_count (l : Launch) (G : owG) {A S Z B T V : owF} {J : Nat → Nat → Int64} {Y : Nat → Nat → Nat → Option Nat} {P : Nat → Option owW} (a_ : owK) (ho_ : aOk a_) (im : Option owK) (h_ : owH) (hM : MR B a_ im h_) (x_ : Int32) : Ct l G yX12_count cX12_count 4 ((some .int)) 1 0 0 [.ref (gK G 4 0), .int x_] (A, S, Z, B, T, V, J, Y, P) (qI (fun r_ σ => r_ = countI a_ x_ ∧ ∃ (T2 V2 : owF), σ = (A, S, Z, B, T2, V2, J, Y, P))) := by
  refine ct_of (by decide +kernel) (Nat.le_of_ble_eq_true rfl) ?_
  have h10 := ho_.1
  have h8_ := ho_.2.1
  have hX := hM.1
  show Wm l G cX12_count 4 RX12 ((some .int)) (rmk 1 0 0) (fun _ => True) (QfM G (qI (fun r_ σ => r_ = countI a_ x_ ∧ ∃ (T2 V2 : owF), σ = (A, S, Z, B, T2, V2, J, Y, P))) 0 0) 0 [(0, .ref (gK G 4 0)), (1, .int x_)] [] (A, S, Z, B, T, V, J, Y, P) 0 0
  refine m_iconst 0 dX12_count_0 rfl ?_
  refine m_istore_n [(2, .int 0), (0, .ref (gK G 4 0)), (1, .int x_)] rfl (by decide) rfl dX12_count_1 ?_
  refine m_iload_n 2 rfl rfl dX12_count_2 ?_
  rcases Decidable.em (x_ = 0) with rfl | ej0
  ·
    refine m_tableIn 40 dX12_count_3 (by decide) (by decide) (by rfl) (by decide) ?_
    refine m_aload_n 1 rfl rfl dX12_count_40 ?_
    refine gf_X12_9 dX12_count_41 ?_
    refine m_iload_n 2 rfl rfl dX12_count_44 ?_
    refine al_40 0 rfl (by omega) dX12_count_45 ?_
    refine m_topi hX.1 ?_
    exact m_iret dX12_count_46 (Nat.le_refl _) (Nat.le_refl _) (⟨rfl, _, _, rfl⟩)
  rcases Decidable.em (x_ = 1) with rfl | ej1
  ·
    refine m_tableIn 40 dX12_count_3 (by decide) (by decide) (by rfl) (by decide) ?_
    refine m_aload_n 1 rfl rfl dX12_count_40 ?_
    refine gf_X12_9 dX12_count_41 ?_
    refine m_iload_n 2 rfl rfl dX12_count_44 ?_
    refine al_40 1 rfl (by omega) dX12_count_45 ?_
    refine m_topi hX.2.1 ?_
    exact m_iret dX12_count_46 (Nat.le_refl _) (Nat.le_refl _) (⟨rfl, _, _, rfl⟩)
  rcases Decidable.em (x_ = 2) with rfl | ej2
  ·
    refine m_tableIn 47 dX12_count_3 (by decide) (by decide) (by rfl) (by decide) ?_
    refine m_iconst 0 dX12_count_47 rfl ?_
    refine m_istore_n [(3, .int 0), (2, .int 0), (0, .ref (gK G 4 0)), (1, .int 2)] rfl (by decide) rfl dX12_count_48 ?_
    have lp49 : ∀ (dd : Nat) (k_ : Nat) , k_ ≤ aN a_ → aN a_ - k_ < dd → Wm l G cX12_count 4 RX12 ((some .int)) (rmk 1 0 0) (fun _ => True) (QfM G (qI (fun r_ σ => r_ = countI a_ 2 ∧ ∃ (T2 V2 : owF), σ = (A, S, Z, B, T2, V2, J, Y, P))) 0 0) 49 [(0, .ref (gK G 4 0)), (1, .int 2), (2, .int (nI (cntB (fun w_ => decide (aK a_ w_ = 0)) k_))), (3, .int (nI (k_)))] [] (A, S, Z, B, T, V, J, Y, P) 0 0 := by
      intro dd
      induction dd with
      | zero => intro k_  hk_ hdd; exact absurd hdd (Nat.not_lt_zero _)
      | succ dd ih49 =>
        intro k_  hk_ hdd49
        have hcc := cntB_le (fun w_ => decide (aK a_ w_ = 0)) k_
        refine m_iload_n 3 rfl rfl dX12_count_49 ?_
        refine m_aload_n 0 rfl rfl dX12_count_50 ?_
        refine gf_X12_9 dX12_count_51 ?_
        refine m_iconst 0 dX12_count_54 rfl ?_
        refine al_40 0 rfl (by omega) dX12_count_55 ?_
        refine m_topi hX.1 ?_
        refine m_icmpn_ge k_ (aN a_) 96 (by omega) (by omega) dX12_count_56 (by decide) (fun c1_ => ?_) (fun c1_ => ?_)
        ·
          refine m_iload_n 2 rfl rfl dX12_count_96 ?_
          exact m_iret dX12_count_97 (Nat.le_refl _) (Nat.le_refl _) ((by obtain rfl : k_ = aN a_ := (by omega); exact ⟨by first | rfl | simp [countI], _, _, rfl⟩))
        ·
          refine m_iload_n 2 rfl rfl dX12_count_59 ?_
          refine m_iload_n 1 rfl rfl dX12_count_60 ?_
          refine m_iconst 3 dX12_count_61 rfl ?_
          refine m_icmp_ne 74 dX12_count_62 (by decide) (fun _ => ?_) (fun c2_ => absurd c2_ (by decide))
          refine m_aload_n 0 rfl rfl dX12_count_74 ?_
          refine m_iload_n 3 rfl rfl dX12_count_75 ?_
          refine m_iconst 0 dX12_count_76 rfl ?_
          refine m_callVi cv_X12_119 [.int (nI (k_)), .int 0] [.int (nI (cntB (fun w_ => decide (aK a_ w_ = 0)) k_))] (k_m_get l G a_ ho_ im h_ hM k_ (by omega) 0 (by decide)) (by decide) (ce_4 G _ _ _ _ _ _ _ _ _ _) rfl rfl rfl ⟨Nat.le_of_ble_eq_true rfl, Nat.le_of_ble_eq_true rfl⟩ (Nat.le_of_ble_eq_true rfl) ⟨Nat.zero_le _, Nat.zero_le _⟩ dX12_count_77 (fun xx σ2 hq => ?_)
          obtain ⟨hgx, rfl⟩ := hq
          obtain rfl : xx = nI (aK a_ k_) := hgx
          have hx3 := aK_lt ho_ (w := k_) (by omega)
          refine m_ifn_ne (aK a_ k_) 87 (by omega) dX12_count_80 (by decide) (fun c4_ => ?_) (fun c4_ => ?_)
          ·
            refine m_iconst 0 dX12_count_87 rfl ?_
            refine m_iadd dX12_count_88 ?_
            refine m_topi (show (nI (cntB (fun w_ => decide (aK a_ w_ = 0)) k_)) + 0 = nI ((cntB (fun w_ => decide (aK a_ w_ = 0)) k_) + 0) from nI_add _ _) ?_
            refine m_istore_n [(2, .int (nI ((cntB (fun w_ => decide (aK a_ w_ = 0)) k_) + 0))), (0, .ref (gK G 4 0)), (1, .int 2), (3, .int (nI (k_)))] rfl (by decide) rfl dX12_count_89 ?_
            refine m_iinc (nI (k_ + 1)) 3 [(3, .int (nI (k_ + 1))), (2, .int (nI ((cntB (fun w_ => decide (aK a_ w_ = 0)) k_) + 0))), (0, .ref (gK G 4 0)), (1, .int 2)] rfl (nI_1 _) (by decide) rfl dX12_count_90 ?_
            refine m_goto 49 dX12_count_93 (by decide) ?_
            refine m_lv [(0, .ref (gK G 4 0)), (1, .int 2), (2, .int (nI ((cntB (fun w_ => decide (aK a_ w_ = 0)) k_) + 0))), (3, .int (nI (k_ + 1)))] [2, 3, 1, 0] rfl ?_
            rw [show cntB (fun w_ => decide (aK a_ w_ = 0)) k_ = cntB (fun w_ => decide (aK a_ w_ = 0)) (k_ + 1) from cntB_f (p := (fun w_ => decide (aK a_ w_ = 0))) (by grind)]
            exact ih49 (k_ + 1)  (by omega) (by omega)
          ·
            refine m_iconst 1 dX12_count_83 rfl ?_
            refine m_goto 88 dX12_count_84 (by decide) ?_
            refine m_iadd dX12_count_88 ?_
            refine m_topi (show (nI (cntB (fun w_ => decide (aK a_ w_ = 0)) k_)) + 1 = nI ((cntB (fun w_ => decide (aK a_ w_ = 0)) k_) + 1) from nI_add _ _) ?_
            refine m_istore_n [(2, .int (nI ((cntB (fun w_ => decide (aK a_ w_ = 0)) k_) + 1))), (0, .ref (gK G 4 0)), (1, .int 2), (3, .int (nI (k_)))] rfl (by decide) rfl dX12_count_89 ?_
            refine m_iinc (nI (k_ + 1)) 3 [(3, .int (nI (k_ + 1))), (2, .int (nI ((cntB (fun w_ => decide (aK a_ w_ = 0)) k_) + 1))), (0, .ref (gK G 4 0)), (1, .int 2)] rfl (nI_1 _) (by decide) rfl dX12_count_90 ?_
            refine m_goto 49 dX12_count_93 (by decide) ?_
            refine m_lv [(0, .ref (gK G 4 0)), (1, .int 2), (2, .int (nI ((cntB (fun w_ => decide (aK a_ w_ = 0)) k_) + 1))), (3, .int (nI (k_ + 1)))] [2, 3, 1, 0] rfl ?_
            rw [show (cntB (fun w_ => decide (aK a_ w_ = 0)) k_) + 1 = cntB (fun w_ => decide (aK a_ w_ = 0)) (k_ + 1) from cntB_t (p := (fun w_ => decide (aK a_ w_ = 0))) (by grind)]
            exact ih49 (k_ + 1)  (by omega) (by omega)
    refine m_lv [(0, .ref (gK G 4 0)), (1, .int 2), (2, .int 0), (3, .int 0)] [2, 3, 1, 0] rfl ?_
    exact lp49 ((aN a_ - 0) + 1) 0  (Nat.zero_le _) (Nat.lt_succ_self _)
  rcases Decidable.em (x_ = 3) with rfl | ej3
  ·
    refine m_tableIn 47 dX12_count_3 (by decide) (by decide) (by rfl) (by decide) ?_
    refine m_iconst 0 dX12_count_47 rfl ?_
    refine m_istore_n [(3, .int 0), (2, .int 0), (0, .ref (gK G 4 0)), (1, .int 3)] rfl (by decide) rfl dX12_count_48 ?_
    have lp49 : ∀ (dd : Nat) (k_ : Nat) , k_ ≤ aN a_ → aN a_ - k_ < dd → Wm l G cX12_count 4 RX12 ((some .int)) (rmk 1 0 0) (fun _ => True) (QfM G (qI (fun r_ σ => r_ = countI a_ 3 ∧ ∃ (T2 V2 : owF), σ = (A, S, Z, B, T2, V2, J, Y, P))) 0 0) 49 [(0, .ref (gK G 4 0)), (1, .int 3), (2, .int (nI (wgN a_ (allI a_) k_))), (3, .int (nI (k_)))] [] (A, S, Z, B, T, V, J, Y, P) 0 0 := by
      intro dd
      induction dd with
      | zero => intro k_  hk_ hdd; exact absurd hdd (Nat.not_lt_zero _)
      | succ dd ih49 =>
        intro k_  hk_ hdd49
        refine m_iload_n 3 rfl rfl dX12_count_49 ?_
        refine m_aload_n 0 rfl rfl dX12_count_50 ?_
        refine gf_X12_9 dX12_count_51 ?_
        refine m_iconst 0 dX12_count_54 rfl ?_
        refine al_40 0 rfl (by omega) dX12_count_55 ?_
        refine m_topi hX.1 ?_
        refine m_icmpn_ge k_ (aN a_) 96 (by omega) (by omega) dX12_count_56 (by decide) (fun c5_ => ?_) (fun c5_ => ?_)
        ·
          refine m_iload_n 2 rfl rfl dX12_count_96 ?_
          exact m_iret dX12_count_97 (Nat.le_refl _) (Nat.le_refl _) ((by obtain rfl : k_ = aN a_ := (by omega); exact ⟨by first | rfl | simp [countI], _, _, rfl⟩))
        ·
          refine m_iload_n 2 rfl rfl dX12_count_59 ?_
          refine m_iload_n 1 rfl rfl dX12_count_60 ?_
          refine m_iconst 3 dX12_count_61 rfl ?_
          refine m_icmp_ne 74 dX12_count_62 (by decide) (fun c6_ => absurd c6_ (by decide)) (fun _ => ?_)
          refine m_aload_n 0 rfl rfl dX12_count_65 ?_
          refine m_iload_n 3 rfl rfl dX12_count_66 ?_
          refine m_iconst 2 dX12_count_67 rfl ?_
          refine m_callVi cv_X12_119 [.int (nI (k_)), .int 2] [.int (nI (wgN a_ (allI a_) k_))] (k_m_get l G a_ ho_ im h_ hM k_ (by omega) 2 (by decide)) (by decide) (ce_4 G _ _ _ _ _ _ _ _ _ _) rfl rfl rfl ⟨Nat.le_of_ble_eq_true rfl, Nat.le_of_ble_eq_true rfl⟩ (Nat.le_of_ble_eq_true rfl) ⟨Nat.zero_le _, Nat.zero_le _⟩ dX12_count_68 (fun xx σ2 hq => ?_)
          obtain ⟨hgx, rfl⟩ := hq
          obtain rfl : xx = nI (aG a_ k_) := hgx
          refine m_goto 88 dX12_count_71 (by decide) ?_
          refine m_iadd dX12_count_88 ?_
          refine m_topi (show (nI (wgN a_ (allI a_) k_)) + (nI (aG a_ k_)) = nI ((wgN a_ (allI a_) k_) + (aG a_ k_)) from nI_add _ _) ?_
          refine m_istore_n [(2, .int (nI ((wgN a_ (allI a_) k_) + (aG a_ k_)))), (0, .ref (gK G 4 0)), (1, .int 3), (3, .int (nI (k_)))] rfl (by decide) rfl dX12_count_89 ?_
          refine m_iinc (nI (k_ + 1)) 3 [(3, .int (nI (k_ + 1))), (2, .int (nI ((wgN a_ (allI a_) k_) + (aG a_ k_)))), (0, .ref (gK G 4 0)), (1, .int 3)] rfl (nI_1 _) (by decide) rfl dX12_count_90 ?_
          refine m_goto 49 dX12_count_93 (by decide) ?_
          refine m_lv [(0, .ref (gK G 4 0)), (1, .int 3), (2, .int (nI ((wgN a_ (allI a_) k_) + (aG a_ k_)))), (3, .int (nI (k_ + 1)))] [2, 3, 1, 0] rfl ?_
          rw [show wgN a_ (allI a_) k_ + aG a_ k_ = wgN a_ (allI a_) (k_ + 1) from wgN_t (among_all ho_ (by omega))]
          exact ih49 (k_ + 1)  (by omega) (by omega)
    refine m_lv [(0, .ref (gK G 4 0)), (1, .int 3), (2, .int 0), (3, .int 0)] [2, 3, 1, 0] rfl ?_
    exact lp49 ((aN a_ - 0) + 1) 0  (Nat.zero_le _) (Nat.lt_succ_self _)
  rcases Decidable.em (x_ = 4) with rfl | ej4
  ·
    refine m_tableIn 98 dX12_count_3 (by decide) (by decide) (by rfl) (by decide) ?_
    refine m_iconst 0 dX12_count_98 rfl ?_
    refine m_istore_n [(3, .int 0), (2, .int 0), (0, .ref (gK G 4 0)), (1, .int 4)] rfl (by decide) rfl dX12_count_99 ?_
    have lp100 : ∀ (dd : Nat) (k_ : Nat) , k_ ≤ aC a_ → aC a_ - k_ < dd → Wm l G cX12_count 4 RX12 ((some .int)) (rmk 1 0 0) (fun _ => True) (QfM G (qI (fun r_ σ => r_ = countI a_ 4 ∧ ∃ (T2 V2 : owF), σ = (A, S, Z, B, T2, V2, J, Y, P))) 0 0) 100 [(0, .ref (gK G 4 0)), (1, .int 4), (2, .int (nI (cntB (fun c_ => decide (aH a_ c_ ≠ aI a_ c_)) k_))), (3, .int (nI (k_)))] [] (A, S, Z, B, T, V, J, Y, P) 0 0 := by
      intro dd
      induction dd with
      | zero => intro k_  hk_ hdd; exact absurd hdd (Nat.not_lt_zero _)
      | succ dd ih100 =>
        intro k_  hk_ hdd100
        have hcc := cntB_le (fun c_ => decide (aH a_ c_ ≠ aI a_ c_)) k_
        refine m_iload_n 3 rfl rfl dX12_count_100 ?_
        refine m_aload_n 0 rfl rfl dX12_count_101 ?_
        refine gf_X12_9 dX12_count_102 ?_
        refine m_iconst 1 dX12_count_105 rfl ?_
        refine al_40 1 rfl (by omega) dX12_count_106 ?_
        refine m_topi hX.2.1 ?_
        refine m_icmpn_ge k_ (aC a_) 139 (by omega) (by omega) dX12_count_107 (by decide) (fun c7_ => ?_) (fun c7_ => ?_)
        ·
          refine m_iload_n 2 rfl rfl dX12_count_139 ?_
          exact m_iret dX12_count_140 (Nat.le_refl _) (Nat.le_refl _) ((by obtain rfl : k_ = aC a_ := (by omega); exact ⟨by first | rfl | simp [countI], _, _, rfl⟩))
        ·
          have hch := ho_.2.2.2.1 k_ (by omega)
          refine m_iload_n 2 rfl rfl dX12_count_110 ?_
          refine m_aload_n 0 rfl rfl dX12_count_111 ?_
          refine m_iload_n 3 rfl rfl dX12_count_112 ?_
          refine m_iconst 0 dX12_count_113 rfl ?_
          refine m_callVi cv_X12_128 [.int (nI (k_)), .int 0] [.int (nI (cntB (fun c_ => decide (aH a_ c_ ≠ aI a_ c_)) k_))] (k_m_of l G a_ ho_ im h_ hM k_ (by omega) 0 (by decide)) (by decide) (ce_4 G _ _ _ _ _ _ _ _ _ _) rfl rfl rfl ⟨Nat.le_of_ble_eq_true rfl, Nat.le_of_ble_eq_true rfl⟩ (Nat.le_of_ble_eq_true rfl) ⟨Nat.zero_le _, Nat.zero_le _⟩ dX12_count_114 (fun xx σ2 hq => ?_)
          obtain ⟨hgx, rfl⟩ := hq
          obtain rfl : xx = nI (aH a_ k_) := hgx
          refine m_aload_n 0 rfl rfl dX12_count_117 ?_
          refine m_iload_n 3 rfl rfl dX12_count_118 ?_
          refine m_iconst 2 dX12_count_119 rfl ?_
          refine m_callVi cv_X12_128 [.int (nI (k_)), .int 2] [.int (nI (aH a_ k_)), .int (nI (cntB (fun c_ => decide (aH a_ c_ ≠ aI a_ c_)) k_))] (k_m_of l G a_ ho_ im h_ hM k_ (by omega) 2 (by decide)) (by decide) (ce_4 G _ _ _ _ _ _ _ _ _ _) rfl rfl rfl ⟨Nat.le_of_ble_eq_true rfl, Nat.le_of_ble_eq_true rfl⟩ (Nat.le_of_ble_eq_true rfl) ⟨Nat.zero_le _, Nat.zero_le _⟩ dX12_count_120 (fun xx σ2 hq => ?_)
          obtain ⟨hgx, rfl⟩ := hq
          obtain rfl : xx = nI (aI a_ k_) := hgx
          refine m_icmpn_eq (aH a_ k_) (aI a_ k_) 130 (by omega) (by omega) dX12_count_123 (by decide) (fun c8_ => ?_) (fun c8_ => ?_)
          ·
            refine m_iconst 0 dX12_count_130 rfl ?_
            refine m_iadd dX12_count_131 ?_
            refine m_topi (show (nI (cntB (fun c_ => decide (aH a_ c_ ≠ aI a_ c_)) k_)) + 0 = nI ((cntB (fun c_ => decide (aH a_ c_ ≠ aI a_ c_)) k_) + 0) from nI_add _ _) ?_
            refine m_istore_n [(2, .int (nI ((cntB (fun c_ => decide (aH a_ c_ ≠ aI a_ c_)) k_) + 0))), (0, .ref (gK G 4 0)), (1, .int 4), (3, .int (nI (k_)))] rfl (by decide) rfl dX12_count_132 ?_
            refine m_iinc (nI (k_ + 1)) 3 [(3, .int (nI (k_ + 1))), (2, .int (nI ((cntB (fun c_ => decide (aH a_ c_ ≠ aI a_ c_)) k_) + 0))), (0, .ref (gK G 4 0)), (1, .int 4)] rfl (nI_1 _) (by decide) rfl dX12_count_133 ?_
            refine m_goto 100 dX12_count_136 (by decide) ?_
            refine m_lv [(0, .ref (gK G 4 0)), (1, .int 4), (2, .int (nI ((cntB (fun c_ => decide (aH a_ c_ ≠ aI a_ c_)) k_) + 0))), (3, .int (nI (k_ + 1)))] [2, 3, 1, 0] rfl ?_
            rw [show cntB (fun c_ => decide (aH a_ c_ ≠ aI a_ c_)) k_ = cntB (fun c_ => decide (aH a_ c_ ≠ aI a_ c_)) (k_ + 1) from cntB_f (p := (fun c_ => decide (aH a_ c_ ≠ aI a_ c_))) (by grind)]
            exact ih100 (k_ + 1)  (by omega) (by omega)
          ·
            refine m_iconst 1 dX12_count_126 rfl ?_
            refine m_goto 131 dX12_count_127 (by decide) ?_
            refine m_iadd dX12_count_131 ?_
            refine m_topi (show (nI (cntB (fun c_ => decide (aH a_ c_ ≠ aI a_ c_)) k_)) + 1 = nI ((cntB (fun c_ => decide (aH a_ c_ ≠ aI a_ c_)) k_) + 1) from nI_add _ _) ?_
            refine m_istore_n [(2, .int (nI ((cntB (fun c_ => decide (aH a_ c_ ≠ aI a_ c_)) k_) + 1))), (0, .ref (gK G 4 0)), (1, .int 4), (3, .int (nI (k_)))] rfl (by decide) rfl dX12_count_132 ?_
            refine m_iinc (nI (k_ + 1)) 3 [(3, .int (nI (k_ + 1))), (2, .int (nI ((cntB (fun c_ => decide (aH a_ c_ ≠ aI a_ c_)) k_) + 1))), (0, .ref (gK G 4 0)), (1, .int 4)] rfl (nI_1 _) (by decide) rfl dX12_count_133 ?_
            refine m_goto 100 dX12_count_136 (by decide) ?_
            refine m_lv [(0, .ref (gK G 4 0)), (1, .int 4), (2, .int (nI ((cntB (fun c_ => decide (aH a_ c_ ≠ aI a_ c_)) k_) + 1))), (3, .int (nI (k_ + 1)))] [2, 3, 1, 0] rfl ?_
            rw [show (cntB (fun c_ => decide (aH a_ c_ ≠ aI a_ c_)) k_) + 1 = cntB (fun c_ => decide (aH a_ c_ ≠ aI a_ c_)) (k_ + 1) from cntB_t (p := (fun c_ => decide (aH a_ c_ ≠ aI a_ c_))) (by grind)]
            exact ih100 (k_ + 1)  (by omega) (by omega)
    refine m_lv [(0, .ref (gK G 4 0)), (1, .int 4), (2, .int 0), (3, .int 0)] [2, 3, 1, 0] rfl ?_
    exact lp100 ((aC a_ - 0) + 1) 0  (Nat.zero_le _) (Nat.lt_succ_self _)
  rcases Decidable.em (x_ = 5) with rfl | ej5
  ·
    refine m_tableIn 141 dX12_count_3 (by decide) (by decide) (by rfl) (by decide) ?_
    refine m_iconst 0 dX12_count_141 rfl ?_
    refine m_istore_n [(3, .int 0), (2, .int 0), (0, .ref (gK G 4 0)), (1, .int 5)] rfl (by decide) rfl dX12_count_142 ?_
    have lp143 : ∀ (dd : Nat) (k_ : Nat) , k_ ≤ 100 → 100 - k_ < dd → Wm l G cX12_count 4 RX12 ((some .int)) (rmk 1 0 0) (fun _ => True) (QfM G (qI (fun r_ σ => r_ = countI a_ 5 ∧ ∃ (T2 V2 : owF), σ = (A, S, Z, B, T2, V2, J, Y, P))) 0 0) 143 [(0, .ref (gK G 4 0)), (1, .int 5), (2, .int (nI (cntB (fun j_ => decide (aT a_ (j_ / 10) (j_ % 10) ≠ 0)) k_))), (3, .int (nI (k_)))] [] (A, S, Z, B, T, V, J, Y, P) 0 0 := by
      intro dd
      induction dd with
      | zero => intro k_  hk_ hdd; exact absurd hdd (Nat.not_lt_zero _)
      | succ dd ih143 =>
        intro k_  hk_ hdd143
        have hcc := cntB_le (fun j_ => decide (aT a_ (j_ / 10) (j_ % 10) ≠ 0)) k_
        refine m_iload_n 3 rfl rfl dX12_count_143 ?_
        refine m_bipush (100) dX12_count_144 rfl ?_
        refine m_icmpn_ge k_ 100 175 (by omega) (by decide) dX12_count_146 (by decide) (fun c9_ => ?_) (fun c9_ => ?_)
        ·
          refine m_iload_n 2 rfl rfl dX12_count_175 ?_
          exact m_iret dX12_count_176 (Nat.le_refl _) (Nat.le_refl _) ((by obtain rfl : k_ = 100 := (by omega); exact ⟨rfl, _, _, rfl⟩))
        ·
          refine m_iload_n 2 rfl rfl dX12_count_149 ?_
          refine m_aload_n 0 rfl rfl dX12_count_150 ?_
          refine gf_X12_9 dX12_count_151 ?_
          refine m_bipush (56) dX12_count_154 rfl ?_
          refine m_iload_n 3 rfl rfl dX12_count_156 ?_
          refine m_iadd dX12_count_157 ?_
          refine m_topi (show 56 + (nI (k_)) = nI (56 + k_) from nI_add _ _) ?_
          refine al_40 (56 + k_) rfl (by omega) dX12_count_158 ?_
          refine m_topi (show B 40 0 (56 + k_) = sdI (aT a_ (k_ / 10) (k_ % 10)) from by rw [show 56 + k_ = 56 + (10 * (k_ / 10)) + k_ % 10 by omega]; exact hX.2.2.2.2 (k_ / 10) (k_ % 10) (by omega) (by omega)) ?_
          refine m_if_lt 166 dX12_count_159 (by decide) (fun c10_ => ?_) (fun c10_ => ?_)
          ·
            have hT := (ho_.2.2.2.2 (k_ / 10) (k_ % 10) (by omega) (by omega)).1
            have hz := (sdI_lt0 (by omega)).mp c10_
            refine m_iconst 0 dX12_count_166 rfl ?_
            refine m_iadd dX12_count_167 ?_
            refine m_topi (show (nI (cntB (fun j_ => decide (aT a_ (j_ / 10) (j_ % 10) ≠ 0)) k_)) + 0 = nI ((cntB (fun j_ => decide (aT a_ (j_ / 10) (j_ % 10) ≠ 0)) k_) + 0) from nI_add _ _) ?_
            refine m_istore_n [(2, .int (nI ((cntB (fun j_ => decide (aT a_ (j_ / 10) (j_ % 10) ≠ 0)) k_) + 0))), (0, .ref (gK G 4 0)), (1, .int 5), (3, .int (nI (k_)))] rfl (by decide) rfl dX12_count_168 ?_
            refine m_iinc (nI (k_ + 1)) 3 [(3, .int (nI (k_ + 1))), (2, .int (nI ((cntB (fun j_ => decide (aT a_ (j_ / 10) (j_ % 10) ≠ 0)) k_) + 0))), (0, .ref (gK G 4 0)), (1, .int 5)] rfl (nI_1 _) (by decide) rfl dX12_count_169 ?_
            refine m_goto 143 dX12_count_172 (by decide) ?_
            refine m_lv [(0, .ref (gK G 4 0)), (1, .int 5), (2, .int (nI ((cntB (fun j_ => decide (aT a_ (j_ / 10) (j_ % 10) ≠ 0)) k_) + 0))), (3, .int (nI (k_ + 1)))] [2, 3, 1, 0] rfl ?_
            rw [show cntB (fun j_ => decide (aT a_ (j_ / 10) (j_ % 10) ≠ 0)) k_ = cntB (fun j_ => decide (aT a_ (j_ / 10) (j_ % 10) ≠ 0)) (k_ + 1) from cntB_f (p := (fun j_ => decide (aT a_ (j_ / 10) (j_ % 10) ≠ 0))) (by simpa using hz)]
            exact ih143 (k_ + 1)  (by omega) (by omega)
          ·
            have hT := (ho_.2.2.2.2 (k_ / 10) (k_ % 10) (by omega) (by omega)).1
            have hz := mt (sdI_lt0 (by omega)).mpr c10_
            refine m_iconst 1 dX12_count_162 rfl ?_
            refine m_goto 167 dX12_count_163 (by decide) ?_
            refine m_iadd dX12_count_167 ?_
            refine m_topi (show (nI (cntB (fun j_ => decide (aT a_ (j_ / 10) (j_ % 10) ≠ 0)) k_)) + 1 = nI ((cntB (fun j_ => decide (aT a_ (j_ / 10) (j_ % 10) ≠ 0)) k_) + 1) from nI_add _ _) ?_
            refine m_istore_n [(2, .int (nI ((cntB (fun j_ => decide (aT a_ (j_ / 10) (j_ % 10) ≠ 0)) k_) + 1))), (0, .ref (gK G 4 0)), (1, .int 5), (3, .int (nI (k_)))] rfl (by decide) rfl dX12_count_168 ?_
            refine m_iinc (nI (k_ + 1)) 3 [(3, .int (nI (k_ + 1))), (2, .int (nI ((cntB (fun j_ => decide (aT a_ (j_ / 10) (j_ % 10) ≠ 0)) k_) + 1))), (0, .ref (gK G 4 0)), (1, .int 5)] rfl (nI_1 _) (by decide) rfl dX12_count_169 ?_
            refine m_goto 143 dX12_count_172 (by decide) ?_
            refine m_lv [(0, .ref (gK G 4 0)), (1, .int 5), (2, .int (nI ((cntB (fun j_ => decide (aT a_ (j_ / 10) (j_ % 10) ≠ 0)) k_) + 1))), (3, .int (nI (k_ + 1)))] [2, 3, 1, 0] rfl ?_
            rw [show (cntB (fun j_ => decide (aT a_ (j_ / 10) (j_ % 10) ≠ 0)) k_) + 1 = cntB (fun j_ => decide (aT a_ (j_ / 10) (j_ % 10) ≠ 0)) (k_ + 1) from cntB_t (p := (fun j_ => decide (aT a_ (j_ / 10) (j_ % 10) ≠ 0))) (by simpa using hz)]
            exact ih143 (k_ + 1)  (by omega) (by omega)
    refine m_lv [(0, .ref (gK G 4 0)), (1, .int 5), (2, .int 0), (3, .int 0)] [2, 3, 1, 0] rfl ?_
    exact lp143 ((100 - 0) + 1) 0  (Nat.zero_le _) (Nat.lt_succ_self _)
  refine m_tableOut 177 dX12_count_3 (sw_out (x := x_) (n := 5) (by decide) (by rfl) (fun j_ hj => match j_, hj with | 0, _ => ej0 | 1, _ => ej1 | 2, _ => ej2 | 3, _ => ej3 | 4, _ => ej4 | 5, _ => ej5 | j_ + 6, hj => absurd hj (by omega))) (by decide) ?_
  refine m_iconst (-1) dX12_count_177 rfl ?_
  exact m_iret dX12_count_178 (Nat.le_refl _) (Nat.le_refl _) (⟨by simp [countI, ej0, ej1, ej2, ej3, ej4, ej5], _, _, rfl⟩)
set_option maxRecDepth 100000 in
set_option maxHeartbeats 4000000 in
theorem k_m_leastOf (l : Launch) (G : owG) {A S Z B T V : owF} {J : Nat → Nat → Int64} {Y : Nat → Nat → Nat → Option Nat} {P : Nat → Option owW} (a_ : owK) (ho_ : aOk a_) (im : Option owK) (h_ : owH) (hM : MR B a_ im h_) (d_ : Nat) (hd_ : d_ < 8) (hk2 : hK h_ d_ = 2)  : Ct l G yX12_leastOf cX12_leastOf 2 ((some .int)) 0 0 0 [.ref (gK G 4 0), .int (nI (d_))] (A, S, Z, B, T, V, J, Y, P) (qI (fun r_ σ => r_ = leastI (hSo h_ d_) ∧ σ = (A, S, Z, B, T, V, J, Y, P))) := by
  refine ct_of (by decide +kernel) (Nat.le_of_ble_eq_true rfl) ?_
  have h10 := ho_.1
  have h8_ := ho_.2.1
  have hX := hM.1
  have hms := hM.2.2.2 d_ hd_
  have hm2 := hms.2.2.1 hk2
  have hs2 := hm2.2.1
  have hn100 := hm2.2.2.2.1
  show Wm l G cX12_leastOf 2 RX12 ((some .int)) (rmk 0 0 0) (fun _ => True) (QfM G (qI (fun r_ σ => r_ = leastI (hSo h_ d_) ∧ σ = (A, S, Z, B, T, V, J, Y, P))) 0 0) 0 [(0, .ref (gK G 4 0)), (1, .int (nI (d_)))] [] (A, S, Z, B, T, V, J, Y, P) 0 0
  refine m_aload_n 0 rfl rfl dX12_leastOf_0 ?_
  refine gf_X12_22 dX12_leastOf_1 ?_
  refine m_iload_n 1 rfl rfl dX12_leastOf_4 ?_
  refine al_44 d_ rfl (by omega) dX12_leastOf_5 ?_
  refine m_topi hm2.1 ?_
  refine m_ifn_ne (hSo h_ d_) 14 (by omega) dX12_leastOf_6 (by decide) (fun c1_ => ?_) (fun c1_ => ?_)
  ·
    refine m_aload_n 0 rfl rfl dX12_leastOf_14 ?_
    refine gf_X12_22 dX12_leastOf_15 ?_
    refine m_iload_n 1 rfl rfl dX12_leastOf_18 ?_
    refine al_44 d_ rfl (by omega) dX12_leastOf_19 ?_
    refine m_topi hm2.1 ?_
    refine m_iconst 1 dX12_leastOf_20 rfl ?_
    refine m_icmpn_ne (hSo h_ d_) 1 30 (by omega) (by decide) dX12_leastOf_21 (by decide) (fun c2_ => ?_) (fun c2_ => ?_)
    ·
      refine m_ldc (-2147483648) tw_1417 dX12_leastOf_30 ?_
      exact m_iret dX12_leastOf_32 (Nat.le_refl _) (Nat.le_refl _) (⟨by unfold leastI; grind, rfl⟩)
    ·
      refine m_sipush (-32768) dX12_leastOf_24 rfl ?_
      refine m_goto 32 dX12_leastOf_27 (by decide) ?_
      exact m_iret dX12_leastOf_32 (Nat.le_refl _) (Nat.le_refl _) (⟨by unfold leastI; grind, rfl⟩)
  ·
    refine m_bipush (-128) dX12_leastOf_9 rfl ?_
    refine m_goto 32 dX12_leastOf_11 (by decide) ?_
    exact m_iret dX12_leastOf_32 (Nat.le_refl _) (Nat.le_refl _) (⟨by unfold leastI; grind, rfl⟩)
set_option maxRecDepth 100000 in
set_option maxHeartbeats 4000000 in
theorem k_m_judge (l : Launch) (G : owG) {A S Z B T V : owF} {J : Nat → Nat → Int64} {Y : Nat → Nat → Nat → Option Nat} {P : Nat → Option owW} (a_ : owK) (ho_ : aOk a_) (im : Option owK) (h_ : owH) (hM : MR B a_ im h_) (v_ z_ : Int32) : Ct l G yX12_judge cX12_judge 6 ((some .int)) 4 0 0 [.ref (gK G 4 0), .int v_, .int z_] (A, S, Z, B, T, V, J, Y, P) (qI (fun r_ σ => r_ = judgeI a_ h_ v_ z_ ∧ ∃ (T2 V2 : owF), σ = (A, S, Z, B, T2, V2, J, Y, P))) := by
  refine ct_of (by decide +kernel) (Nat.le_of_ble_eq_true rfl) ?_
  have h10 := ho_.1
  have h8_ := ho_.2.1
  have hX := hM.1
  show Wm l G cX12_judge 6 RX12 ((some .int)) (rmk 4 0 0) (fun _ => True) (QfM G (qI (fun r_ σ => r_ = judgeI a_ h_ v_ z_ ∧ ∃ (T2 V2 : owF), σ = (A, S, Z, B, T2, V2, J, Y, P))) 0 0) 0 [(0, .ref (gK G 4 0)), (1, .int v_), (2, .int z_)] [] (A, S, Z, B, T, V, J, Y, P) 0 0
  refine m_aload_n 0 rfl rfl dX12_judge_0 ?_
  refine m_iload_n 1 rfl rfl dX12_judge_1 ?_
  refine m_callVi cv_X12_114 [.int v_] [] (k_m_isWay l G a_ ho_ im h_ hM v_) (by decide) (ce_4 G _ _ _ _ _ _ _ _ _ _) rfl rfl rfl ⟨Nat.le_of_ble_eq_true rfl, Nat.le_of_ble_eq_true rfl⟩ (Nat.le_of_ble_eq_true rfl) ⟨Nat.zero_le _, Nat.zero_le _⟩ dX12_judge_2 (fun xx σ2 hq => ?_)
  obtain ⟨rfl, rfl⟩ := hq
  refine m_ifeq_b 15 dX12_judge_5 (by decide) (fun c1_ => ?_) (fun c1_ => ?_)
  ·
    refine m_iconst (-1) dX12_judge_15 rfl ?_
    exact m_iret dX12_judge_16 (Nat.le_refl _) (Nat.le_refl _) (⟨by unfold judgeI; rw [if_neg (fun q_ => absurd q_.2 (by rw [c1_]; decide))], _, _, rfl⟩)
  ·
    have hwc := c1_
    obtain ⟨wq, hwq, rfl⟩ := isW_nat ho_ c1_
    have hclwq : (nI wq).toNatClampNeg = wq := nI_clamp (by omega)
    refine m_iload_n 2 rfl rfl dX12_judge_8 ?_
    refine m_callSi cs_X12_101 [.int z_] [] (k_m_isShelf l G z_) rfl rfl ⟨Nat.le_of_ble_eq_true rfl, Nat.le_of_ble_eq_true rfl⟩ (Nat.le_of_ble_eq_true rfl) ⟨Nat.zero_le _, Nat.zero_le _⟩ dX12_judge_9 (fun xx σ2 hq => ?_)
    obtain ⟨rfl, rfl⟩ := hq
    refine m_ifne_b 17 dX12_judge_12 (by decide) (fun c2_ => ?_) (fun c2_ => ?_)
    ·
      refine m_aload_n 0 rfl rfl dX12_judge_17 ?_
      refine m_iload_n 2 rfl rfl dX12_judge_18 ?_
      refine m_iconst (-1) dX12_judge_19 rfl ?_
      refine m_callVi cv_X12_104 [.int z_, .int (-1)] [] (k_m_wrongRowN l G a_ ho_ im h_ hM z_) (by decide) (ce_4 G _ _ _ _ _ _ _ _ _ _) rfl rfl rfl ⟨Nat.le_of_ble_eq_true rfl, Nat.le_of_ble_eq_true rfl⟩ (Nat.le_of_ble_eq_true rfl) ⟨Nat.zero_le _, Nat.zero_le _⟩ dX12_judge_20 (fun xx σ2 hq => ?_)
      obtain ⟨rfl, rfl⟩ := hq
      refine m_istore_n [(3, .int (wnI h_ z_)), (0, .ref (gK G 4 0)), (1, .int (nI (wq))), (2, .int z_)] rfl (by decide) rfl dX12_judge_23 ?_
      refine m_iload_n 0 rfl rfl dX12_judge_24 ?_
      refine m_if_eq 30 dX12_judge_25 (by decide) (fun c3_ => ?_) (fun c3_ => ?_)
      ·
        have hr0 := c3_
        obtain ⟨dq, hdq, rfl, hk2, hDd⟩ := wnI_0 c3_
        have hcldq : (nI dq).toNatClampNeg = dq := nI_clamp (by omega)
        have hm2 := (hM.2.2.2 dq hdq).2.2.1 hk2
        have hn100 := hm2.2.2.2.1
        have hs2 := hm2.2.1
        have hr1 : rowRef h_ dq = 0 := by unfold rowRef; rw [if_neg (by omega), if_pos hk2]
        refine m_aload_n 1 rfl rfl dX12_judge_30 ?_
        refine gf_X12_25 dX12_judge_31 ?_
        refine m_iload_n 3 rfl rfl dX12_judge_34 ?_
        refine al_45 dq rfl (by omega) dX12_judge_35 ?_
        refine m_topi hm2.2.2.1 ?_
        refine m_iconst 2 dX12_judge_36 rfl ?_
        refine m_icmpn_lt (hN h_ dq) 2 66 (by omega) (by decide) dX12_judge_37 (by decide) (fun c4_ => ?_) (fun c4_ => ?_)
        ·
          refine m_bipush (-13) dX12_judge_66 rfl ?_
          exact m_iret dX12_judge_68 (Nat.le_refl _) (Nat.le_refl _) (⟨by unfold judgeI; rw [hcldq, hclwq, if_pos ⟨hDd, hwc⟩, if_pos hr1, if_neg (by rintro ⟨q1_, q2_⟩; first | omega | (rw [q2_] at c4_; cases c4_))], _, _, rfl⟩)
        ·
          refine m_aload_n 1 rfl rfl dX12_judge_40 ?_
          refine gf_X12_28 dX12_judge_41 ?_
          refine m_bipush (100) dX12_judge_44 rfl ?_
          refine m_iload_n 3 rfl rfl dX12_judge_46 ?_
          refine m_imul dX12_judge_47 ?_
          refine m_topi (show 100 * (nI (dq)) = nI (100 * dq) from pk_mul _ _) ?_
          refine al_46 (100 * dq) rfl (by omega) dX12_judge_48 ?_
          refine m_topi (hm2.2.2.2.2 0 (by omega)) ?_
          refine m_aload_n 1 rfl rfl dX12_judge_49 ?_
          refine gf_X12_28 dX12_judge_50 ?_
          refine m_bipush (100) dX12_judge_53 rfl ?_
          refine m_iload_n 3 rfl rfl dX12_judge_55 ?_
          refine m_imul dX12_judge_56 ?_
          refine m_topi (show 100 * (nI (dq)) = nI (100 * dq) from pk_mul _ _) ?_
          refine m_iconst 1 dX12_judge_57 rfl ?_
          refine m_iadd dX12_judge_58 ?_
          refine m_topi (show (nI (100 * dq)) + 1 = nI ((100 * dq) + 1) from nI_add _ _) ?_
          refine al_46 ((100 * dq) + 1) rfl (by omega) dX12_judge_59 ?_
          refine m_topi (hm2.2.2.2.2 1 (by omega)) ?_
          refine m_callSi cs_X12_153 [.int (hE h_ dq 0), .int (hE h_ dq 1)] [] (k_m_isSum l G (hE h_ dq 0) (hE h_ dq 1)) rfl rfl ⟨Nat.le_of_ble_eq_true rfl, Nat.le_of_ble_eq_true rfl⟩ (Nat.le_of_ble_eq_true rfl) ⟨Nat.zero_le _, Nat.zero_le _⟩ dX12_judge_60 (fun xx σ2 hq => ?_)
          obtain ⟨rfl, rfl⟩ := hq
          refine m_ifne_b 69 dX12_judge_63 (by decide) (fun c5_ => ?_) (fun c5_ => ?_)
          ·
            have hsm1 := c5_
            obtain ⟨xq, yq, ex, ey, hy_, hx_⟩ := sumNat c5_
            have hclxq : (hE h_ dq 0).toNatClampNeg = xq := by rw [ex]; exact nI_clamp (by omega)
            have hclyq : (hE h_ dq 1).toNatClampNeg = yq := by rw [ey]; exact nI_clamp (by omega)
            refine m_aload_n 1 rfl rfl dX12_judge_69 ?_
            refine m_iload_n 2 rfl rfl dX12_judge_70 ?_
            refine m_aload_n 1 rfl rfl dX12_judge_71 ?_
            refine gf_X12_28 dX12_judge_72 ?_
            refine m_bipush (100) dX12_judge_75 rfl ?_
            refine m_iload_n 3 rfl rfl dX12_judge_77 ?_
            refine m_imul dX12_judge_78 ?_
            refine m_topi (show 100 * (nI (dq)) = nI (100 * dq) from pk_mul _ _) ?_
            refine al_46 (100 * dq) rfl (by omega) dX12_judge_79 ?_
            refine m_topi ((hm2.2.2.2.2 0 (by omega)).trans ex) ?_
            refine m_aload_n 1 rfl rfl dX12_judge_80 ?_
            refine gf_X12_28 dX12_judge_81 ?_
            refine m_bipush (100) dX12_judge_84 rfl ?_
            refine m_iload_n 3 rfl rfl dX12_judge_86 ?_
            refine m_imul dX12_judge_87 ?_
            refine m_topi (show 100 * (nI (dq)) = nI (100 * dq) from pk_mul _ _) ?_
            refine m_iconst 1 dX12_judge_88 rfl ?_
            refine m_iadd dX12_judge_89 ?_
            refine m_topi (show (nI (100 * dq)) + 1 = nI ((100 * dq) + 1) from nI_add _ _) ?_
            refine al_46 ((100 * dq) + 1) rfl (by omega) dX12_judge_90 ?_
            refine m_topi ((hm2.2.2.2.2 1 (by omega)).trans ey) ?_
            refine m_callVi cv_X12_157 [.int (nI (wq)), .int (nI (xq)), .int (nI (yq))] [] (k_m_answerOf l G a_ ho_ im h_ hM wq hwq xq yq hx_ hy_) (by decide) (ce_4 G _ _ _ _ _ _ _ _ _ _) rfl rfl rfl ⟨Nat.le_of_ble_eq_true rfl, Nat.le_of_ble_eq_true rfl⟩ (Nat.le_of_ble_eq_true rfl) ⟨Nat.zero_le _, Nat.zero_le _⟩ dX12_judge_91 (fun xx σ2 hq => ?_)
            obtain ⟨rfl, V6, rfl, hwV6⟩ := hq
            refine m_pop rfl dX12_judge_94 ?_
            refine m_iconst 2 dX12_judge_95 rfl ?_
            refine m_istore [(4, .int 2), (3, .int (wnI h_ (nI dq))), (0, .ref (gK G 4 0)), (1, .int (nI (wq))), (2, .int (nI (dq)))] (by decide) rfl dX12_judge_96 ?_
            have lp98 : ∀ (dd : Nat) (k_ : Nat) (V9 : owF), 2 ≤ k_ → k_ ≤ hN h_ dq → fsS (jgB a_ h_ wq dq) k_ = none → workedM V9 (aK a_ wq) (aF a_ wq) xq yq → hN h_ dq - k_ < dd → Wm l G cX12_judge 6 RX12 ((some .int)) (rmk 4 0 0) (fun _ => True) (QfM G (qI (fun r_ σ => r_ = judgeI a_ h_ (nI wq) (nI dq) ∧ ∃ (T2 V2 : owF), σ = (A, S, Z, B, T2, V2, J, Y, P))) 0 0) 98 [(0, .ref (gK G 4 0)), (1, .int (nI (wq))), (2, .int (nI (dq))), (3, .int (wnI h_ (nI dq))), (4, .int (nI (k_)))] [] (A, S, Z, B, T, V9, J, Y, P) 0 0 := by
              intro dd
              induction dd with
              | zero => intro k_ V9 hk20 hk_ hfs hw_ hdd; exact absurd hdd (Nat.not_lt_zero _)
              | succ dd ih98 =>
                intro k_ V9 hk20 hk_ hfs hw_ hdd98
                refine m_iload 4 rfl dX12_judge_98 ?_
                refine m_aload_n 0 rfl rfl dX12_judge_100 ?_
                refine gf_X12_25 dX12_judge_101 ?_
                refine m_iload_n 2 rfl rfl dX12_judge_104 ?_
                refine al_45 dq rfl (by omega) dX12_judge_105 ?_
                refine m_topi hm2.2.2.1 ?_
                refine m_icmpn_ge k_ (hN h_ dq) 162 (by omega) (by omega) dX12_judge_106 (by decide) (fun c7_ => ?_) (fun c7_ => ?_)
                ·
                  refine m_bipush (-4) dX12_judge_162 rfl ?_
                  exact m_iret dX12_judge_164 (Nat.le_refl _) (Nat.le_refl _) (⟨by unfold judgeI; rw [hcldq, hclwq, if_pos ⟨hDd, hwc⟩, if_pos hr1, if_pos ⟨by omega, hsm1⟩]; obtain rfl : k_ = hN h_ dq := (by omega); rw [hfs]; rfl, _, _, rfl⟩)
                ·
                  refine m_aload_n 0 rfl rfl dX12_judge_109 ?_
                  refine gf_X12_28 dX12_judge_110 ?_
                  refine m_bipush (100) dX12_judge_113 rfl ?_
                  refine m_iload_n 2 rfl rfl dX12_judge_115 ?_
                  refine m_imul dX12_judge_116 ?_
                  refine m_topi (show 100 * (nI (dq)) = nI (100 * dq) from pk_mul _ _) ?_
                  refine m_iload 4 rfl dX12_judge_117 ?_
                  refine m_iadd dX12_judge_119 ?_
                  refine m_topi (show (nI (100 * dq)) + (nI (k_)) = nI ((100 * dq) + k_) from nI_add _ _) ?_
                  refine al_46 ((100 * dq) + k_) rfl (by omega) dX12_judge_120 ?_
                  refine m_topi (hm2.2.2.2.2 k_ (by omega)) ?_
                  refine m_istore [(5, .int (hE h_ dq k_)), (0, .ref (gK G 4 0)), (1, .int (nI (wq))), (2, .int (nI (dq))), (3, .int (wnI h_ (nI dq))), (4, .int (nI (k_)))] (by decide) rfl dX12_judge_121 ?_
                  refine m_iload 0 rfl dX12_judge_123 ?_
                  refine m_aload_n 1 rfl rfl dX12_judge_125 ?_
                  refine m_iload_n 3 rfl rfl dX12_judge_126 ?_
                  refine m_callVi cv_X12_250 [.int (nI (dq))] [.int (hE h_ dq k_)] (k_m_leastOf l G a_ ho_ im h_ hM dq (by omega) hk2) (by decide) (ce_4 G _ _ _ _ _ _ _ _ _ _) rfl rfl rfl ⟨Nat.le_of_ble_eq_true rfl, Nat.le_of_ble_eq_true rfl⟩ (Nat.le_of_ble_eq_true rfl) ⟨Nat.zero_le _, Nat.zero_le _⟩ dX12_judge_127 (fun xx σ2 hq => ?_)
                  obtain ⟨rfl, rfl⟩ := hq
                  refine m_icmp_eq 156 dX12_judge_130 (by decide) (fun c8_ => ?_) (fun c8_ => ?_)
                  ·
                    refine m_iinc (nI (k_ + 1)) 5 [(4, .int (nI (k_ + 1))), (5, .int (hE h_ dq k_)), (0, .ref (gK G 4 0)), (1, .int (nI (wq))), (2, .int (nI (dq))), (3, .int (wnI h_ (nI dq)))] rfl (nI_1 _) (by decide) rfl dX12_judge_156 ?_
                    refine m_goto 98 dX12_judge_159 (by decide) ?_
                    refine m_lv [(0, .ref (gK G 4 0)), (1, .int (nI (wq))), (2, .int (nI (dq))), (3, .int (wnI h_ (nI dq))), (4, .int (nI (k_ + 1)))] [2, 3, 4, 5, 0] rfl ?_
                    exact ih98 (k_ + 1) V9 (by omega) (by omega) (fsS_n hfs (by unfold jgB; rw [hclxq, hclyq]; grind)) hw_ (by omega)
                  ·
                    refine m_iload 5 rfl dX12_judge_133 ?_
                    refine m_iconst 5 dX12_judge_135 rfl ?_
                    refine m_icmpn_gt k_ 5 153 (by omega) (by decide) dX12_judge_136 (by decide) (fun c9_ => ?_) (fun c9_ => ?_)
                    ·
                      refine m_iload 5 rfl dX12_judge_153 ?_
                      exact m_iret dX12_judge_155 (Nat.le_refl _) (Nat.le_refl _) (⟨by unfold judgeI; rw [hcldq, hclwq, if_pos ⟨hDd, hwc⟩, if_pos hr1, if_pos ⟨by omega, hsm1⟩]; rw [fsS_y hfs (by unfold jgB; rw [hclxq, hclyq]; grind) _ (by omega)]; rfl, _, _, rfl⟩)
                    ·
                      refine m_iload 0 rfl dX12_judge_139 ?_
                      refine m_aload_n 1 rfl rfl dX12_judge_141 ?_
                      refine gf_X12_46 dX12_judge_142 ?_
                      refine m_iload 5 rfl dX12_judge_145 ?_
                      refine m_iconst 2 dX12_judge_147 rfl ?_
                      refine m_isub dX12_judge_148 ?_
                      refine m_topi ((show nI k_ - 2 = nI (k_ - 2) from pk_sub (b := 2) (by omega))) ?_
                      refine al_52 (k_ - 2) rfl (by omega) dX12_judge_149 ?_
                      refine m_topi (hw_.1 (k_ - 2) (by omega)) ?_
                      refine m_icmp_eq 156 dX12_judge_150 (by decide) (fun c10_ => ?_) (fun c10_ => ?_)
                      ·
                        refine m_iinc (nI (k_ + 1)) 5 [(4, .int (nI (k_ + 1))), (5, .int (hE h_ dq k_)), (0, .ref (gK G 4 0)), (1, .int (nI (wq))), (2, .int (nI (dq))), (3, .int (wnI h_ (nI dq)))] rfl (nI_1 _) (by decide) rfl dX12_judge_156 ?_
                        refine m_goto 98 dX12_judge_159 (by decide) ?_
                        refine m_lv [(0, .ref (gK G 4 0)), (1, .int (nI (wq))), (2, .int (nI (dq))), (3, .int (wnI h_ (nI dq))), (4, .int (nI (k_ + 1)))] [2, 3, 4, 5, 0] rfl ?_
                        exact ih98 (k_ + 1) V9 (by omega) (by omega) (fsS_n hfs (by unfold jgB; rw [hclxq, hclyq]; grind)) hw_ (by omega)
                      ·
                        refine m_iload 5 rfl dX12_judge_153 ?_
                        exact m_iret dX12_judge_155 (Nat.le_refl _) (Nat.le_refl _) (⟨by unfold judgeI; rw [hcldq, hclwq, if_pos ⟨hDd, hwc⟩, if_pos hr1, if_pos ⟨by omega, hsm1⟩]; rw [fsS_y hfs (by unfold jgB; rw [hclxq, hclyq]; grind) _ (by omega)]; rfl, _, _, rfl⟩)
            refine m_lv [(0, .ref (gK G 4 0)), (1, .int (nI (wq))), (2, .int (nI (dq))), (3, .int (wnI h_ (nI dq))), (4, .int 2)] [2, 3, 4, 1, 0] rfl ?_
            exact lp98 ((hN h_ dq - 2) + 1) 2 V6 (by omega) (by omega) rfl hwV6 (Nat.lt_succ_self _)
          ·
            refine m_bipush (-13) dX12_judge_66 rfl ?_
            exact m_iret dX12_judge_68 (Nat.le_refl _) (Nat.le_refl _) (⟨by unfold judgeI; rw [hcldq, hclwq, if_pos ⟨hDd, hwc⟩, if_pos hr1, if_neg (by rintro ⟨q1_, q2_⟩; first | omega | (rw [q2_] at c5_; cases c5_))], _, _, rfl⟩)
      ·
        refine m_iload_n 0 rfl rfl dX12_judge_28 ?_
        exact m_iret dX12_judge_29 (Nat.le_refl _) (Nat.le_refl _) (⟨by have hz := c3_; unfold judgeI; unfold wnI at hz ⊢; rw [if_pos c2_] at hz ⊢; rw [if_pos ⟨c2_, hwc⟩, if_neg hz], _, _, rfl⟩)
    ·
      refine m_iconst (-1) dX12_judge_15 rfl ?_
      exact m_iret dX12_judge_16 (Nat.le_refl _) (Nat.le_refl _) (⟨by unfold judgeI; rw [if_neg (fun q_ => absurd q_.1 (by rw [c2_]; decide))], _, _, rfl⟩)
set_option maxRecDepth 100000 in
set_option maxHeartbeats 4000000 in
theorem k_m_copied (l : Launch) (G : owG) {A S Z B T V : owF} {J : Nat → Nat → Int64} {Y : Nat → Nat → Nat → Option Nat} {P : Nat → Option owW} (a_ : owK) (ho_ : aOk a_) (im : Option owK) (h_ : owH) (hM : MR B a_ im h_) (x_ z_ g p_ : Int32) : Ct l G yX12_copied cX12_copied 11 ((some .int)) 5 0 0 [.ref (gK G 4 0), .int x_, .int z_, .int g, .int p_] (A, S, Z, B, T, V, J, Y, P) (qI (fun r_ σ => r_ = copiedI a_ h_ x_ z_ g p_ ∧ ∃ (T2 V2 : owF), σ = (A, S, Z, B, T2, V2, J, Y, P))) := by
  refine ct_of (by decide +kernel) (Nat.le_of_ble_eq_true rfl) ?_
  have h10 := ho_.1
  have h8_ := ho_.2.1
  have hX := hM.1
  show Wm l G cX12_copied 11 RX12 ((some .int)) (rmk 5 0 0) (fun _ => True) (QfM G (qI (fun r_ σ => r_ = copiedI a_ h_ x_ z_ g p_ ∧ ∃ (T2 V2 : owF), σ = (A, S, Z, B, T2, V2, J, Y, P))) 0 0) 0 [(0, .ref (gK G 4 0)), (1, .int x_), (2, .int z_), (3, .int g), (4, .int p_)] [] (A, S, Z, B, T, V, J, Y, P) 0 0
  refine m_iload 4 rfl dX12_copied_0 ?_
  refine m_i2l dX12_copied_2 ?_
  refine m_lconst 0 dX12_copied_3 rfl ?_
  refine m_topl (show (0 : Int64) = (0 : Int32).toInt64 by decide) ?_
  refine m_lconst 1 dX12_copied_4 rfl ?_
  refine m_topl (show (1 : Int64) = (1 : Int32).toInt64 by decide) ?_
  refine m_callSi cs_X12_62 [.long (p_.toInt64), .long ((0 : Int32).toInt64), .long ((1 : Int32).toInt64)] [] (k_m_isIn l G p_ 0 1) rfl rfl ⟨Nat.le_of_ble_eq_true rfl, Nat.le_of_ble_eq_true rfl⟩ (Nat.le_of_ble_eq_true rfl) ⟨Nat.zero_le _, Nat.zero_le _⟩ dX12_copied_5 (fun xx σ2 hq => ?_)
  obtain ⟨hgx, rfl⟩ := hq
  obtain rfl := hgx.trans (congrArg bI (inB_01))
  refine m_ifne_b 13 dX12_copied_8 (by decide) (fun c1_ => ?_) (fun c1_ => ?_)
  ·
    refine m_aload_n 0 rfl rfl dX12_copied_13 ?_
    refine m_iload_n 1 rfl rfl dX12_copied_14 ?_
    refine m_callVi cv_X12_175 [.int x_] [] (k_m_wrongSheet l G a_ ho_ im h_ hM x_) (by decide) (ce_4 G _ _ _ _ _ _ _ _ _ _) rfl rfl rfl ⟨Nat.le_of_ble_eq_true rfl, Nat.le_of_ble_eq_true rfl⟩ (Nat.le_of_ble_eq_true rfl) ⟨Nat.zero_le _, Nat.zero_le _⟩ dX12_copied_15 (fun xx σ2 hq => ?_)
    obtain ⟨rfl, rfl⟩ := hq
    refine m_istore [(5, .int (shRefI h_ x_)), (0, .ref (gK G 4 0)), (1, .int x_), (2, .int z_), (3, .int g), (4, .int p_)] (by decide) rfl dX12_copied_18 ?_
    refine m_iload 0 rfl dX12_copied_20 ?_
    refine m_if_ne 33 dX12_copied_22 (by decide) (fun c2_ => ?_) (fun c2_ => ?_)
    ·
      refine m_iload 0 rfl dX12_copied_33 ?_
      refine m_if_ne 46 dX12_copied_35 (by decide) (fun c3_ => ?_) (fun c3_ => ?_)
      ·
        refine m_iload 0 rfl dX12_copied_46 ?_
        refine m_if_eq 54 dX12_copied_48 (by decide) (fun c4_ => ?_) (fun c4_ => ?_)
        ·
          have hz : False := c3_ c4_
          exact m_dead (by first | omega | assumption)
        ·
          refine m_iload 0 rfl dX12_copied_51 ?_
          exact m_iret dX12_copied_53 (Nat.le_refl _) (Nat.le_refl _) (⟨by have hz := c4_; have hbz : ¬ boRefI h_ x_ z_ = 0 := (by unfold boRefI; rw [if_neg hz]; exact hz); unfold copiedI; rw [if_pos c1_, if_neg hbz]; unfold boRefI; rw [if_neg hz], _, _, rfl⟩)
      ·
        have hz : False := c2_ c3_
        exact m_dead (by first | omega | assumption)
    ·
      have hb0 := c2_
      obtain ⟨dq, hdq, rfl, hsr, hDd⟩ := shRefI_0 hb0
      have hcldq : (nI dq).toNatClampNeg = dq := nI_clamp (by omega)
      obtain ⟨hk2, hso2, hev, h24, hsm⟩ := shRef_ok hsr
      have hn12 : shN h_ dq ≤ 12 := by unfold shN; omega
      refine m_aload_n 1 rfl rfl dX12_copied_25 ?_
      refine m_iload_n 2 rfl rfl dX12_copied_26 ?_
      refine m_iload_n 3 rfl rfl dX12_copied_27 ?_
      refine m_callVi cv_X12_178 [.int (nI (dq)), .int z_] [] (k_m_wrongAnswers l G a_ ho_ im h_ hM dq (by omega) hk2 z_) (by decide) (ce_4 G _ _ _ _ _ _ _ _ _ _) rfl rfl rfl ⟨Nat.le_of_ble_eq_true rfl, Nat.le_of_ble_eq_true rfl⟩ (Nat.le_of_ble_eq_true rfl) ⟨Nat.zero_le _, Nat.zero_le _⟩ dX12_copied_28 (fun xx σ2 hq => ?_)
      obtain ⟨rfl, rfl⟩ := hq
      refine m_istore [(5, .int (anRefI h_ z_ (shN h_ dq))), (0, .ref (gK G 4 0)), (1, .int (nI (dq))), (2, .int z_), (3, .int g), (4, .int p_)] (by decide) rfl dX12_copied_31 ?_
      refine m_iload 0 rfl dX12_copied_33 ?_
      refine m_if_ne 46 dX12_copied_35 (by decide) (fun c5_ => ?_) (fun c5_ => ?_)
      ·
        refine m_iload 0 rfl dX12_copied_46 ?_
        refine m_if_eq 54 dX12_copied_48 (by decide) (fun c6_ => ?_) (fun c6_ => ?_)
        ·
          have hz : False := c5_ c6_
          exact m_dead (by first | omega | assumption)
        ·
          refine m_iload 0 rfl dX12_copied_51 ?_
          exact m_iret dX12_copied_53 (Nat.le_refl _) (Nat.le_refl _) (⟨by have hz := c6_; have hbz : ¬ boRefI h_ (nI dq) z_ = 0 := (by unfold boRefI; rw [if_pos hb0, hcldq]; exact hz); unfold copiedI; rw [if_pos c1_, if_neg hbz]; unfold boRefI; rw [if_pos hb0, hcldq], _, _, rfl⟩)
      ·
        have hb1 := c5_
        obtain ⟨eq, heq, rfl, hke, hse, hne⟩ := anRefI_0 c5_
        have hcleq : (nI eq).toNatClampNeg = eq := nI_clamp (by omega)
        have hbb : boRefI h_ (nI dq) (nI eq) = 0 := by unfold boRefI; rw [if_pos hb0, hcldq]; exact hb1
        refine m_aload_n 1 rfl rfl dX12_copied_38 ?_
        refine m_iload_n 2 rfl rfl dX12_copied_39 ?_
        refine m_iload_n 4 rfl rfl dX12_copied_40 ?_
        refine m_callVi cv_X12_178 [.int (nI (dq)), .int g] [] (k_m_wrongAnswers l G a_ ho_ im h_ hM dq (by omega) hk2 g) (by decide) (ce_4 G _ _ _ _ _ _ _ _ _ _) rfl rfl rfl ⟨Nat.le_of_ble_eq_true rfl, Nat.le_of_ble_eq_true rfl⟩ (Nat.le_of_ble_eq_true rfl) ⟨Nat.zero_le _, Nat.zero_le _⟩ dX12_copied_41 (fun xx σ2 hq => ?_)
        obtain ⟨rfl, rfl⟩ := hq
        refine m_istore [(5, .int (anRefI h_ g (shN h_ dq))), (0, .ref (gK G 4 0)), (1, .int (nI (dq))), (2, .int (nI (eq))), (3, .int g), (4, .int p_)] (by decide) rfl dX12_copied_44 ?_
        refine m_iload 0 rfl dX12_copied_46 ?_
        refine m_if_eq 54 dX12_copied_48 (by decide) (fun c7_ => ?_) (fun c7_ => ?_)
        ·
          have hb2 := c7_
          obtain ⟨gq, hgq, rfl, hkg, hsg, hng⟩ := anRefI_0 c7_
          have hclgq : (nI gq).toNatClampNeg = gq := nI_clamp (by omega)
          have hme := (hM.2.2.2 eq heq).2.2.1 hke
          have hmg := (hM.2.2.2 gq hgq).2.2.1 hkg
          refine m_iconst 0 dX12_copied_54 rfl ?_
          refine m_istore [(6, .int 0), (5, .int (anRefI h_ (nI gq) (shN h_ dq))), (0, .ref (gK G 4 0)), (1, .int (nI (dq))), (2, .int (nI (eq))), (3, .int (nI (gq))), (4, .int p_)] (by decide) rfl dX12_copied_55 ?_
          refine m_iconst 0 dX12_copied_57 rfl ?_
          refine m_istore [(7, .int 0), (6, .int 0), (5, .int (anRefI h_ (nI gq) (shN h_ dq))), (0, .ref (gK G 4 0)), (1, .int (nI (dq))), (2, .int (nI (eq))), (3, .int (nI (gq))), (4, .int p_)] (by decide) rfl dX12_copied_58 ?_
          have lp60 : ∀ (dd : Nat) (k_ : Nat) (V9 : owF), k_ ≤ shN h_ dq → shN h_ dq - k_ < dd → Wm l G cX12_copied 11 RX12 ((some .int)) (rmk 5 0 0) (fun _ => True) (QfM G (qI (fun r_ σ => r_ = copiedI a_ h_ (nI dq) (nI eq) (nI gq) p_ ∧ ∃ (T2 V2 : owF), σ = (A, S, Z, B, T2, V2, J, Y, P))) 0 0) 60 [(0, .ref (gK G 4 0)), (1, .int (nI (dq))), (2, .int (nI (eq))), (3, .int (nI (gq))), (4, .int p_), (5, .int (anRefI h_ (nI gq) (shN h_ dq))), (6, .int (nI (cntB (fun s_ => copB (shX h_ dq) (shY h_ dq) (hE h_ eq) (hE h_ gq) s_ && (decide (p_ = 0) || decide (whoA a_ (shX h_ dq s_) (shY h_ dq s_) (hE h_ eq s_) = 0))) k_))), (7, .int (nI (k_)))] [] (A, S, Z, B, T, V9, J, Y, P) 0 0 := by
            intro dd
            induction dd with
            | zero => intro k_ V9 hk_ hdd; exact absurd hdd (Nat.not_lt_zero _)
            | succ dd ih60 =>
              intro k_ V9 hk_ hdd60
              have hcc := cntB_le (fun s_ => copB (shX h_ dq) (shY h_ dq) (hE h_ eq) (hE h_ gq) s_ && (decide (p_ = 0) || decide (whoA a_ (shX h_ dq s_) (shY h_ dq s_) (hE h_ eq s_) = 0))) k_
              refine m_iload 7 rfl dX12_copied_60 ?_
              refine m_aload_n 0 rfl rfl dX12_copied_62 ?_
              refine m_iload_n 1 rfl rfl dX12_copied_63 ?_
              refine m_callVi cv_X12_171 [.int (nI (dq))] [.int (nI (k_))] (k_m_sums l G a_ ho_ im h_ hM dq (by omega) hk2) (by decide) (ce_4 G _ _ _ _ _ _ _ _ _ _) rfl rfl rfl ⟨Nat.le_of_ble_eq_true rfl, Nat.le_of_ble_eq_true rfl⟩ (Nat.le_of_ble_eq_true rfl) ⟨Nat.zero_le _, Nat.zero_le _⟩ dX12_copied_64 (fun xx σ2 hq => ?_)
              obtain ⟨rfl, rfl⟩ := hq
              refine m_icmpn_ge k_ (shN h_ dq) 172 (by omega) (by omega) dX12_copied_67 (by decide) (fun c8_ => ?_) (fun c8_ => ?_)
              ·
                refine m_iload 6 rfl dX12_copied_172 ?_
                exact m_iret dX12_copied_174 (Nat.le_refl _) (Nat.le_refl _) ((by obtain rfl : k_ = shN h_ dq := (by omega); exact ⟨by unfold copiedI; rw [if_pos c1_, if_pos hbb]; simp only [rN, rX, rQ, rV, hcldq, hcleq, hclgq]; rw [if_pos hb2], _, _, rfl⟩))
              ·
                refine m_aload_n 0 rfl rfl dX12_copied_70 ?_
                refine m_iload_n 1 rfl rfl dX12_copied_71 ?_
                refine m_iload 7 rfl dX12_copied_72 ?_
                refine m_callVi cv_X12_181 [.int (nI (dq)), .int (nI (k_))] [] (k_m_upperOf l G a_ ho_ im h_ hM dq (by omega) hsr k_ (by omega)) (by decide) (ce_4 G _ _ _ _ _ _ _ _ _ _) rfl rfl rfl ⟨Nat.le_of_ble_eq_true rfl, Nat.le_of_ble_eq_true rfl⟩ (Nat.le_of_ble_eq_true rfl) ⟨Nat.zero_le _, Nat.zero_le _⟩ dX12_copied_74 (fun xx σ2 hq => ?_)
                obtain ⟨rfl, rfl⟩ := hq
                refine m_istore [(8, .int (nI (shX h_ dq k_))), (0, .ref (gK G 4 0)), (1, .int (nI (dq))), (2, .int (nI (eq))), (3, .int (nI (gq))), (4, .int p_), (5, .int (anRefI h_ (nI gq) (shN h_ dq))), (6, .int (nI (cntB (fun s_ => copB (shX h_ dq) (shY h_ dq) (hE h_ eq) (hE h_ gq) s_ && (decide (p_ = 0) || decide (whoA a_ (shX h_ dq s_) (shY h_ dq s_) (hE h_ eq s_) = 0))) k_))), (7, .int (nI (k_)))] (by decide) rfl dX12_copied_77 ?_
                refine m_aload_n 1 rfl rfl dX12_copied_79 ?_
                refine m_iload_n 2 rfl rfl dX12_copied_80 ?_
                refine m_iload 8 rfl dX12_copied_81 ?_
                refine m_callVi cv_X12_184 [.int (nI (dq)), .int (nI (k_))] [] (k_m_lowerOf l G a_ ho_ im h_ hM dq (by omega) hsr k_ (by omega)) (by decide) (ce_4 G _ _ _ _ _ _ _ _ _ _) rfl rfl rfl ⟨Nat.le_of_ble_eq_true rfl, Nat.le_of_ble_eq_true rfl⟩ (Nat.le_of_ble_eq_true rfl) ⟨Nat.zero_le _, Nat.zero_le _⟩ dX12_copied_83 (fun xx σ2 hq => ?_)
                obtain ⟨rfl, rfl⟩ := hq
                refine m_istore [(9, .int (nI (shY h_ dq k_))), (8, .int (nI (shX h_ dq k_))), (0, .ref (gK G 4 0)), (1, .int (nI (dq))), (2, .int (nI (eq))), (3, .int (nI (gq))), (4, .int p_), (5, .int (anRefI h_ (nI gq) (shN h_ dq))), (6, .int (nI (cntB (fun s_ => copB (shX h_ dq) (shY h_ dq) (hE h_ eq) (hE h_ gq) s_ && (decide (p_ = 0) || decide (whoA a_ (shX h_ dq s_) (shY h_ dq s_) (hE h_ eq s_) = 0))) k_))), (7, .int (nI (k_)))] (by decide) rfl dX12_copied_86 ?_
                refine m_aload_n 2 rfl rfl dX12_copied_88 ?_
                refine gf_X12_28 dX12_copied_89 ?_
                refine m_bipush (100) dX12_copied_92 rfl ?_
                refine m_iload_n 4 rfl rfl dX12_copied_94 ?_
                refine m_imul dX12_copied_95 ?_
                refine m_topi (show 100 * (nI (eq)) = nI (100 * eq) from pk_mul _ _) ?_
                refine m_iload 9 rfl dX12_copied_96 ?_
                refine m_iadd dX12_copied_98 ?_
                refine m_topi (show (nI (100 * eq)) + (nI (k_)) = nI ((100 * eq) + k_) from nI_add _ _) ?_
                refine al_46 ((100 * eq) + k_) rfl (by omega) dX12_copied_99 ?_
                refine m_topi (hme.2.2.2.2 k_ (by omega)) ?_
                refine m_istore [(10, .int (hE h_ eq k_)), (9, .int (nI (shY h_ dq k_))), (8, .int (nI (shX h_ dq k_))), (0, .ref (gK G 4 0)), (1, .int (nI (dq))), (2, .int (nI (eq))), (3, .int (nI (gq))), (4, .int p_), (5, .int (anRefI h_ (nI gq) (shN h_ dq))), (6, .int (nI (cntB (fun s_ => copB (shX h_ dq) (shY h_ dq) (hE h_ eq) (hE h_ gq) s_ && (decide (p_ = 0) || decide (whoA a_ (shX h_ dq s_) (shY h_ dq s_) (hE h_ eq s_) = 0))) k_))), (7, .int (nI (k_)))] (by decide) rfl dX12_copied_100 ?_
                refine m_iload 0 rfl dX12_copied_102 ?_
                refine m_iconst (-1) dX12_copied_104 rfl ?_
                refine m_icmp_eq 166 dX12_copied_105 (by decide) (fun c9_ => ?_) (fun c9_ => ?_)
                ·
                  refine m_iinc (nI (k_ + 1)) 10 [(7, .int (nI (k_ + 1))), (10, .int (hE h_ eq k_)), (9, .int (nI (shY h_ dq k_))), (8, .int (nI (shX h_ dq k_))), (0, .ref (gK G 4 0)), (1, .int (nI (dq))), (2, .int (nI (eq))), (3, .int (nI (gq))), (4, .int p_), (5, .int (anRefI h_ (nI gq) (shN h_ dq))), (6, .int (nI (cntB (fun s_ => copB (shX h_ dq) (shY h_ dq) (hE h_ eq) (hE h_ gq) s_ && (decide (p_ = 0) || decide (whoA a_ (shX h_ dq s_) (shY h_ dq s_) (hE h_ eq s_) = 0))) k_)))] rfl (nI_1 _) (by decide) rfl dX12_copied_166 ?_
                  refine m_goto 60 dX12_copied_169 (by decide) ?_
                  refine m_lv [(0, .ref (gK G 4 0)), (1, .int (nI (dq))), (2, .int (nI (eq))), (3, .int (nI (gq))), (4, .int p_), (5, .int (anRefI h_ (nI gq) (shN h_ dq))), (6, .int (nI (cntB (fun s_ => copB (shX h_ dq) (shY h_ dq) (hE h_ eq) (hE h_ gq) s_ && (decide (p_ = 0) || decide (whoA a_ (shX h_ dq s_) (shY h_ dq s_) (hE h_ eq s_) = 0))) k_))), (7, .int (nI (k_ + 1)))] [4, 5, 6, 7, 8, 9, 10, 0] rfl ?_
                  rw [show cntB (fun s_ => copB (shX h_ dq) (shY h_ dq) (hE h_ eq) (hE h_ gq) s_ && (decide (p_ = 0) || decide (whoA a_ (shX h_ dq s_) (shY h_ dq s_) (hE h_ eq s_) = 0))) k_ = cntB (fun s_ => copB (shX h_ dq) (shY h_ dq) (hE h_ eq) (hE h_ gq) s_ && (decide (p_ = 0) || decide (whoA a_ (shX h_ dq s_) (shY h_ dq s_) (hE h_ eq s_) = 0))) (k_ + 1) from cntB_f (p := (fun s_ => copB (shX h_ dq) (shY h_ dq) (hE h_ eq) (hE h_ gq) s_ && (decide (p_ = 0) || decide (whoA a_ (shX h_ dq s_) (shY h_ dq s_) (hE h_ eq s_) = 0)))) (by first | (simp [copB, *]; done) | grind [copB])]
                  exact ih60 (k_ + 1) V9 (by omega) (by omega)
                ·
                  refine m_iload 0 rfl dX12_copied_108 ?_
                  refine m_aload_n 3 rfl rfl dX12_copied_110 ?_
                  refine gf_X12_28 dX12_copied_111 ?_
                  refine m_bipush (100) dX12_copied_114 rfl ?_
                  refine m_iload_n 6 rfl rfl dX12_copied_116 ?_
                  refine m_imul dX12_copied_117 ?_
                  refine m_topi (show 100 * (nI (gq)) = nI (100 * gq) from pk_mul _ _) ?_
                  refine m_iload 10 rfl dX12_copied_118 ?_
                  refine m_iadd dX12_copied_120 ?_
                  refine m_topi (show (nI (100 * gq)) + (nI (k_)) = nI ((100 * gq) + k_) from nI_add _ _) ?_
                  refine al_46 ((100 * gq) + k_) rfl (by omega) dX12_copied_121 ?_
                  refine m_topi (hmg.2.2.2.2 k_ (by omega)) ?_
                  refine m_icmp_ne 166 dX12_copied_122 (by decide) (fun c10_ => ?_) (fun c10_ => ?_)
                  ·
                    refine m_iinc (nI (k_ + 1)) 10 [(7, .int (nI (k_ + 1))), (10, .int (hE h_ eq k_)), (9, .int (nI (shY h_ dq k_))), (8, .int (nI (shX h_ dq k_))), (0, .ref (gK G 4 0)), (1, .int (nI (dq))), (2, .int (nI (eq))), (3, .int (nI (gq))), (4, .int p_), (5, .int (anRefI h_ (nI gq) (shN h_ dq))), (6, .int (nI (cntB (fun s_ => copB (shX h_ dq) (shY h_ dq) (hE h_ eq) (hE h_ gq) s_ && (decide (p_ = 0) || decide (whoA a_ (shX h_ dq s_) (shY h_ dq s_) (hE h_ eq s_) = 0))) k_)))] rfl (nI_1 _) (by decide) rfl dX12_copied_166 ?_
                    refine m_goto 60 dX12_copied_169 (by decide) ?_
                    refine m_lv [(0, .ref (gK G 4 0)), (1, .int (nI (dq))), (2, .int (nI (eq))), (3, .int (nI (gq))), (4, .int p_), (5, .int (anRefI h_ (nI gq) (shN h_ dq))), (6, .int (nI (cntB (fun s_ => copB (shX h_ dq) (shY h_ dq) (hE h_ eq) (hE h_ gq) s_ && (decide (p_ = 0) || decide (whoA a_ (shX h_ dq s_) (shY h_ dq s_) (hE h_ eq s_) = 0))) k_))), (7, .int (nI (k_ + 1)))] [4, 5, 6, 7, 8, 9, 10, 0] rfl ?_
                    rw [show cntB (fun s_ => copB (shX h_ dq) (shY h_ dq) (hE h_ eq) (hE h_ gq) s_ && (decide (p_ = 0) || decide (whoA a_ (shX h_ dq s_) (shY h_ dq s_) (hE h_ eq s_) = 0))) k_ = cntB (fun s_ => copB (shX h_ dq) (shY h_ dq) (hE h_ eq) (hE h_ gq) s_ && (decide (p_ = 0) || decide (whoA a_ (shX h_ dq s_) (shY h_ dq s_) (hE h_ eq s_) = 0))) (k_ + 1) from cntB_f (p := (fun s_ => copB (shX h_ dq) (shY h_ dq) (hE h_ eq) (hE h_ gq) s_ && (decide (p_ = 0) || decide (whoA a_ (shX h_ dq s_) (shY h_ dq s_) (hE h_ eq s_) = 0)))) (by first | (simp [copB, *]; done) | grind [copB])]
                    exact ih60 (k_ + 1) V9 (by omega) (by omega)
                  ·
                    refine m_iload 0 rfl dX12_copied_125 ?_
                    refine m_iload 2 rfl dX12_copied_127 ?_
                    refine m_iload 1 rfl dX12_copied_129 ?_
                    refine m_isub dX12_copied_131 ?_
                    refine m_icmp_ne 138 dX12_copied_132 (by decide) (fun c11_ => ?_) (fun c11_ => ?_)
                    ·
                      refine m_iload 9 rfl dX12_copied_138 ?_
                      refine m_iload 7 rfl dX12_copied_140 ?_
                      refine m_if_eq 158 dX12_copied_142 (by decide) (fun c12_ => ?_) (fun c12_ => ?_)
                      ·
                        refine m_iconst 1 dX12_copied_158 rfl ?_
                        refine m_goto 163 dX12_copied_159 (by decide) ?_
                        refine m_iadd dX12_copied_163 ?_
                        refine m_topi (show (nI (cntB (fun s_ => copB (shX h_ dq) (shY h_ dq) (hE h_ eq) (hE h_ gq) s_ && (decide (p_ = 0) || decide (whoA a_ (shX h_ dq s_) (shY h_ dq s_) (hE h_ eq s_) = 0))) k_)) + 1 = nI ((cntB (fun s_ => copB (shX h_ dq) (shY h_ dq) (hE h_ eq) (hE h_ gq) s_ && (decide (p_ = 0) || decide (whoA a_ (shX h_ dq s_) (shY h_ dq s_) (hE h_ eq s_) = 0))) k_) + 1) from nI_add _ _) ?_
                        refine m_istore [(6, .int (nI ((cntB (fun s_ => copB (shX h_ dq) (shY h_ dq) (hE h_ eq) (hE h_ gq) s_ && (decide (p_ = 0) || decide (whoA a_ (shX h_ dq s_) (shY h_ dq s_) (hE h_ eq s_) = 0))) k_) + 1))), (10, .int (hE h_ eq k_)), (9, .int (nI (shY h_ dq k_))), (8, .int (nI (shX h_ dq k_))), (0, .ref (gK G 4 0)), (1, .int (nI (dq))), (2, .int (nI (eq))), (3, .int (nI (gq))), (4, .int p_), (5, .int (anRefI h_ (nI gq) (shN h_ dq))), (7, .int (nI (k_)))] (by decide) rfl dX12_copied_164 ?_
                        refine m_iinc (nI (k_ + 1)) 10 [(7, .int (nI (k_ + 1))), (6, .int (nI ((cntB (fun s_ => copB (shX h_ dq) (shY h_ dq) (hE h_ eq) (hE h_ gq) s_ && (decide (p_ = 0) || decide (whoA a_ (shX h_ dq s_) (shY h_ dq s_) (hE h_ eq s_) = 0))) k_) + 1))), (10, .int (hE h_ eq k_)), (9, .int (nI (shY h_ dq k_))), (8, .int (nI (shX h_ dq k_))), (0, .ref (gK G 4 0)), (1, .int (nI (dq))), (2, .int (nI (eq))), (3, .int (nI (gq))), (4, .int p_), (5, .int (anRefI h_ (nI gq) (shN h_ dq)))] rfl (nI_1 _) (by decide) rfl dX12_copied_166 ?_
                        refine m_goto 60 dX12_copied_169 (by decide) ?_
                        refine m_lv [(0, .ref (gK G 4 0)), (1, .int (nI (dq))), (2, .int (nI (eq))), (3, .int (nI (gq))), (4, .int p_), (5, .int (anRefI h_ (nI gq) (shN h_ dq))), (6, .int (nI ((cntB (fun s_ => copB (shX h_ dq) (shY h_ dq) (hE h_ eq) (hE h_ gq) s_ && (decide (p_ = 0) || decide (whoA a_ (shX h_ dq s_) (shY h_ dq s_) (hE h_ eq s_) = 0))) k_) + 1))), (7, .int (nI (k_ + 1)))] [5, 6, 7, 8, 9, 10, 1, 0] rfl ?_
                        rw [show (cntB (fun s_ => copB (shX h_ dq) (shY h_ dq) (hE h_ eq) (hE h_ gq) s_ && (decide (p_ = 0) || decide (whoA a_ (shX h_ dq s_) (shY h_ dq s_) (hE h_ eq s_) = 0))) k_) + 1 = cntB (fun s_ => copB (shX h_ dq) (shY h_ dq) (hE h_ eq) (hE h_ gq) s_ && (decide (p_ = 0) || decide (whoA a_ (shX h_ dq s_) (shY h_ dq s_) (hE h_ eq s_) = 0))) (k_ + 1) from cntB_t (p := (fun s_ => copB (shX h_ dq) (shY h_ dq) (hE h_ eq) (hE h_ gq) s_ && (decide (p_ = 0) || decide (whoA a_ (shX h_ dq s_) (shY h_ dq s_) (hE h_ eq s_) = 0)))) (by first | (simp [copB, *]; done) | grind [copB])]
                        exact ih60 (k_ + 1) V9 (by omega) (by omega)
                      ·
                        refine m_aload_n 3 rfl rfl dX12_copied_145 ?_
                        refine m_iload 2 rfl dX12_copied_146 ?_
                        refine m_iload 1 rfl dX12_copied_148 ?_
                        refine m_iload 0 rfl dX12_copied_150 ?_
                        refine m_callVi cv_X12_162 [.int (nI (shX h_ dq k_)), .int (nI (shY h_ dq k_)), .int (hE h_ eq k_)] [.int (nI (cntB (fun s_ => copB (shX h_ dq) (shY h_ dq) (hE h_ eq) (hE h_ gq) s_ && (decide (p_ = 0) || decide (whoA a_ (shX h_ dq s_) (shY h_ dq s_) (hE h_ eq s_) = 0))) k_))] (k_m_whoseOf l G a_ ho_ im h_ hM (shX h_ dq k_) (shY h_ dq k_) (hsm k_ (by omega)).2.2.2 (hsm k_ (by omega)).2.2.1 (hE h_ eq k_)) (by decide) (ce_4 G _ _ _ _ _ _ _ _ _ _) rfl rfl rfl ⟨Nat.le_of_ble_eq_true rfl, Nat.le_of_ble_eq_true rfl⟩ (Nat.le_of_ble_eq_true rfl) ⟨Nat.zero_le _, Nat.zero_le _⟩ dX12_copied_152 (fun xx σ2 hq => ?_)
                        obtain ⟨rfl, V13, rfl⟩ := hq
                        refine m_if_ne 162 dX12_copied_155 (by decide) (fun c14_ => ?_) (fun c14_ => ?_)
                        ·
                          refine m_iconst 0 dX12_copied_162 rfl ?_
                          refine m_iadd dX12_copied_163 ?_
                          refine m_topi (show (nI (cntB (fun s_ => copB (shX h_ dq) (shY h_ dq) (hE h_ eq) (hE h_ gq) s_ && (decide (p_ = 0) || decide (whoA a_ (shX h_ dq s_) (shY h_ dq s_) (hE h_ eq s_) = 0))) k_)) + 0 = nI ((cntB (fun s_ => copB (shX h_ dq) (shY h_ dq) (hE h_ eq) (hE h_ gq) s_ && (decide (p_ = 0) || decide (whoA a_ (shX h_ dq s_) (shY h_ dq s_) (hE h_ eq s_) = 0))) k_) + 0) from nI_add _ _) ?_
                          refine m_istore [(6, .int (nI ((cntB (fun s_ => copB (shX h_ dq) (shY h_ dq) (hE h_ eq) (hE h_ gq) s_ && (decide (p_ = 0) || decide (whoA a_ (shX h_ dq s_) (shY h_ dq s_) (hE h_ eq s_) = 0))) k_) + 0))), (10, .int (hE h_ eq k_)), (9, .int (nI (shY h_ dq k_))), (8, .int (nI (shX h_ dq k_))), (0, .ref (gK G 4 0)), (1, .int (nI (dq))), (2, .int (nI (eq))), (3, .int (nI (gq))), (4, .int p_), (5, .int (anRefI h_ (nI gq) (shN h_ dq))), (7, .int (nI (k_)))] (by decide) rfl dX12_copied_164 ?_
                          refine m_iinc (nI (k_ + 1)) 10 [(7, .int (nI (k_ + 1))), (6, .int (nI ((cntB (fun s_ => copB (shX h_ dq) (shY h_ dq) (hE h_ eq) (hE h_ gq) s_ && (decide (p_ = 0) || decide (whoA a_ (shX h_ dq s_) (shY h_ dq s_) (hE h_ eq s_) = 0))) k_) + 0))), (10, .int (hE h_ eq k_)), (9, .int (nI (shY h_ dq k_))), (8, .int (nI (shX h_ dq k_))), (0, .ref (gK G 4 0)), (1, .int (nI (dq))), (2, .int (nI (eq))), (3, .int (nI (gq))), (4, .int p_), (5, .int (anRefI h_ (nI gq) (shN h_ dq)))] rfl (nI_1 _) (by decide) rfl dX12_copied_166 ?_
                          refine m_goto 60 dX12_copied_169 (by decide) ?_
                          refine m_lv [(0, .ref (gK G 4 0)), (1, .int (nI (dq))), (2, .int (nI (eq))), (3, .int (nI (gq))), (4, .int p_), (5, .int (anRefI h_ (nI gq) (shN h_ dq))), (6, .int (nI ((cntB (fun s_ => copB (shX h_ dq) (shY h_ dq) (hE h_ eq) (hE h_ gq) s_ && (decide (p_ = 0) || decide (whoA a_ (shX h_ dq s_) (shY h_ dq s_) (hE h_ eq s_) = 0))) k_) + 0))), (7, .int (nI (k_ + 1)))] [5, 6, 7, 8, 9, 10, 1, 0] rfl ?_
                          rw [show cntB (fun s_ => copB (shX h_ dq) (shY h_ dq) (hE h_ eq) (hE h_ gq) s_ && (decide (p_ = 0) || decide (whoA a_ (shX h_ dq s_) (shY h_ dq s_) (hE h_ eq s_) = 0))) k_ = cntB (fun s_ => copB (shX h_ dq) (shY h_ dq) (hE h_ eq) (hE h_ gq) s_ && (decide (p_ = 0) || decide (whoA a_ (shX h_ dq s_) (shY h_ dq s_) (hE h_ eq s_) = 0))) (k_ + 1) from cntB_f (p := (fun s_ => copB (shX h_ dq) (shY h_ dq) (hE h_ eq) (hE h_ gq) s_ && (decide (p_ = 0) || decide (whoA a_ (shX h_ dq s_) (shY h_ dq s_) (hE h_ eq s_) = 0)))) (by first | (simp [copB, *]; done) | grind [copB])]
                          exact ih60 (k_ + 1) V13 (by omega) (by omega)
                        ·
                          refine m_iconst 1 dX12_copied_158 rfl ?_
                          refine m_goto 163 dX12_copied_159 (by decide) ?_
                          refine m_iadd dX12_copied_163 ?_
                          refine m_topi (show (nI (cntB (fun s_ => copB (shX h_ dq) (shY h_ dq) (hE h_ eq) (hE h_ gq) s_ && (decide (p_ = 0) || decide (whoA a_ (shX h_ dq s_) (shY h_ dq s_) (hE h_ eq s_) = 0))) k_)) + 1 = nI ((cntB (fun s_ => copB (shX h_ dq) (shY h_ dq) (hE h_ eq) (hE h_ gq) s_ && (decide (p_ = 0) || decide (whoA a_ (shX h_ dq s_) (shY h_ dq s_) (hE h_ eq s_) = 0))) k_) + 1) from nI_add _ _) ?_
                          refine m_istore [(6, .int (nI ((cntB (fun s_ => copB (shX h_ dq) (shY h_ dq) (hE h_ eq) (hE h_ gq) s_ && (decide (p_ = 0) || decide (whoA a_ (shX h_ dq s_) (shY h_ dq s_) (hE h_ eq s_) = 0))) k_) + 1))), (10, .int (hE h_ eq k_)), (9, .int (nI (shY h_ dq k_))), (8, .int (nI (shX h_ dq k_))), (0, .ref (gK G 4 0)), (1, .int (nI (dq))), (2, .int (nI (eq))), (3, .int (nI (gq))), (4, .int p_), (5, .int (anRefI h_ (nI gq) (shN h_ dq))), (7, .int (nI (k_)))] (by decide) rfl dX12_copied_164 ?_
                          refine m_iinc (nI (k_ + 1)) 10 [(7, .int (nI (k_ + 1))), (6, .int (nI ((cntB (fun s_ => copB (shX h_ dq) (shY h_ dq) (hE h_ eq) (hE h_ gq) s_ && (decide (p_ = 0) || decide (whoA a_ (shX h_ dq s_) (shY h_ dq s_) (hE h_ eq s_) = 0))) k_) + 1))), (10, .int (hE h_ eq k_)), (9, .int (nI (shY h_ dq k_))), (8, .int (nI (shX h_ dq k_))), (0, .ref (gK G 4 0)), (1, .int (nI (dq))), (2, .int (nI (eq))), (3, .int (nI (gq))), (4, .int p_), (5, .int (anRefI h_ (nI gq) (shN h_ dq)))] rfl (nI_1 _) (by decide) rfl dX12_copied_166 ?_
                          refine m_goto 60 dX12_copied_169 (by decide) ?_
                          refine m_lv [(0, .ref (gK G 4 0)), (1, .int (nI (dq))), (2, .int (nI (eq))), (3, .int (nI (gq))), (4, .int p_), (5, .int (anRefI h_ (nI gq) (shN h_ dq))), (6, .int (nI ((cntB (fun s_ => copB (shX h_ dq) (shY h_ dq) (hE h_ eq) (hE h_ gq) s_ && (decide (p_ = 0) || decide (whoA a_ (shX h_ dq s_) (shY h_ dq s_) (hE h_ eq s_) = 0))) k_) + 1))), (7, .int (nI (k_ + 1)))] [5, 6, 7, 8, 9, 10, 1, 0] rfl ?_
                          rw [show (cntB (fun s_ => copB (shX h_ dq) (shY h_ dq) (hE h_ eq) (hE h_ gq) s_ && (decide (p_ = 0) || decide (whoA a_ (shX h_ dq s_) (shY h_ dq s_) (hE h_ eq s_) = 0))) k_) + 1 = cntB (fun s_ => copB (shX h_ dq) (shY h_ dq) (hE h_ eq) (hE h_ gq) s_ && (decide (p_ = 0) || decide (whoA a_ (shX h_ dq s_) (shY h_ dq s_) (hE h_ eq s_) = 0))) (k_ + 1) from cntB_t (p := (fun s_ => copB (shX h_ dq) (shY h_ dq) (hE h_ eq) (hE h_ gq) s_ && (decide (p_ = 0) || decide (whoA a_ (shX h_ dq s_) (shY h_ dq s_) (hE h_ eq s_) = 0)))) (by first | (simp [copB, *]; done) | grind [copB])]
                          exact ih60 (k_ + 1) V13 (by omega) (by omega)
                    ·
                      refine m_goto 166 dX12_copied_135 (by decide) ?_
                      refine m_iinc (nI (k_ + 1)) 10 [(7, .int (nI (k_ + 1))), (10, .int (hE h_ eq k_)), (9, .int (nI (shY h_ dq k_))), (8, .int (nI (shX h_ dq k_))), (0, .ref (gK G 4 0)), (1, .int (nI (dq))), (2, .int (nI (eq))), (3, .int (nI (gq))), (4, .int p_), (5, .int (anRefI h_ (nI gq) (shN h_ dq))), (6, .int (nI (cntB (fun s_ => copB (shX h_ dq) (shY h_ dq) (hE h_ eq) (hE h_ gq) s_ && (decide (p_ = 0) || decide (whoA a_ (shX h_ dq s_) (shY h_ dq s_) (hE h_ eq s_) = 0))) k_)))] rfl (nI_1 _) (by decide) rfl dX12_copied_166 ?_
                      refine m_goto 60 dX12_copied_169 (by decide) ?_
                      refine m_lv [(0, .ref (gK G 4 0)), (1, .int (nI (dq))), (2, .int (nI (eq))), (3, .int (nI (gq))), (4, .int p_), (5, .int (anRefI h_ (nI gq) (shN h_ dq))), (6, .int (nI (cntB (fun s_ => copB (shX h_ dq) (shY h_ dq) (hE h_ eq) (hE h_ gq) s_ && (decide (p_ = 0) || decide (whoA a_ (shX h_ dq s_) (shY h_ dq s_) (hE h_ eq s_) = 0))) k_))), (7, .int (nI (k_ + 1)))] [4, 5, 6, 7, 8, 9, 10, 0] rfl ?_
                      rw [show cntB (fun s_ => copB (shX h_ dq) (shY h_ dq) (hE h_ eq) (hE h_ gq) s_ && (decide (p_ = 0) || decide (whoA a_ (shX h_ dq s_) (shY h_ dq s_) (hE h_ eq s_) = 0))) k_ = cntB (fun s_ => copB (shX h_ dq) (shY h_ dq) (hE h_ eq) (hE h_ gq) s_ && (decide (p_ = 0) || decide (whoA a_ (shX h_ dq s_) (shY h_ dq s_) (hE h_ eq s_) = 0))) (k_ + 1) from cntB_f (p := (fun s_ => copB (shX h_ dq) (shY h_ dq) (hE h_ eq) (hE h_ gq) s_ && (decide (p_ = 0) || decide (whoA a_ (shX h_ dq s_) (shY h_ dq s_) (hE h_ eq s_) = 0)))) (by first | (simp [copB, *]; done) | grind [copB])]
                      exact ih60 (k_ + 1) V9 (by omega) (by omega)
          refine m_lv [(0, .ref (gK G 4 0)), (1, .int (nI (dq))), (2, .int (nI (eq))), (3, .int (nI (gq))), (4, .int p_), (5, .int (anRefI h_ (nI gq) (shN h_ dq))), (6, .int 0), (7, .int 0)] [3, 4, 5, 6, 7, 2, 1, 0] rfl ?_
          exact lp60 ((shN h_ dq - 0) + 1) 0 V (Nat.zero_le _) (Nat.lt_succ_self _)
        ·
          refine m_iload 0 rfl dX12_copied_51 ?_
          exact m_iret dX12_copied_53 (Nat.le_refl _) (Nat.le_refl _) (⟨by unfold copiedI; rw [if_pos c1_, if_pos hbb]; simp only [rN, hcldq]; rw [if_neg c7_], _, _, rfl⟩)
  ·
    refine m_iconst (-1) dX12_copied_11 rfl ?_
    exact m_iret dX12_copied_12 (Nat.le_refl _) (Nat.le_refl _) (⟨by unfold copiedI; rw [if_neg (by rw [c1_]; decide)], _, _, rfl⟩)
