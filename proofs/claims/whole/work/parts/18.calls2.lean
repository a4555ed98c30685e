def slpV (v sd : Int32) : Int32 := slpI v (drI (nxt sd) 4).toNatClampNeg (if drI (nxt (nxt sd)) 2 = 0 then 1 else 9)
theorem up3_up3 {α : Type} {f g h : Nat → Nat → Nat → α} {t i j : Nat} {v w : α} (e1 : g = up3 f t i j v) (e2 : h = up3 g t i j w) : h = up3 f t i j w := by
  rw [e2, e1]
  funext a b c
  simp only [up3]
  split <;> rfl
theorem p10 {c : Nat} (h : c < 4) : 0 < 10 ^ c ∧ 10 ^ c ≤ 1000 := by
  match c, h with
  | 0, _ => decide
  | 1, _ => decide
  | 2, _ => decide
  | 3, _ => decide
set_option maxRecDepth 100000 in
set_option maxHeartbeats 4000000 in
theorem k_slipped (l : Launch) (G : owG) {A S Z B T V : owF} {J : Nat → Nat → Int64} {Y : Nat → Nat → Nat → Option Nat} {P : Nat → Option owW} (v_ : Int32) : Ct l G yX11_slippedFrom cX11_slippedFrom 6 ((some .int)) 1 0 0 [.ref (gK G 0 0), .int v_] (A, S, Z, B, T, V, J, Y, P) (qI (fun r_ σ => r_ = slpV v_ (S 0 0 14) ∧ ∃ S2 : owF, σ = (A, S2, Z, B, T, V, J, Y, P) ∧ S2 = up3 S 0 0 14 (nxt (nxt (S 0 0 14))))) := by
  refine ct_of (by decide +kernel) (Nat.le_of_ble_eq_true rfl) ?_
  show Wm l G cX11_slippedFrom 6 RX11 ((some .int)) (rmk 1 0 0) (fun _ => True) (QfM G (qI (fun r_ σ => r_ = slpV v_ (S 0 0 14) ∧ ∃ S2 : owF, σ = (A, S2, Z, B, T, V, J, Y, P) ∧ S2 = up3 S 0 0 14 (nxt (nxt (S 0 0 14))))) 0 0) 0 [(0, .ref (gK G 0 0)), (1, .int v_)] [] (A, S, Z, B, T, V, J, Y, P) 0 0
  refine m_aload_n 0 rfl rfl dX11_slippedFrom_0 ?_
  refine m_iconst 4 dX11_slippedFrom_1 rfl ?_
  refine m_callVi cv_X11_213 [.int 4] [] (k_draw l G 4 (by decide)) (by decide) (ce_0 G _ _ _ _ _ _ _ _ _ _) rfl rfl rfl ⟨Nat.le_of_ble_eq_true rfl, Nat.le_of_ble_eq_true rfl⟩ (Nat.le_of_ble_eq_true rfl) ⟨Nat.zero_le _, Nat.zero_le _⟩ dX11_slippedFrom_2 (fun xx σ2 hq => ?_)
  obtain ⟨rfl, rfl⟩ := hq
  obtain ⟨S1, hS1⟩ : ∃ q_ : owF, q_ = up3 S 0 0 14 (nxt (S 0 0 14)) := ⟨_, rfl⟩
  rw [← hS1]
  obtain ⟨cq, hcq, ecq⟩ := drI_nat (nxt (S 0 0 14)) (n := 4) (by decide) (by decide)
  have hp10 := p10 hcq
  refine m_topi ecq ?_
  refine m_istore_n [(2, .int (nI (cq))), (0, .ref (gK G 0 0)), (1, .int v_)] rfl (by decide) rfl dX11_slippedFrom_5 ?_
  refine m_iconst 1 dX11_slippedFrom_6 rfl ?_
  refine m_istore_n [(3, .int 1), (2, .int (nI (cq))), (0, .ref (gK G 0 0)), (1, .int v_)] rfl (by decide) rfl dX11_slippedFrom_7 ?_
  refine m_iconst 0 dX11_slippedFrom_8 rfl ?_
  refine m_istore [(4, .int 0), (3, .int 1), (2, .int (nI (cq))), (0, .ref (gK G 0 0)), (1, .int v_)] (by decide) rfl dX11_slippedFrom_9 ?_
  have lp11 : ∀ (dd : Nat) (k_ : Nat) , k_ ≤ cq → cq - k_ < dd → Wm l G cX11_slippedFrom 6 RX11 ((some .int)) (rmk 1 0 0) (fun _ => True) (QfM G (qI (fun r_ σ => r_ = slpV v_ (S 0 0 14) ∧ ∃ S2 : owF, σ = (A, S2, Z, B, T, V, J, Y, P) ∧ S2 = up3 S 0 0 14 (nxt (nxt (S 0 0 14))))) 0 0) 11 [(0, .ref (gK G 0 0)), (1, .int v_), (2, .int (nI (cq))), (3, .int (nI (10 ^ k_))), (4, .int (nI (k_)))] [] (A, S1, Z, B, T, V, J, Y, P) 0 0 := by
    intro dd
    induction dd with
    | zero => intro k_  hk_ hdd; exact absurd hdd (Nat.not_lt_zero _)
    | succ dd ih11 =>
      intro k_  hk_ hdd11
      refine m_iload 4 rfl dX11_slippedFrom_11 ?_
      refine m_iload_n 2 rfl rfl dX11_slippedFrom_13 ?_
      refine m_icmpn_ge k_ cq 28 (by omega) (by omega) dX11_slippedFrom_14 (by decide) (fun c2_ => ?_) (fun c2_ => ?_)
      ·
        obtain rfl : k_ = cq := (by omega)
        refine m_aload_n 0 rfl rfl dX11_slippedFrom_28 ?_
        refine m_iconst 2 dX11_slippedFrom_29 rfl ?_
        refine m_callVi cv_X11_213 [.int 2] [] (k_draw l G 2 (by decide)) (by decide) (ce_0 G _ _ _ _ _ _ _ _ _ _) rfl rfl rfl ⟨Nat.le_of_ble_eq_true rfl, Nat.le_of_ble_eq_true rfl⟩ (Nat.le_of_ble_eq_true rfl) ⟨Nat.zero_le _, Nat.zero_le _⟩ dX11_slippedFrom_30 (fun xx σ2 hq => ?_)
        obtain ⟨rfl, rfl⟩ := hq
        obtain ⟨S3, hS3⟩ : ∃ q_ : owF, q_ = up3 S1 0 0 14 (nxt (S1 0 0 14)) := ⟨_, rfl⟩
        rw [← hS3]
        refine m_if_ne 40 dX11_slippedFrom_33 (by decide) (fun c4_ => ?_) (fun c4_ => ?_)
        ·
          refine m_bipush (9) dX11_slippedFrom_40 rfl ?_
          refine m_istore [(4, .int 9), (0, .ref (gK G 0 0)), (1, .int v_), (2, .int (nI (k_))), (3, .int (nI (10 ^ k_)))] (by decide) rfl dX11_slippedFrom_42 ?_
          refine m_iload_n 2 rfl rfl dX11_slippedFrom_44 ?_
          refine m_iload_n 4 rfl rfl dX11_slippedFrom_45 ?_
          refine m_idiv (nI_ne0 (by omega) (by omega)) dX11_slippedFrom_46 ?_
          refine m_bipush (10) dX11_slippedFrom_47 rfl ?_
          refine m_irem (by decide) dX11_slippedFrom_49 ?_
          refine m_istore [(5, .int ((v_ / (nI (10 ^ k_))) - (v_ / (nI (10 ^ k_))) / 10 * 10)), (4, .int 9), (0, .ref (gK G 0 0)), (1, .int v_), (2, .int (nI (k_))), (3, .int (nI (10 ^ k_)))] (by decide) rfl dX11_slippedFrom_50 ?_
          refine m_iload_n 3 rfl rfl dX11_slippedFrom_52 ?_
          refine m_iload 0 rfl dX11_slippedFrom_53 ?_
          refine m_iload 1 rfl dX11_slippedFrom_55 ?_
          refine m_iadd dX11_slippedFrom_57 ?_
          refine m_bipush (10) dX11_slippedFrom_58 rfl ?_
          refine m_irem (by decide) dX11_slippedFrom_60 ?_
          refine m_iload 0 rfl dX11_slippedFrom_61 ?_
          refine m_isub dX11_slippedFrom_63 ?_
          refine m_iload_n 5 rfl rfl dX11_slippedFrom_64 ?_
          refine m_imul dX11_slippedFrom_65 ?_
          refine m_iadd dX11_slippedFrom_66 ?_
          exact m_iret dX11_slippedFrom_67 (Nat.le_refl _) (Nat.le_refl _) (⟨by unfold slpV; rw [show (drI (nxt (S 0 0 14)) 4).toNatClampNeg = k_ from (congrArg Int32.toNatClampNeg ecq).trans (nI_clamp (by omega)), show nxt (nxt (S 0 0 14)) = nxt (S1 0 0 14) from congrArg nxt (up3_e hS1).symm, if_neg c4_]; rfl, _, rfl, (up3_up3 hS1 hS3).trans (by rw [up3_e hS1])⟩)
        ·
          refine m_iconst 1 dX11_slippedFrom_36 rfl ?_
          refine m_goto 42 dX11_slippedFrom_37 (by decide) ?_
          refine m_istore [(4, .int 1), (0, .ref (gK G 0 0)), (1, .int v_), (2, .int (nI (k_))), (3, .int (nI (10 ^ k_)))] (by decide) rfl dX11_slippedFrom_42 ?_
          refine m_iload_n 2 rfl rfl dX11_slippedFrom_44 ?_
          refine m_iload_n 4 rfl rfl dX11_slippedFrom_45 ?_
          refine m_idiv (nI_ne0 (by omega) (by omega)) dX11_slippedFrom_46 ?_
          refine m_bipush (10) dX11_slippedFrom_47 rfl ?_
          refine m_irem (by decide) dX11_slippedFrom_49 ?_
          refine m_istore [(5, .int ((v_ / (nI (10 ^ k_))) - (v_ / (nI (10 ^ k_))) / 10 * 10)), (4, .int 1), (0, .ref (gK G 0 0)), (1, .int v_), (2, .int (nI (k_))), (3, .int (nI (10 ^ k_)))] (by decide) rfl dX11_slippedFrom_50 ?_
          refine m_iload_n 3 rfl rfl dX11_slippedFrom_52 ?_
          refine m_iload 0 rfl dX11_slippedFrom_53 ?_
          refine m_iload 1 rfl dX11_slippedFrom_55 ?_
          refine m_iadd dX11_slippedFrom_57 ?_
          refine m_bipush (10) dX11_slippedFrom_58 rfl ?_
          refine m_irem (by decide) dX11_slippedFrom_60 ?_
          refine m_iload 0 rfl dX11_slippedFrom_61 ?_
          refine m_isub dX11_slippedFrom_63 ?_
          refine m_iload_n 5 rfl rfl dX11_slippedFrom_64 ?_
          refine m_imul dX11_slippedFrom_65 ?_
          refine m_iadd dX11_slippedFrom_66 ?_
          exact m_iret dX11_slippedFrom_67 (Nat.le_refl _) (Nat.le_refl _) (⟨by unfold slpV; rw [show (drI (nxt (S 0 0 14)) 4).toNatClampNeg = k_ from (congrArg Int32.toNatClampNeg ecq).trans (nI_clamp (by omega)), show nxt (nxt (S 0 0 14)) = nxt (S1 0 0 14) from congrArg nxt (up3_e hS1).symm, if_pos c4_]; rfl, _, rfl, (up3_up3 hS1 hS3).trans (by rw [up3_e hS1])⟩)
      ·
        refine m_iload_n 3 rfl rfl dX11_slippedFrom_17 ?_
        refine m_bipush (10) dX11_slippedFrom_18 rfl ?_
        refine m_imul dX11_slippedFrom_20 ?_
        refine m_topi (show (nI (10 ^ k_)) * 10 = nI ((10 ^ k_) * 10) from pk_mul _ _) ?_
        refine m_istore_n [(3, .int (nI ((10 ^ k_) * 10))), (0, .ref (gK G 0 0)), (1, .int v_), (2, .int (nI (cq))), (4, .int (nI (k_)))] rfl (by decide) rfl dX11_slippedFrom_21 ?_
        refine m_iinc (nI (k_ + 1)) 4 [(4, .int (nI (k_ + 1))), (3, .int (nI ((10 ^ k_) * 10))), (0, .ref (gK G 0 0)), (1, .int v_), (2, .int (nI (cq)))] rfl (nI_1 _) (by decide) rfl dX11_slippedFrom_22 ?_
        refine m_goto 11 dX11_slippedFrom_25 (by decide) ?_
        refine m_lv [(0, .ref (gK G 0 0)), (1, .int v_), (2, .int (nI (cq))), (3, .int (nI ((10 ^ k_) * 10))), (4, .int (nI (k_ + 1)))] [2, 3, 4, 1, 0] rfl ?_
        exact ih11 (k_ + 1)  (by omega) (by omega)
  refine m_lv [(0, .ref (gK G 0 0)), (1, .int v_), (2, .int (nI (cq))), (3, .int 1), (4, .int 0)] [3, 4, 2, 1, 0] rfl ?_
  exact lp11 ((cq - 0) + 1) 0  (Nat.zero_le _) (Nat.lt_succ_self _)
set_option maxRecDepth 100000 in
set_option maxHeartbeats 4000000 in
theorem k_childrenOf (l : Launch) (G : owG) {A S Z B T V : owF} {J : Nat → Nat → Int64} {Y : Nat → Nat → Nat → Option Nat} {P : Nat → Option owW} (a_ : owK) (ho_ : aOk a_) (hR : RX A Y P 0 a_) (v_ : Int32) : Ct l G yX11_childrenOfKind cX11_childrenOfKind 4 ((some .int)) 2 0 0 [.ref (gK G 0 0), .int v_] (A, S, Z, B, T, V, J, Y, P) (qI (fun r_ σ => r_ = nI (chK a_ v_) ∧ σ = (A, S, Z, B, T, V, J, Y, P))) := by
  refine ct_of (by decide +kernel) (Nat.le_of_ble_eq_true rfl) ?_
  have h10 := ho_.1
  have h8_ := ho_.2.1
  show Wm l G cX11_childrenOfKind 4 RX11 ((some .int)) (rmk 2 0 0) (fun _ => True) (QfM G (qI (fun r_ σ => r_ = nI (chK a_ v_) ∧ σ = (A, S, Z, B, T, V, J, Y, P))) 0 0) 0 [(0, .ref (gK G 0 0)), (1, .int v_)] [] (A, S, Z, B, T, V, J, Y, P) 0 0
  refine m_iconst 0 dX11_childrenOfKind_0 rfl ?_
  refine m_istore_n [(2, .int 0), (0, .ref (gK G 0 0)), (1, .int v_)] rfl (by decide) rfl dX11_childrenOfKind_1 ?_
  refine m_iconst 0 dX11_childrenOfKind_2 rfl ?_
  refine m_istore_n [(3, .int 0), (2, .int 0), (0, .ref (gK G 0 0)), (1, .int v_)] rfl (by decide) rfl dX11_childrenOfKind_3 ?_
  have lp4 : ∀ (dd : Nat) (k_ : Nat) , k_ ≤ aC a_ → aC a_ - k_ < dd → Wm l G cX11_childrenOfKind 4 RX11 ((some .int)) (rmk 2 0 0) (fun _ => True) (QfM G (qI (fun r_ σ => r_ = nI (chK a_ v_) ∧ σ = (A, S, Z, B, T, V, J, Y, P))) 0 0) 4 [(0, .ref (gK G 0 0)), (1, .int v_), (2, .int (nI (cntB (fun c_ => decide (nI (aK a_ (aH a_ c_)) = v_)) k_))), (3, .int (nI (k_)))] [] (A, S, Z, B, T, V, J, Y, P) 0 0 := by
    intro dd
    induction dd with
    | zero => intro k_  hk_ hdd; exact absurd hdd (Nat.not_lt_zero _)
    | succ dd ih4 =>
      intro k_  hk_ hdd4
      have hc_ := cntB_le (fun c_ => decide (nI (aK a_ (aH a_ c_)) = v_)) k_
      refine m_iload_n 3 rfl rfl dX11_childrenOfKind_4 ?_
      refine m_aload_n 0 rfl rfl dX11_childrenOfKind_5 ?_
      refine gf_X11_10 dX11_childrenOfKind_6 ?_
      refine gf_X11_222 (by decide) dX11_childrenOfKind_9 ?_
      refine m_topi hR.2.1 ?_
      refine m_icmpn_ge k_ (aC a_) 46 (by omega) (by omega) dX11_childrenOfKind_12 (by decide) (fun c1_ => ?_) (fun c1_ => ?_)
      ·
        refine m_iload_n 2 rfl rfl dX11_childrenOfKind_46 ?_
        exact m_iret dX11_childrenOfKind_47 (Nat.le_refl _) (Nat.le_refl _) ((by obtain rfl : k_ = aC a_ := (by omega); exact ⟨rfl, rfl⟩))
      ·
        refine m_aload_n 0 rfl rfl dX11_childrenOfKind_15 ?_
        refine gf_X11_10 dX11_childrenOfKind_16 ?_
        refine m_aload_n 0 rfl rfl dX11_childrenOfKind_19 ?_
        refine gf_X11_10 dX11_childrenOfKind_20 ?_
        refine gf_X11_99 (by decide) dX11_childrenOfKind_23 ?_
        refine m_iload_n 3 rfl rfl dX11_childrenOfKind_26 ?_
        refine m_callSi cs_X11_102 [.ref (gK G 10 0), .int (nI (k_))] [.ref (gK G 1 0)] (k_at (t := 10) (n := 8) l G (by decide) (ce_10 G _ _ _ _ _ _ _ _ _ 0) (by decide) (nI (k_))) rfl rfl ⟨Nat.le_of_ble_eq_true rfl, Nat.le_of_ble_eq_true rfl⟩ (Nat.le_of_ble_eq_true rfl) ⟨Nat.zero_le _, Nat.zero_le _⟩ dX11_childrenOfKind_27 (fun xx σ2 hq => ?_)
        obtain rfl : xx = A 10 0 k_ := hq.1.trans (atV_in (by omega) (by decide))
        obtain rfl := hq.2
        refine m_topi (hR.2.2.2.1 k_ (by omega)).1 ?_
        refine m_callVi cv_X11_228 [.int (nI (aH a_ k_))] [] (k_kindOf l G 0 (by decide) a_ ho_ hR (nI (aH a_ k_))) (by decide) (ce_1 G _ _ _ _ _ _ _ _ _ _) rfl rfl rfl ⟨Nat.le_of_ble_eq_true rfl, Nat.le_of_ble_eq_true rfl⟩ (Nat.le_of_ble_eq_true rfl) ⟨Nat.zero_le _, Nat.zero_le _⟩ dX11_childrenOfKind_30 (fun xx σ2 hq => ?_)
        obtain ⟨hgx, rfl⟩ := hq
        obtain rfl := hgx.trans (kindI_nat ho_ (ho_.2.2.2.1 k_ (by omega)).1)
        refine m_iload_n 1 rfl rfl dX11_childrenOfKind_33 ?_
        refine m_icmp_ne 40 dX11_childrenOfKind_34 (by decide) (fun c3_ => ?_) (fun c3_ => ?_)
        ·
          refine m_iinc (nI (k_ + 1)) 3 [(3, .int (nI (k_ + 1))), (0, .ref (gK G 0 0)), (1, .int v_), (2, .int (nI (cntB (fun c_ => decide (nI (aK a_ (aH a_ c_)) = v_)) k_)))] rfl (nI_1 _) (by decide) rfl dX11_childrenOfKind_40 ?_
          refine m_goto 4 dX11_childrenOfKind_43 (by decide) ?_
          refine m_lv [(0, .ref (gK G 0 0)), (1, .int v_), (2, .int (nI (cntB (fun c_ => decide (nI (aK a_ (aH a_ c_)) = v_)) k_))), (3, .int (nI (k_ + 1)))] [1, 2, 3, 0] rfl ?_
          rw [show cntB (fun c_ => decide (nI (aK a_ (aH a_ c_)) = v_)) k_ = cntB (fun c_ => decide (nI (aK a_ (aH a_ c_)) = v_)) (k_ + 1) from cntB_f (p := (fun c_ => decide (nI (aK a_ (aH a_ c_)) = v_))) (by grind)]
          exact ih4 (k_ + 1)  (by omega) (by omega)
        ·
          refine m_iinc (nI (cntB (fun c_ => decide (nI (aK a_ (aH a_ c_)) = v_)) k_ + 1)) 2 [(2, .int (nI (cntB (fun c_ => decide (nI (aK a_ (aH a_ c_)) = v_)) k_ + 1))), (0, .ref (gK G 0 0)), (1, .int v_), (3, .int (nI (k_)))] rfl (nI_1 _) (by decide) rfl dX11_childrenOfKind_37 ?_
          refine m_iinc (nI (k_ + 1)) 3 [(3, .int (nI (k_ + 1))), (2, .int (nI (cntB (fun c_ => decide (nI (aK a_ (aH a_ c_)) = v_)) k_ + 1))), (0, .ref (gK G 0 0)), (1, .int v_)] rfl (nI_1 _) (by decide) rfl dX11_childrenOfKind_40 ?_
          refine m_goto 4 dX11_childrenOfKind_43 (by decide) ?_
          refine m_lv [(0, .ref (gK G 0 0)), (1, .int v_), (2, .int (nI (cntB (fun c_ => decide (nI (aK a_ (aH a_ c_)) = v_)) k_ + 1))), (3, .int (nI (k_ + 1)))] [2, 3, 1, 0] rfl ?_
          rw [show (cntB (fun c_ => decide (nI (aK a_ (aH a_ c_)) = v_)) k_) + 1 = cntB (fun c_ => decide (nI (aK a_ (aH a_ c_)) = v_)) (k_ + 1) from cntB_t (p := (fun c_ => decide (nI (aK a_ (aH a_ c_)) = v_))) (by grind)]
          exact ih4 (k_ + 1)  (by omega) (by omega)
  refine m_lv [(0, .ref (gK G 0 0)), (1, .int v_), (2, .int 0), (3, .int 0)] [2, 3, 1, 0] rfl ?_
  exact lp4 ((aC a_ - 0) + 1) 0  (Nat.zero_le _) (Nat.lt_succ_self _)
set_option maxRecDepth 100000 in
set_option maxHeartbeats 4000000 in
theorem k_rightKind (l : Launch) (G : owG) {A S Z B T V : owF} {J : Nat → Nat → Int64} {Y : Nat → Nat → Nat → Option Nat} {P : Nat → Option owW} (a_ : owK) (ho_ : aOk a_) (hR : RX A Y P 0 a_)  : Ct l G yX11_waysOfRightKind cX11_waysOfRightKind 3 ((some .int)) 2 0 0 [.ref (gK G 0 0)] (A, S, Z, B, T, V, J, Y, P) (qI (fun r_ σ => r_ = nI (cntB (fun w_ => decide (aK a_ w_ = 0)) (aN a_)) ∧ σ = (A, S, Z, B, T, V, J, Y, P))) := by
  refine ct_of (by decide +kernel) (Nat.le_of_ble_eq_true rfl) ?_
  have h10 := ho_.1
  have h8_ := ho_.2.1
  show Wm l G cX11_waysOfRightKind 3 RX11 ((some .int)) (rmk 2 0 0) (fun _ => True) (QfM G (qI (fun r_ σ => r_ = nI (cntB (fun w_ => decide (aK a_ w_ = 0)) (aN a_)) ∧ σ = (A, S, Z, B, T, V, J, Y, P))) 0 0) 0 [(0, .ref (gK G 0 0))] [] (A, S, Z, B, T, V, J, Y, P) 0 0
  refine m_iconst 0 dX11_waysOfRightKind_0 rfl ?_
  refine m_istore_n [(1, .int 0), (0, .ref (gK G 0 0))] rfl (by decide) rfl dX11_waysOfRightKind_1 ?_
  refine m_iconst 0 dX11_waysOfRightKind_2 rfl ?_
  refine m_istore_n [(2, .int 0), (1, .int 0), (0, .ref (gK G 0 0))] rfl (by decide) rfl dX11_waysOfRightKind_3 ?_
  have lp4 : ∀ (dd : Nat) (k_ : Nat) , k_ ≤ aN a_ → aN a_ - k_ < dd → Wm l G cX11_waysOfRightKind 3 RX11 ((some .int)) (rmk 2 0 0) (fun _ => True) (QfM G (qI (fun r_ σ => r_ = nI (cntB (fun w_ => decide (aK a_ w_ = 0)) (aN a_)) ∧ σ = (A, S, Z, B, T, V, J, Y, P))) 0 0) 4 [(0, .ref (gK G 0 0)), (1, .int (nI (cntB (fun w_ => decide (aK a_ w_ = 0)) k_))), (2, .int (nI (k_)))] [] (A, S, Z, B, T, V, J, Y, P) 0 0 := by
    intro dd
    induction dd with
    | zero => intro k_  hk_ hdd; exact absurd hdd (Nat.not_lt_zero _)
    | succ dd ih4 =>
      intro k_  hk_ hdd4
      have hc_ := cntB_le (fun w_ => decide (aK a_ w_ = 0)) k_
      refine m_iload_n 2 rfl rfl dX11_waysOfRightKind_4 ?_
      refine m_aload_n 0 rfl rfl dX11_waysOfRightKind_5 ?_
      refine gf_X11_10 dX11_waysOfRightKind_6 ?_
      refine gf_X11_164 (by decide) dX11_waysOfRightKind_9 ?_
      refine m_topi hR.1 ?_
      refine m_icmpn_ge k_ (aN a_) 35 (by omega) (by omega) dX11_waysOfRightKind_12 (by decide) (fun c1_ => ?_) (fun c1_ => ?_)
      ·
        refine m_iload_n 1 rfl rfl dX11_waysOfRightKind_35 ?_
        exact m_iret dX11_waysOfRightKind_36 (Nat.le_refl _) (Nat.le_refl _) ((by obtain rfl : k_ = aN a_ := (by omega); exact ⟨rfl, rfl⟩))
      ·
        have hk8 := aK_lt ho_ (w := k_) (by omega)
        refine m_aload_n 0 rfl rfl dX11_waysOfRightKind_15 ?_
        refine gf_X11_10 dX11_waysOfRightKind_16 ?_
        refine m_iload_n 2 rfl rfl dX11_waysOfRightKind_19 ?_
        refine m_callVi cv_X11_228 [.int (nI (k_))] [] (k_kindOf l G 0 (by decide) a_ ho_ hR (nI (k_))) (by decide) (ce_1 G _ _ _ _ _ _ _ _ _ _) rfl rfl rfl ⟨Nat.le_of_ble_eq_true rfl, Nat.le_of_ble_eq_true rfl⟩ (Nat.le_of_ble_eq_true rfl) ⟨Nat.zero_le _, Nat.zero_le _⟩ dX11_waysOfRightKind_20 (fun xx σ2 hq => ?_)
        obtain ⟨hgx, rfl⟩ := hq
        obtain rfl := hgx.trans (kindI_nat ho_ (by omega))
        refine m_ifn_ne (aK a_ k_) 29 (by omega) dX11_waysOfRightKind_23 (by decide) (fun c2_ => ?_) (fun c2_ => ?_)
        ·
          refine m_iinc (nI (k_ + 1)) 2 [(2, .int (nI (k_ + 1))), (0, .ref (gK G 0 0)), (1, .int (nI (cntB (fun w_ => decide (aK a_ w_ = 0)) k_)))] rfl (nI_1 _) (by decide) rfl dX11_waysOfRightKind_29 ?_
          refine m_goto 4 dX11_waysOfRightKind_32 (by decide) ?_
          refine m_lv [(0, .ref (gK G 0 0)), (1, .int (nI (cntB (fun w_ => decide (aK a_ w_ = 0)) k_))), (2, .int (nI (k_ + 1)))] [1, 2, 0] rfl ?_
          rw [show cntB (fun w_ => decide (aK a_ w_ = 0)) k_ = cntB (fun w_ => decide (aK a_ w_ = 0)) (k_ + 1) from cntB_f (p := (fun w_ => decide (aK a_ w_ = 0))) (by grind)]
          exact ih4 (k_ + 1)  (by omega) (by omega)
        ·
          refine m_iinc (nI (cntB (fun w_ => decide (aK a_ w_ = 0)) k_ + 1)) 1 [(1, .int (nI (cntB (fun w_ => decide (aK a_ w_ = 0)) k_ + 1))), (0, .ref (gK G 0 0)), (2, .int (nI (k_)))] rfl (nI_1 _) (by decide) rfl dX11_waysOfRightKind_26 ?_
          refine m_iinc (nI (k_ + 1)) 2 [(2, .int (nI (k_ + 1))), (1, .int (nI (cntB (fun w_ => decide (aK a_ w_ = 0)) k_ + 1))), (0, .ref (gK G 0 0))] rfl (nI_1 _) (by decide) rfl dX11_waysOfRightKind_29 ?_
          refine m_goto 4 dX11_waysOfRightKind_32 (by decide) ?_
          refine m_lv [(0, .ref (gK G 0 0)), (1, .int (nI (cntB (fun w_ => decide (aK a_ w_ = 0)) k_ + 1))), (2, .int (nI (k_ + 1)))] [2, 1, 0] rfl ?_
          rw [show (cntB (fun w_ => decide (aK a_ w_ = 0)) k_) + 1 = cntB (fun w_ => decide (aK a_ w_ = 0)) (k_ + 1) from cntB_t (p := (fun w_ => decide (aK a_ w_ = 0))) (by grind)]
          exact ih4 (k_ + 1)  (by omega) (by omega)
  refine m_lv [(0, .ref (gK G 0 0)), (1, .int 0), (2, .int 0)] [2, 1, 0] rfl ?_
  exact lp4 ((aN a_ - 0) + 1) 0  (Nat.zero_le _) (Nat.lt_succ_self _)
set_option maxRecDepth 100000 in
set_option maxHeartbeats 4000000 in
theorem k_changed (l : Launch) (G : owG) {A S Z B T V : owF} {J : Nat → Nat → Int64} {Y : Nat → Nat → Nat → Option Nat} {P : Nat → Option owW} (a_ : owK) (ho_ : aOk a_) (hR : RX A Y P 0 a_)  : Ct l G yX11_childrenChanged cX11_childrenChanged 3 ((some .int)) 1 0 0 [.ref (gK G 0 0)] (A, S, Z, B, T, V, J, Y, P) (qI (fun r_ σ => r_ = nI (cntB (fun c_ => decide (aH a_ c_ ≠ aI a_ c_)) (aC a_)) ∧ σ = (A, S, Z, B, T, V, J, Y, P))) := by
  refine ct_of (by decide +kernel) (Nat.le_of_ble_eq_true rfl) ?_
  have h10 := ho_.1
  have h8_ := ho_.2.1
  show Wm l G cX11_childrenChanged 3 RX11 ((some .int)) (rmk 1 0 0) (fun _ => True) (QfM G (qI (fun r_ σ => r_ = nI (cntB (fun c_ => decide (aH a_ c_ ≠ aI a_ c_)) (aC a_)) ∧ σ = (A, S, Z, B, T, V, J, Y, P))) 0 0) 0 [(0, .ref (gK G 0 0))] [] (A, S, Z, B, T, V, J, Y, P) 0 0
  refine m_iconst 0 dX11_childrenChanged_0 rfl ?_
  refine m_istore_n [(1, .int 0), (0, .ref (gK G 0 0))] rfl (by decide) rfl dX11_childrenChanged_1 ?_
  refine m_iconst 0 dX11_childrenChanged_2 rfl ?_
  refine m_istore_n [(2, .int 0), (1, .int 0), (0, .ref (gK G 0 0))] rfl (by decide) rfl dX11_childrenChanged_3 ?_
  have lp4 : ∀ (dd : Nat) (k_ : Nat) , k_ ≤ aC a_ → aC a_ - k_ < dd → Wm l G cX11_childrenChanged 3 RX11 ((some .int)) (rmk 1 0 0) (fun _ => True) (QfM G (qI (fun r_ σ => r_ = nI (cntB (fun c_ => decide (aH a_ c_ ≠ aI a_ c_)) (aC a_)) ∧ σ = (A, S, Z, B, T, V, J, Y, P))) 0 0) 4 [(0, .ref (gK G 0 0)), (1, .int (nI (cntB (fun c_ => decide (aH a_ c_ ≠ aI a_ c_)) k_))), (2, .int (nI (k_)))] [] (A, S, Z, B, T, V, J, Y, P) 0 0 := by
    intro dd
    induction dd with
    | zero => intro k_  hk_ hdd; exact absurd hdd (Nat.not_lt_zero _)
    | succ dd ih4 =>
      intro k_  hk_ hdd4
      have hc_ := cntB_le (fun c_ => decide (aH a_ c_ ≠ aI a_ c_)) k_
      refine m_iload_n 2 rfl rfl dX11_childrenChanged_4 ?_
      refine m_aload_n 0 rfl rfl dX11_childrenChanged_5 ?_
      refine gf_X11_10 dX11_childrenChanged_6 ?_
      refine gf_X11_222 (by decide) dX11_childrenChanged_9 ?_
      refine m_topi hR.2.1 ?_
      refine m_icmpn_ge k_ (aC a_) 49 (by omega) (by omega) dX11_childrenChanged_12 (by decide) (fun c1_ => ?_) (fun c1_ => ?_)
      ·
        refine m_iload_n 1 rfl rfl dX11_childrenChanged_49 ?_
        exact m_iret dX11_childrenChanged_50 (Nat.le_refl _) (Nat.le_refl _) ((by obtain rfl : k_ = aC a_ := (by omega); exact ⟨rfl, rfl⟩))
      ·
        have hch := ho_.2.2.2.1 k_ (by omega)
        refine m_aload_n 0 rfl rfl dX11_childrenChanged_15 ?_
        refine gf_X11_10 dX11_childrenChanged_16 ?_
        refine gf_X11_99 (by decide) dX11_childrenChanged_19 ?_
        refine m_iload_n 2 rfl rfl dX11_childrenChanged_22 ?_
        refine m_callSi cs_X11_102 [.ref (gK G 10 0), .int (nI (k_))] [] (k_at (t := 10) (n := 8) l G (by decide) (ce_10 G _ _ _ _ _ _ _ _ _ 0) (by decide) (nI (k_))) rfl rfl ⟨Nat.le_of_ble_eq_true rfl, Nat.le_of_ble_eq_true rfl⟩ (Nat.le_of_ble_eq_true rfl) ⟨Nat.zero_le _, Nat.zero_le _⟩ dX11_childrenChanged_23 (fun xx σ2 hq => ?_)
        obtain rfl : xx = A 10 0 k_ := hq.1.trans (atV_in (by omega) (by decide))
        obtain rfl := hq.2
        refine m_topi (hR.2.2.2.1 k_ (by omega)).1 ?_
        refine m_aload_n 0 rfl rfl dX11_childrenChanged_26 ?_
        refine gf_X11_10 dX11_childrenChanged_27 ?_
        refine gf_X11_109 (by decide) dX11_childrenChanged_30 ?_
        refine m_iload_n 2 rfl rfl dX11_childrenChanged_33 ?_
        refine m_callSi cs_X11_102 [.ref (gK G 11 0), .int (nI (k_))] [.int (nI (aH a_ k_))] (k_at (t := 11) (n := 8) l G (by decide) (ce_11 G _ _ _ _ _ _ _ _ _ 0) (by decide) (nI (k_))) rfl rfl ⟨Nat.le_of_ble_eq_true rfl, Nat.le_of_ble_eq_true rfl⟩ (Nat.le_of_ble_eq_true rfl) ⟨Nat.zero_le _, Nat.zero_le _⟩ dX11_childrenChanged_34 (fun xx σ2 hq => ?_)
        obtain rfl : xx = A 11 0 k_ := hq.1.trans (atV_in (by omega) (by decide))
        obtain rfl := hq.2
        refine m_topi (hR.2.2.2.1 k_ (by omega)).2.2 ?_
        refine m_icmpn_eq (aH a_ k_) (aI a_ k_) 43 (by omega) (by omega) dX11_childrenChanged_37 (by decide) (fun c4_ => ?_) (fun c4_ => ?_)
        ·
          refine m_iinc (nI (k_ + 1)) 2 [(2, .int (nI (k_ + 1))), (0, .ref (gK G 0 0)), (1, .int (nI (cntB (fun c_ => decide (aH a_ c_ ≠ aI a_ c_)) k_)))] rfl (nI_1 _) (by decide) rfl dX11_childrenChanged_43 ?_
          refine m_goto 4 dX11_childrenChanged_46 (by decide) ?_
          refine m_lv [(0, .ref (gK G 0 0)), (1, .int (nI (cntB (fun c_ => decide (aH a_ c_ ≠ aI a_ c_)) k_))), (2, .int (nI (k_ + 1)))] [1, 2, 0] rfl ?_
          rw [show cntB (fun c_ => decide (aH a_ c_ ≠ aI a_ c_)) k_ = cntB (fun c_ => decide (aH a_ c_ ≠ aI a_ c_)) (k_ + 1) from cntB_f (p := (fun c_ => decide (aH a_ c_ ≠ aI a_ c_))) (by grind)]
          exact ih4 (k_ + 1)  (by omega) (by omega)
        ·
          refine m_iinc (nI (cntB (fun c_ => decide (aH a_ c_ ≠ aI a_ c_)) k_ + 1)) 1 [(1, .int (nI (cntB (fun c_ => decide (aH a_ c_ ≠ aI a_ c_)) k_ + 1))), (0, .ref (gK G 0 0)), (2, .int (nI (k_)))] rfl (nI_1 _) (by decide) rfl dX11_childrenChanged_40 ?_
          refine m_iinc (nI (k_ + 1)) 2 [(2, .int (nI (k_ + 1))), (1, .int (nI (cntB (fun c_ => decide (aH a_ c_ ≠ aI a_ c_)) k_ + 1))), (0, .ref (gK G 0 0))] rfl (nI_1 _) (by decide) rfl dX11_childrenChanged_43 ?_
          refine m_goto 4 dX11_childrenChanged_46 (by decide) ?_
          refine m_lv [(0, .ref (gK G 0 0)), (1, .int (nI (cntB (fun c_ => decide (aH a_ c_ ≠ aI a_ c_)) k_ + 1))), (2, .int (nI (k_ + 1)))] [2, 1, 0] rfl ?_
          rw [show (cntB (fun c_ => decide (aH a_ c_ ≠ aI a_ c_)) k_) + 1 = cntB (fun c_ => decide (aH a_ c_ ≠ aI a_ c_)) (k_ + 1) from cntB_t (p := (fun c_ => decide (aH a_ c_ ≠ aI a_ c_))) (by grind)]
          exact ih4 (k_ + 1)  (by omega) (by omega)
  refine m_lv [(0, .ref (gK G 0 0)), (1, .int 0), (2, .int 0)] [2, 1, 0] rfl ?_
  exact lp4 ((aC a_ - 0) + 1) 0  (Nat.zero_le _) (Nat.lt_succ_self _)
set_option maxRecDepth 100000 in
set_option maxHeartbeats 4000000 in
theorem k_greatest (l : Launch) (G : owG) {A S Z B T V : owF} {J : Nat → Nat → Int64} {Y : Nat → Nat → Nat → Option Nat} {P : Nat → Option owW} (a_ : owK) (ho_ : aOk a_) (hR : RX A Y P 0 a_) (b_ : Int32) : Ct l G yX11_greatestKind cX11_greatestKind 6 ((some .int)) 3 0 0 [.ref (gK G 0 0), .int b_] (A, S, Z, B, T, V, J, Y, P) (qI (fun r_ σ => r_ = kdI (gkS a_ b_ 7).1 ∧ σ = (A, S, Z, B, T, V, J, Y, P))) := by
  refine ct_of (by decide +kernel) (Nat.le_of_ble_eq_true rfl) ?_
  have h10 := ho_.1
  have h8_ := ho_.2.1
  show Wm l G cX11_greatestKind 6 RX11 ((some .int)) (rmk 3 0 0) (fun _ => True) (QfM G (qI (fun r_ σ => r_ = kdI (gkS a_ b_ 7).1 ∧ σ = (A, S, Z, B, T, V, J, Y, P))) 0 0) 0 [(0, .ref (gK G 0 0)), (1, .int b_)] [] (A, S, Z, B, T, V, J, Y, P) 0 0
  refine m_bipush (-4) dX11_greatestKind_0 rfl ?_
  refine m_istore_n [(2, .int (-4)), (0, .ref (gK G 0 0)), (1, .int b_)] rfl (by decide) rfl dX11_greatestKind_2 ?_
  refine m_iconst 0 dX11_greatestKind_3 rfl ?_
  refine m_istore_n [(3, .int 0), (2, .int (-4)), (0, .ref (gK G 0 0)), (1, .int b_)] rfl (by decide) rfl dX11_greatestKind_4 ?_
  refine m_iconst 1 dX11_greatestKind_5 rfl ?_
  refine m_istore [(4, .int 1), (3, .int 0), (2, .int (-4)), (0, .ref (gK G 0 0)), (1, .int b_)] (by decide) rfl dX11_greatestKind_6 ?_
  have lp8 : ∀ (dd : Nat) (k_ : Nat) , k_ ≤ 7 → 7 - k_ < dd → Wm l G cX11_greatestKind 6 RX11 ((some .int)) (rmk 3 0 0) (fun _ => True) (QfM G (qI (fun r_ σ => r_ = kdI (gkS a_ b_ 7).1 ∧ σ = (A, S, Z, B, T, V, J, Y, P))) 0 0) 8 [(0, .ref (gK G 0 0)), (1, .int b_), (2, .int (kdI (gkS a_ b_ k_).1)), (3, .int (nI ((gkS a_ b_ k_).2))), (4, .int (nI (k_ + 1)))] [] (A, S, Z, B, T, V, J, Y, P) 0 0 := by
    intro dd
    induction dd with
    | zero => intro k_  hk_ hdd; exact absurd hdd (Nat.not_lt_zero _)
    | succ dd ih8 =>
      intro k_  hk_ hdd8
      have hgk := gkS_le a_ b_ ho_ k_
      refine m_iload 4 rfl dX11_greatestKind_8 ?_
      refine m_bipush (8) dX11_greatestKind_10 rfl ?_
      refine m_icmpn_ge (k_ + 1) 8 50 (by omega) (by decide) dX11_greatestKind_12 (by decide) (fun c1_ => ?_) (fun c1_ => ?_)
      ·
        refine m_iload_n 2 rfl rfl dX11_greatestKind_50 ?_
        exact m_iret dX11_greatestKind_51 (Nat.le_refl _) (Nat.le_refl _) ((by obtain rfl : k_ = 7 := (by omega); exact ⟨rfl, rfl⟩))
      ·
        refine m_aload_n 0 rfl rfl dX11_greatestKind_15 ?_
        refine m_iload 4 rfl dX11_greatestKind_16 ?_
        refine m_callVi cv_X11_231 [.int (nI (k_ + 1))] [] (k_childrenOf l G a_ ho_ hR (nI (k_ + 1))) (by decide) (ce_0 G _ _ _ _ _ _ _ _ _ _) rfl rfl rfl ⟨Nat.le_of_ble_eq_true rfl, Nat.le_of_ble_eq_true rfl⟩ (Nat.le_of_ble_eq_true rfl) ⟨Nat.zero_le _, Nat.zero_le _⟩ dX11_greatestKind_18 (fun xx σ2 hq => ?_)
        obtain ⟨rfl, rfl⟩ := hq
        have hch8 : chK a_ (nI (k_ + 1)) ≤ 8 := Nat.le_trans (cntB_le _ _) ho_.2.1
        refine m_istore [(5, .int (nI (chK a_ (nI (k_ + 1))))), (0, .ref (gK G 0 0)), (1, .int b_), (2, .int (kdI (gkS a_ b_ k_).1)), (3, .int (nI ((gkS a_ b_ k_).2))), (4, .int (nI (k_ + 1)))] (by decide) rfl dX11_greatestKind_21 ?_
        refine m_iload 0 rfl dX11_greatestKind_23 ?_
        refine m_iload_n 4 rfl rfl dX11_greatestKind_25 ?_
        refine m_icmpn_le (chK a_ (nI (k_ + 1))) ((gkS a_ b_ k_).2) 44 (by omega) (by omega) dX11_greatestKind_26 (by decide) (fun c2_ => ?_) (fun c2_ => ?_)
        ·
          refine m_iinc (nI (k_ + 1 + 1)) 5 [(4, .int (nI (k_ + 1 + 1))), (5, .int (nI (chK a_ (nI (k_ + 1))))), (0, .ref (gK G 0 0)), (1, .int b_), (2, .int (kdI (gkS a_ b_ k_).1)), (3, .int (nI ((gkS a_ b_ k_).2)))] rfl (nI_1 _) (by decide) rfl dX11_greatestKind_44 ?_
          refine m_goto 8 dX11_greatestKind_47 (by decide) ?_
          refine m_lv [(0, .ref (gK G 0 0)), (1, .int b_), (2, .int (kdI (gkS a_ b_ k_).1)), (3, .int (nI ((gkS a_ b_ k_).2))), (4, .int (nI (k_ + 1 + 1)))] [2, 3, 4, 5, 0] rfl ?_
          have ihx := ih8 (k_ + 1)  (by omega) (by omega)
          rw [gkS_n (k := k_) (fun q_ => absurd q_.1 (Nat.not_lt.mpr c2_))] at ihx
          exact ihx
        ·
          have hlt := c2_
          refine m_iload_n 2 rfl rfl dX11_greatestKind_29 ?_
          refine m_iload 5 rfl dX11_greatestKind_30 ?_
          refine m_callSi cs_X11_331 [.int b_, .int (nI (k_ + 1))] [] (k_among l G b_ (nI (k_ + 1))) rfl rfl ⟨Nat.le_of_ble_eq_true rfl, Nat.le_of_ble_eq_true rfl⟩ (Nat.le_of_ble_eq_true rfl) ⟨Nat.zero_le _, Nat.zero_le _⟩ dX11_greatestKind_32 (fun xx σ2 hq => ?_)
          obtain ⟨rfl, rfl⟩ := hq
          refine m_ifne_b 44 dX11_greatestKind_35 (by decide) (fun c3_ => ?_) (fun c3_ => ?_)
          ·
            refine m_iinc (nI (k_ + 1 + 1)) 5 [(4, .int (nI (k_ + 1 + 1))), (5, .int (nI (chK a_ (nI (k_ + 1))))), (0, .ref (gK G 0 0)), (1, .int b_), (2, .int (kdI (gkS a_ b_ k_).1)), (3, .int (nI ((gkS a_ b_ k_).2)))] rfl (nI_1 _) (by decide) rfl dX11_greatestKind_44 ?_
            refine m_goto 8 dX11_greatestKind_47 (by decide) ?_
            refine m_lv [(0, .ref (gK G 0 0)), (1, .int b_), (2, .int (kdI (gkS a_ b_ k_).1)), (3, .int (nI ((gkS a_ b_ k_).2))), (4, .int (nI (k_ + 1 + 1)))] [2, 3, 4, 5, 0] rfl ?_
            have ihx := ih8 (k_ + 1)  (by omega) (by omega)
            rw [gkS_n (k := k_) (fun q_ => absurd q_.2 (by rw [c3_]; decide))] at ihx
            exact ihx
          ·
            have hno := c3_
            refine m_iload 0 rfl dX11_greatestKind_38 ?_
            refine m_istore_n [(3, .int (nI (chK a_ (nI (k_ + 1))))), (5, .int (nI (chK a_ (nI (k_ + 1))))), (0, .ref (gK G 0 0)), (1, .int b_), (2, .int (kdI (gkS a_ b_ k_).1)), (4, .int (nI (k_ + 1)))] rfl (by decide) rfl dX11_greatestKind_40 ?_
            refine m_iload 5 rfl dX11_greatestKind_41 ?_
            refine m_istore_n [(2, .int (nI (k_ + 1))), (3, .int (nI (chK a_ (nI (k_ + 1))))), (5, .int (nI (chK a_ (nI (k_ + 1))))), (0, .ref (gK G 0 0)), (1, .int b_), (4, .int (nI (k_ + 1)))] rfl (by decide) rfl dX11_greatestKind_43 ?_
            refine m_iinc (nI (k_ + 1 + 1)) 5 [(4, .int (nI (k_ + 1 + 1))), (2, .int (nI (k_ + 1))), (3, .int (nI (chK a_ (nI (k_ + 1))))), (5, .int (nI (chK a_ (nI (k_ + 1))))), (0, .ref (gK G 0 0)), (1, .int b_)] rfl (nI_1 _) (by decide) rfl dX11_greatestKind_44 ?_
            refine m_goto 8 dX11_greatestKind_47 (by decide) ?_
            refine m_lv [(0, .ref (gK G 0 0)), (1, .int b_), (2, .int (nI (k_ + 1))), (3, .int (nI (chK a_ (nI (k_ + 1))))), (4, .int (nI (k_ + 1 + 1)))] [4, 5, 1, 2, 0] rfl ?_
            have ihx := ih8 (k_ + 1)  (by omega) (by omega)
            rw [gkS_y (k := k_) hlt hno] at ihx
            exact ihx
  refine m_lv [(0, .ref (gK G 0 0)), (1, .int b_), (2, .int (-4)), (3, .int 0), (4, .int 1)] [3, 4, 2, 1, 0] rfl ?_
  exact lp8 ((7 - 0) + 1) 0  (Nat.zero_le _) (Nat.lt_succ_self _)
set_option maxRecDepth 100000 in
set_option maxHeartbeats 4000000 in
theorem k_isCopied (l : Launch) (G : owG) {A S Z B T V : owF} {J : Nat → Nat → Int64} {Y : Nat → Nat → Nat → Option Nat} {P : Nat → Option owW} (n_ : Nat) (X Q : Nat → Nat) (hs_ : shS S n_ X Q) (V0 : Nat → Int32) (hv_ : anS S 32 n_ V0) (V2 : Nat → Int32) (hv2 : anS S 33 n_ V2) (s_ : Nat) (hsn : s_ < n_) : Ct l G yX11_isCopied cX11_isCopied 3 ((some .boolean)) 1 0 0 [.ref (gK G 0 0), .int (nI (s_))] (A, S, Z, B, T, V, J, Y, P) (qI (fun r_ σ => r_ = bI (copB X Q V0 V2 s_) ∧ σ = (A, S, Z, B, T, V, J, Y, P))) := by
  refine ct_of (by decide +kernel) (Nat.le_of_ble_eq_true rfl) ?_
  have hn12 := hs_.2.1
  show Wm l G cX11_isCopied 3 RX11 ((some .boolean)) (rmk 1 0 0) (fun _ => True) (QfM G (qI (fun r_ σ => r_ = bI (copB X Q V0 V2 s_) ∧ σ = (A, S, Z, B, T, V, J, Y, P))) 0 0) 0 [(0, .ref (gK G 0 0)), (1, .int (nI (s_)))] [] (A, S, Z, B, T, V, J, Y, P) 0 0
  refine m_aload_n 0 rfl rfl dX11_isCopied_0 ?_
  refine gf_X11_42 dX11_isCopied_1 ?_
  refine m_iload_n 1 rfl rfl dX11_isCopied_4 ?_
  refine m_callSi cs_X11_102 [.ref (gK G 32 0), .int (nI (s_))] [] (k_at (t := 32) (n := 12) l G (by decide) (ce_32 G _ _ _ _ _ _ _ _ _ 0) (by decide) (nI (s_))) rfl rfl ⟨Nat.le_of_ble_eq_true rfl, Nat.le_of_ble_eq_true rfl⟩ (Nat.le_of_ble_eq_true rfl) ⟨Nat.zero_le _, Nat.zero_le _⟩ dX11_isCopied_5 (fun xx σ2 hq => ?_)
  obtain rfl : xx = S 32 0 s_ := hq.1.trans (atV_in (by omega) (by decide))
  obtain rfl := hq.2
  refine m_topi (hv_ s_ hsn) ?_
  refine m_istore_n [(2, .int (V0 s_)), (0, .ref (gK G 0 0)), (1, .int (nI (s_)))] rfl (by decide) rfl dX11_isCopied_8 ?_
  refine m_iload_n 0 rfl rfl dX11_isCopied_9 ?_
  refine m_aload_n 1 rfl rfl dX11_isCopied_10 ?_
  refine gf_X11_45 dX11_isCopied_11 ?_
  refine m_iload_n 2 rfl rfl dX11_isCopied_14 ?_
  refine m_callSi cs_X11_102 [.ref (gK G 33 0), .int (nI (s_))] [.int (V0 s_)] (k_at (t := 33) (n := 12) l G (by decide) (ce_33 G _ _ _ _ _ _ _ _ _ 0) (by decide) (nI (s_))) rfl rfl ⟨Nat.le_of_ble_eq_true rfl, Nat.le_of_ble_eq_true rfl⟩ (Nat.le_of_ble_eq_true rfl) ⟨Nat.zero_le _, Nat.zero_le _⟩ dX11_isCopied_15 (fun xx σ2 hq => ?_)
  obtain rfl : xx = S 33 0 s_ := hq.1.trans (atV_in (by omega) (by decide))
  obtain rfl := hq.2
  refine m_topi (hv2 s_ hsn) ?_
  refine m_icmp_ne 51 dX11_isCopied_18 (by decide) (fun c3_ => ?_) (fun c3_ => ?_)
  ·
    refine m_iconst 0 dX11_isCopied_51 rfl ?_
    exact m_zret dX11_isCopied_52 (Nat.le_refl _) (Nat.le_refl _) nar0 (⟨by grind [copB, bI], rfl⟩)
  ·
    refine m_iload_n 0 rfl rfl dX11_isCopied_21 ?_
    refine m_iconst (-1) dX11_isCopied_22 rfl ?_
    refine m_icmp_eq 51 dX11_isCopied_23 (by decide) (fun c4_ => ?_) (fun c4_ => ?_)
    ·
      refine m_iconst 0 dX11_isCopied_51 rfl ?_
      exact m_zret dX11_isCopied_52 (Nat.le_refl _) (Nat.le_refl _) nar0 (⟨by grind [copB, bI], rfl⟩)
    ·
      refine m_iload_n 0 rfl rfl dX11_isCopied_26 ?_
      refine m_aload_n 1 rfl rfl dX11_isCopied_27 ?_
      refine gf_X11_35 dX11_isCopied_28 ?_
      refine m_iload_n 2 rfl rfl dX11_isCopied_31 ?_
      refine m_callSi cs_X11_102 [.ref (gK G 30 0), .int (nI (s_))] [.int (V0 s_)] (k_at (t := 30) (n := 12) l G (by decide) (ce_30 G _ _ _ _ _ _ _ _ _ 0) (by decide) (nI (s_))) rfl rfl ⟨Nat.le_of_ble_eq_true rfl, Nat.le_of_ble_eq_true rfl⟩ (Nat.le_of_ble_eq_true rfl) ⟨Nat.zero_le _, Nat.zero_le _⟩ dX11_isCopied_32 (fun xx σ2 hq => ?_)
      obtain rfl : xx = S 30 0 s_ := hq.1.trans (atV_in (by omega) (by decide))
      obtain rfl := hq.2
      refine m_topi (hs_.2.2 s_ hsn).1 ?_
      refine m_aload_n 1 rfl rfl dX11_isCopied_35 ?_
      refine gf_X11_39 dX11_isCopied_36 ?_
      refine m_iload_n 2 rfl rfl dX11_isCopied_39 ?_
      refine m_callSi cs_X11_102 [.ref (gK G 31 0), .int (nI (s_))] [.int (nI (X s_)), .int (V0 s_)] (k_at (t := 31) (n := 12) l G (by decide) (ce_31 G _ _ _ _ _ _ _ _ _ 0) (by decide) (nI (s_))) rfl rfl ⟨Nat.le_of_ble_eq_true rfl, Nat.le_of_ble_eq_true rfl⟩ (Nat.le_of_ble_eq_true rfl) ⟨Nat.zero_le _, Nat.zero_le _⟩ dX11_isCopied_40 (fun xx σ2 hq => ?_)
      obtain rfl : xx = S 31 0 s_ := hq.1.trans (atV_in (by omega) (by decide))
      obtain rfl := hq.2
      refine m_topi (hs_.2.2 s_ hsn).2.1 ?_
      refine m_isub dX11_isCopied_43 ?_
      refine m_icmp_eq 51 dX11_isCopied_44 (by decide) (fun c7_ => ?_) (fun c7_ => ?_)
      ·
        refine m_iconst 0 dX11_isCopied_51 rfl ?_
        exact m_zret dX11_isCopied_52 (Nat.le_refl _) (Nat.le_refl _) nar0 (⟨by grind [copB, bI], rfl⟩)
      ·
        refine m_iconst 1 dX11_isCopied_47 rfl ?_
        refine m_goto 52 dX11_isCopied_48 (by decide) ?_
        exact m_zret dX11_isCopied_52 (Nat.le_refl _) (Nat.le_refl _) nar1 (⟨by grind [copB, bI], rfl⟩)
set_option maxRecDepth 100000 in
set_option maxHeartbeats 4000000 in
theorem k_noWay (l : Launch) (G : owG) {A S Z B T V : owF} {J : Nat → Nat → Int64} {Y : Nat → Nat → Nat → Option Nat} {P : Nat → Option owW} (a_ : owK) (ho_ : aOk a_) (hR : RX A Y P 0 a_) (n_ : Nat) (X Q : Nat → Nat) (hs_ : shS S n_ X Q) (V0 : Nat → Int32) (hv_ : anS S 32 n_ V0) (s_ : Nat) (hsn : s_ < n_) : Ct l G yX11_comesByNoWay cX11_comesByNoWay 2 ((some .boolean)) 7 0 0 [.ref (gK G 0 0), .int (nI (s_))] (A, S, Z, B, T, V, J, Y, P) (qI (fun r_ σ => r_ = bI (decide (whoA a_ (X s_) (Q s_) (V0 s_) = 0)) ∧ ∃ Z2 : owF, σ = (A, S, Z2, B, T, V, J, Y, P))) := by
  refine ct_of (by decide +kernel) (Nat.le_of_ble_eq_true rfl) ?_
  have h10 := ho_.1
  have h8_ := ho_.2.1
  have hn12 := hs_.2.1
  have hy_ := (hs_.2.2 s_ hsn).2.2.1
  have hx_ := (hs_.2.2 s_ hsn).2.2.2
  show Wm l G cX11_comesByNoWay 2 RX11 ((some .boolean)) (rmk 7 0 0) (fun _ => True) (QfM G (qI (fun r_ σ => r_ = bI (decide (whoA a_ (X s_) (Q s_) (V0 s_) = 0)) ∧ ∃ Z2 : owF, σ = (A, S, Z2, B, T, V, J, Y, P))) 0 0) 0 [(0, .ref (gK G 0 0)), (1, .int (nI (s_)))] [] (A, S, Z, B, T, V, J, Y, P) 0 0
  refine m_aload_n 0 rfl rfl dX11_comesByNoWay_0 ?_
  refine m_aload_n 0 rfl rfl dX11_comesByNoWay_1 ?_
  refine gf_X11_35 dX11_comesByNoWay_2 ?_
  refine m_iload_n 1 rfl rfl dX11_comesByNoWay_5 ?_
  refine m_callSi cs_X11_102 [.ref (gK G 30 0), .int (nI (s_))] [.ref (gK G 0 0)] (k_at (t := 30) (n := 12) l G (by decide) (ce_30 G _ _ _ _ _ _ _ _ _ 0) (by decide) (nI (s_))) rfl rfl ⟨Nat.le_of_ble_eq_true rfl, Nat.le_of_ble_eq_true rfl⟩ (Nat.le_of_ble_eq_true rfl) ⟨Nat.zero_le _, Nat.zero_le _⟩ dX11_comesByNoWay_6 (fun xx σ2 hq => ?_)
  obtain rfl : xx = S 30 0 s_ := hq.1.trans (atV_in (by omega) (by decide))
  obtain rfl := hq.2
  refine m_topi (hs_.2.2 s_ hsn).1 ?_
  refine m_aload_n 0 rfl rfl dX11_comesByNoWay_9 ?_
  refine gf_X11_39 dX11_comesByNoWay_10 ?_
  refine m_iload_n 1 rfl rfl dX11_comesByNoWay_13 ?_
  refine m_callSi cs_X11_102 [.ref (gK G 31 0), .int (nI (s_))] [.int (nI (X s_)), .ref (gK G 0 0)] (k_at (t := 31) (n := 12) l G (by decide) (ce_31 G _ _ _ _ _ _ _ _ _ 0) (by decide) (nI (s_))) rfl rfl ⟨Nat.le_of_ble_eq_true rfl, Nat.le_of_ble_eq_true rfl⟩ (Nat.le_of_ble_eq_true rfl) ⟨Nat.zero_le _, Nat.zero_le _⟩ dX11_comesByNoWay_14 (fun xx σ2 hq => ?_)
  obtain rfl : xx = S 31 0 s_ := hq.1.trans (atV_in (by omega) (by decide))
  obtain rfl := hq.2
  refine m_topi (hs_.2.2 s_ hsn).2.1 ?_
  refine m_aload_n 0 rfl rfl dX11_comesByNoWay_17 ?_
  refine gf_X11_42 dX11_comesByNoWay_18 ?_
  refine m_iload_n 1 rfl rfl dX11_comesByNoWay_21 ?_
  refine m_callSi cs_X11_102 [.ref (gK G 32 0), .int (nI (s_))] [.int (nI (Q s_)), .int (nI (X s_)), .ref (gK G 0 0)] (k_at (t := 32) (n := 12) l G (by decide) (ce_32 G _ _ _ _ _ _ _ _ _ 0) (by decide) (nI (s_))) rfl rfl ⟨Nat.le_of_ble_eq_true rfl, Nat.le_of_ble_eq_true rfl⟩ (Nat.le_of_ble_eq_true rfl) ⟨Nat.zero_le _, Nat.zero_le _⟩ dX11_comesByNoWay_22 (fun xx σ2 hq => ?_)
  obtain rfl : xx = S 32 0 s_ := hq.1.trans (atV_in (by omega) (by decide))
  obtain rfl := hq.2
  refine m_topi (hv_ s_ hsn) ?_
  refine m_callVi cv_X11_140 [.int (nI (X s_)), .int (nI (Q s_)), .int (V0 s_)] [] (k_waysAnswering l G a_ ho_ hR (X s_) (Q s_) hx_ hy_ (V0 s_)) (by decide) (ce_0 G _ _ _ _ _ _ _ _ _ _) rfl rfl rfl ⟨Nat.le_of_ble_eq_true rfl, Nat.le_of_ble_eq_true rfl⟩ (Nat.le_of_ble_eq_true rfl) ⟨Nat.zero_le _, Nat.zero_le _⟩ dX11_comesByNoWay_25 (fun xx σ2 hq => ?_)
  obtain ⟨rfl, Z4, rfl⟩ := hq
  refine m_if_ne 35 dX11_comesByNoWay_28 (by decide) (fun c5_ => ?_) (fun c5_ => ?_)
  ·
    refine m_iconst 0 dX11_comesByNoWay_35 rfl ?_
    exact m_zret dX11_comesByNoWay_36 (Nat.le_refl _) (Nat.le_refl _) nar0 (⟨by grind [bI], _, rfl⟩)
  ·
    refine m_iconst 1 dX11_comesByNoWay_31 rfl ?_
    refine m_goto 36 dX11_comesByNoWay_32 (by decide) ?_
    exact m_zret dX11_comesByNoWay_36 (Nat.le_refl _) (Nat.le_refl _) nar1 (⟨by grind [bI], _, rfl⟩)
set_option maxRecDepth 100000 in
set_option maxHeartbeats 4000000 in
theorem k_week (l : Launch) (G : owG) {A S Z B T V : owF} {J : Nat → Nat → Int64} {Y : Nat → Nat → Nat → Option Nat} {P : Nat → Option owW} (a_ : owK) (ho_ : aOk a_) (hR : RX A Y P 0 a_) (p_ wq sd : Int32) (f_ : Nat → Nat) (hf : ∀ j_, j_ < aC a_ → f_ j_ < aN a_) (hsd0 : S 0 0 14 = sd) (hin0 : ∀ j_, j_ < aC a_ → S 35 0 j_ = nI (f_ j_)) : Ct l G yX11_weekInMind cX11_weekInMind 5 ((none : Option Jvm.ClassFile.FieldType)) 3 0 0 [.ref (gK G 0 0), .int p_, .int wq] (A, S, Z, B, T, V, J, Y, P) (qV (fun σ => ∃ S2 : owF, σ = (A, S2, Z, B, T, V, J, Y, P) ∧ S2 0 0 14 = (wkS a_ p_ wq sd f_ (aC a_)).1 ∧ ∀ j_, j_ < aC a_ → S2 35 0 j_ = nI ((wkS a_ p_ wq sd f_ (aC a_)).2 j_))) := by
  refine ct_of (by decide +kernel) (Nat.le_of_ble_eq_true rfl) ?_
  have h10 := ho_.1
  have h8_ := ho_.2.1
  show Wm l G cX11_weekInMind 5 RX11 ((none : Option Jvm.ClassFile.FieldType)) (rmk 3 0 0) (fun _ => True) (QfM G (qV (fun σ => ∃ S2 : owF, σ = (A, S2, Z, B, T, V, J, Y, P) ∧ S2 0 0 14 = (wkS a_ p_ wq sd f_ (aC a_)).1 ∧ ∀ j_, j_ < aC a_ → S2 35 0 j_ = nI ((wkS a_ p_ wq sd f_ (aC a_)).2 j_))) 0 0) 0 [(0, .ref (gK G 0 0)), (1, .int p_), (2, .int wq)] [] (A, S, Z, B, T, V, J, Y, P) 0 0
  refine m_iconst 0 dX11_weekInMind_0 rfl ?_
  refine m_istore_n [(3, .int 0), (0, .ref (gK G 0 0)), (1, .int p_), (2, .int wq)] rfl (by decide) rfl dX11_weekInMind_1 ?_
  have lp2 : ∀ (dd : Nat) (k_ : Nat) (S9 : owF), k_ ≤ aC a_ → S9 0 0 14 = (wkS a_ p_ wq sd f_ k_).1 → (∀ j_, j_ < aC a_ → S9 35 0 j_ = nI ((wkS a_ p_ wq sd f_ k_).2 j_)) → aC a_ - k_ < dd → Wm l G cX11_weekInMind 5 RX11 ((none : Option Jvm.ClassFile.FieldType)) (rmk 3 0 0) (fun _ => True) (QfM G (qV (fun σ => ∃ S2 : owF, σ = (A, S2, Z, B, T, V, J, Y, P) ∧ S2 0 0 14 = (wkS a_ p_ wq sd f_ (aC a_)).1 ∧ ∀ j_, j_ < aC a_ → S2 35 0 j_ = nI ((wkS a_ p_ wq sd f_ (aC a_)).2 j_))) 0 0) 2 [(0, .ref (gK G 0 0)), (1, .int p_), (2, .int wq), (3, .int (nI (k_)))] [] (A, S9, Z, B, T, V, J, Y, P) 0 0 := by
    intro dd
    induction dd with
    | zero => intro k_ S9 hk_ hsd hin hdd; exact absurd hdd (Nat.not_lt_zero _)
    | succ dd ih2 =>
      intro k_ S9 hk_ hsd hin hdd2
      refine m_iload_n 3 rfl rfl dX11_weekInMind_2 ?_
      refine m_aload_n 0 rfl rfl dX11_weekInMind_3 ?_
      refine gf_X11_10 dX11_weekInMind_4 ?_
      refine gf_X11_222 (by decide) dX11_weekInMind_7 ?_
      refine m_topi hR.2.1 ?_
      refine m_icmpn_ge k_ (aC a_) 87 (by omega) (by omega) dX11_weekInMind_10 (by decide) (fun c1_ => ?_) (fun c1_ => ?_)
      ·
        exact m_vret dX11_weekInMind_87 (Nat.le_refl _) (Nat.le_refl _) ((by obtain rfl : k_ = aC a_ := (by omega); exact ⟨S9, rfl, hsd, hin⟩))
      ·
        have hwk := wkS_lt (p := p_) (q := wq) (sd := sd) ho_ hf k_ (by omega) k_ (by omega)
        refine m_aload_n 0 rfl rfl dX11_weekInMind_13 ?_
        refine m_bipush (100) dX11_weekInMind_14 rfl ?_
        refine m_callVi cv_X11_213 [.int 100] [] (k_draw l G 100 (by decide)) (by decide) (ce_0 G _ _ _ _ _ _ _ _ _ _) rfl rfl rfl ⟨Nat.le_of_ble_eq_true rfl, Nat.le_of_ble_eq_true rfl⟩ (Nat.le_of_ble_eq_true rfl) ⟨Nat.zero_le _, Nat.zero_le _⟩ dX11_weekInMind_16 (fun xx σ2 hq => ?_)
        obtain ⟨rfl, rfl⟩ := hq
        obtain ⟨S2, hS2⟩ : ∃ q_ : owF, q_ = up3 S9 0 0 14 (nxt (S9 0 0 14)) := ⟨_, rfl⟩
        rw [← hS2]
        refine m_istore [(4, .int (drI (nxt (S9 0 0 14)) 100)), (0, .ref (gK G 0 0)), (1, .int p_), (2, .int wq), (3, .int (nI (k_)))] (by decide) rfl dX11_weekInMind_19 ?_
        refine m_iload 0 rfl dX11_weekInMind_21 ?_
        refine m_iload_n 2 rfl rfl dX11_weekInMind_23 ?_
        refine m_icmp_ge 54 dX11_weekInMind_24 (by decide) (fun c3_ => ?_) (fun c3_ => ?_)
        ·
          refine m_iload 0 rfl dX11_weekInMind_54 ?_
          refine m_iload_n 2 rfl rfl dX11_weekInMind_56 ?_
          refine m_iload_n 3 rfl rfl dX11_weekInMind_57 ?_
          refine m_iadd dX11_weekInMind_58 ?_
          refine m_icmp_ge 81 dX11_weekInMind_59 (by decide) (fun c4_ => ?_) (fun c4_ => ?_)
          ·
            refine m_iinc (nI (k_ + 1)) 4 [(3, .int (nI (k_ + 1))), (4, .int (drI (nxt (S9 0 0 14)) 100)), (0, .ref (gK G 0 0)), (1, .int p_), (2, .int wq)] rfl (nI_1 _) (by decide) rfl dX11_weekInMind_81 ?_
            refine m_goto 2 dX11_weekInMind_84 (by decide) ?_
            refine m_lv [(0, .ref (gK G 0 0)), (1, .int p_), (2, .int wq), (3, .int (nI (k_ + 1)))] [2, 3, 4, 0] rfl ?_
            exact ih2 (k_ + 1) S2 (by omega) ((up3_e hS2).trans (congrArg nxt hsd)) (fun j_ hj => if qe : j_ = k_ then (by rw [qe]; show _ = nI (if k_ = k_ then _ else _); rw [if_pos rfl, if_neg (show ¬ drI (nxt (wkS a_ p_ wq sd f_ k_).1) 100 < p_ from by rw [← hsd]; exact Int32.not_lt.mpr c3_), if_neg (show ¬ drI (nxt (wkS a_ p_ wq sd f_ k_).1) 100 < p_ + wq from by rw [← hsd]; exact Int32.not_lt.mpr c4_)]; exact (up3_t hS2 (by decide) (hin k_ (by omega)))) else (by show _ = nI (if j_ = k_ then _ else _); rw [if_neg qe]; exact (up3_t hS2 (by decide) (hin j_ hj)))) (by omega)
          ·
            refine m_aload_n 1 rfl rfl dX11_weekInMind_62 ?_
            refine gf_X11_55 dX11_weekInMind_63 ?_
            refine m_iload_n 4 rfl rfl dX11_weekInMind_66 ?_
            refine m_aload_n 1 rfl rfl dX11_weekInMind_67 ?_
            refine gf_X11_10 dX11_weekInMind_68 ?_
            refine gf_X11_109 (by decide) dX11_weekInMind_71 ?_
            refine m_iload_n 4 rfl rfl dX11_weekInMind_74 ?_
            refine m_callSi cs_X11_102 [.ref (gK G 11 0), .int (nI (k_))] [.int (nI (k_)), .ref (gK G 35 0)] (k_at (t := 11) (n := 8) l G (by decide) (ce_11 G _ _ _ _ _ _ _ _ _ 0) (by decide) (nI (k_))) rfl rfl ⟨Nat.le_of_ble_eq_true rfl, Nat.le_of_ble_eq_true rfl⟩ (Nat.le_of_ble_eq_true rfl) ⟨Nat.zero_le _, Nat.zero_le _⟩ dX11_weekInMind_75 (fun xx σ2 hq => ?_)
            obtain rfl : xx = A 11 0 k_ := hq.1.trans (atV_in (by omega) (by decide))
            obtain rfl := hq.2
            refine m_topi (hR.2.2.2.1 k_ (by omega)).2.2 ?_
            refine m_callSv cs_X11_116 [.ref (gK G 35 0), .int (nI (k_)), .int (nI (aI a_ k_))] [] (k_set_35 l G k_ (by omega) (nI (aI a_ k_))) rfl rfl ⟨Nat.le_of_ble_eq_true rfl, Nat.le_of_ble_eq_true rfl⟩ (Nat.le_of_ble_eq_true rfl) ⟨Nat.zero_le _, Nat.zero_le _⟩ dX11_weekInMind_78 (fun σ2 hq => ?_)
            obtain rfl := hq
            obtain ⟨S6, hS6⟩ : ∃ q_ : owF, q_ = up3 S2 35 0 k_ (nI (aI a_ k_)) := ⟨_, rfl⟩
            rw [← hS6]
            refine m_iinc (nI (k_ + 1)) 4 [(3, .int (nI (k_ + 1))), (4, .int (drI (nxt (S9 0 0 14)) 100)), (0, .ref (gK G 0 0)), (1, .int p_), (2, .int wq)] rfl (nI_1 _) (by decide) rfl dX11_weekInMind_81 ?_
            refine m_goto 2 dX11_weekInMind_84 (by decide) ?_
            refine m_lv [(0, .ref (gK G 0 0)), (1, .int p_), (2, .int wq), (3, .int (nI (k_ + 1)))] [2, 3, 4, 0] rfl ?_
            exact ih2 (k_ + 1) S6 (by omega) (up3_t hS6 (by decide) ((up3_e hS2).trans (congrArg nxt hsd))) (fun j_ hj => if qe : j_ = k_ then (by rw [qe]; show _ = nI (if k_ = k_ then _ else _); rw [if_pos rfl, if_neg (show ¬ drI (nxt (wkS a_ p_ wq sd f_ k_).1) 100 < p_ from by rw [← hsd]; exact Int32.not_lt.mpr c3_), if_pos (show drI (nxt (wkS a_ p_ wq sd f_ k_).1) 100 < p_ + wq from by rw [← hsd]; exact Int32.not_le.mp c4_)]; exact up3_e hS6) else (by show _ = nI (if j_ = k_ then _ else _); rw [if_neg qe]; exact up3_j hS6 qe (up3_t hS2 (by decide) (hin j_ hj)))) (by omega)
        ·
          have hwk := wkS_lt (p := p_) (q := wq) (sd := sd) ho_ hf k_ (by omega) k_ (by omega)
          refine m_aload_n 1 rfl rfl dX11_weekInMind_27 ?_
          refine gf_X11_55 dX11_weekInMind_28 ?_
          refine m_iload_n 4 rfl rfl dX11_weekInMind_31 ?_
          refine m_aload_n 1 rfl rfl dX11_weekInMind_32 ?_
          refine gf_X11_10 dX11_weekInMind_33 ?_
          refine m_iconst 0 dX11_weekInMind_36 rfl ?_
          refine m_aload_n 1 rfl rfl dX11_weekInMind_37 ?_
          refine gf_X11_55 dX11_weekInMind_38 ?_
          refine m_iload_n 4 rfl rfl dX11_weekInMind_41 ?_
          refine m_callSi cs_X11_102 [.ref (gK G 35 0), .int (nI (k_))] [.int 0, .ref (gK G 1 0), .int (nI (k_)), .ref (gK G 35 0)] (k_at (t := 35) (n := 8) l G (by decide) (ce_35 G _ _ _ _ _ _ _ _ _ 0) (by decide) (nI (k_))) rfl rfl ⟨Nat.le_of_ble_eq_true rfl, Nat.le_of_ble_eq_true rfl⟩ (Nat.le_of_ble_eq_true rfl) ⟨Nat.zero_le _, Nat.zero_le _⟩ dX11_weekInMind_42 (fun xx σ2 hq => ?_)
          obtain rfl : xx = S2 35 0 k_ := hq.1.trans (atV_in (by omega) (by decide))
          obtain rfl := hq.2
          refine m_topi (up3_t hS2 (by decide) (hin k_ (by omega))) ?_
          refine m_callVi cv_X11_112 [.int 0, .int (nI ((wkS a_ p_ wq sd f_ k_).2 k_))] [.int (nI (k_)), .ref (gK G 35 0)] (k_toldBy l G 0 (by decide) a_ ho_ hR 0 (nI ((wkS a_ p_ wq sd f_ k_).2 k_))) (by decide) (ce_1 G _ _ _ _ _ _ _ _ _ _) rfl rfl rfl ⟨Nat.le_of_ble_eq_true rfl, Nat.le_of_ble_eq_true rfl⟩ (Nat.le_of_ble_eq_true rfl) ⟨Nat.zero_le _, Nat.zero_le _⟩ dX11_weekInMind_45 (fun xx σ2 hq => ?_)
          obtain ⟨hgx, rfl⟩ := hq
          obtain rfl := hgx.trans (toldI_nat (k := 0) ho_ (by omega) (by omega))
          refine m_callSv cs_X11_116 [.ref (gK G 35 0), .int (nI (k_)), .int (nI (tdW a_ 0 ((wkS a_ p_ wq sd f_ k_).2 k_)))] [] (k_set_35 l G k_ (by omega) (nI (tdW a_ 0 ((wkS a_ p_ wq sd f_ k_).2 k_)))) rfl rfl ⟨Nat.le_of_ble_eq_true rfl, Nat.le_of_ble_eq_true rfl⟩ (Nat.le_of_ble_eq_true rfl) ⟨Nat.zero_le _, Nat.zero_le _⟩ dX11_weekInMind_48 (fun σ2 hq => ?_)
          obtain rfl := hq
          obtain ⟨S8, hS8⟩ : ∃ q_ : owF, q_ = up3 S2 35 0 k_ (nI (tdW a_ 0 ((wkS a_ p_ wq sd f_ k_).2 k_))) := ⟨_, rfl⟩
          rw [← hS8]
          refine m_goto 81 dX11_weekInMind_51 (by decide) ?_
          refine m_iinc (nI (k_ + 1)) 4 [(3, .int (nI (k_ + 1))), (4, .int (drI (nxt (S9 0 0 14)) 100)), (0, .ref (gK G 0 0)), (1, .int p_), (2, .int wq)] rfl (nI_1 _) (by decide) rfl dX11_weekInMind_81 ?_
          refine m_goto 2 dX11_weekInMind_84 (by decide) ?_
          refine m_lv [(0, .ref (gK G 0 0)), (1, .int p_), (2, .int wq), (3, .int (nI (k_ + 1)))] [2, 3, 4, 0] rfl ?_
          exact ih2 (k_ + 1) S8 (by omega) (up3_t hS8 (by decide) ((up3_e hS2).trans (congrArg nxt hsd))) (fun j_ hj => if qe : j_ = k_ then (by rw [qe]; show _ = nI (if k_ = k_ then _ else _); rw [if_pos rfl, if_pos (show drI (nxt (wkS a_ p_ wq sd f_ k_).1) 100 < p_ from by rw [← hsd]; exact Int32.not_le.mp c3_)]; exact up3_e hS8) else (by show _ = nI (if j_ = k_ then _ else _); rw [if_neg qe]; exact up3_j hS8 qe (up3_t hS2 (by decide) (hin j_ hj)))) (by omega)
  refine m_lv [(0, .ref (gK G 0 0)), (1, .int p_), (2, .int wq), (3, .int 0)] [1, 2, 3, 0] rfl ?_
  exact lp2 ((aC a_ - 0) + 1) 0 S (Nat.zero_le _) hsd0 hin0 (Nat.lt_succ_self _)
