theorem feS_lt (g : Nat → Bool) {n : Nat} : (feS g (2 ^ n)).1 < 2 ^ n := by
  obtain ⟨m, e⟩ : ∃ m, 2 ^ n = m + 1 := ⟨2 ^ n - 1, by have := Nat.two_pow_pos n; omega⟩
  rw [e]
  have h := (feS_le g m).2
  show (if _ then _ else _ : Nat × Nat).1 < m + 1
  split
  · exact Nat.lt_succ_self m
  · omega
def apN (a : owK) (h : owH) (d b : Int32) : Nat := (feS (paB (ptP a (rX h d) (rQ h d) b) (ptA a (rX h d) (rQ h d) b (rN h d))) (2 ^ rN h d)).1
def apartI (a : owK) (h : owH) (d b w : Int32) : Int32 := if areW a b = true ∧ is01 w = true then (if shRefI h d = 0 then (if 10 < rN h d then -13 else (if w = 0 then nI (bcN (apN a h d b)) else nI (apN a h d b))) else shRefI h d) else -1
set_option maxRecDepth 100000 in
set_option maxHeartbeats 4000000 in
theorem k_apart (l : Launch) (G : owG) {A S Z B T V : owF} {J : Nat → Nat → Int64} {Y : Nat → Nat → Nat → Option Nat} {P : Nat → Option owW} (a_ : owK) (ho_ : aOk a_) (hR : RX A Y P 0 a_) (h_ : owH) (hRS : allRS A Y P h_) (x_ b_ p_ : Int32) : Ct l G yX11_apart cX11_apart 6 ((some .int)) 7 0 0 [.ref (gK G 0 0), .int x_, .int b_, .int p_] (A, S, Z, B, T, V, J, Y, P) (qI (fun r_ σ => r_ = apartI a_ h_ x_ b_ p_ ∧ ∃ (S2 Z2 : owF) (J2 : Nat → Nat → Int64), σ = (A, S2, Z2, B, T, V, J2, Y, P))) := by
  refine ct_of (by decide +kernel) (Nat.le_of_ble_eq_true rfl) ?_
  have h10 := ho_.1
  have h8_ := ho_.2.1
  show Wm l G cX11_apart 6 RX11 ((some .int)) (rmk 7 0 0) (fun _ => True) (QfM G (qI (fun r_ σ => r_ = apartI a_ h_ x_ b_ p_ ∧ ∃ (S2 Z2 : owF) (J2 : Nat → Nat → Int64), σ = (A, S2, Z2, B, T, V, J2, Y, P))) 0 0) 0 [(0, .ref (gK G 0 0)), (1, .int x_), (2, .int b_), (3, .int p_)] [] (A, S, Z, B, T, V, J, Y, P) 0 0
  refine m_aload_n 0 rfl rfl dX11_apart_0 ?_
  refine gf_X11_10 dX11_apart_1 ?_
  refine m_iload_n 2 rfl rfl dX11_apart_4 ?_
  refine m_callVi cv_X11_143 [.int b_] [] (k_hasWays l G 0 (by decide) a_ ho_ hR b_) (by decide) (ce_1 G _ _ _ _ _ _ _ _ _ _) rfl rfl rfl ⟨Nat.le_of_ble_eq_true rfl, Nat.le_of_ble_eq_true rfl⟩ (Nat.le_of_ble_eq_true rfl) ⟨Nat.zero_le _, Nat.zero_le _⟩ dX11_apart_5 (fun xx σ2 hq => ?_)
  obtain ⟨rfl, rfl⟩ := hq
  refine m_ifeq_b 18 dX11_apart_8 (by decide) (fun c1_ => ?_) (fun c1_ => ?_)
  ·
    refine m_iconst (-1) dX11_apart_18 rfl ?_
    exact m_iret dX11_apart_19 (Nat.le_refl _) (Nat.le_refl _) (⟨by first | (simp [apartI, c1_]; done) | (unfold apartI; rw [if_pos ⟨c1_, c1_⟩, if_pos hb0]; unfold rN; rw [isD_clamp hdq]; first | rw [if_pos (by omega)] | (rw [if_neg (by omega)]; first | rw [if_pos (by assumption)] | rw [if_neg (by assumption)])), _, _, _, rfl⟩)
  ·
    obtain ⟨mq, hmq, rfl⟩ := (areW_nat ho_).mp c1_
    have hm10 := pow10 ho_ hmq
    have hclmq : (nI mq).toNatClampNeg = mq := nI_clamp (by omega)
    refine m_iload_n 3 rfl rfl dX11_apart_11 ?_
    refine m_callSi cs_X11_131 [.int p_] [] (k_is01 l G p_) rfl rfl ⟨Nat.le_of_ble_eq_true rfl, Nat.le_of_ble_eq_true rfl⟩ (Nat.le_of_ble_eq_true rfl) ⟨Nat.zero_le _, Nat.zero_le _⟩ dX11_apart_12 (fun xx σ2 hq => ?_)
    obtain ⟨rfl, rfl⟩ := hq
    refine m_ifne_b 20 dX11_apart_15 (by decide) (fun c2_ => ?_) (fun c2_ => ?_)
    ·
      refine m_aload_n 0 rfl rfl dX11_apart_20 ?_
      refine m_iload_n 1 rfl rfl dX11_apart_21 ?_
      refine m_callVi cv_X11_176 [.int x_] [] (k_sheet l G h_ hRS x_) (by decide) (ce_0 G _ _ _ _ _ _ _ _ _ _) rfl rfl rfl ⟨Nat.le_of_ble_eq_true rfl, Nat.le_of_ble_eq_true rfl⟩ (Nat.le_of_ble_eq_true rfl) ⟨Nat.zero_le _, Nat.zero_le _⟩ dX11_apart_22 (fun xx σ2 hq => ?_)
      obtain ⟨rfl, S3, rfl, hsh⟩ := hq
      refine m_istore [(4, .int (shRefI h_ x_)), (0, .ref (gK G 0 0)), (1, .int x_), (2, .int (nI (mq))), (3, .int p_)] (by decide) rfl dX11_apart_25 ?_
      refine m_iload 0 rfl dX11_apart_27 ?_
      refine m_if_eq 35 dX11_apart_29 (by decide) (fun c4_ => ?_) (fun c4_ => ?_)
      ·
        have hb0 := c4_
        obtain ⟨dq, hdq, rfl, hk2, hs_⟩ := hsh hb0
        have hcldq : (nI dq).toNatClampNeg = dq := nI_clamp (by omega)
        have hn12 := hs_.2.1
        refine m_aload_n 1 rfl rfl dX11_apart_35 ?_
        refine gf_X11_179 dX11_apart_36 ?_
        refine m_topi hs_.1 ?_
        refine m_bipush (10) dX11_apart_39 rfl ?_
        refine m_icmpn_le (shN h_ dq) 10 47 (by omega) (by decide) dX11_apart_41 (by decide) (fun c5_ => ?_) (fun c5_ => ?_)
        ·
          have hn10 : shN h_ dq ≤ 10 := c5_
          refine m_aload_n 1 rfl rfl dX11_apart_47 ?_
          refine m_aload_n 1 rfl rfl dX11_apart_48 ?_
          refine m_iload_n 3 rfl rfl dX11_apart_49 ?_
          refine m_callVl cv_X11_182 [.int (nI (mq))] [.ref (gK G 0 0)] (k_partPairs l G a_ ho_ hR (shN h_ dq) (shX h_ dq) (shY h_ dq) hs_ (nI (mq))) (by decide) (ce_0 G _ _ _ _ _ _ _ _ _ _) rfl rfl rfl ⟨Nat.le_of_ble_eq_true rfl, Nat.le_of_ble_eq_true rfl⟩ (Nat.le_of_ble_eq_true rfl) ⟨Nat.zero_le _, Nat.zero_le _⟩ dX11_apart_50 (fun xx σ2 hq => ?_)
          obtain ⟨rfl, S6, Z7, J8, rfl, hsp, hjp⟩ := hq
          refine m_callVi cv_X11_186 [.long (orL (ptA a_ (shX h_ dq) (shY h_ dq) (nI (mq)) (shN h_ dq)) 45)] [] (k_fewest l G (shN h_ dq) hn10 hsp.1 (ptP a_ (shX h_ dq) (shY h_ dq) (nI mq)) (ptA a_ (shX h_ dq) (shY h_ dq) (nI mq) (shN h_ dq)) hjp) (by decide) (ce_0 G _ _ _ _ _ _ _ _ _ _) rfl rfl rfl ⟨Nat.le_of_ble_eq_true rfl, Nat.le_of_ble_eq_true rfl⟩ (Nat.le_of_ble_eq_true rfl) ⟨Nat.zero_le _, Nat.zero_le _⟩ dX11_apart_53 (fun xx σ2 hq => ?_)
          obtain ⟨rfl, rfl⟩ := hq
          refine m_topi (show nI (feS (paB (ptP a_ (shX h_ dq) (shY h_ dq) (nI mq)) (ptA a_ (shX h_ dq) (shY h_ dq) (nI mq) (shN h_ dq))) (2 ^ shN h_ dq)).1 = nI (apN a_ h_ (nI dq) (nI mq)) by unfold apN rX rQ rN; rw [isD_clamp hdq]) ?_
          have hap : apN a_ h_ (nI dq) (nI mq) < 1024 := by unfold apN rX rQ rN; rw [isD_clamp hdq]; exact Nat.lt_of_lt_of_le (feS_lt _) (Nat.le_trans (Nat.pow_le_pow_right (by decide) hn10) (by decide))
          refine m_istore [(5, .int (nI (apN a_ h_ (nI dq) (nI mq)))), (4, .int (shRefI h_ (nI dq))), (0, .ref (gK G 0 0)), (1, .int (nI (dq))), (2, .int (nI (mq))), (3, .int p_)] (by decide) rfl dX11_apart_56 ?_
          refine m_iload_n 5 rfl rfl dX11_apart_58 ?_
          refine m_if_ne 70 dX11_apart_59 (by decide) (fun c9_ => ?_) (fun c9_ => ?_)
          ·
            refine m_iload 0 rfl dX11_apart_70 ?_
            exact m_iret dX11_apart_72 (Nat.le_refl _) (Nat.le_refl _) (⟨by first | (simp [apartI, c1_, c2_, c4_, c5_, c9_, hclmq, hcldq, hb0, rN, rX, rQ, rV]; done) | (unfold apartI; rw [if_pos ⟨c1_, c2_⟩, if_pos hb0]; unfold rN; rw [isD_clamp hdq]; first | rw [if_pos (by omega)] | (rw [if_neg (by omega)]; first | rw [if_pos (by assumption)] | rw [if_neg (by assumption)])), _, _, _, rfl⟩)
          ·
            refine m_iload 0 rfl dX11_apart_62 ?_
            refine m_callSi cs_X11_190 [.int (nI (apN a_ h_ (nI dq) (nI mq)))] [] (k_bitI l G (apN a_ h_ (nI dq) (nI mq)) (by omega)) rfl rfl ⟨Nat.le_of_ble_eq_true rfl, Nat.le_of_ble_eq_true rfl⟩ (Nat.le_of_ble_eq_true rfl) ⟨Nat.zero_le _, Nat.zero_le _⟩ dX11_apart_64 (fun xx σ2 hq => ?_)
            obtain ⟨rfl, rfl⟩ := hq
            refine m_goto 72 dX11_apart_67 (by decide) ?_
            exact m_iret dX11_apart_72 (Nat.le_refl _) (Nat.le_refl _) (⟨by first | (simp [apartI, c1_, c2_, c4_, c5_, c9_, hclmq, hcldq, hb0, rN, rX, rQ, rV]; done) | (unfold apartI; rw [if_pos ⟨c1_, c2_⟩, if_pos hb0]; unfold rN; rw [isD_clamp hdq]; first | rw [if_pos (by omega)] | (rw [if_neg (by omega)]; first | rw [if_pos (by assumption)] | rw [if_neg (by assumption)])), _, _, _, rfl⟩)
        ·
          refine m_bipush (-13) dX11_apart_44 rfl ?_
          exact m_iret dX11_apart_46 (Nat.le_refl _) (Nat.le_refl _) (⟨by first | (simp [apartI, c1_, c2_, c4_, c5_, hclmq, hcldq, hb0, rN, rX, rQ, rV]; done) | (unfold apartI; rw [if_pos ⟨c1_, c2_⟩, if_pos hb0]; unfold rN; rw [isD_clamp hdq]; first | rw [if_pos (by omega)] | (rw [if_neg (by omega)]; first | rw [if_pos (by assumption)] | rw [if_neg (by assumption)])), _, _, _, rfl⟩)
      ·
        refine m_iload 0 rfl dX11_apart_32 ?_
        exact m_iret dX11_apart_34 (Nat.le_refl _) (Nat.le_refl _) (⟨by first | (simp [apartI, c1_, c2_, c4_, hclmq]; done) | (unfold apartI; rw [if_pos ⟨c1_, c2_⟩, if_pos hb0]; unfold rN; rw [isD_clamp hdq]; first | rw [if_pos (by omega)] | (rw [if_neg (by omega)]; first | rw [if_pos (by assumption)] | rw [if_neg (by assumption)])), _, _, _, rfl⟩)
    ·
      refine m_iconst (-1) dX11_apart_18 rfl ?_
      exact m_iret dX11_apart_19 (Nat.le_refl _) (Nat.le_refl _) (⟨by first | (simp [apartI, c1_, c2_, hclmq]; done) | (unfold apartI; rw [if_pos ⟨c1_, c2_⟩, if_pos hb0]; unfold rN; rw [isD_clamp hdq]; first | rw [if_pos (by omega)] | (rw [if_neg (by omega)]; first | rw [if_pos (by assumption)] | rw [if_neg (by assumption)])), _, _, _, rfl⟩)
