def neverI (a : owK) (h : owH) (d b : Int32) : Int32 := if areW a b = true then (if shRefI h d = 0 then nI (bcN b.toNatClampNeg) * (nI (bcN b.toNatClampNeg) - 1) / 2 - nI (cntB (ptA a (rX h d) (rQ h d) b (rN h d)) 45) else shRefI h d) else -1
theorem pow10 {a : owK} {m : Nat} (ho : aOk a) (h : m < 2 ^ aN a) : m < 1024 := Nat.lt_of_lt_of_le h (Nat.le_trans (Nat.pow_le_pow_right (by decide) ho.1) (by decide))
set_option maxRecDepth 100000 in
set_option maxHeartbeats 4000000 in
theorem k_never (l : Launch) (G : owG) {A S Z B T V : owF} {J : Nat → Nat → Int64} {Y : Nat → Nat → Nat → Option Nat} {P : Nat → Option owW} (a_ : owK) (ho_ : aOk a_) (hR : RX A Y P 0 a_) (h_ : owH) (hRS : allRS A Y P h_) (x_ b_ : Int32) : Ct l G yX11_never cX11_never 5 ((some .int)) 7 0 0 [.ref (gK G 0 0), .int x_, .int b_] (A, S, Z, B, T, V, J, Y, P) (qI (fun r_ σ => r_ = neverI a_ h_ x_ b_ ∧ ∃ (S2 Z2 : owF) (J2 : Nat → Nat → Int64), σ = (A, S2, Z2, B, T, V, J2, Y, P))) := by
  refine ct_of (by decide +kernel) (Nat.le_of_ble_eq_true rfl) ?_
  have h10 := ho_.1
  have h8_ := ho_.2.1
  show Wm l G cX11_never 5 RX11 ((some .int)) (rmk 7 0 0) (fun _ => True) (QfM G (qI (fun r_ σ => r_ = neverI a_ h_ x_ b_ ∧ ∃ (S2 Z2 : owF) (J2 : Nat → Nat → Int64), σ = (A, S2, Z2, B, T, V, J2, Y, P))) 0 0) 0 [(0, .ref (gK G 0 0)), (1, .int x_), (2, .int b_)] [] (A, S, Z, B, T, V, J, Y, P) 0 0
  refine m_aload_n 0 rfl rfl dX11_never_0 ?_
  refine gf_X11_10 dX11_never_1 ?_
  refine m_iload_n 2 rfl rfl dX11_never_4 ?_
  refine m_callVi cv_X11_143 [.int b_] [] (k_hasWays l G 0 (by decide) a_ ho_ hR b_) (by decide) (ce_1 G _ _ _ _ _ _ _ _ _ _) rfl rfl rfl ⟨Nat.le_of_ble_eq_true rfl, Nat.le_of_ble_eq_true rfl⟩ (Nat.le_of_ble_eq_true rfl) ⟨Nat.zero_le _, Nat.zero_le _⟩ dX11_never_5 (fun xx σ2 hq => ?_)
  obtain ⟨rfl, rfl⟩ := hq
  refine m_ifne_b 13 dX11_never_8 (by decide) (fun c1_ => ?_) (fun c1_ => ?_)
  ·
    obtain ⟨mq, hmq, rfl⟩ := (areW_nat ho_).mp c1_
    have hm10 := pow10 ho_ hmq
    have hclmq : (nI mq).toNatClampNeg = mq := nI_clamp (by omega)
    refine m_aload_n 0 rfl rfl dX11_never_13 ?_
    refine m_iload_n 1 rfl rfl dX11_never_14 ?_
    refine m_callVi cv_X11_176 [.int x_] [] (k_sheet l G h_ hRS x_) (by decide) (ce_0 G _ _ _ _ _ _ _ _ _ _) rfl rfl rfl ⟨Nat.le_of_ble_eq_true rfl, Nat.le_of_ble_eq_true rfl⟩ (Nat.le_of_ble_eq_true rfl) ⟨Nat.zero_le _, Nat.zero_le _⟩ dX11_never_15 (fun xx σ2 hq => ?_)
    obtain ⟨rfl, S2, rfl, hsh⟩ := hq
    refine m_istore_n [(3, .int (shRefI h_ x_)), (0, .ref (gK G 0 0)), (1, .int x_), (2, .int (nI (mq)))] rfl (by decide) rfl dX11_never_18 ?_
    refine m_iload_n 0 rfl rfl dX11_never_19 ?_
    refine m_if_eq 25 dX11_never_20 (by decide) (fun c3_ => ?_) (fun c3_ => ?_)
    ·
      have hb0 := c3_
      obtain ⟨dq, hdq, rfl, hk2, hs_⟩ := hsh hb0
      have hcldq : (nI dq).toNatClampNeg = dq := nI_clamp (by omega)
      refine m_iload_n 3 rfl rfl dX11_never_25 ?_
      refine m_callSi cs_X11_190 [.int (nI (mq))] [] (k_bitI l G mq (by omega)) rfl rfl ⟨Nat.le_of_ble_eq_true rfl, Nat.le_of_ble_eq_true rfl⟩ (Nat.le_of_ble_eq_true rfl) ⟨Nat.zero_le _, Nat.zero_le _⟩ dX11_never_26 (fun xx σ2 hq => ?_)
      obtain ⟨rfl, rfl⟩ := hq
      refine m_istore [(4, .int (nI (bcN mq))), (3, .int (shRefI h_ (nI dq))), (0, .ref (gK G 0 0)), (1, .int (nI (dq))), (2, .int (nI (mq)))] (by decide) rfl dX11_never_29 ?_
      refine m_iload 0 rfl dX11_never_31 ?_
      refine m_iload 0 rfl dX11_never_33 ?_
      refine m_iconst 1 dX11_never_35 rfl ?_
      refine m_isub dX11_never_36 ?_
      refine m_imul dX11_never_37 ?_
      refine m_topi (rfl) ?_
      refine m_iconst 2 dX11_never_38 rfl ?_
      refine m_idiv (by decide) dX11_never_39 ?_
      refine m_aload_n 2 rfl rfl dX11_never_40 ?_
      refine m_iload_n 4 rfl rfl dX11_never_41 ?_
      refine m_callVl cv_X11_182 [.int (nI (mq))] [.int (((nI (bcN mq)) * ((nI (bcN mq)) - 1)) / 2)] (k_partPairs l G a_ ho_ hR (shN h_ dq) (shX h_ dq) (shY h_ dq) hs_ (nI (mq))) (by decide) (ce_0 G _ _ _ _ _ _ _ _ _ _) rfl rfl rfl ⟨Nat.le_of_ble_eq_true rfl, Nat.le_of_ble_eq_true rfl⟩ (Nat.le_of_ble_eq_true rfl) ⟨Nat.zero_le _, Nat.zero_le _⟩ dX11_never_42 (fun xx σ2 hq => ?_)
      obtain ⟨rfl, S4, Z5, J6, rfl, hsp, hjp⟩ := hq
      refine m_topl (orL_nat (ptA a_ (shX h_ dq) (shY h_ dq) (nI (mq)) (shN h_ dq)) 45 (by decide)) ?_
      refine m_callSi cs_X11_195 [.long (lN (orN (ptA a_ (shX h_ dq) (shY h_ dq) (nI (mq)) (shN h_ dq)) 45))] [.int (((nI (bcN mq)) * ((nI (bcN mq)) - 1)) / 2)] (k_bitL l G (orN (ptA a_ (shX h_ dq) (shY h_ dq) (nI (mq)) (shN h_ dq)) 45) (orN_lt _ 45)) rfl rfl ⟨Nat.le_of_ble_eq_true rfl, Nat.le_of_ble_eq_true rfl⟩ (Nat.le_of_ble_eq_true rfl) ⟨Nat.zero_le _, Nat.zero_le _⟩ dX11_never_45 (fun xx σ2 hq => ?_)
      obtain ⟨rfl, rfl⟩ := hq
      refine m_topi (congrArg nI (psm_cnt (ptA a_ (shX h_ dq) (shY h_ dq) (nI (mq)) (shN h_ dq)))) ?_
      refine m_isub dX11_never_48 ?_
      exact m_iret dX11_never_49 (Nat.le_refl _) (Nat.le_refl _) (⟨by first | (simp [neverI, c1_, c3_, hclmq, hcldq, hb0, rN, rX, rQ, rV]; done) | (simp_all [neverI, rN, rX, rQ, rV]; done) | grind [neverI], _, _, _, rfl⟩)
    ·
      refine m_iload_n 0 rfl rfl dX11_never_23 ?_
      exact m_iret dX11_never_24 (Nat.le_refl _) (Nat.le_refl _) (⟨by first | (simp [neverI, c1_, c3_, hclmq]; done) | (simp_all [neverI, rN, rX, rQ, rV]; done) | grind [neverI], _, _, _, rfl⟩)
  ·
    refine m_iconst (-1) dX11_never_11 rfl ?_
    exact m_iret dX11_never_12 (Nat.le_refl _) (Nat.le_refl _) (⟨by first | (simp [neverI, c1_]; done) | (simp_all [neverI, rN, rX, rQ, rV]; done) | grind [neverI], _, _, _, rfl⟩)
