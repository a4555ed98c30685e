theorem ct_imp {l : Launch} {G : owG} {y : MethodName} {cc : ByteArray} {nL : Nat} {rt : Option FieldType} {lvl mc ms : Nat} {as : List Value} {σ : owSt} {Q Q2 : Option Value → owSt → Prop} (h : Ct l G y cc nL rt lvl mc ms as σ Q) (hq : ∀ r σ2, Q r σ2 → Q2 r σ2) : Ct l G y cc nL rt lvl mc ms as σ Q2 := by
  unfold Ct Met at h ⊢
  exact MetFree.mono h (fun _ _ q => q) (fun _ _ _ _ _ q => q) (fun _ _ _ _ _ q => ⟨⟨by obtain ⟨r, σ2, h1, h2, h3⟩ := q.1.1; exact ⟨r, σ2, h1, hq _ _ h2, h3⟩, q.1.2⟩, q.2⟩)
theorem sub_le {N : Nat} {i n : Int32} (hN : N ≤ 100) (hi : 0 ≤ i) (hn : 0 ≤ n) (h : n ≤ nI N - i) : ∃ iq nq : Nat, i = nI iq ∧ n = nI nq ∧ iq + nq ≤ N := by
  obtain ⟨iq, hiq, rfl⟩ := nI_of (Int32.not_lt.mpr hi)
  obtain ⟨nq, hnq, rfl⟩ := nI_of (Int32.not_lt.mpr hn)
  refine ⟨iq, nq, rfl, rfl, ?_⟩
  rw [Int32.le_iff_toInt_le, Int32.toInt_sub, nI_toInt hiq, nI_toInt hnq, nI_toInt (by omega)] at h
  unfold Int.bmod at h
  have e : ((2 ^ 32 : Nat) : Int) = 4294967296 := rfl
  rw [e] at h
  dsimp only at h
  split at h <;> omega
theorem places_of {h : owH} {d i n : Nat} (h100 : hN h d ≤ 100) (hs : i + n ≤ hN h d) : placesB h d (nI i) (nI n) = true := by
  unfold placesB
  rw [pk_sub (by omega)]
  exact decide_eq_true ⟨nI_pos' (by omega), nI_pos' (by omega), nI_le (by omega) (by omega), nI_le (by omega) (by omega)⟩
theorem MS.roww' {B : owF} {h : owH} {d so n : Nat} {f : Nat → Int32} {x : Nat × Nat × Nat} (q : MS B h d) (e : h d = (2, so, n, f, x)) : B 43 0 d = 2 ∧ B 44 0 d = nI so ∧ B 45 0 d = nI n ∧ ∀ j, j < 100 → B 46 0 (100 * d + j) = f j := by
  have f1 : hK h d = 2 := congrArg (fun q => q.1) e
  have f2 : hSo h d = so := congrArg (fun q => q.2.1) e
  have f3 : hN h d = n := congrArg (fun q => q.2.2.1) e
  have f4 : hE h d = f := congrArg (fun q => q.2.2.2.1) e
  unfold MS at q
  rw [f1, f2, f3, f4] at q
  have q2 := q.2.2.1 rfl
  exact ⟨q.2.1, q2.1, q2.2.2.1, q2.2.2.2.2⟩
set_option maxRecDepth 100000 in
set_option maxHeartbeats 4000000 in
theorem k_m_copy (l : Launch) (G : owG) {A S Z B T V : owF} {J : Nat → Nat → Int64} {Y : Nat → Nat → Nat → Option Nat} {P : Nat → Option owW} (a_ : owK) (ho_ : aOk a_) (im : Option owK) (h_ : owH) (hM : MR B a_ im h_) (x_ i_ z_ j_ n_ : Int32) : Ct l G yX12_copy cX12_copy 8 ((some .int)) 2 0 0 [.ref (gK G 4 0), .int x_, .int i_, .int z_, .int j_, .int n_] (A, S, Z, B, T, V, J, Y, P) (qI (fun r_ σ => r_ = cpI h_ x_ i_ z_ j_ n_ ∧ ∃ (B2 T2 V2 : owF), σ = (A, S, Z, B2, T2, V2, J, Y, P) ∧ MR B2 (a_) (im) (cpH h_ x_ i_ z_ j_ n_))) := by
  refine ct_of (by decide +kernel) (Nat.le_of_ble_eq_true rfl) ?_
  have h10 := ho_.1
  have h8_ := ho_.2.1
  have hX := hM.1
  show Wm l G cX12_copy 8 RX12 ((some .int)) (rmk 2 0 0) (fun _ => True) (QfM G (qI (fun r_ σ => r_ = cpI h_ x_ i_ z_ j_ n_ ∧ ∃ (B2 T2 V2 : owF), σ = (A, S, Z, B2, T2, V2, J, Y, P) ∧ MR B2 (a_) (im) (cpH h_ x_ i_ z_ j_ n_))) 0 0) 0 [(0, .ref (gK G 4 0)), (1, .int x_), (2, .int i_), (3, .int z_), (4, .int j_), (5, .int n_)] [] (A, S, Z, B, T, V, J, Y, P) 0 0
  refine m_iload_n 1 rfl rfl dX12_copy_0 ?_
  refine m_callSi cs_X12_101 [.int x_] [] (k_m_isShelf l G x_) rfl rfl ⟨Nat.le_of_ble_eq_true rfl, Nat.le_of_ble_eq_true rfl⟩ (Nat.le_of_ble_eq_true rfl) ⟨Nat.zero_le _, Nat.zero_le _⟩ dX12_copy_1 (fun xx σ2 hq => ?_)
  obtain ⟨rfl, rfl⟩ := hq
  refine m_ifeq_b 14 dX12_copy_4 (by decide) (fun c1_ => ?_) (fun c1_ => ?_)
  ·
    refine m_iconst (-1) dX12_copy_14 rfl ?_
    exact m_iret dX12_copy_15 (Nat.le_refl _) (Nat.le_refl _) (⟨by unfold cpI; rw [if_neg (fun q_ => absurd q_.1 (by rw [c1_]; decide))], _, _, _, rfl, by unfold cpH; rw [if_neg (by rw [(show cpB h_ x_ i_ z_ j_ n_ = false from by unfold cpB; rw [c1_]; rfl)]; decide)]; exact hM⟩)
  ·
    have hDdq := c1_
    obtain ⟨dq, hdq, rfl⟩ := isD_nat c1_
    have hcldq : (nI dq).toNatClampNeg = dq := nI_clamp (by omega)
    have hmsdq := hM.2.2.2 dq hdq
    have hk3dq := hmsdq.1
    refine m_iload_n 3 rfl rfl dX12_copy_7 ?_
    refine m_callSi cs_X12_101 [.int z_] [] (k_m_isShelf l G z_) rfl rfl ⟨Nat.le_of_ble_eq_true rfl, Nat.le_of_ble_eq_true rfl⟩ (Nat.le_of_ble_eq_true rfl) ⟨Nat.zero_le _, Nat.zero_le _⟩ dX12_copy_8 (fun xx σ2 hq => ?_)
    obtain ⟨rfl, rfl⟩ := hq
    refine m_ifne_b 16 dX12_copy_11 (by decide) (fun c2_ => ?_) (fun c2_ => ?_)
    ·
      have hDeq := c2_
      obtain ⟨eq, heq, rfl⟩ := isD_nat c2_
      have hcleq : (nI eq).toNatClampNeg = eq := nI_clamp (by omega)
      have hmseq := hM.2.2.2 eq heq
      have hk3eq := hmseq.1
      refine m_aload_n 0 rfl rfl dX12_copy_16 ?_
      refine gf_X12_19 dX12_copy_17 ?_
      refine m_iload_n 1 rfl rfl dX12_copy_20 ?_
      refine al_43 dq rfl (by omega) dX12_copy_21 ?_
      refine m_topi hmsdq.2.1 ?_
      refine m_ifn_eq (hK h_ dq) 34 (by omega) dX12_copy_22 (by decide) (fun c3_ => ?_) (fun c3_ => ?_)
      ·
        refine m_bipush (-11) dX12_copy_34 rfl ?_
        exact m_iret dX12_copy_36 (Nat.le_refl _) (Nat.le_refl _) (⟨by unfold cpI; rw [if_pos ⟨hDdq, hDeq⟩, hcldq, hcleq, if_pos (by omega)], _, _, _, rfl, by unfold cpH; rw [if_neg (by rw [(show cpB h_ (nI (dq)) i_ (nI (eq)) j_ n_ = false from by unfold cpB; rw [hcldq, hcleq, decide_eq_false (by omega), Bool.false_and, Bool.and_false, Bool.and_false])]; decide)]; exact hM⟩)
      ·
        refine m_aload_n 0 rfl rfl dX12_copy_25 ?_
        refine gf_X12_19 dX12_copy_26 ?_
        refine m_iload_n 3 rfl rfl dX12_copy_29 ?_
        refine al_43 eq rfl (by omega) dX12_copy_30 ?_
        refine m_topi hmseq.2.1 ?_
        refine m_ifn_ne (hK h_ eq) 37 (by omega) dX12_copy_31 (by decide) (fun c4_ => ?_) (fun c4_ => ?_)
        ·
          refine m_aload_n 0 rfl rfl dX12_copy_37 ?_
          refine gf_X12_19 dX12_copy_38 ?_
          refine m_iload_n 1 rfl rfl dX12_copy_41 ?_
          refine al_43 dq rfl (by omega) dX12_copy_42 ?_
          refine m_topi hmsdq.2.1 ?_
          refine m_iconst 2 dX12_copy_43 rfl ?_
          refine m_icmpn_ne (hK h_ dq) 2 72 (by omega) (by decide) dX12_copy_44 (by decide) (fun c5_ => ?_) (fun c5_ => ?_)
          ·
            refine m_bipush (-12) dX12_copy_72 rfl ?_
            exact m_iret dX12_copy_74 (Nat.le_refl _) (Nat.le_refl _) (⟨by unfold cpI; rw [if_pos ⟨hDdq, hDeq⟩, hcldq, hcleq, if_neg (by omega), if_neg (by omega)], _, _, _, rfl, by unfold cpH; rw [if_neg (by rw [(show cpB h_ (nI (dq)) i_ (nI (eq)) j_ n_ = false from by unfold cpB; rw [hcldq, hcleq, decide_eq_false (by omega), Bool.false_and, Bool.and_false, Bool.and_false])]; decide)]; exact hM⟩)
          ·
            have hm2 := hmsdq.2.2.1 c5_
            have hn100 := hm2.2.2.2.1
            have hk2 := c5_
            have hso1 := hm2.2.1
            refine m_aload_n 0 rfl rfl dX12_copy_47 ?_
            refine gf_X12_19 dX12_copy_48 ?_
            refine m_iload_n 3 rfl rfl dX12_copy_51 ?_
            refine al_43 eq rfl (by omega) dX12_copy_52 ?_
            refine m_topi hmseq.2.1 ?_
            refine m_iconst 2 dX12_copy_53 rfl ?_
            refine m_icmpn_ne (hK h_ eq) 2 72 (by omega) (by decide) dX12_copy_54 (by decide) (fun c6_ => ?_) (fun c6_ => ?_)
            ·
              refine m_bipush (-12) dX12_copy_72 rfl ?_
              exact m_iret dX12_copy_74 (Nat.le_refl _) (Nat.le_refl _) (⟨by unfold cpI; rw [if_pos ⟨hDdq, hDeq⟩, hcldq, hcleq, if_neg (by omega), if_neg (by omega)], _, _, _, rfl, by unfold cpH; rw [if_neg (by rw [(show cpB h_ (nI (dq)) i_ (nI (eq)) j_ n_ = false from by unfold cpB; rw [hcldq, hcleq, decide_eq_false (by omega), Bool.false_and, Bool.and_false, Bool.and_false])]; decide)]; exact hM⟩)
            ·
              have hme := hmseq.2.2.1 c6_
              have hne100 := hme.2.2.2.1
              have hke := c6_
              have hso2 := hme.2.1
              refine m_aload_n 0 rfl rfl dX12_copy_57 ?_
              refine gf_X12_22 dX12_copy_58 ?_
              refine m_iload_n 1 rfl rfl dX12_copy_61 ?_
              refine al_44 dq rfl (by omega) dX12_copy_62 ?_
              refine m_topi hm2.1 ?_
              refine m_aload_n 0 rfl rfl dX12_copy_63 ?_
              refine gf_X12_22 dX12_copy_64 ?_
              refine m_iload_n 3 rfl rfl dX12_copy_67 ?_
              refine al_44 eq rfl (by omega) dX12_copy_68 ?_
              refine m_topi hme.1 ?_
              refine m_icmpn_eq (hSo h_ dq) (hSo h_ eq) 75 (by omega) (by omega) dX12_copy_69 (by decide) (fun c7_ => ?_) (fun c7_ => ?_)
              ·
                have hss : hSo h_ dq = hSo h_ eq := c7_
                refine m_iload 5 rfl dX12_copy_75 ?_
                refine m_if_lt 116 dX12_copy_77 (by decide) (fun c8_ => ?_) (fun c8_ => ?_)
                ·
                  refine m_bipush (-13) dX12_copy_116 rfl ?_
                  exact m_iret dX12_copy_118 (Nat.le_refl _) (Nat.le_refl _) (⟨by unfold cpI; rw [if_pos ⟨hDdq, hDeq⟩, hcldq, hcleq, if_neg (by omega), if_pos ⟨hk2, hke, hss⟩, if_neg (fun q_ => absurd (of_decide_eq_true q_.1).2.1 (Int32.not_le.mpr c8_))], _, _, _, rfl, by unfold cpH; rw [if_neg (by rw [(show cpB h_ (nI (dq)) i_ (nI (eq)) j_ n_ = false from by unfold cpB; rw [hcldq, hcleq, hDdq, hDeq, decide_eq_true ⟨hk2, hke, hss⟩, Bool.true_and, Bool.true_and, Bool.true_and]; exact Bool.eq_false_iff.mpr (fun q0_ => by have q_ := Bool.and_eq_true_iff.mp q0_; exact absurd (of_decide_eq_true q_.1).2.1 (Int32.not_le.mpr c8_)))]; decide)]; exact hM⟩)
                ·
                  refine m_iload_n 2 rfl rfl dX12_copy_80 ?_
                  refine m_if_lt 116 dX12_copy_81 (by decide) (fun c9_ => ?_) (fun c9_ => ?_)
                  ·
                    refine m_bipush (-13) dX12_copy_116 rfl ?_
                    exact m_iret dX12_copy_118 (Nat.le_refl _) (Nat.le_refl _) (⟨by unfold cpI; rw [if_pos ⟨hDdq, hDeq⟩, hcldq, hcleq, if_neg (by omega), if_pos ⟨hk2, hke, hss⟩, if_neg (fun q_ => absurd (of_decide_eq_true q_.1).1 (Int32.not_le.mpr c9_))], _, _, _, rfl, by unfold cpH; rw [if_neg (by rw [(show cpB h_ (nI (dq)) i_ (nI (eq)) j_ n_ = false from by unfold cpB; rw [hcldq, hcleq, hDdq, hDeq, decide_eq_true ⟨hk2, hke, hss⟩, Bool.true_and, Bool.true_and, Bool.true_and]; exact Bool.eq_false_iff.mpr (fun q0_ => by have q_ := Bool.and_eq_true_iff.mp q0_; exact absurd (of_decide_eq_true q_.1).1 (Int32.not_le.mpr c9_)))]; decide)]; exact hM⟩)
                  ·
                    refine m_iload 4 rfl dX12_copy_84 ?_
                    refine m_if_lt 116 dX12_copy_86 (by decide) (fun c10_ => ?_) (fun c10_ => ?_)
                    ·
                      refine m_bipush (-13) dX12_copy_116 rfl ?_
                      exact m_iret dX12_copy_118 (Nat.le_refl _) (Nat.le_refl _) (⟨by unfold cpI; rw [if_pos ⟨hDdq, hDeq⟩, hcldq, hcleq, if_neg (by omega), if_pos ⟨hk2, hke, hss⟩, if_neg (fun q_ => absurd (of_decide_eq_true q_.2).1 (Int32.not_le.mpr c10_))], _, _, _, rfl, by unfold cpH; rw [if_neg (by rw [(show cpB h_ (nI (dq)) i_ (nI (eq)) j_ n_ = false from by unfold cpB; rw [hcldq, hcleq, hDdq, hDeq, decide_eq_true ⟨hk2, hke, hss⟩, Bool.true_and, Bool.true_and, Bool.true_and]; exact Bool.eq_false_iff.mpr (fun q0_ => by have q_ := Bool.and_eq_true_iff.mp q0_; exact absurd (of_decide_eq_true q_.2).1 (Int32.not_le.mpr c10_)))]; decide)]; exact hM⟩)
                    ·
                      refine m_iload 5 rfl dX12_copy_89 ?_
                      refine m_aload_n 0 rfl rfl dX12_copy_91 ?_
                      refine gf_X12_25 dX12_copy_92 ?_
                      refine m_iload_n 1 rfl rfl dX12_copy_95 ?_
                      refine al_45 dq rfl (by omega) dX12_copy_96 ?_
                      refine m_topi hm2.2.2.1 ?_
                      refine m_iload_n 2 rfl rfl dX12_copy_97 ?_
                      refine m_isub dX12_copy_98 ?_
                      refine m_icmp_gt 116 dX12_copy_99 (by decide) (fun c11_ => ?_) (fun c11_ => ?_)
                      ·
                        refine m_bipush (-13) dX12_copy_116 rfl ?_
                        exact m_iret dX12_copy_118 (Nat.le_refl _) (Nat.le_refl _) (⟨by unfold cpI; rw [if_pos ⟨hDdq, hDeq⟩, hcldq, hcleq, if_neg (by omega), if_pos ⟨hk2, hke, hss⟩, if_neg (fun q_ => absurd (of_decide_eq_true q_.1).2.2.2 (Int32.not_le.mpr c11_))], _, _, _, rfl, by unfold cpH; rw [if_neg (by rw [(show cpB h_ (nI (dq)) i_ (nI (eq)) j_ n_ = false from by unfold cpB; rw [hcldq, hcleq, hDdq, hDeq, decide_eq_true ⟨hk2, hke, hss⟩, Bool.true_and, Bool.true_and, Bool.true_and]; exact Bool.eq_false_iff.mpr (fun q0_ => by have q_ := Bool.and_eq_true_iff.mp q0_; exact absurd (of_decide_eq_true q_.1).2.2.2 (Int32.not_le.mpr c11_)))]; decide)]; exact hM⟩)
                      ·
                        refine m_iload 5 rfl dX12_copy_102 ?_
                        refine m_aload_n 0 rfl rfl dX12_copy_104 ?_
                        refine gf_X12_25 dX12_copy_105 ?_
                        refine m_iload_n 3 rfl rfl dX12_copy_108 ?_
                        refine al_45 eq rfl (by omega) dX12_copy_109 ?_
                        refine m_topi hme.2.2.1 ?_
                        refine m_iload 4 rfl dX12_copy_110 ?_
                        refine m_isub dX12_copy_112 ?_
                        refine m_icmp_le 119 dX12_copy_113 (by decide) (fun c12_ => ?_) (fun c12_ => ?_)
                        ·
                          obtain ⟨iq, nq, rfl, rfl, hin⟩ := sub_le hn100 (Int32.not_lt.mp c9_) (Int32.not_lt.mp c8_) (Int32.not_lt.mp c11_)
                          have hcliq : (nI iq).toNatClampNeg = iq := nI_clamp (by omega)
                          have hclnq : (nI nq).toNatClampNeg = nq := nI_clamp (by omega)
                          obtain ⟨jq, nq2, rfl, enq, hjn⟩ := sub_le hne100 (Int32.not_lt.mp c10_) (Int32.not_lt.mp c8_) c12_
                          have hcljq : (nI jq).toNatClampNeg = jq := nI_clamp (by omega)
                          have hnn : nq2 = nq := by have h3_ := congrArg (fun z_ : Int32 => z_.toNatClampNeg) enq; simp only [hclnq] at h3_; rw [nI_clamp (by omega)] at h3_; exact h3_.symm
                          subst hnn
                          have hp1 := places_of (h := h_) (d := dq) hn100 hin
                          have hp2 := places_of (h := h_) (d := eq) hne100 hjn
                          refine m_iconst 0 dX12_copy_119 rfl ?_
                          refine m_istore [(6, .int 0), (0, .ref (gK G 4 0)), (1, .int (nI (dq))), (2, .int (nI (iq))), (3, .int (nI (eq))), (4, .int (nI (jq))), (5, .int (nI (nq2)))] (by decide) rfl dX12_copy_120 ?_
                          have lp122 : ∀ (dd : Nat) (k_ : Nat) (B9 : owF), k_ ≤ nq2 → bsh eq B B9 → B9 43 0 eq = 2 → B9 44 0 eq = nI (hSo h_ eq) → B9 45 0 eq = nI (hN h_ eq) → (∀ q_, q_ < 100 → B9 46 0 (100 * eq + q_) = cpK (hE h_ dq) (hE h_ eq) iq jq nq2 k_ q_) → nq2 - k_ < dd → Wm l G cX12_copy 8 RX12 ((some .int)) (rmk 2 0 0) (fun _ => True) (QfM G (qI (fun r_ σ => r_ = cpI h_ (nI dq) (nI iq) (nI eq) (nI jq) (nI nq2) ∧ ∃ (B2 T2 V2 : owF), σ = (A, S, Z, B2, T2, V2, J, Y, P) ∧ MR B2 (a_) (im) (cpH h_ (nI dq) (nI iq) (nI eq) (nI jq) (nI nq2)))) 0 0) 122 [(0, .ref (gK G 4 0)), (1, .int (nI (dq))), (2, .int (nI (iq))), (3, .int (nI (eq))), (4, .int (nI (jq))), (5, .int (nI (nq2))), (6, .int (nI (k_)))] [] (A, S, Z, B9, T, V, J, Y, P) 0 0 := by
                            intro dd
                            induction dd with
                            | zero => intro k_ B9 hk_ hbs h43 h44 h45 hF hdd; exact absurd hdd (Nat.not_lt_zero _)
                            | succ dd ih122 =>
                              intro k_ B9 hk_ hbs h43 h44 h45 hF hdd122
                              refine m_iload 6 rfl dX12_copy_122 ?_
                              refine m_iload 5 rfl dX12_copy_124 ?_
                              refine m_icmpn_ge k_ nq2 184 (by omega) (by omega) dX12_copy_126 (by decide) (fun c13_ => ?_) (fun c13_ => ?_)
                              ·
                                refine m_iload 5 rfl dX12_copy_184 ?_
                                exact m_iret dX12_copy_186 (Nat.le_refl _) (Nat.le_refl _) ((by obtain rfl : k_ = nq2 := (by omega); exact ⟨by unfold cpI; rw [if_pos ⟨hDdq, hDeq⟩, hcldq, hcleq, if_neg (by omega), if_pos ⟨hk2, hke, hss⟩, if_pos ⟨hp1, hp2⟩], _, _, _, rfl, by unfold cpH; rw [if_pos (show cpB h_ (nI dq) (nI iq) (nI eq) (nI jq) (nI k_) = true from by unfold cpB; rw [hcldq, hcleq, hDdq, hDeq, decide_eq_true ⟨hk2, hke, hss⟩, hp1, hp2]; rfl), hcldq, hcleq, hcliq, hcljq, show (nI k_).toNatClampNeg = k_ from nI_clamp (by omega)]; exact hM.shelf hbs (MS.roww (if_pos rfl) hso2 hne100 (by first | exact h43 | skip) (by first | exact h44 | skip) (by first | exact h45 | skip) (fun q_ hq => by rw [hF q_ hq, cpK_n])) (fun k_ hk_ => updH_o hk_)⟩))
                              ·
                                refine m_iload_n 2 rfl rfl dX12_copy_129 ?_
                                refine m_iload 4 rfl dX12_copy_130 ?_
                                refine m_icmpn_le iq jq 140 (by omega) (by omega) dX12_copy_132 (by decide) (fun c14_ => ?_) (fun c14_ => ?_)
                                ·
                                  refine m_iload 5 rfl dX12_copy_140 ?_
                                  refine m_iconst 1 dX12_copy_142 rfl ?_
                                  refine m_isub dX12_copy_143 ?_
                                  refine m_topi ((show nI nq2 - 1 = nI (nq2 - 1) from pk_sub (b := 1) (by omega))) ?_
                                  refine m_iload 6 rfl dX12_copy_144 ?_
                                  refine m_isub dX12_copy_146 ?_
                                  refine m_topi ((show nI (nq2 - 1) - nI k_ = nI (nq2 - 1 - k_) from pk_sub (by omega))) ?_
                                  refine m_istore [(7, .int (nI (nq2 - 1 - k_))), (0, .ref (gK G 4 0)), (1, .int (nI (dq))), (2, .int (nI (iq))), (3, .int (nI (eq))), (4, .int (nI (jq))), (5, .int (nI (nq2))), (6, .int (nI (k_)))] (by decide) rfl dX12_copy_147 ?_
                                  have hrd : B9 46 0 (((100 * dq) + iq) + (nq2 - 1 - k_)) = hE h_ dq (iq + (nq2 - 1 - k_)) := by
                                    rw [Nat.add_assoc]
                                    by_cases hde : dq = eq
                                    · subst hde; rw [hF (iq + (nq2 - 1 - k_)) (by omega)]; exact cpK_rd (Or.inr ⟨Nat.not_lt.mpr c14_, rfl⟩) (by omega)
                                    · rw [hbs 46 (100 * dq + (iq + (nq2 - 1 - k_))) (fun z_ => by omega) (fun z_ => by omega)]; exact hm2.2.2.2.2 _ (by omega)
                                  refine m_aload_n 1 rfl rfl dX12_copy_149 ?_
                                  refine gf_X12_28 dX12_copy_150 ?_
                                  refine m_bipush (100) dX12_copy_153 rfl ?_
                                  refine m_iload_n 4 rfl rfl dX12_copy_155 ?_
                                  refine m_imul dX12_copy_156 ?_
                                  refine m_topi (show 100 * (nI (eq)) = nI (100 * eq) from pk_mul _ _) ?_
                                  refine m_iload 5 rfl dX12_copy_157 ?_
                                  refine m_iadd dX12_copy_159 ?_
                                  refine m_topi (show (nI (100 * eq)) + (nI (jq)) = nI ((100 * eq) + jq) from nI_add _ _) ?_
                                  refine m_iload 0 rfl dX12_copy_160 ?_
                                  refine m_iadd dX12_copy_162 ?_
                                  refine m_topi (show (nI ((100 * eq) + jq)) + (nI (nq2 - 1 - k_)) = nI (((100 * eq) + jq) + (nq2 - 1 - k_)) from nI_add _ _) ?_
                                  refine m_aload_n 1 rfl rfl dX12_copy_163 ?_
                                  refine gf_X12_28 dX12_copy_164 ?_
                                  refine m_bipush (100) dX12_copy_167 rfl ?_
                                  refine m_iload_n 2 rfl rfl dX12_copy_169 ?_
                                  refine m_imul dX12_copy_170 ?_
                                  refine m_topi (show 100 * (nI (dq)) = nI (100 * dq) from pk_mul _ _) ?_
                                  refine m_iload_n 3 rfl rfl dX12_copy_171 ?_
                                  refine m_iadd dX12_copy_172 ?_
                                  refine m_topi (show (nI (100 * dq)) + (nI (iq)) = nI ((100 * dq) + iq) from nI_add _ _) ?_
                                  refine m_iload 0 rfl dX12_copy_173 ?_
                                  refine m_iadd dX12_copy_175 ?_
                                  refine m_topi (show (nI ((100 * dq) + iq)) + (nI (nq2 - 1 - k_)) = nI (((100 * dq) + iq) + (nq2 - 1 - k_)) from nI_add _ _) ?_
                                  refine al_46 (((100 * dq) + iq) + (nq2 - 1 - k_)) rfl (by omega) dX12_copy_176 ?_
                                  refine m_topi hrd ?_
                                  refine as_46 (((100 * eq) + jq) + (nq2 - 1 - k_)) rfl (by omega) dX12_copy_177 (fun B15 hB15 => ?_)
                                  refine m_iinc (nI (k_ + 1)) 7 [(6, .int (nI (k_ + 1))), (7, .int (nI (nq2 - 1 - k_))), (0, .ref (gK G 4 0)), (1, .int (nI (dq))), (2, .int (nI (iq))), (3, .int (nI (eq))), (4, .int (nI (jq))), (5, .int (nI (nq2)))] rfl (nI_1 _) (by decide) rfl dX12_copy_178 ?_
                                  refine m_goto 122 dX12_copy_181 (by decide) ?_
                                  refine m_lv [(0, .ref (gK G 4 0)), (1, .int (nI (dq))), (2, .int (nI (iq))), (3, .int (nI (eq))), (4, .int (nI (jq))), (5, .int (nI (nq2))), (6, .int (nI (k_ + 1)))] [2, 3, 4, 5, 6, 7, 0] rfl ?_
                                  exact ih122 (k_ + 1) B15 (by omega) (bsh_up hbs hB15 (Or.inr ⟨rfl, by omega, by omega⟩)) (up3_t hB15 (by decide) h43) (up3_t hB15 (by decide) h44) (up3_t hB15 (by decide) h45) (fun q_ hq => by rw [cpK_dn (Nat.not_lt.mpr c14_) (by omega)]; by_cases hz : q_ = jq + (nq2 - 1 - k_) <;> (first | (rw [if_pos hz, hz, ← Nat.add_assoc]; exact up3_e hB15) | (rw [if_neg hz]; exact up3_j hB15 (by omega) (hF q_ hq)))) (by omega)
                                ·
                                  refine m_iload 6 rfl dX12_copy_135 ?_
                                  refine m_goto 147 dX12_copy_137 (by decide) ?_
                                  refine m_istore [(7, .int (nI (k_))), (0, .ref (gK G 4 0)), (1, .int (nI (dq))), (2, .int (nI (iq))), (3, .int (nI (eq))), (4, .int (nI (jq))), (5, .int (nI (nq2))), (6, .int (nI (k_)))] (by decide) rfl dX12_copy_147 ?_
                                  have hrd : B9 46 0 (((100 * dq) + iq) + (k_)) = hE h_ dq (iq + (k_)) := by
                                    rw [Nat.add_assoc]
                                    by_cases hde : dq = eq
                                    · subst hde; rw [hF (iq + (k_)) (by omega)]; exact cpK_rd (Or.inl ⟨c14_, rfl⟩) (by omega)
                                    · rw [hbs 46 (100 * dq + (iq + (k_))) (fun z_ => by omega) (fun z_ => by omega)]; exact hm2.2.2.2.2 _ (by omega)
                                  refine m_aload_n 1 rfl rfl dX12_copy_149 ?_
                                  refine gf_X12_28 dX12_copy_150 ?_
                                  refine m_bipush (100) dX12_copy_153 rfl ?_
                                  refine m_iload_n 4 rfl rfl dX12_copy_155 ?_
                                  refine m_imul dX12_copy_156 ?_
                                  refine m_topi (show 100 * (nI (eq)) = nI (100 * eq) from pk_mul _ _) ?_
                                  refine m_iload 5 rfl dX12_copy_157 ?_
                                  refine m_iadd dX12_copy_159 ?_
                                  refine m_topi (show (nI (100 * eq)) + (nI (jq)) = nI ((100 * eq) + jq) from nI_add _ _) ?_
                                  refine m_iload 0 rfl dX12_copy_160 ?_
                                  refine m_iadd dX12_copy_162 ?_
                                  refine m_topi (show (nI ((100 * eq) + jq)) + (nI (k_)) = nI (((100 * eq) + jq) + k_) from nI_add _ _) ?_
                                  refine m_aload_n 1 rfl rfl dX12_copy_163 ?_
                                  refine gf_X12_28 dX12_copy_164 ?_
                                  refine m_bipush (100) dX12_copy_167 rfl ?_
                                  refine m_iload_n 2 rfl rfl dX12_copy_169 ?_
                                  refine m_imul dX12_copy_170 ?_
                                  refine m_topi (show 100 * (nI (dq)) = nI (100 * dq) from pk_mul _ _) ?_
                                  refine m_iload_n 3 rfl rfl dX12_copy_171 ?_
                                  refine m_iadd dX12_copy_172 ?_
                                  refine m_topi (show (nI (100 * dq)) + (nI (iq)) = nI ((100 * dq) + iq) from nI_add _ _) ?_
                                  refine m_iload 0 rfl dX12_copy_173 ?_
                                  refine m_iadd dX12_copy_175 ?_
                                  refine m_topi (show (nI ((100 * dq) + iq)) + (nI (k_)) = nI (((100 * dq) + iq) + k_) from nI_add _ _) ?_
                                  refine al_46 (((100 * dq) + iq) + k_) rfl (by omega) dX12_copy_176 ?_
                                  refine m_topi hrd ?_
                                  refine as_46 (((100 * eq) + jq) + k_) rfl (by omega) dX12_copy_177 (fun B16 hB16 => ?_)
                                  refine m_iinc (nI (k_ + 1)) 7 [(6, .int (nI (k_ + 1))), (7, .int (nI (k_))), (0, .ref (gK G 4 0)), (1, .int (nI (dq))), (2, .int (nI (iq))), (3, .int (nI (eq))), (4, .int (nI (jq))), (5, .int (nI (nq2)))] rfl (nI_1 _) (by decide) rfl dX12_copy_178 ?_
                                  refine m_goto 122 dX12_copy_181 (by decide) ?_
                                  refine m_lv [(0, .ref (gK G 4 0)), (1, .int (nI (dq))), (2, .int (nI (iq))), (3, .int (nI (eq))), (4, .int (nI (jq))), (5, .int (nI (nq2))), (6, .int (nI (k_ + 1)))] [2, 3, 4, 5, 6, 7, 0] rfl ?_
                                  exact ih122 (k_ + 1) B16 (by omega) (bsh_up hbs hB16 (Or.inr ⟨rfl, by omega, by omega⟩)) (up3_t hB16 (by decide) h43) (up3_t hB16 (by decide) h44) (up3_t hB16 (by decide) h45) (fun q_ hq => by rw [cpK_up c14_]; by_cases hz : q_ = jq + (k_) <;> (first | (rw [if_pos hz, hz, ← Nat.add_assoc]; exact up3_e hB16) | (rw [if_neg hz]; exact up3_j hB16 (by omega) (hF q_ hq)))) (by omega)
                          refine m_lv [(0, .ref (gK G 4 0)), (1, .int (nI (dq))), (2, .int (nI (iq))), (3, .int (nI (eq))), (4, .int (nI (jq))), (5, .int (nI (nq2))), (6, .int 0)] [1, 2, 3, 4, 5, 6, 0] rfl ?_
                          exact lp122 ((nq2 - 0) + 1) 0 B (Nat.zero_le _) bsh_rf (by rw [hmseq.2.1, hke]; rfl) hme.1 hme.2.2.1 (fun q_ hq => by rw [cpK_0]; exact hme.2.2.2.2 q_ hq) (Nat.lt_succ_self _)
                        ·
                          refine m_bipush (-13) dX12_copy_116 rfl ?_
                          exact m_iret dX12_copy_118 (Nat.le_refl _) (Nat.le_refl _) (⟨by unfold cpI; rw [if_pos ⟨hDdq, hDeq⟩, hcldq, hcleq, if_neg (by omega), if_pos ⟨hk2, hke, hss⟩, if_neg (fun q_ => absurd (of_decide_eq_true q_.2).2.2.2 c12_)], _, _, _, rfl, by unfold cpH; rw [if_neg (by rw [(show cpB h_ (nI (dq)) i_ (nI (eq)) j_ n_ = false from by unfold cpB; rw [hcldq, hcleq, hDdq, hDeq, decide_eq_true ⟨hk2, hke, hss⟩, Bool.true_and, Bool.true_and, Bool.true_and]; exact Bool.eq_false_iff.mpr (fun q0_ => by have q_ := Bool.and_eq_true_iff.mp q0_; exact absurd (of_decide_eq_true q_.2).2.2.2 c12_))]; decide)]; exact hM⟩)
              ·
                refine m_bipush (-12) dX12_copy_72 rfl ?_
                exact m_iret dX12_copy_74 (Nat.le_refl _) (Nat.le_refl _) (⟨by unfold cpI; rw [if_pos ⟨hDdq, hDeq⟩, hcldq, hcleq, if_neg (by omega), if_neg (by omega)], _, _, _, rfl, by unfold cpH; rw [if_neg (by rw [(show cpB h_ (nI (dq)) i_ (nI (eq)) j_ n_ = false from by unfold cpB; rw [hcldq, hcleq, decide_eq_false (by omega), Bool.false_and, Bool.and_false, Bool.and_false])]; decide)]; exact hM⟩)
        ·
          refine m_bipush (-11) dX12_copy_34 rfl ?_
          exact m_iret dX12_copy_36 (Nat.le_refl _) (Nat.le_refl _) (⟨by unfold cpI; rw [if_pos ⟨hDdq, hDeq⟩, hcldq, hcleq, if_pos (by omega)], _, _, _, rfl, by unfold cpH; rw [if_neg (by rw [(show cpB h_ (nI (dq)) i_ (nI (eq)) j_ n_ = false from by unfold cpB; rw [hcldq, hcleq, decide_eq_false (by omega), Bool.false_and, Bool.and_false, Bool.and_false])]; decide)]; exact hM⟩)
    ·
      refine m_iconst (-1) dX12_copy_14 rfl ?_
      exact m_iret dX12_copy_15 (Nat.le_refl _) (Nat.le_refl _) (⟨by unfold cpI; rw [if_neg (fun q_ => absurd q_.2 (by rw [c2_]; decide))], _, _, _, rfl, by unfold cpH; rw [if_neg (by rw [(show cpB h_ (nI (dq)) i_ z_ j_ n_ = false from by unfold cpB; rw [c2_, Bool.false_and, Bool.and_false])]; decide)]; exact hM⟩)
set_option maxRecDepth 100000 in
set_option maxHeartbeats 4000000 in
theorem k_m_day (l : Launch) (G : owG) {A S Z B T V : owF} {J : Nat → Nat → Int64} {Y : Nat → Nat → Nat → Option Nat} {P : Nat → Option owW} (a_ : owK) (ho_ : aOk a_) (im : Option owK) (h_ : owH) (hM : MR B a_ im h_) (c_ x_ y_ z_ : Int32) : Ct l G yX12_day cX12_day 10 ((some .int)) 4 0 0 [.ref (gK G 4 0), .int c_, .int x_, .int y_, .int z_] (A, S, Z, B, T, V, J, Y, P) (qI (fun r_ σ => r_ = dayI a_ h_ c_ x_ y_ z_ ∧ ∃ (B2 T2 V2 : owF), σ = (A, S, Z, B2, T2, V2, J, Y, P) ∧ MR B2 (a_) (im) (dayH a_ h_ c_ x_ y_ z_))) := by
  refine ct_of (by decide +kernel) (Nat.le_of_ble_eq_true rfl) ?_
  have h10 := ho_.1
  have h8_ := ho_.2.1
  have hX := hM.1
  show Wm l G cX12_day 10 RX12 ((some .int)) (rmk 4 0 0) (fun _ => True) (QfM G (qI (fun r_ σ => r_ = dayI a_ h_ c_ x_ y_ z_ ∧ ∃ (B2 T2 V2 : owF), σ = (A, S, Z, B2, T2, V2, J, Y, P) ∧ MR B2 (a_) (im) (dayH a_ h_ c_ x_ y_ z_))) 0 0) 0 [(0, .ref (gK G 4 0)), (1, .int c_), (2, .int x_), (3, .int y_), (4, .int z_)] [] (A, S, Z, B, T, V, J, Y, P) 0 0
  refine m_aload_n 0 rfl rfl dX12_day_0 ?_
  refine m_iload_n 1 rfl rfl dX12_day_1 ?_
  refine m_callVi cv_X12_125 [.int c_] [] (k_m_isChild l G a_ ho_ im h_ hM c_) (by decide) (ce_4 G _ _ _ _ _ _ _ _ _ _) rfl rfl rfl ⟨Nat.le_of_ble_eq_true rfl, Nat.le_of_ble_eq_true rfl⟩ (Nat.le_of_ble_eq_true rfl) ⟨Nat.zero_le _, Nat.zero_le _⟩ dX12_day_2 (fun xx σ2 hq => ?_)
  obtain ⟨rfl, rfl⟩ := hq
  refine m_ifeq_b 22 dX12_day_5 (by decide) (fun c1_ => ?_) (fun c1_ => ?_)
  ·
    refine m_iconst (-1) dX12_day_22 rfl ?_
    exact m_iret dX12_day_23 (Nat.le_refl _) (Nat.le_refl _) (⟨by unfold dayI; rw [if_neg (fun q_ => absurd q_.1 (by rw [c1_]; decide))], _, _, _, rfl, by unfold dayH; rw [if_neg (by rw [show dayB a_ h_ c_ x_ y_ = false from by unfold dayB; rw [c1_]; rfl]; decide)]; exact hM⟩)
  ·
    have hcc := c1_
    obtain ⟨cq, hcq, rfl⟩ := isC_nat ho_ c1_
    have hclcq : (nI cq).toNatClampNeg = cq := nI_clamp (by omega)
    have hch9 := ho_.2.2.2.1 cq hcq
    refine m_iload_n 2 rfl rfl dX12_day_8 ?_
    refine m_callSi cs_X12_101 [.int x_] [] (k_m_isShelf l G x_) rfl rfl ⟨Nat.le_of_ble_eq_true rfl, Nat.le_of_ble_eq_true rfl⟩ (Nat.le_of_ble_eq_true rfl) ⟨Nat.zero_le _, Nat.zero_le _⟩ dX12_day_9 (fun xx σ2 hq => ?_)
    obtain ⟨rfl, rfl⟩ := hq
    refine m_ifeq_b 22 dX12_day_12 (by decide) (fun c2_ => ?_) (fun c2_ => ?_)
    ·
      refine m_iconst (-1) dX12_day_22 rfl ?_
      exact m_iret dX12_day_23 (Nat.le_refl _) (Nat.le_refl _) (⟨by unfold dayI; have hz := shRefI_n (h := h_) c2_; rw [hz]; split <;> rfl, _, _, _, rfl, by unfold dayH; rw [if_neg (by rw [show dayB a_ h_ (nI (cq)) x_ y_ = false from by unfold dayB; rw [shRefI_n c2_, decide_eq_false (by decide), Bool.and_false, Bool.and_false]]; decide)]; exact hM⟩)
    ·
      refine m_iload_n 3 rfl rfl dX12_day_15 ?_
      refine m_callSi cs_X12_101 [.int y_] [] (k_m_isShelf l G y_) rfl rfl ⟨Nat.le_of_ble_eq_true rfl, Nat.le_of_ble_eq_true rfl⟩ (Nat.le_of_ble_eq_true rfl) ⟨Nat.zero_le _, Nat.zero_le _⟩ dX12_day_16 (fun xx σ2 hq => ?_)
      obtain ⟨rfl, rfl⟩ := hq
      refine m_ifne_b 24 dX12_day_19 (by decide) (fun c3_ => ?_) (fun c3_ => ?_)
      ·
        have hDeq := c3_
        obtain ⟨eq, heq, rfl⟩ := isD_nat c3_
        have hcleq : (nI eq).toNatClampNeg = eq := nI_clamp (by omega)
        have hmseq := hM.2.2.2 eq heq
        have hk3eq := hmseq.1
        refine m_aload_n 0 rfl rfl dX12_day_24 ?_
        refine m_iload_n 2 rfl rfl dX12_day_25 ?_
        refine m_callVi cv_X12_175 [.int x_] [] (k_m_wrongSheet l G a_ ho_ im h_ hM x_) (by decide) (ce_4 G _ _ _ _ _ _ _ _ _ _) rfl rfl rfl ⟨Nat.le_of_ble_eq_true rfl, Nat.le_of_ble_eq_true rfl⟩ (Nat.le_of_ble_eq_true rfl) ⟨Nat.zero_le _, Nat.zero_le _⟩ dX12_day_26 (fun xx σ2 hq => ?_)
        obtain ⟨rfl, rfl⟩ := hq
        refine m_istore [(5, .int (shRefI h_ x_)), (0, .ref (gK G 4 0)), (1, .int (nI (cq))), (2, .int x_), (3, .int (nI (eq))), (4, .int z_)] (by decide) rfl dX12_day_29 ?_
        refine m_iload 0 rfl dX12_day_31 ?_
        refine m_if_eq 39 dX12_day_33 (by decide) (fun c4_ => ?_) (fun c4_ => ?_)
        ·
          have hb0 := c4_
          obtain ⟨dq, hdq, rfl, hsr, hDd⟩ := shRefI_0 hb0
          have hcldq : (nI dq).toNatClampNeg = dq := nI_clamp (by omega)
          obtain ⟨hk2, hso2, hev, h24, hsm⟩ := shRef_ok hsr
          have hn12 : shN h_ dq ≤ 12 := by unfold shN; omega
          refine m_aload_n 1 rfl rfl dX12_day_39 ?_
          refine m_iload 5 rfl dX12_day_40 ?_
          refine pf_X12_221 dX12_day_42 (fun T5 hT5 => ?_)
          refine m_aload_n 1 rfl rfl dX12_day_45 ?_
          refine m_iload_n 3 rfl rfl dX12_day_46 ?_
          refine m_callVi cv_X12_171 [.int (nI (dq))] [] (k_m_sums l G a_ ho_ im h_ hM dq (by omega) hk2) (by decide) (ce_4 G _ _ _ _ _ _ _ _ _ _) rfl rfl rfl ⟨Nat.le_of_ble_eq_true rfl, Nat.le_of_ble_eq_true rfl⟩ (Nat.le_of_ble_eq_true rfl) ⟨Nat.zero_le _, Nat.zero_le _⟩ dX12_day_47 (fun xx σ2 hq => ?_)
          obtain ⟨rfl, rfl⟩ := hq
          refine m_istore [(6, .int (nI (shN h_ dq))), (5, .int (shRefI h_ (nI dq))), (0, .ref (gK G 4 0)), (1, .int (nI (cq))), (2, .int (nI (dq))), (3, .int (nI (eq))), (4, .int z_)] (by decide) rfl dX12_day_50 ?_
          refine m_iconst 0 dX12_day_52 rfl ?_
          refine m_istore [(7, .int 0), (6, .int (nI (shN h_ dq))), (5, .int (shRefI h_ (nI dq))), (0, .ref (gK G 4 0)), (1, .int (nI (cq))), (2, .int (nI (dq))), (3, .int (nI (eq))), (4, .int z_)] (by decide) rfl dX12_day_53 ?_
          refine m_iconst 0 dX12_day_55 rfl ?_
          refine m_istore [(8, .int 0), (7, .int 0), (6, .int (nI (shN h_ dq))), (5, .int (shRefI h_ (nI dq))), (0, .ref (gK G 4 0)), (1, .int (nI (cq))), (2, .int (nI (dq))), (3, .int (nI (eq))), (4, .int z_)] (by decide) rfl dX12_day_56 ?_
          have lp58 : ∀ (dd : Nat) (k_ : Nat) (T9 : owF) (V9 : owF), k_ ≤ shN h_ dq → T9 4 0 21 = (dyS a_ cq z_ k_).1 → (∀ j_, j_ < k_ → T9 54 0 j_ = dyV a_ h_ cq dq z_ j_) → shN h_ dq - k_ < dd → Wm l G cX12_day 10 RX12 ((some .int)) (rmk 4 0 0) (fun _ => True) (QfM G (qI (fun r_ σ => r_ = dayI a_ h_ (nI cq) (nI dq) (nI eq) z_ ∧ ∃ (B2 T2 V2 : owF), σ = (A, S, Z, B2, T2, V2, J, Y, P) ∧ MR B2 (a_) (im) (dayH a_ h_ (nI cq) (nI dq) (nI eq) z_))) 0 0) 58 [(0, .ref (gK G 4 0)), (1, .int (nI (cq))), (2, .int (nI (dq))), (3, .int (nI (eq))), (4, .int z_), (5, .int (shRefI h_ (nI dq))), (6, .int (nI (shN h_ dq))), (7, .int (nI ((dyS a_ cq z_ k_).2))), (8, .int (nI (k_)))] [] (A, S, Z, B, T9, V9, J, Y, P) 0 0 := by
            intro dd
            induction dd with
            | zero => intro k_ T9 V9 hk_ hsd hda hdd; exact absurd hdd (Nat.not_lt_zero _)
            | succ dd ih58 =>
              intro k_ T9 V9 hk_ hsd hda hdd58
              refine m_iload 8 rfl dX12_day_58 ?_
              refine m_iload 6 rfl dX12_day_60 ?_
              refine m_icmpn_ge k_ (shN h_ dq) 132 (by omega) (by omega) dX12_day_62 (by decide) (fun c6_ => ?_) (fun c6_ => ?_)
              ·
                obtain rfl : k_ = shN h_ dq := (by omega)
                refine m_aload_n 0 rfl rfl dX12_day_132 ?_
                refine m_iload_n 3 rfl rfl dX12_day_133 ?_
                refine m_iconst 2 dX12_day_134 rfl ?_
                refine m_iload 6 rfl dX12_day_135 ?_
                refine m_callVi cv_X12_233 [.int (nI (eq)), .int 2, .int (nI (shN h_ dq))] [] (k_m_row l G a_ ho_ im h_ hM (nI eq) 2 (nI (shN h_ dq))) (by decide) (ce_4 G _ _ _ _ _ _ _ _ _ _) rfl rfl rfl ⟨Nat.le_of_ble_eq_true rfl, Nat.le_of_ble_eq_true rfl⟩ (Nat.le_of_ble_eq_true rfl) ⟨Nat.zero_le _, Nat.zero_le _⟩ dX12_day_137 (fun xx σ2 hq => ?_)
                obtain ⟨rfl, B7, rfl, hMr⟩ := hq
                refine m_istore [(8, .int (rowI (nI eq) 2 (nI (shN h_ dq)))), (0, .ref (gK G 4 0)), (1, .int (nI (cq))), (2, .int (nI (dq))), (3, .int (nI (eq))), (4, .int z_), (5, .int (shRefI h_ (nI dq))), (6, .int (nI (shN h_ dq))), (7, .int (nI ((dyS a_ cq z_ (shN h_ dq)).2)))] (by decide) rfl dX12_day_140 ?_
                have hrb : rowB (nI eq) 2 (nI (shN h_ dq)) = true := by unfold rowB; rw [hDeq, Bool.true_and]; exact decide_eq_true ⟨by decide, by decide, nI_le (b := 100) (by omega) (by decide)⟩
                have hrh : rowH h_ (nI eq) 2 (nI (shN h_ dq)) = updH h_ eq (2, 2, shN h_ dq, fun _ => 0, 0, 0, 0) := by unfold rowH; rw [if_pos hrb, if_neg (nI_pos (by omega)), hcleq, nI_clamp (by omega)]; rfl
                have hm9 := MS.roww' (hMr.2.2.2 eq heq) (by rw [hrh]; exact if_pos rfl)
                refine m_iconst 0 dX12_day_142 rfl ?_
                refine m_istore [(9, .int 0), (8, .int (rowI (nI eq) 2 (nI (shN h_ dq)))), (0, .ref (gK G 4 0)), (1, .int (nI (cq))), (2, .int (nI (dq))), (3, .int (nI (eq))), (4, .int z_), (5, .int (shRefI h_ (nI dq))), (6, .int (nI (shN h_ dq))), (7, .int (nI ((dyS a_ cq z_ (shN h_ dq)).2)))] (by decide) rfl dX12_day_143 ?_
                have lp145 : ∀ (dd : Nat) (u_ : Nat) (B8 : owF), u_ ≤ shN h_ dq → bsh eq B7 B8 → B8 43 0 eq = 2 → B8 44 0 eq = nI 2 → B8 45 0 eq = nI (shN h_ dq) → (∀ j_, j_ < u_ → B8 46 0 (100 * eq + j_) = dyV a_ h_ cq dq z_ j_) → (∀ j_, u_ ≤ j_ → j_ < 100 → B8 46 0 (100 * eq + j_) = 0) → shN h_ dq - u_ < dd → Wm l G cX12_day 10 RX12 ((some .int)) (rmk 4 0 0) (fun _ => True) (QfM G (qI (fun r_ σ => r_ = dayI a_ h_ (nI cq) (nI dq) (nI eq) z_ ∧ ∃ (B2 T2 V2 : owF), σ = (A, S, Z, B2, T2, V2, J, Y, P) ∧ MR B2 (a_) (im) (dayH a_ h_ (nI cq) (nI dq) (nI eq) z_))) 0 0) 145 [(0, .ref (gK G 4 0)), (1, .int (nI (cq))), (2, .int (nI (dq))), (3, .int (nI (eq))), (4, .int z_), (5, .int (shRefI h_ (nI dq))), (6, .int (nI (shN h_ dq))), (7, .int (nI ((dyS a_ cq z_ (shN h_ dq)).2))), (8, .int (rowI (nI eq) 2 (nI (shN h_ dq)))), (9, .int (nI (u_)))] [] (A, S, Z, B8, T9, V9, J, Y, P) 0 0 := by
                  intro dd
                  induction dd with
                  | zero => intro u_ B8 hu hbs h43 h44 h45 hlo hhi hdd; exact absurd hdd (Nat.not_lt_zero _)
                  | succ dd ih145 =>
                    intro u_ B8 hu hbs h43 h44 h45 hlo hhi hdd145
                    refine m_iload 9 rfl dX12_day_145 ?_
                    refine m_iload 6 rfl dX12_day_147 ?_
                    refine m_icmpn_ge u_ (shN h_ dq) 177 (by omega) (by omega) dX12_day_149 (by decide) (fun c8_ => ?_) (fun c8_ => ?_)
                    ·
                      refine m_iload 7 rfl dX12_day_177 ?_
                      exact m_iret dX12_day_179 (Nat.le_refl _) (Nat.le_refl _) ((by obtain rfl : u_ = shN h_ dq := (by omega); exact ⟨by unfold dayI; rw [if_pos ⟨hcc, hDeq⟩, if_pos hb0, hclcq]; simp only [rN, hcldq], _, _, _, rfl, by unfold dayH; rw [if_pos (show dayB a_ h_ (nI cq) (nI dq) (nI eq) = true from by unfold dayB; rw [hcc, hDeq, decide_eq_true hb0]; rfl), hcleq, hclcq, hcldq]; simp only [rN, hcldq]; exact hMr.shelf hbs (MS.roww (if_pos rfl) (by decide) (by omega) h43 h44 h45 (fun j_ hj => by unfold dyT; by_cases hz : j_ < shN h_ dq <;> (first | (rw [if_pos hz]; exact hlo j_ hz) | (rw [if_neg hz]; exact hhi j_ (by omega) hj)))) (fun k_ hk_ => by rw [hrh]; exact (updH_o hk_).trans (updH_o hk_).symm)⟩))
                    ·
                      refine m_aload_n 0 rfl rfl dX12_day_152 ?_
                      refine gf_X12_28 dX12_day_153 ?_
                      refine m_bipush (100) dX12_day_156 rfl ?_
                      refine m_iload_n 3 rfl rfl dX12_day_158 ?_
                      refine m_imul dX12_day_159 ?_
                      refine m_topi (show 100 * (nI (eq)) = nI (100 * eq) from pk_mul _ _) ?_
                      refine m_iload 9 rfl dX12_day_160 ?_
                      refine m_iadd dX12_day_162 ?_
                      refine m_topi (show (nI (100 * eq)) + (nI (u_)) = nI ((100 * eq) + u_) from nI_add _ _) ?_
                      refine m_aload_n 0 rfl rfl dX12_day_163 ?_
                      refine gf_X12_52 dX12_day_164 ?_
                      refine m_iload 9 rfl dX12_day_167 ?_
                      refine al_54 u_ rfl (by omega) dX12_day_169 ?_
                      refine m_topi (hda u_ (by omega)) ?_
                      refine as_46 ((100 * eq) + u_) rfl (by omega) dX12_day_170 (fun B9 hB9 => ?_)
                      refine m_iinc (nI (u_ + 1)) 9 [(9, .int (nI (u_ + 1))), (0, .ref (gK G 4 0)), (1, .int (nI (cq))), (2, .int (nI (dq))), (3, .int (nI (eq))), (4, .int z_), (5, .int (shRefI h_ (nI dq))), (6, .int (nI (shN h_ dq))), (7, .int (nI ((dyS a_ cq z_ (shN h_ dq)).2))), (8, .int (rowI (nI eq) 2 (nI (shN h_ dq))))] rfl (nI_1 _) (by decide) rfl dX12_day_171 ?_
                      refine m_goto 145 dX12_day_174 (by decide) ?_
                      refine m_lv [(0, .ref (gK G 4 0)), (1, .int (nI (cq))), (2, .int (nI (dq))), (3, .int (nI (eq))), (4, .int z_), (5, .int (shRefI h_ (nI dq))), (6, .int (nI (shN h_ dq))), (7, .int (nI ((dyS a_ cq z_ (shN h_ dq)).2))), (8, .int (rowI (nI eq) 2 (nI (shN h_ dq)))), (9, .int (nI (u_ + 1)))] [1, 2, 3, 4, 5, 6, 7, 8, 9, 0] rfl ?_
                      exact ih145 (u_ + 1) B9 (by omega) (bsh_up hbs hB9 (Or.inr ⟨rfl, by omega, by omega⟩)) (up3_t hB9 (by decide) h43) (up3_t hB9 (by decide) h44) (up3_t hB9 (by decide) h45) (fun j_ hj => by rcases Nat.lt_or_ge j_ u_ with q_ | q_; exact up3_j hB9 (by omega) (hlo j_ q_); obtain rfl : u_ = j_ := (by omega); exact up3_e hB9) (fun j_ hj hj2 => up3_j hB9 (by omega) (hhi j_ (by omega) hj2)) (by omega)
                refine m_lv [(0, .ref (gK G 4 0)), (1, .int (nI (cq))), (2, .int (nI (dq))), (3, .int (nI (eq))), (4, .int z_), (5, .int (shRefI h_ (nI dq))), (6, .int (nI (shN h_ dq))), (7, .int (nI ((dyS a_ cq z_ (shN h_ dq)).2))), (8, .int (rowI (nI eq) 2 (nI (shN h_ dq)))), (9, .int 0)] [2, 3, 4, 5, 6, 7, 8, 9, 1, 0] rfl ?_
                exact lp145 ((shN h_ dq - 0) + 1) 0 B7 (Nat.zero_le _) bsh_rf hm9.1 hm9.2.1 hm9.2.2.1 (fun j_ hj => absurd hj (Nat.not_lt_zero j_)) (fun j_ _ hj => hm9.2.2.2 j_ hj) (Nat.lt_succ_self _)
              ·
                refine m_aload_n 0 rfl rfl dX12_day_65 ?_
                refine m_aload_n 0 rfl rfl dX12_day_66 ?_
                refine m_iload_n 1 rfl rfl dX12_day_67 ?_
                refine m_iconst 0 dX12_day_68 rfl ?_
                refine m_callVi cv_X12_128 [.int (nI (cq)), .int 0] [.ref (gK G 4 0)] (k_m_of l G a_ ho_ im h_ hM cq hcq 0 (by decide)) (by decide) (ce_4 G _ _ _ _ _ _ _ _ _ _) rfl rfl rfl ⟨Nat.le_of_ble_eq_true rfl, Nat.le_of_ble_eq_true rfl⟩ (Nat.le_of_ble_eq_true rfl) ⟨Nat.zero_le _, Nat.zero_le _⟩ dX12_day_69 (fun xx σ2 hq => ?_)
                obtain ⟨hgx, rfl⟩ := hq
                obtain rfl : xx = nI (aH a_ cq) := hgx
                refine m_aload_n 0 rfl rfl dX12_day_72 ?_
                refine m_iload_n 2 rfl rfl dX12_day_73 ?_
                refine m_iload 8 rfl dX12_day_74 ?_
                refine m_callVi cv_X12_181 [.int (nI (dq)), .int (nI (k_))] [.int (nI (aH a_ cq)), .ref (gK G 4 0)] (k_m_upperOf l G a_ ho_ im h_ hM dq (by omega) hsr k_ (by omega)) (by decide) (ce_4 G _ _ _ _ _ _ _ _ _ _) rfl rfl rfl ⟨Nat.le_of_ble_eq_true rfl, Nat.le_of_ble_eq_true rfl⟩ (Nat.le_of_ble_eq_true rfl) ⟨Nat.zero_le _, Nat.zero_le _⟩ dX12_day_76 (fun xx σ2 hq => ?_)
                obtain ⟨rfl, rfl⟩ := hq
                refine m_aload_n 0 rfl rfl dX12_day_79 ?_
                refine m_iload_n 2 rfl rfl dX12_day_80 ?_
                refine m_iload 8 rfl dX12_day_81 ?_
                refine m_callVi cv_X12_184 [.int (nI (dq)), .int (nI (k_))] [.int (nI (shX h_ dq k_)), .int (nI (aH a_ cq)), .ref (gK G 4 0)] (k_m_lowerOf l G a_ ho_ im h_ hM dq (by omega) hsr k_ (by omega)) (by decide) (ce_4 G _ _ _ _ _ _ _ _ _ _) rfl rfl rfl ⟨Nat.le_of_ble_eq_true rfl, Nat.le_of_ble_eq_true rfl⟩ (Nat.le_of_ble_eq_true rfl) ⟨Nat.zero_le _, Nat.zero_le _⟩ dX12_day_83 (fun xx σ2 hq => ?_)
                obtain ⟨rfl, rfl⟩ := hq
                refine m_callVi cv_X12_157 [.int (nI (aH a_ cq)), .int (nI (shX h_ dq k_)), .int (nI (shY h_ dq k_))] [] (k_m_answerOf l G a_ ho_ im h_ hM (aH a_ cq) (ho_.2.2.2.1 cq hcq).1 (shX h_ dq k_) (shY h_ dq k_) (hsm k_ (by omega)).2.2.2 (hsm k_ (by omega)).2.2.1) (by decide) (ce_4 G _ _ _ _ _ _ _ _ _ _) rfl rfl rfl ⟨Nat.le_of_ble_eq_true rfl, Nat.le_of_ble_eq_true rfl⟩ (Nat.le_of_ble_eq_true rfl) ⟨Nat.zero_le _, Nat.zero_le _⟩ dX12_day_86 (fun xx σ2 hq => ?_)
                obtain ⟨rfl, V10, rfl, hwV10⟩ := hq
                refine m_istore [(9, .int (nI (ansA a_ (aH a_ cq) (shX h_ dq k_) (shY h_ dq k_)))), (0, .ref (gK G 4 0)), (1, .int (nI (cq))), (2, .int (nI (dq))), (3, .int (nI (eq))), (4, .int z_), (5, .int (shRefI h_ (nI dq))), (6, .int (nI (shN h_ dq))), (7, .int (nI ((dyS a_ cq z_ k_).2))), (8, .int (nI (k_)))] (by decide) rfl dX12_day_89 ?_
                refine m_aload_n 1 rfl rfl dX12_day_91 ?_
                refine m_bipush (100) dX12_day_92 rfl ?_
                refine m_callVi cv_X12_227 [.int 100] [] (k_m_drawn l G 100 (by decide)) (by decide) (ce_4 G _ _ _ _ _ _ _ _ _ _) rfl rfl rfl ⟨Nat.le_of_ble_eq_true rfl, Nat.le_of_ble_eq_true rfl⟩ (Nat.le_of_ble_eq_true rfl) ⟨Nat.zero_le _, Nat.zero_le _⟩ dX12_day_94 (fun xx σ2 hq => ?_)
                obtain ⟨rfl, rfl⟩ := hq
                obtain ⟨T11, hT11⟩ : ∃ q_ : owF, q_ = up3 T9 4 0 21 (nxt (T9 4 0 21)) := ⟨_, rfl⟩
                rw [← hT11]
                refine m_aload_n 1 rfl rfl dX12_day_97 ?_
                refine m_iload_n 2 rfl rfl dX12_day_98 ?_
                refine m_iconst 1 dX12_day_99 rfl ?_
                refine m_callVi cv_X12_128 [.int (nI (cq)), .int 1] [.int (drI (nxt (T9 4 0 21)) 100)] (k_m_of l G a_ ho_ im h_ hM cq hcq 1 (by decide)) (by decide) (ce_4 G _ _ _ _ _ _ _ _ _ _) rfl rfl rfl ⟨Nat.le_of_ble_eq_true rfl, Nat.le_of_ble_eq_true rfl⟩ (Nat.le_of_ble_eq_true rfl) ⟨Nat.zero_le _, Nat.zero_le _⟩ dX12_day_100 (fun xx σ2 hq => ?_)
                obtain ⟨hgx, rfl⟩ := hq
                obtain rfl : xx = nI (aS a_ cq) := hgx
                refine m_icmp_ge 117 dX12_day_103 (by decide) (fun c12_ => ?_) (fun c12_ => ?_)
                ·
                  have hsl : ¬ drI (nxt (dyS a_ cq z_ k_).1) 100 < nI (aS a_ cq) := by rw [← hsd]; exact Int32.not_lt.mpr c12_
                  refine m_aload_n 1 rfl rfl dX12_day_117 ?_
                  refine gf_X12_52 dX12_day_118 ?_
                  refine m_iload 9 rfl dX12_day_121 ?_
                  refine m_iload 0 rfl dX12_day_123 ?_
                  refine as_54 k_ rfl (by omega) dX12_day_125 (fun T13 hT13 => ?_)
                  refine m_iinc (nI (k_ + 1)) 9 [(8, .int (nI (k_ + 1))), (9, .int (nI (ansA a_ (aH a_ cq) (shX h_ dq k_) (shY h_ dq k_)))), (0, .ref (gK G 4 0)), (1, .int (nI (cq))), (2, .int (nI (dq))), (3, .int (nI (eq))), (4, .int z_), (5, .int (shRefI h_ (nI dq))), (6, .int (nI (shN h_ dq))), (7, .int (nI ((dyS a_ cq z_ k_).2)))] rfl (nI_1 _) (by decide) rfl dX12_day_126 ?_
                  refine m_goto 58 dX12_day_129 (by decide) ?_
                  refine m_lv [(0, .ref (gK G 4 0)), (1, .int (nI (cq))), (2, .int (nI (dq))), (3, .int (nI (eq))), (4, .int z_), (5, .int (shRefI h_ (nI dq))), (6, .int (nI (shN h_ dq))), (7, .int (nI ((dyS a_ cq z_ k_).2))), (8, .int (nI (k_ + 1)))] [2, 3, 4, 5, 6, 7, 8, 9, 0] rfl ?_
                  have ihx := ih58 (k_ + 1) T13 V10 (by omega) ((up3_t hT13 (by decide) ((up3_e hT11).trans (congrArg nxt hsd))).trans (show _ = (if _ then _ else _ : Int32 × Nat).1 from by rw [if_neg hsl])) (fun j_ hj => by rcases Nat.lt_or_ge j_ k_ with q_ | q_; exact up3_j hT13 (by omega) (up3_t hT11 (by decide) (hda j_ q_)); obtain rfl : k_ = j_ := (by omega); exact (up3_e hT13).trans (show _ = (if _ then _ else _ : Int32) from by rw [if_neg hsl])) (by omega)
                  rw [show (dyS a_ cq z_ (k_ + 1)).2 = (dyS a_ cq z_ k_).2 from by show (if _ then _ else _ : Int32 × Nat).2 = _; rw [if_neg hsl]] at ihx
                  exact ihx
                ·
                  have hsl : drI (nxt (dyS a_ cq z_ k_).1) 100 < nI (aS a_ cq) := by rw [← hsd]; exact Int32.not_le.mp c12_
                  refine m_aload_n 1 rfl rfl dX12_day_106 ?_
                  refine m_iload 0 rfl dX12_day_107 ?_
                  refine m_callVi cv_X12_230 [.int (nI (ansA a_ (aH a_ cq) (shX h_ dq k_) (shY h_ dq k_)))] [] (k_m_slipped l G (nI (ansA a_ (aH a_ cq) (shX h_ dq k_) (shY h_ dq k_)))) (by decide) (ce_4 G _ _ _ _ _ _ _ _ _ _) rfl rfl rfl ⟨Nat.le_of_ble_eq_true rfl, Nat.le_of_ble_eq_true rfl⟩ (Nat.le_of_ble_eq_true rfl) ⟨Nat.zero_le _, Nat.zero_le _⟩ dX12_day_109 (fun xx σ2 hq => ?_)
                  obtain ⟨rfl, T14, rfl, hT14⟩ := hq
                  refine m_istore [(9, .int (slpV (nI (ansA a_ (aH a_ cq) (shX h_ dq k_) (shY h_ dq k_))) (T11 4 0 21))), (0, .ref (gK G 4 0)), (1, .int (nI (cq))), (2, .int (nI (dq))), (3, .int (nI (eq))), (4, .int z_), (5, .int (shRefI h_ (nI dq))), (6, .int (nI (shN h_ dq))), (7, .int (nI ((dyS a_ cq z_ k_).2))), (8, .int (nI (k_)))] (by decide) rfl dX12_day_112 ?_
                  refine m_iinc (nI ((dyS a_ cq z_ k_).2 + 1)) 8 [(7, .int (nI ((dyS a_ cq z_ k_).2 + 1))), (9, .int (slpV (nI (ansA a_ (aH a_ cq) (shX h_ dq k_) (shY h_ dq k_))) (T11 4 0 21))), (0, .ref (gK G 4 0)), (1, .int (nI (cq))), (2, .int (nI (dq))), (3, .int (nI (eq))), (4, .int z_), (5, .int (shRefI h_ (nI dq))), (6, .int (nI (shN h_ dq))), (8, .int (nI (k_)))] rfl (nI_1 _) (by decide) rfl dX12_day_114 ?_
                  refine m_aload_n 2 rfl rfl dX12_day_117 ?_
                  refine gf_X12_52 dX12_day_118 ?_
                  refine m_iload 9 rfl dX12_day_121 ?_
                  refine m_iload 1 rfl dX12_day_123 ?_
                  refine as_54 k_ rfl (by omega) dX12_day_125 (fun T15 hT15 => ?_)
                  refine m_iinc (nI (k_ + 1)) 9 [(8, .int (nI (k_ + 1))), (7, .int (nI ((dyS a_ cq z_ k_).2 + 1))), (9, .int (slpV (nI (ansA a_ (aH a_ cq) (shX h_ dq k_) (shY h_ dq k_))) (T11 4 0 21))), (0, .ref (gK G 4 0)), (1, .int (nI (cq))), (2, .int (nI (dq))), (3, .int (nI (eq))), (4, .int z_), (5, .int (shRefI h_ (nI dq))), (6, .int (nI (shN h_ dq)))] rfl (nI_1 _) (by decide) rfl dX12_day_126 ?_
                  refine m_goto 58 dX12_day_129 (by decide) ?_
                  refine m_lv [(0, .ref (gK G 4 0)), (1, .int (nI (cq))), (2, .int (nI (dq))), (3, .int (nI (eq))), (4, .int z_), (5, .int (shRefI h_ (nI dq))), (6, .int (nI (shN h_ dq))), (7, .int (nI ((dyS a_ cq z_ k_).2 + 1))), (8, .int (nI (k_ + 1)))] [3, 4, 5, 6, 7, 8, 9, 1, 0] rfl ?_
                  have ihx := ih58 (k_ + 1) T15 V10 (by omega) (((up3_t hT15 (by decide) ((up3_e hT14).trans (by rw [up3_e hT11, hsd])))).trans (show _ = (if _ then _ else _ : Int32 × Nat).1 from by rw [if_pos hsl])) (fun j_ hj => by rcases Nat.lt_or_ge j_ k_ with q_ | q_; exact up3_j hT15 (by omega) (up3_t hT14 (by decide) (up3_t hT11 (by decide) (hda j_ q_))); obtain rfl : k_ = j_ := (by omega); exact (up3_e hT15).trans (show _ = (if _ then _ else _ : Int32) from by rw [if_pos hsl, up3_e hT11, hsd])) (by omega)
                  rw [show (dyS a_ cq z_ (k_ + 1)).2 = (dyS a_ cq z_ k_).2 + 1 from by show (if _ then _ else _ : Int32 × Nat).2 = _; rw [if_pos hsl]] at ihx
                  exact ihx
          refine m_lv [(0, .ref (gK G 4 0)), (1, .int (nI (cq))), (2, .int (nI (dq))), (3, .int (nI (eq))), (4, .int z_), (5, .int (shRefI h_ (nI dq))), (6, .int (nI (shN h_ dq))), (7, .int 0), (8, .int 0)] [4, 5, 6, 7, 8, 3, 2, 1, 0] rfl ?_
          exact lp58 ((shN h_ dq - 0) + 1) 0 T5 V (Nat.zero_le _) (up3_e hT5) (fun j_ hj => absurd hj (Nat.not_lt_zero j_)) (Nat.lt_succ_self _)
        ·
          refine m_iload 0 rfl dX12_day_36 ?_
          exact m_iret dX12_day_38 (Nat.le_refl _) (Nat.le_refl _) (⟨by unfold dayI; rw [if_pos ⟨hcc, hDeq⟩, if_neg c4_], _, _, _, rfl, by unfold dayH; rw [if_neg (by rw [show dayB a_ h_ (nI (cq)) x_ (nI (eq)) = false from by unfold dayB; rw [decide_eq_false c4_, Bool.and_false, Bool.and_false]]; decide)]; exact hM⟩)
      ·
        refine m_iconst (-1) dX12_day_22 rfl ?_
        exact m_iret dX12_day_23 (Nat.le_refl _) (Nat.le_refl _) (⟨by unfold dayI; rw [if_neg (fun q_ => absurd q_.2 (by rw [c3_]; decide))], _, _, _, rfl, by unfold dayH; rw [if_neg (by rw [show dayB a_ h_ (nI (cq)) x_ y_ = false from by unfold dayB; rw [c3_, Bool.false_and, Bool.and_false]]; decide)]; exact hM⟩)
