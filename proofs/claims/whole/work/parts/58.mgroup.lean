set_option maxRecDepth 100000 in
set_option maxHeartbeats 4000000 in
theorem k_m_group (l : Launch) (G : owG) {A S Z B T V : owF} {J : Nat → Nat → Int64} {Y : Nat → Nat → Nat → Option Nat} {P : Nat → Option owW} (a_ : owK) (ho_ : aOk a_) (im : Option owK) (h_ : owH) (hM : MR B a_ im h_) (x_ : Int32) : Ct l G yX12_group cX12_group 7 ((some .int)) 4 0 0 [.ref (gK G 4 0), .int x_] (A, S, Z, B, T, V, J, Y, P) (qI (fun r_ σ => r_ = groupI a_ h_ x_ ∧ ∃ (B2 T2 V2 : owF), σ = (A, S, Z, B2, T2, V2, J, Y, P) ∧ MR B2 (groupA a_ h_ x_) (im) (h_))) := by
  refine ct_of (by decide +kernel) (Nat.le_of_ble_eq_true rfl) ?_
  have h10 := ho_.1
  have h8_ := ho_.2.1
  have hX := hM.1
  show Wm l G cX12_group 7 RX12 ((some .int)) (rmk 4 0 0) (fun _ => True) (QfM G (qI (fun r_ σ => r_ = groupI a_ h_ x_ ∧ ∃ (B2 T2 V2 : owF), σ = (A, S, Z, B2, T2, V2, J, Y, P) ∧ MR B2 (groupA a_ h_ x_) (im) (h_))) 0 0) 0 [(0, .ref (gK G 4 0)), (1, .int x_)] [] (A, S, Z, B, T, V, J, Y, P) 0 0
  refine m_aload_n 0 rfl rfl dX12_group_0 ?_
  refine m_iload_n 1 rfl rfl dX12_group_1 ?_
  refine m_iconst 0 dX12_group_2 rfl ?_
  refine m_callVi cv_X12_104 [.int x_, .int 0] [] (k_m_wrongRow l G a_ ho_ im h_ hM x_ 0 (by omega)) (by decide) (ce_4 G _ _ _ _ _ _ _ _ _ _) rfl rfl rfl ⟨Nat.le_of_ble_eq_true rfl, Nat.le_of_ble_eq_true rfl⟩ (Nat.le_of_ble_eq_true rfl) ⟨Nat.zero_le _, Nat.zero_le _⟩ dX12_group_3 (fun xx σ2 hq => ?_)
  obtain ⟨rfl, rfl⟩ := hq
  refine m_istore_n [(2, .int (wrI h_ x_ 0)), (0, .ref (gK G 4 0)), (1, .int x_)] rfl (by decide) rfl dX12_group_6 ?_
  refine m_iload_n 0 rfl rfl dX12_group_7 ?_
  refine m_if_eq 13 dX12_group_8 (by decide) (fun c1_ => ?_) (fun c1_ => ?_)
  ·
    have hw0 := c1_
    obtain ⟨dq, hdq, rfl, hk2, hso0, hDx⟩ := wrI_0 c1_
    have hcldq : (nI dq).toNatClampNeg = dq := nI_clamp (by omega)
    have hm2 := (hM.2.2.2 dq hdq).2.2.1 hk2
    have hn100 := hm2.2.2.2.1
    have hsr0 : sortRef h_ dq 0 = 0 := by unfold sortRef; rw [if_neg (by omega), if_pos ⟨hk2, hso0⟩]
    refine m_aload_n 1 rfl rfl dX12_group_13 ?_
    refine m_bipush (100) dX12_group_14 rfl ?_
    refine m_iload_n 2 rfl rfl dX12_group_16 ?_
    refine m_imul dX12_group_17 ?_
    refine m_topi (show 100 * (nI (dq)) = nI (100 * dq) from pk_mul _ _) ?_
    refine pf_X12_76 dX12_group_18 (fun T2 hT2 => ?_)
    refine m_aload_n 1 rfl rfl dX12_group_21 ?_
    refine m_aload_n 1 rfl rfl dX12_group_22 ?_
    refine gf_X12_25 dX12_group_23 ?_
    refine m_iload_n 2 rfl rfl dX12_group_26 ?_
    refine al_45 dq rfl (by omega) dX12_group_27 ?_
    refine m_topi hm2.2.2.1 ?_
    refine pf_X12_73 dX12_group_28 (fun T3 hT3 => ?_)
    refine m_aload_n 1 rfl rfl dX12_group_31 ?_
    refine m_iconst 0 dX12_group_32 rfl ?_
    refine pf_X12_70 dX12_group_33 (fun T4 hT4 => ?_)
    refine m_iconst 0 dX12_group_36 rfl ?_
    refine m_istore_n [(3, .int 0), (2, .int (wrI h_ (nI dq) 0)), (0, .ref (gK G 4 0)), (1, .int (nI (dq)))] rfl (by decide) rfl dX12_group_37 ?_
    have lp38 : ∀ (dd : Nat) (p_ : Nat) (c_ : Nat) (T9 : owF), p_ ≤ hN h_ dq → 4 * c_ ≤ p_ → T9 4 0 11 = nI p_ → T9 4 0 12 = nI (100 * dq) → T9 4 0 13 = nI (hN h_ dq) → p1R h_ dq (101 - c_) p_ c_ = p1R h_ dq 101 0 0 → 101 - c_ < dd → Wm l G cX12_group 7 RX12 ((some .int)) (rmk 4 0 0) (fun _ => True) (QfM G (qI (fun r_ σ => r_ = groupI a_ h_ (nI dq) ∧ ∃ (B2 T2 V2 : owF), σ = (A, S, Z, B2, T2, V2, J, Y, P) ∧ MR B2 (groupA a_ h_ (nI dq)) (im) (h_))) 0 0) 38 [(0, .ref (gK G 4 0)), (1, .int (nI (dq))), (2, .int (wrI h_ (nI dq) 0)), (3, .int (nI (c_)))] [] (A, S, Z, B, T9, V, J, Y, P) 0 0 := by
      intro dd
      induction dd with
      | zero => intro p_ c_ T9 hp hcp4 hpos hbase hend h1_ hdd; exact absurd hdd (Nat.not_lt_zero _)
      | succ dd ih38 =>
        intro p_ c_ T9 hp hcp4 hpos hbase hend h1_ hdd38
        refine m_aload_n 0 rfl rfl dX12_group_38 ?_
        refine m_callVi cv_X12_108 [] [] (k_m_readsStatement l G a_ ho_ im h_ hM dq hk2 hdq p_ hp hpos hbase hend) (by decide) (ce_4 G _ _ _ _ _ _ _ _ _ _) rfl rfl rfl ⟨Nat.le_of_ble_eq_true rfl, Nat.le_of_ble_eq_true rfl⟩ (Nat.le_of_ble_eq_true rfl) ⟨Nat.zero_le _, Nat.zero_le _⟩ dX12_group_39 (fun xx σ2 hq => ?_)
        obtain ⟨rfl, T5, rfl, hsT50, hsT51, hsT52, hsT53, hsT54⟩ := hq
        refine m_ifne_b 54 dX12_group_42 (by decide) (fun c6_ => ?_) (fun c6_ => ?_)
        ·
          have hst := c6_
          have hy_ := stS_y hst
          have hR := p1R_s (by omega) h1_
          rw [hst, if_pos rfl] at hR
          refine m_iinc (nI (c_ + 1)) 3 [(3, .int (nI (c_ + 1))), (0, .ref (gK G 4 0)), (1, .int (nI (dq))), (2, .int (wrI h_ (nI dq) 0))] rfl (nI_1 _) (by decide) rfl dX12_group_54 ?_
          refine m_aload_n 1 rfl rfl dX12_group_57 ?_
          refine gf_X12_70 dX12_group_58 ?_
          refine m_topi hsT50 ?_
          refine m_aload_n 1 rfl rfl dX12_group_61 ?_
          refine gf_X12_73 dX12_group_62 ?_
          refine m_topi hsT52 ?_
          refine m_icmpn_lt ((stS h_ dq p_).2) (hN h_ dq) 38 (by omega) (by omega) dX12_group_65 (by decide) (fun c7_ => ?_) (fun c7_ => ?_)
          ·
            rw [if_pos c7_] at hR
            refine m_lv [(0, .ref (gK G 4 0)), (1, .int (nI (dq))), (2, .int (wrI h_ (nI dq) 0)), (3, .int (nI (c_ + 1)))] [1, 2, 3, 0] rfl ?_
            exact ih38 ((stS h_ dq p_).2) (c_ + 1) T5 (by omega) (by omega) hsT50 hsT51 hsT52 hR (by omega)
          ·
            rw [if_neg (Nat.not_lt.mpr c7_)] at hR
            have hR2 : p1R h_ dq 101 0 0 = (true, c_ + 1) := hR.symm
            have hcn : c_ + 1 ≤ 100 := by omega
            refine m_iconst 0 dX12_group_68 rfl ?_
            refine m_istore [(4, .int 0), (3, .int (nI (c_ + 1))), (0, .ref (gK G 4 0)), (1, .int (nI (dq))), (2, .int (wrI h_ (nI dq) 0))] (by decide) rfl dX12_group_69 ?_
            have lp71 : ∀ (dd : Nat) (k_ : Nat) (T8 : owF), k_ ≤ 156 → (∀ j_, T8 4 0 j_ = T5 4 0 j_) → (∀ j_, j_ < k_ → T8 42 0 j_ = B 40 0 j_) → 156 - k_ < dd → Wm l G cX12_group 7 RX12 ((some .int)) (rmk 4 0 0) (fun _ => True) (QfM G (qI (fun r_ σ => r_ = groupI a_ h_ (nI dq) ∧ ∃ (B2 T2 V2 : owF), σ = (A, S, Z, B2, T2, V2, J, Y, P) ∧ MR B2 (groupA a_ h_ (nI dq)) (im) (h_))) 0 0) 71 [(0, .ref (gK G 4 0)), (1, .int (nI (dq))), (2, .int (wrI h_ (nI dq) 0)), (3, .int (nI (c_ + 1))), (4, .int (nI (k_)))] [] (A, S, Z, B, T8, V, J, Y, P) 0 0 := by
              intro dd
              induction dd with
              | zero => intro k_ T8 hk_ hf4 hcp hdd; exact absurd hdd (Nat.not_lt_zero _)
              | succ dd ih71 =>
                intro k_ T8 hk_ hf4 hcp hdd71
                refine m_iload 4 rfl dX12_group_71 ?_
                refine m_sipush (156) dX12_group_73 rfl ?_
                refine m_icmpn_ge k_ 156 99 (by omega) (by decide) dX12_group_76 (by decide) (fun c8_ => ?_) (fun c8_ => ?_)
                ·
                  obtain rfl : k_ = 156 := (by omega)
                  refine m_aload_n 0 rfl rfl dX12_group_99 ?_
                  refine m_iconst 0 dX12_group_100 rfl ?_
                  refine pf_X12_70 dX12_group_101 (fun T9 hT9 => ?_)
                  have lp104 : ∀ (dd : Nat) (p2 : Nat) (c2_ : Nat) (b_ : owK) (T7 : owF), p2 ≤ hN h_ dq → 4 * c2_ ≤ p2 → aOk b_ → T7 4 0 11 = nI p2 → T7 4 0 12 = nI (100 * dq) → T7 4 0 13 = nI (hN h_ dq) → MX (T7 42 0) b_ → (p2 < hN h_ dq → p1R h_ dq (101 - c2_) p2 c2_ = p1R h_ dq 101 0 0) → p2R h_ dq (101 - c2_) p2 b_ = p2R h_ dq 101 0 a_ → 101 - c2_ < dd → Wm l G cX12_group 7 RX12 ((some .int)) (rmk 4 0 0) (fun _ => True) (QfM G (qI (fun r_ σ => r_ = groupI a_ h_ (nI dq) ∧ ∃ (B2 T2 V2 : owF), σ = (A, S, Z, B2, T2, V2, J, Y, P) ∧ MR B2 (groupA a_ h_ (nI dq)) (im) (h_))) 0 0) 104 [(0, .ref (gK G 4 0)), (1, .int (nI (dq))), (2, .int (wrI h_ (nI dq) 0)), (3, .int (nI (c_ + 1)))] [] (A, S, Z, B, T7, V, J, Y, P) 0 0 := by
                    intro dd
                    induction dd with
                    | zero => intro p2 c2_ b_ T7 hp2 hcp42 hob hpos2 hbase2 hend2 hXb h12 h22 hdd; exact absurd hdd (Nat.not_lt_zero _)
                    | succ dd ih104 =>
                      intro p2 c2_ b_ T7 hp2 hcp42 hob hpos2 hbase2 hend2 hXb h12 h22 hdd104
                      refine m_aload_n 0 rfl rfl dX12_group_104 ?_
                      refine gf_X12_70 dX12_group_105 ?_
                      refine m_topi hpos2 ?_
                      refine m_aload_n 0 rfl rfl dX12_group_108 ?_
                      refine gf_X12_73 dX12_group_109 ?_
                      refine m_topi hend2 ?_
                      refine m_icmpn_ge p2 (hN h_ dq) 152 (by omega) (by omega) dX12_group_112 (by decide) (fun c10_ => ?_) (fun c10_ => ?_)
                      ·
                        have hge : hN h_ dq ≤ p2 := c10_
                        have hR8 := p2R_s (by omega) h22
                        rw [if_neg (Nat.not_lt.mpr hge)] at hR8
                        have hR7 : p2R h_ dq 101 0 a_ = (none, b_) := hR8.symm
                        refine m_iconst 0 dX12_group_152 rfl ?_
                        refine m_istore [(4, .int 0), (0, .ref (gK G 4 0)), (1, .int (nI (dq))), (2, .int (wrI h_ (nI dq) 0)), (3, .int (nI (c_ + 1)))] (by decide) rfl dX12_group_153 ?_
                        have lp155 : ∀ (dd : Nat) (u_ : Nat) (B8 : owF), u_ ≤ 156 → (∀ t_ j_, t_ ≠ 40 → B8 t_ 0 j_ = B t_ 0 j_) → (∀ j_, j_ < u_ → B8 40 0 j_ = T7 42 0 j_) → 156 - u_ < dd → Wm l G cX12_group 7 RX12 ((some .int)) (rmk 4 0 0) (fun _ => True) (QfM G (qI (fun r_ σ => r_ = groupI a_ h_ (nI dq) ∧ ∃ (B2 T2 V2 : owF), σ = (A, S, Z, B2, T2, V2, J, Y, P) ∧ MR B2 (groupA a_ h_ (nI dq)) (im) (h_))) 0 0) 155 [(0, .ref (gK G 4 0)), (1, .int (nI (dq))), (2, .int (wrI h_ (nI dq) 0)), (3, .int (nI (c_ + 1))), (4, .int (nI (u_)))] [] (A, S, Z, B8, T7, V, J, Y, P) 0 0 := by
                          intro dd
                          induction dd with
                          | zero => intro u_ B8 hu hfr hcq hdd; exact absurd hdd (Nat.not_lt_zero _)
                          | succ dd ih155 =>
                            intro u_ B8 hu hfr hcq hdd155
                            refine m_iload 4 rfl dX12_group_155 ?_
                            refine m_sipush (156) dX12_group_157 rfl ?_
                            refine m_icmpn_ge u_ 156 183 (by omega) (by decide) dX12_group_160 (by decide) (fun c11_ => ?_) (fun c11_ => ?_)
                            ·
                              refine m_iload_n 3 rfl rfl dX12_group_183 ?_
                              exact m_iret dX12_group_184 (Nat.le_refl _) (Nat.le_refl _) ((by obtain rfl : u_ = 156 := (by omega); exact ⟨by unfold groupI; rw [if_pos hDx, hcldq, if_pos hsr0]; unfold gpI; rw [hR2, hR7]; rfl, _, _, _, rfl, by unfold groupA; rw [if_pos (show groupB a_ h_ (nI dq) = true from by unfold groupB gpA; rw [hDx, hcldq, hR2, hR7, decide_eq_true hsr0]; rfl), hcldq, hR7]; exact hM.st hfr (MX.cong hob hXb (fun j_ hj => hcq j_ hj))⟩))
                            ·
                              refine m_aload_n 0 rfl rfl dX12_group_163 ?_
                              refine gf_X12_9 dX12_group_164 ?_
                              refine m_iload 4 rfl dX12_group_167 ?_
                              refine m_aload_n 0 rfl rfl dX12_group_169 ?_
                              refine gf_X12_16 dX12_group_170 ?_
                              refine m_iload 4 rfl dX12_group_173 ?_
                              refine al_42 u_ rfl (by omega) dX12_group_175 ?_
                              refine as_40 u_ rfl (by omega) dX12_group_176 (fun B12 hB12 => ?_)
                              refine m_iinc (nI (u_ + 1)) 4 [(4, .int (nI (u_ + 1))), (0, .ref (gK G 4 0)), (1, .int (nI (dq))), (2, .int (wrI h_ (nI dq) 0)), (3, .int (nI (c_ + 1)))] rfl (nI_1 _) (by decide) rfl dX12_group_177 ?_
                              refine m_goto 155 dX12_group_180 (by decide) ?_
                              refine m_lv [(0, .ref (gK G 4 0)), (1, .int (nI (dq))), (2, .int (wrI h_ (nI dq) 0)), (3, .int (nI (c_ + 1))), (4, .int (nI (u_ + 1)))] [1, 2, 3, 4, 0] rfl ?_
                              exact ih155 (u_ + 1) B12 (by omega) (fun t_ j_ ht => (up3_o hB12 t_ 0 j_ (fun z_ => ht z_.1)).trans (hfr t_ j_ ht)) (fun j_ hj => by rcases Nat.lt_or_ge j_ u_ with q_ | q_; exact up3_j hB12 (by omega) (hcq j_ q_); obtain rfl : u_ = j_ := (by omega); exact up3_e hB12) (by omega)
                        refine m_lv [(0, .ref (gK G 4 0)), (1, .int (nI (dq))), (2, .int (wrI h_ (nI dq) 0)), (3, .int (nI (c_ + 1))), (4, .int 0)] [1, 2, 3, 4, 0] rfl ?_
                        exact lp155 ((156 - 0) + 1) 0 B (Nat.zero_le _) (fun _ _ _ => rfl) (fun j_ hj => absurd hj (Nat.not_lt_zero j_)) (Nat.lt_succ_self _)
                      ·
                        have hlt : p2 < hN h_ dq := c10_
                        have hR9 := p1R_s (by omega) ((h12 hlt).trans hR2)
                        have hst : (stS h_ dq p2).1 = true := by cases hz : (stS h_ dq p2).1 with | true => rfl | false => rw [hz] at hR9; exact absurd (show false = true from congrArg Prod.fst hR9) (by decide)
                        have hy_ := stS_y hst
                        rw [hst, if_pos rfl] at hR9
                        have hR8 := p2R_s (by omega) h22
                        rw [if_pos hlt] at hR8
                        refine m_aload_n 0 rfl rfl dX12_group_115 ?_
                        refine gf_X12_70 dX12_group_116 ?_
                        refine m_topi hpos2 ?_
                        refine m_istore [(4, .int (nI (p2))), (0, .ref (gK G 4 0)), (1, .int (nI (dq))), (2, .int (wrI h_ (nI dq) 0)), (3, .int (nI (c_ + 1)))] (by decide) rfl dX12_group_119 ?_
                        refine m_aload_n 1 rfl rfl dX12_group_121 ?_
                        refine m_callVi cv_X12_79 [] [] (k_m_here l G a_ ho_ im h_ hM dq hk2 hdq p2 hp2 hpos2 hbase2 hend2) (by decide) (ce_4 G _ _ _ _ _ _ _ _ _ _) rfl rfl rfl ⟨Nat.le_of_ble_eq_true rfl, Nat.le_of_ble_eq_true rfl⟩ (Nat.le_of_ble_eq_true rfl) ⟨Nat.zero_le _, Nat.zero_le _⟩ dX12_group_122 (fun xx σ2 hq => ?_)
                        obtain ⟨hgx, rfl⟩ := hq
                        obtain rfl := hgx.trans ((if_pos hlt).trans (show hE h_ dq p2 = sgI h_ dq p2 from (if_pos hlt).symm))
                        refine m_istore [(5, .int (sgI h_ dq p2)), (4, .int (nI (p2))), (0, .ref (gK G 4 0)), (1, .int (nI (dq))), (2, .int (wrI h_ (nI dq) 0)), (3, .int (nI (c_ + 1)))] (by decide) rfl dX12_group_125 ?_
                        refine m_aload_n 2 rfl rfl dX12_group_127 ?_
                        refine m_callVi cv_X12_108 [] [] (k_m_readsStatement l G a_ ho_ im h_ hM dq hk2 hdq p2 hp2 hpos2 hbase2 hend2) (by decide) (ce_4 G _ _ _ _ _ _ _ _ _ _) rfl rfl rfl ⟨Nat.le_of_ble_eq_true rfl, Nat.le_of_ble_eq_true rfl⟩ (Nat.le_of_ble_eq_true rfl) ⟨Nat.zero_le _, Nat.zero_le _⟩ dX12_group_128 (fun xx σ2 hq => ?_)
                        obtain ⟨rfl, T13, rfl, hsT130, hsT131, hsT132, hsT133, hsT134⟩ := hq
                        refine m_istore [(6, .int (bI ((stS h_ dq p2).1))), (5, .int (sgI h_ dq p2)), (4, .int (nI (p2))), (0, .ref (gK G 4 0)), (1, .int (nI (dq))), (2, .int (wrI h_ (nI dq) 0)), (3, .int (nI (c_ + 1)))] (by decide) rfl dX12_group_131 ?_
                        refine m_aload_n 3 rfl rfl dX12_group_133 ?_
                        refine m_iload 1 rfl dX12_group_134 ?_
                        refine m_callVi cv_X12_111 [.int (sgI h_ dq p2)] [] (k_m_tells l G h_ dq p2 b_ hob (MX.cong hob hXb (fun j_ _ => hsT133 j_)) hst (hsT134 hst).1 (hsT134 hst).2.1 (hsT134 hst).2.2) (by decide) (ce_4 G _ _ _ _ _ _ _ _ _ _) rfl rfl rfl ⟨Nat.le_of_ble_eq_true rfl, Nat.le_of_ble_eq_true rfl⟩ (Nat.le_of_ble_eq_true rfl) ⟨Nat.zero_le _, Nat.zero_le _⟩ dX12_group_136 (fun xx σ2 hq => ?_)
                        obtain ⟨rfl, T14, rfl, ht4, htX⟩ := hq
                        refine m_ifne_b 149 dX12_group_139 (by decide) (fun c15_ => ?_) (fun c15_ => ?_)
                        ·
                          have htf := c15_
                          rw [htf] at hR8 htX
                          rw [if_pos rfl] at hR8 htX
                          refine m_goto 104 dX12_group_149 (by decide) ?_
                          refine m_lv [(0, .ref (gK G 4 0)), (1, .int (nI (dq))), (2, .int (wrI h_ (nI dq) 0)), (3, .int (nI (c_ + 1)))] [3, 4, 5, 6] rfl ?_
                          exact ih104 ((stS h_ dq p2).2) (c2_ + 1) (tfA h_ dq p2 b_) T14 (by omega) (by omega) (tfA_ok hob hst htf) ((ht4 11).trans hsT130) ((ht4 12).trans hsT131) ((ht4 13).trans hsT132) htX (fun z_ => by rw [if_pos z_] at hR9; exact hR9.trans hR2.symm) hR8 (by omega)
                        ·
                          have htf := c15_
                          rw [htf] at hR8 htX
                          have hR7 : p2R h_ dq 101 0 a_ = (some p2, b_) := hR8.symm
                          refine m_sipush (-2000) dX12_group_142 rfl ?_
                          refine m_iload 2 rfl dX12_group_145 ?_
                          refine m_isub dX12_group_147 ?_
                          exact m_iret dX12_group_148 (Nat.le_refl _) (Nat.le_refl _) (⟨by unfold groupI; rw [if_pos hDx, hcldq, if_pos hsr0]; unfold gpI; rw [hR2, hR7]; rfl, _, _, _, rfl, by unfold groupA; rw [if_neg (by rw [show groupB a_ h_ (nI dq) = false from by unfold groupB gpA; rw [hcldq, hR2, hR7]; simp]; decide)]; exact hM⟩)
                  refine m_lv [(0, .ref (gK G 4 0)), (1, .int (nI (dq))), (2, .int (wrI h_ (nI dq) 0)), (3, .int (nI (c_ + 1)))] [0, 1, 2, 3] rfl ?_
                  exact lp104 ((101 - 0) + 1) 0 0 a_ T9 (Nat.zero_le _) (Nat.zero_le _) ho_ (up3_e hT9) ((up3_o hT9 4 0 12 (by decide)).trans ((hf4 12).trans hsT51)) ((up3_o hT9 4 0 13 (by decide)).trans ((hf4 13).trans hsT52)) (MX.cong ho_ hX (fun j_ hj => (up3_o hT9 42 0 j_ (fun z_ => absurd z_.1 (by decide))).trans (hcp j_ hj))) (fun _ => rfl) rfl (Nat.lt_succ_self _)
                ·
                  refine m_aload_n 0 rfl rfl dX12_group_79 ?_
                  refine gf_X12_16 dX12_group_80 ?_
                  refine m_iload 4 rfl dX12_group_83 ?_
                  refine m_aload_n 0 rfl rfl dX12_group_85 ?_
                  refine gf_X12_9 dX12_group_86 ?_
                  refine m_iload 4 rfl dX12_group_89 ?_
                  refine al_40 k_ rfl (by omega) dX12_group_91 ?_
                  refine as_42 k_ rfl (by omega) dX12_group_92 (fun T16 hT16 => ?_)
                  refine m_iinc (nI (k_ + 1)) 4 [(4, .int (nI (k_ + 1))), (0, .ref (gK G 4 0)), (1, .int (nI (dq))), (2, .int (wrI h_ (nI dq) 0)), (3, .int (nI (c_ + 1)))] rfl (nI_1 _) (by decide) rfl dX12_group_93 ?_
                  refine m_goto 71 dX12_group_96 (by decide) ?_
                  refine m_lv [(0, .ref (gK G 4 0)), (1, .int (nI (dq))), (2, .int (wrI h_ (nI dq) 0)), (3, .int (nI (c_ + 1))), (4, .int (nI (k_ + 1)))] [1, 2, 3, 4, 0] rfl ?_
                  exact ih71 (k_ + 1) T16 (by omega) (fun j_ => (up3_o hT16 4 0 j_ (fun z_ => absurd z_.1 (by decide))).trans (hf4 j_)) (fun j_ hj => by rcases Nat.lt_or_ge j_ k_ with q_ | q_; exact up3_j hT16 (by omega) (hcp j_ q_); obtain rfl : k_ = j_ := (by omega); exact up3_e hT16) (by omega)
            refine m_lv [(0, .ref (gK G 4 0)), (1, .int (nI (dq))), (2, .int (wrI h_ (nI dq) 0)), (3, .int (nI (c_ + 1))), (4, .int 0)] [2, 3, 4, 1, 0] rfl ?_
            exact lp71 ((156 - 0) + 1) 0 T5 (Nat.zero_le _) (fun _ => rfl) (fun j_ hj => absurd hj (Nat.not_lt_zero j_)) (Nat.lt_succ_self _)
        ·
          have hR := p1R_s (by omega) h1_
          rw [c6_] at hR
          have hR2 : p1R h_ dq 101 0 0 = (false, (stS h_ dq p_).2) := hR.symm
          have hpl := stS_le (h := h_) (d := dq) hp
          refine m_sipush (-1000) dX12_group_45 rfl ?_
          refine m_aload_n 0 rfl rfl dX12_group_48 ?_
          refine gf_X12_70 dX12_group_49 ?_
          refine m_topi hsT50 ?_
          refine m_isub dX12_group_52 ?_
          exact m_iret dX12_group_53 (Nat.le_refl _) (Nat.le_refl _) (⟨by unfold groupI; rw [if_pos hDx, hcldq, if_pos hsr0]; unfold gpI; rw [hR2]; rfl, _, _, _, rfl, by unfold groupA; rw [if_neg (by rw [show groupB a_ h_ (nI dq) = false from by unfold groupB gpA; rw [hcldq, hR2]; simp]; decide)]; exact hM⟩)
    refine m_lv [(0, .ref (gK G 4 0)), (1, .int (nI (dq))), (2, .int (wrI h_ (nI dq) 0)), (3, .int 0)] [2, 3, 1, 0] rfl ?_
    exact lp38 ((101 - 0) + 1) 0 0 T4 (Nat.zero_le _) (Nat.zero_le _) (up3_e hT4) (up3_j hT4 (by decide) (up3_j hT3 (by decide) (up3_e hT2))) (up3_j hT4 (by decide) (up3_e hT3)) rfl (Nat.lt_succ_self _)
  ·
    refine m_iload_n 0 rfl rfl dX12_group_11 ?_
    exact m_iret dX12_group_12 (Nat.le_refl _) (Nat.le_refl _) (⟨by have hz := c1_; unfold groupI; unfold wrI at hz ⊢; split <;> simp_all, _, _, _, rfl, by unfold groupA; rw [if_neg (by have hz := c1_; unfold wrI at hz; unfold groupB; split at hz <;> simp_all)]; exact hM⟩)
