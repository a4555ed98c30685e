set_option maxRecDepth 100000 in
set_option maxHeartbeats 4000000 in
theorem k_m_findsParted (l : Launch) (G : owG) {A S Z B T V : owF} {J : Nat → Nat → Int64} {Y : Nat → Nat → Nat → Option Nat} {P : Nat → Option owW} (a_ : owK) (ho_ : aOk a_) (im : Option owK) (h_ : owH) (hM : MR B a_ im h_) (d_ : Nat) (hd_ : d_ < 8) (hsr : shRef h_ d_ = 0)  : Ct l G yX12_findsParted cX12_findsParted 6 ((none : Option Jvm.ClassFile.FieldType)) 4 0 0 [.ref (gK G 4 0), .int (nI (d_))] (A, S, Z, B, T, V, J, Y, P) (qV (fun σ => ∃ (T2 V2 : owF), σ = (A, S, Z, B, T2, V2, J, Y, P) ∧ (∀ v_, v_ < aN a_ → ∀ w_, w_ < aN a_ → T2 53 0 (10 * v_ + w_) = nI (pdN a_ (shX h_ d_) (shY h_ d_) (shN h_ d_) v_ w_)))) := by
  refine ct_of (by decide +kernel) (Nat.le_of_ble_eq_true rfl) ?_
  have h10 := ho_.1
  have h8_ := ho_.2.1
  have hX := hM.1
  obtain ⟨hk2, hso2, hev, h24, hsm⟩ := shRef_ok hsr
  have hms := hM.2.2.2 d_ hd_
  have hm2 := hms.2.2.1 hk2
  have hs2 := hm2.2.1
  have hn100 := hm2.2.2.2.1
  have hsn : shN h_ d_ = hN h_ d_ / 2 := rfl
  have hn12 : shN h_ d_ ≤ 12 := (by omega)
  show Wm l G cX12_findsParted 6 RX12 ((none : Option Jvm.ClassFile.FieldType)) (rmk 4 0 0) (fun _ => True) (QfM G (qV (fun σ => ∃ (T2 V2 : owF), σ = (A, S, Z, B, T2, V2, J, Y, P) ∧ (∀ v_, v_ < aN a_ → ∀ w_, w_ < aN a_ → T2 53 0 (10 * v_ + w_) = nI (pdN a_ (shX h_ d_) (shY h_ d_) (shN h_ d_) v_ w_)))) 0 0) 0 [(0, .ref (gK G 4 0)), (1, .int (nI (d_)))] [] (A, S, Z, B, T, V, J, Y, P) 0 0
  refine m_iconst 0 dX12_findsParted_0 rfl ?_
  refine m_istore_n [(2, .int 0), (0, .ref (gK G 4 0)), (1, .int (nI (d_)))] rfl (by decide) rfl dX12_findsParted_1 ?_
  have lp2 : ∀ (dd : Nat) (v_ : Nat) (T9 : owF) (V9 : owF), v_ ≤ aN a_ → (∀ v2, v2 < v_ → ∀ w_, w_ < aN a_ → T9 53 0 (10 * v2 + w_) = nI (pdN a_ (shX h_ d_) (shY h_ d_) (shN h_ d_) v2 w_)) → aN a_ - v_ < dd → Wm l G cX12_findsParted 6 RX12 ((none : Option Jvm.ClassFile.FieldType)) (rmk 4 0 0) (fun _ => True) (QfM G (qV (fun σ => ∃ (T2 V2 : owF), σ = (A, S, Z, B, T2, V2, J, Y, P) ∧ (∀ v_, v_ < aN a_ → ∀ w_, w_ < aN a_ → T2 53 0 (10 * v_ + w_) = nI (pdN a_ (shX h_ d_) (shY h_ d_) (shN h_ d_) v_ w_)))) 0 0) 2 [(0, .ref (gK G 4 0)), (1, .int (nI (d_))), (2, .int (nI (v_)))] [] (A, S, Z, B, T9, V9, J, Y, P) 0 0 := by
    intro dd
    induction dd with
    | zero => intro v_ T9 V9 hv_ hfp hdd; exact absurd hdd (Nat.not_lt_zero _)
    | succ dd ih2 =>
      intro v_ T9 V9 hv_ hfp hdd2
      refine m_iload_n 2 rfl rfl dX12_findsParted_2 ?_
      refine m_aload_n 0 rfl rfl dX12_findsParted_3 ?_
      refine gf_X12_9 dX12_findsParted_4 ?_
      refine m_iconst 0 dX12_findsParted_7 rfl ?_
      refine al_40 0 rfl (by omega) dX12_findsParted_8 ?_
      refine m_topi hX.1 ?_
      refine m_icmpn_ge v_ (aN a_) 125 (by omega) (by omega) dX12_findsParted_9 (by decide) (fun c1_ => ?_) (fun c1_ => ?_)
      ·
        exact m_vret dX12_findsParted_125 (Nat.le_refl _) (Nat.le_refl _) ((by obtain rfl : v_ = aN a_ := (by omega); exact ⟨T9, V9, rfl, hfp⟩))
      ·
        refine m_iconst 0 dX12_findsParted_12 rfl ?_
        refine m_istore_n [(3, .int 0), (0, .ref (gK G 4 0)), (1, .int (nI (d_))), (2, .int (nI (v_)))] rfl (by decide) rfl dX12_findsParted_13 ?_
        have lp14 : ∀ (dd : Nat) (w_ : Nat) (T8 : owF) (V8 : owF), w_ ≤ aN a_ → (∀ v2, v2 < v_ → ∀ w_, w_ < aN a_ → T8 53 0 (10 * v2 + w_) = nI (pdN a_ (shX h_ d_) (shY h_ d_) (shN h_ d_) v2 w_)) → (∀ w2, w2 < w_ → T8 53 0 (10 * v_ + w2) = nI (pdN a_ (shX h_ d_) (shY h_ d_) (shN h_ d_) v_ w2)) → aN a_ - w_ < dd → Wm l G cX12_findsParted 6 RX12 ((none : Option Jvm.ClassFile.FieldType)) (rmk 4 0 0) (fun _ => True) (QfM G (qV (fun σ => ∃ (T2 V2 : owF), σ = (A, S, Z, B, T2, V2, J, Y, P) ∧ (∀ v_, v_ < aN a_ → ∀ w_, w_ < aN a_ → T2 53 0 (10 * v_ + w_) = nI (pdN a_ (shX h_ d_) (shY h_ d_) (shN h_ d_) v_ w_)))) 0 0) 14 [(0, .ref (gK G 4 0)), (1, .int (nI (d_))), (2, .int (nI (v_))), (3, .int (nI (w_)))] [] (A, S, Z, B, T8, V8, J, Y, P) 0 0 := by
          intro dd
          induction dd with
          | zero => intro w_ T8 V8 hw_ hfp hrw hdd; exact absurd hdd (Nat.not_lt_zero _)
          | succ dd ih14 =>
            intro w_ T8 V8 hw_ hfp hrw hdd14
            refine m_iload_n 3 rfl rfl dX12_findsParted_14 ?_
            refine m_aload_n 0 rfl rfl dX12_findsParted_15 ?_
            refine gf_X12_9 dX12_findsParted_16 ?_
            refine m_iconst 0 dX12_findsParted_19 rfl ?_
            refine al_40 0 rfl (by omega) dX12_findsParted_20 ?_
            refine m_topi hX.1 ?_
            refine m_icmpn_ge w_ (aN a_) 119 (by omega) (by omega) dX12_findsParted_21 (by decide) (fun c2_ => ?_) (fun c2_ => ?_)
            ·
              refine m_iinc (nI (v_ + 1)) 2 [(2, .int (nI (v_ + 1))), (0, .ref (gK G 4 0)), (1, .int (nI (d_))), (3, .int (nI (w_)))] rfl (nI_1 _) (by decide) rfl dX12_findsParted_119 ?_
              refine m_goto 2 dX12_findsParted_122 (by decide) ?_
              refine m_lv [(0, .ref (gK G 4 0)), (1, .int (nI (d_))), (2, .int (nI (v_ + 1)))] [1, 2, 0] rfl ?_
              exact ih2 (v_ + 1) T8 V8 (by omega) (fun v2 hv2 w2 hw2 => by rcases Nat.lt_or_ge v2 v_ with z_ | z_; exact hfp v2 z_ w2 hw2; obtain rfl : v_ = v2 := (by omega); exact hrw w2 (by omega)) (by omega)
            ·
              refine m_iconst 0 dX12_findsParted_24 rfl ?_
              refine m_istore [(4, .int 0), (0, .ref (gK G 4 0)), (1, .int (nI (d_))), (2, .int (nI (v_))), (3, .int (nI (w_)))] (by decide) rfl dX12_findsParted_25 ?_
              refine m_iconst 0 dX12_findsParted_27 rfl ?_
              refine m_istore [(5, .int 0), (4, .int 0), (0, .ref (gK G 4 0)), (1, .int (nI (d_))), (2, .int (nI (v_))), (3, .int (nI (w_)))] (by decide) rfl dX12_findsParted_28 ?_
              have lp30 : ∀ (dd : Nat) (i_ : Nat) (V7 : owF), i_ ≤ shN h_ d_ → shN h_ d_ - i_ < dd → Wm l G cX12_findsParted 6 RX12 ((none : Option Jvm.ClassFile.FieldType)) (rmk 4 0 0) (fun _ => True) (QfM G (qV (fun σ => ∃ (T2 V2 : owF), σ = (A, S, Z, B, T2, V2, J, Y, P) ∧ (∀ v_, v_ < aN a_ → ∀ w_, w_ < aN a_ → T2 53 0 (10 * v_ + w_) = nI (pdN a_ (shX h_ d_) (shY h_ d_) (shN h_ d_) v_ w_)))) 0 0) 30 [(0, .ref (gK G 4 0)), (1, .int (nI (d_))), (2, .int (nI (v_))), (3, .int (nI (w_))), (4, .int (orI (pdB a_ (shX h_ d_) (shY h_ d_) v_ w_) i_)), (5, .int (nI (i_)))] [] (A, S, Z, B, T8, V7, J, Y, P) 0 0 := by
                intro dd
                induction dd with
                | zero => intro i_ V7 hi_ hdd; exact absurd hdd (Nat.not_lt_zero _)
                | succ dd ih30 =>
                  intro i_ V7 hi_ hdd30
                  refine m_iload 5 rfl dX12_findsParted_30 ?_
                  refine m_aload_n 0 rfl rfl dX12_findsParted_32 ?_
                  refine m_iload_n 1 rfl rfl dX12_findsParted_33 ?_
                  refine m_callVi cv_X12_171 [.int (nI (d_))] [.int (nI (i_))] (k_m_sums l G a_ ho_ im h_ hM d_ (by omega) hk2) (by decide) (ce_4 G _ _ _ _ _ _ _ _ _ _) rfl rfl rfl ⟨Nat.le_of_ble_eq_true rfl, Nat.le_of_ble_eq_true rfl⟩ (Nat.le_of_ble_eq_true rfl) ⟨Nat.zero_le _, Nat.zero_le _⟩ dX12_findsParted_34 (fun xx σ2 hq => ?_)
                  obtain ⟨rfl, rfl⟩ := hq
                  refine m_icmpn_ge i_ (shN h_ d_) 100 (by omega) (by omega) dX12_findsParted_37 (by decide) (fun c3_ => ?_) (fun c3_ => ?_)
                  ·
                    obtain rfl : i_ = shN h_ d_ := (by omega)
                    rw [show orI (pdB a_ (shX h_ d_) (shY h_ d_) v_ w_) (shN h_ d_) = nI (pdN a_ (shX h_ d_) (shY h_ d_) (shN h_ d_) v_ w_) from orI_nat _ _ (by omega)]
                    refine m_aload_n 0 rfl rfl dX12_findsParted_100 ?_
                    refine gf_X12_49 dX12_findsParted_101 ?_
                    refine m_bipush (10) dX12_findsParted_104 rfl ?_
                    refine m_iload_n 2 rfl rfl dX12_findsParted_106 ?_
                    refine m_imul dX12_findsParted_107 ?_
                    refine m_topi (show 10 * (nI (v_)) = nI (10 * v_) from pk_mul _ _) ?_
                    refine m_iload_n 3 rfl rfl dX12_findsParted_108 ?_
                    refine m_iadd dX12_findsParted_109 ?_
                    refine m_topi (show (nI (10 * v_)) + (nI (w_)) = nI ((10 * v_) + w_) from nI_add _ _) ?_
                    refine m_iload 4 rfl dX12_findsParted_110 ?_
                    refine as_53 ((10 * v_) + w_) rfl (by omega) dX12_findsParted_112 (fun T4 hT4 => ?_)
                    refine m_iinc (nI (w_ + 1)) 3 [(3, .int (nI (w_ + 1))), (0, .ref (gK G 4 0)), (1, .int (nI (d_))), (2, .int (nI (v_))), (4, .int (nI (pdN a_ (shX h_ d_) (shY h_ d_) (shN h_ d_) v_ w_))), (5, .int (nI (shN h_ d_)))] rfl (nI_1 _) (by decide) rfl dX12_findsParted_113 ?_
                    refine m_goto 14 dX12_findsParted_116 (by decide) ?_
                    refine m_lv [(0, .ref (gK G 4 0)), (1, .int (nI (d_))), (2, .int (nI (v_))), (3, .int (nI (w_ + 1)))] [1, 2, 3, 0] rfl ?_
                    exact ih14 (w_ + 1) T4 V7 (by omega) (fun v2 hv2 w2 hw2 => up3_j hT4 (by omega) (hfp v2 hv2 w2 hw2)) (fun w2 hw2 => by rcases Nat.lt_or_ge w2 w_ with z_ | z_; exact up3_j hT4 (by omega) (hrw w2 z_); obtain rfl : w_ = w2 := (by omega); exact up3_e hT4) (by omega)
                  ·
                    refine m_iload 4 rfl dX12_findsParted_40 ?_
                    refine m_aload_n 0 rfl rfl dX12_findsParted_42 ?_
                    refine m_iload_n 2 rfl rfl dX12_findsParted_43 ?_
                    refine m_aload_n 0 rfl rfl dX12_findsParted_44 ?_
                    refine m_iload_n 1 rfl rfl dX12_findsParted_45 ?_
                    refine m_iload 5 rfl dX12_findsParted_46 ?_
                    refine m_callVi cv_X12_181 [.int (nI (d_)), .int (nI (i_))] [.int (nI (v_)), .ref (gK G 4 0), .int (orI (pdB a_ (shX h_ d_) (shY h_ d_) v_ w_) i_)] (k_m_upperOf l G a_ ho_ im h_ hM d_ (by omega) hsr i_ (by omega)) (by decide) (ce_4 G _ _ _ _ _ _ _ _ _ _) rfl rfl rfl ⟨Nat.le_of_ble_eq_true rfl, Nat.le_of_ble_eq_true rfl⟩ (Nat.le_of_ble_eq_true rfl) ⟨Nat.zero_le _, Nat.zero_le _⟩ dX12_findsParted_48 (fun xx σ2 hq => ?_)
                    obtain ⟨rfl, rfl⟩ := hq
                    refine m_aload_n 0 rfl rfl dX12_findsParted_51 ?_
                    refine m_iload_n 1 rfl rfl dX12_findsParted_52 ?_
                    refine m_iload 5 rfl dX12_findsParted_53 ?_
                    refine m_callVi cv_X12_184 [.int (nI (d_)), .int (nI (i_))] [.int (nI (shX h_ d_ i_)), .int (nI (v_)), .ref (gK G 4 0), .int (orI (pdB a_ (shX h_ d_) (shY h_ d_) v_ w_) i_)] (k_m_lowerOf l G a_ ho_ im h_ hM d_ (by omega) hsr i_ (by omega)) (by decide) (ce_4 G _ _ _ _ _ _ _ _ _ _) rfl rfl rfl ⟨Nat.le_of_ble_eq_true rfl, Nat.le_of_ble_eq_true rfl⟩ (Nat.le_of_ble_eq_true rfl) ⟨Nat.zero_le _, Nat.zero_le _⟩ dX12_findsParted_55 (fun xx σ2 hq => ?_)
                    obtain ⟨rfl, rfl⟩ := hq
                    refine m_callVi cv_X12_157 [.int (nI (v_)), .int (nI (shX h_ d_ i_)), .int (nI (shY h_ d_ i_))] [.int (orI (pdB a_ (shX h_ d_) (shY h_ d_) v_ w_) i_)] (k_m_answerOf l G a_ ho_ im h_ hM v_ (by omega) (shX h_ d_ i_) (shY h_ d_ i_) (hsm i_ (by omega)).2.2.2 (hsm i_ (by omega)).2.2.1) (by decide) (ce_4 G _ _ _ _ _ _ _ _ _ _) rfl rfl rfl ⟨Nat.le_of_ble_eq_true rfl, Nat.le_of_ble_eq_true rfl⟩ (Nat.le_of_ble_eq_true rfl) ⟨Nat.zero_le _, Nat.zero_le _⟩ dX12_findsParted_58 (fun xx σ2 hq => ?_)
                    obtain ⟨rfl, V5, rfl, hwV5⟩ := hq
                    refine m_aload_n 0 rfl rfl dX12_findsParted_61 ?_
                    refine m_iload_n 3 rfl rfl dX12_findsParted_62 ?_
                    refine m_aload_n 0 rfl rfl dX12_findsParted_63 ?_
                    refine m_iload_n 1 rfl rfl dX12_findsParted_64 ?_
                    refine m_iload 5 rfl dX12_findsParted_65 ?_
                    refine m_callVi cv_X12_181 [.int (nI (d_)), .int (nI (i_))] [.int (nI (w_)), .ref (gK G 4 0), .int (nI (ansA a_ v_ (shX h_ d_ i_) (shY h_ d_ i_))), .int (orI (pdB a_ (shX h_ d_) (shY h_ d_) v_ w_) i_)] (k_m_upperOf l G a_ ho_ im h_ hM d_ (by omega) hsr i_ (by omega)) (by decide) (ce_4 G _ _ _ _ _ _ _ _ _ _) rfl rfl rfl ⟨Nat.le_of_ble_eq_true rfl, Nat.le_of_ble_eq_true rfl⟩ (Nat.le_of_ble_eq_true rfl) ⟨Nat.zero_le _, Nat.zero_le _⟩ dX12_findsParted_67 (fun xx σ2 hq => ?_)
                    obtain ⟨rfl, rfl⟩ := hq
                    refine m_aload_n 0 rfl rfl dX12_findsParted_70 ?_
                    refine m_iload_n 1 rfl rfl dX12_findsParted_71 ?_
                    refine m_iload 5 rfl dX12_findsParted_72 ?_
                    refine m_callVi cv_X12_184 [.int (nI (d_)), .int (nI (i_))] [.int (nI (shX h_ d_ i_)), .int (nI (w_)), .ref (gK G 4 0), .int (nI (ansA a_ v_ (shX h_ d_ i_) (shY h_ d_ i_))), .int (orI (pdB a_ (shX h_ d_) (shY h_ d_) v_ w_) i_)] (k_m_lowerOf l G a_ ho_ im h_ hM d_ (by omega) hsr i_ (by omega)) (by decide) (ce_4 G _ _ _ _ _ _ _ _ _ _) rfl rfl rfl ⟨Nat.le_of_ble_eq_true rfl, Nat.le_of_ble_eq_true rfl⟩ (Nat.le_of_ble_eq_true rfl) ⟨Nat.zero_le _, Nat.zero_le _⟩ dX12_findsParted_74 (fun xx σ2 hq => ?_)
                    obtain ⟨rfl, rfl⟩ := hq
                    refine m_callVi cv_X12_157 [.int (nI (w_)), .int (nI (shX h_ d_ i_)), .int (nI (shY h_ d_ i_))] [.int (nI (ansA a_ v_ (shX h_ d_ i_) (shY h_ d_ i_))), .int (orI (pdB a_ (shX h_ d_) (shY h_ d_) v_ w_) i_)] (k_m_answerOf l G a_ ho_ im h_ hM w_ (by omega) (shX h_ d_ i_) (shY h_ d_ i_) (hsm i_ (by omega)).2.2.2 (hsm i_ (by omega)).2.2.1) (by decide) (ce_4 G _ _ _ _ _ _ _ _ _ _) rfl rfl rfl ⟨Nat.le_of_ble_eq_true rfl, Nat.le_of_ble_eq_true rfl⟩ (Nat.le_of_ble_eq_true rfl) ⟨Nat.zero_le _, Nat.zero_le _⟩ dX12_findsParted_77 (fun xx σ2 hq => ?_)
                    obtain ⟨rfl, V6, rfl, hwV6⟩ := hq
                    have hA1 := ansA_lt a_ v_ (shX h_ d_ i_) (shY h_ d_ i_)
                    have hA2 := ansA_lt a_ w_ (shX h_ d_ i_) (shY h_ d_ i_)
                    refine m_icmpn_eq (ansA a_ v_ (shX h_ d_ i_) (shY h_ d_ i_)) (ansA a_ w_ (shX h_ d_ i_) (shY h_ d_ i_)) 90 (by omega) (by omega) dX12_findsParted_80 (by decide) (fun c7_ => ?_) (fun c7_ => ?_)
                    ·
                      have hq := c7_
                      refine m_iconst 0 dX12_findsParted_90 rfl ?_
                      refine m_ior dX12_findsParted_91 ?_
                      refine m_topi ((show (orI (pdB a_ (shX h_ d_) (shY h_ d_) v_ w_) i_) ||| 0 = orI (pdB a_ (shX h_ d_) (shY h_ d_) v_ w_) (i_ + 1) from Int32.or_zero.trans (orI_f (p := (pdB a_ (shX h_ d_) (shY h_ d_) v_ w_)) (decide_eq_false (fun z_ => z_ hq))))) ?_
                      refine m_istore [(4, .int (orI (pdB a_ (shX h_ d_) (shY h_ d_) v_ w_) (i_ + 1))), (0, .ref (gK G 4 0)), (1, .int (nI (d_))), (2, .int (nI (v_))), (3, .int (nI (w_))), (5, .int (nI (i_)))] (by decide) rfl dX12_findsParted_92 ?_
                      refine m_iinc (nI (i_ + 1)) 5 [(5, .int (nI (i_ + 1))), (4, .int (orI (pdB a_ (shX h_ d_) (shY h_ d_) v_ w_) (i_ + 1))), (0, .ref (gK G 4 0)), (1, .int (nI (d_))), (2, .int (nI (v_))), (3, .int (nI (w_)))] rfl (nI_1 _) (by decide) rfl dX12_findsParted_94 ?_
                      refine m_goto 30 dX12_findsParted_97 (by decide) ?_
                      refine m_lv [(0, .ref (gK G 4 0)), (1, .int (nI (d_))), (2, .int (nI (v_))), (3, .int (nI (w_))), (4, .int (orI (pdB a_ (shX h_ d_) (shY h_ d_) v_ w_) (i_ + 1))), (5, .int (nI (i_ + 1)))] [2, 3, 4, 5, 1, 0] rfl ?_
                      exact ih30 (i_ + 1) V6 (by omega) (by omega)
                    ·
                      have hq := c7_
                      refine m_iconst 1 dX12_findsParted_83 rfl ?_
                      refine m_iload 5 rfl dX12_findsParted_84 ?_
                      refine m_ishl dX12_findsParted_86 ?_
                      refine m_goto 91 dX12_findsParted_87 (by decide) ?_
                      refine m_ior dX12_findsParted_91 ?_
                      refine m_topi ((show (orI (pdB a_ (shX h_ d_) (shY h_ d_) v_ w_) i_) ||| (1 <<< ((nI (i_)) &&& 31)) = orI (pdB a_ (shX h_ d_) (shY h_ d_) v_ w_) (i_ + 1) from orI_t (p := (pdB a_ (shX h_ d_) (shY h_ d_) v_ w_)) (decide_eq_true hq))) ?_
                      refine m_istore [(4, .int (orI (pdB a_ (shX h_ d_) (shY h_ d_) v_ w_) (i_ + 1))), (0, .ref (gK G 4 0)), (1, .int (nI (d_))), (2, .int (nI (v_))), (3, .int (nI (w_))), (5, .int (nI (i_)))] (by decide) rfl dX12_findsParted_92 ?_
                      refine m_iinc (nI (i_ + 1)) 5 [(5, .int (nI (i_ + 1))), (4, .int (orI (pdB a_ (shX h_ d_) (shY h_ d_) v_ w_) (i_ + 1))), (0, .ref (gK G 4 0)), (1, .int (nI (d_))), (2, .int (nI (v_))), (3, .int (nI (w_)))] rfl (nI_1 _) (by decide) rfl dX12_findsParted_94 ?_
                      refine m_goto 30 dX12_findsParted_97 (by decide) ?_
                      refine m_lv [(0, .ref (gK G 4 0)), (1, .int (nI (d_))), (2, .int (nI (v_))), (3, .int (nI (w_))), (4, .int (orI (pdB a_ (shX h_ d_) (shY h_ d_) v_ w_) (i_ + 1))), (5, .int (nI (i_ + 1)))] [2, 3, 4, 5, 1, 0] rfl ?_
                      exact ih30 (i_ + 1) V6 (by omega) (by omega)
              refine m_lv [(0, .ref (gK G 4 0)), (1, .int (nI (d_))), (2, .int (nI (v_))), (3, .int (nI (w_))), (4, .int 0), (5, .int 0)] [2, 3, 4, 5, 1, 0] rfl ?_
              exact lp30 ((shN h_ d_ - 0) + 1) 0 V8 (Nat.zero_le _) (Nat.lt_succ_self _)
        refine m_lv [(0, .ref (gK G 4 0)), (1, .int (nI (d_))), (2, .int (nI (v_))), (3, .int 0)] [1, 2, 3, 0] rfl ?_
        exact lp14 ((aN a_ - 0) + 1) 0 T9 V9 (Nat.zero_le _) hfp (fun w2 hw2 => absurd hw2 (Nat.not_lt_zero w2)) (Nat.lt_succ_self _)
  refine m_lv [(0, .ref (gK G 4 0)), (1, .int (nI (d_))), (2, .int 0)] [1, 2, 0] rfl ?_
  exact lp2 ((aN a_ - 0) + 1) 0 T V (Nat.zero_le _) (fun v_ hv_ => absurd hv_ (Nat.not_lt_zero v_)) (Nat.lt_succ_self _)
set_option maxRecDepth 100000 in
set_option maxHeartbeats 4000000 in
theorem k_m_areBoth (l : Launch) (G : owG) {A S Z B T V : owF} {J : Nat → Nat → Int64} {Y : Nat → Nat → Nat → Option Nat} {P : Nat → Option owW} (b_ : Int32) (v_ w_ : Nat) : Ct l G yX12_areBoth cX12_areBoth 4 ((some .boolean)) 0 0 0 [.ref (gK G 4 0), .int b_, .int (nI (v_)), .int (nI (w_))] (A, S, Z, B, T, V, J, Y, P) (qI (fun r_ σ => r_ = bI (boB b_ v_ w_) ∧ σ = (A, S, Z, B, T, V, J, Y, P))) := by
  refine ct_of (by decide +kernel) (Nat.le_of_ble_eq_true rfl) ?_
  show Wm l G cX12_areBoth 4 RX12 ((some .boolean)) (rmk 0 0 0) (fun _ => True) (QfM G (qI (fun r_ σ => r_ = bI (boB b_ v_ w_) ∧ σ = (A, S, Z, B, T, V, J, Y, P))) 0 0) 0 [(0, .ref (gK G 4 0)), (1, .int b_), (2, .int (nI (v_))), (3, .int (nI (w_)))] [] (A, S, Z, B, T, V, J, Y, P) 0 0
  refine m_iload_n 1 rfl rfl dX12_areBoth_0 ?_
  refine m_iload_n 2 rfl rfl dX12_areBoth_1 ?_
  refine m_ishr dX12_areBoth_2 ?_
  refine m_iconst 1 dX12_areBoth_3 rfl ?_
  refine m_iand dX12_areBoth_4 ?_
  refine m_iconst 1 dX12_areBoth_5 rfl ?_
  refine m_icmp_ne 22 dX12_areBoth_6 (by decide) (fun c1_ => ?_) (fun c1_ => ?_)
  ·
    refine m_iconst 0 dX12_areBoth_22 rfl ?_
    exact m_zret dX12_areBoth_23 (Nat.le_refl _) (Nat.le_refl _) nar0 (⟨by unfold boB amongB; simp [c1_, bI], rfl⟩)
  ·
    refine m_iload_n 1 rfl rfl dX12_areBoth_9 ?_
    refine m_iload_n 3 rfl rfl dX12_areBoth_10 ?_
    refine m_ishr dX12_areBoth_11 ?_
    refine m_iconst 1 dX12_areBoth_12 rfl ?_
    refine m_iand dX12_areBoth_13 ?_
    refine m_iconst 1 dX12_areBoth_14 rfl ?_
    refine m_icmp_ne 22 dX12_areBoth_15 (by decide) (fun c2_ => ?_) (fun c2_ => ?_)
    ·
      refine m_iconst 0 dX12_areBoth_22 rfl ?_
      exact m_zret dX12_areBoth_23 (Nat.le_refl _) (Nat.le_refl _) nar0 (⟨by unfold boB amongB; simp [c1_, c2_, bI], rfl⟩)
    ·
      refine m_iconst 1 dX12_areBoth_18 rfl ?_
      refine m_goto 23 dX12_areBoth_19 (by decide) ?_
      exact m_zret dX12_areBoth_23 (Nat.le_refl _) (Nat.le_refl _) nar1 (⟨by unfold boB amongB; simp [c1_, c2_, bI], rfl⟩)
set_option maxRecDepth 100000 in
set_option maxHeartbeats 4000000 in
theorem k_m_areParted (l : Launch) (G : owG) {A S Z B T V : owF} {J : Nat → Nat → Int64} {Y : Nat → Nat → Nat → Option Nat} {P : Nat → Option owW} (a_ : owK) (ho_ : aOk a_) (im : Option owK) (h_ : owH) (hM : MR B a_ im h_) (d_ : Nat) (hd_ : d_ < 8) (hsr : shRef h_ d_ = 0) (b_ : Int32) (set : Nat) (hfp : (∀ v_, v_ < aN a_ → ∀ w_, w_ < aN a_ → T 53 0 (10 * v_ + w_) = nI (pdN a_ (shX h_ d_) (shY h_ d_) (shN h_ d_) v_ w_))) : Ct l G yX12_areParted cX12_areParted 5 ((some .boolean)) 1 0 0 [.ref (gK G 4 0), .int b_, .int (nI (set))] (A, S, Z, B, T, V, J, Y, P) (qI (fun r_ σ => r_ = bI (apB a_ (shX h_ d_) (shY h_ d_) (shN h_ d_) b_ set) ∧ σ = (A, S, Z, B, T, V, J, Y, P))) := by
  refine ct_of (by decide +kernel) (Nat.le_of_ble_eq_true rfl) ?_
  have h10 := ho_.1
  have h8_ := ho_.2.1
  have hX := hM.1
  obtain ⟨hk2, hso2, hev, h24, hsm⟩ := shRef_ok hsr
  have hms := hM.2.2.2 d_ hd_
  have hm2 := hms.2.2.1 hk2
  have hs2 := hm2.2.1
  have hn100 := hm2.2.2.2.1
  have hsn : shN h_ d_ = hN h_ d_ / 2 := rfl
  have hn12 : shN h_ d_ ≤ 12 := (by omega)
  show Wm l G cX12_areParted 5 RX12 ((some .boolean)) (rmk 1 0 0) (fun _ => True) (QfM G (qI (fun r_ σ => r_ = bI (apB a_ (shX h_ d_) (shY h_ d_) (shN h_ d_) b_ set) ∧ σ = (A, S, Z, B, T, V, J, Y, P))) 0 0) 0 [(0, .ref (gK G 4 0)), (1, .int b_), (2, .int (nI (set)))] [] (A, S, Z, B, T, V, J, Y, P) 0 0
  refine m_iconst 0 dX12_areParted_0 rfl ?_
  refine m_istore_n [(3, .int 0), (0, .ref (gK G 4 0)), (1, .int b_), (2, .int (nI (set)))] rfl (by decide) rfl dX12_areParted_1 ?_
  have lp2 : ∀ (dd : Nat) (v_ : Nat) , v_ ≤ aN a_ → (∀ v2, v2 < v_ → ∀ w_, w_ < aN a_ → v2 < w_ → apQ a_ (shX h_ d_) (shY h_ d_) (shN h_ d_) b_ set v2 w_ = true) → aN a_ - v_ < dd → Wm l G cX12_areParted 5 RX12 ((some .boolean)) (rmk 1 0 0) (fun _ => True) (QfM G (qI (fun r_ σ => r_ = bI (apB a_ (shX h_ d_) (shY h_ d_) (shN h_ d_) b_ set) ∧ σ = (A, S, Z, B, T, V, J, Y, P))) 0 0) 2 [(0, .ref (gK G 4 0)), (1, .int b_), (2, .int (nI (set))), (3, .int (nI (v_)))] [] (A, S, Z, B, T, V, J, Y, P) 0 0 := by
    intro dd
    induction dd with
    | zero => intro v_  hv_ hdone hdd; exact absurd hdd (Nat.not_lt_zero _)
    | succ dd ih2 =>
      intro v_  hv_ hdone hdd2
      refine m_iload_n 3 rfl rfl dX12_areParted_2 ?_
      refine m_aload_n 0 rfl rfl dX12_areParted_3 ?_
      refine gf_X12_9 dX12_areParted_4 ?_
      refine m_iconst 0 dX12_areParted_7 rfl ?_
      refine al_40 0 rfl (by omega) dX12_areParted_8 ?_
      refine m_topi hX.1 ?_
      refine m_icmpn_ge v_ (aN a_) 85 (by omega) (by omega) dX12_areParted_9 (by decide) (fun c1_ => ?_) (fun c1_ => ?_)
      ·
        refine m_iconst 1 dX12_areParted_85 rfl ?_
        exact m_zret dX12_areParted_86 (Nat.le_refl _) (Nat.le_refl _) nar1 ((by obtain rfl : v_ = aN a_ := (by omega); exact ⟨by rw [show apB a_ (shX h_ d_) (shY h_ d_) (shN h_ d_) b_ set = true from apB_iff.mpr (fun v_ hv_ w_ hw_ hvw => hdone v_ hv_ w_ hw_ hvw)]; rfl, rfl⟩))
      ·
        refine m_iload_n 3 rfl rfl dX12_areParted_12 ?_
        refine m_iconst 1 dX12_areParted_13 rfl ?_
        refine m_iadd dX12_areParted_14 ?_
        refine m_topi (show (nI (v_)) + 1 = nI (v_ + 1) from nI_add _ _) ?_
        refine m_istore [(4, .int (nI (v_ + 1))), (0, .ref (gK G 4 0)), (1, .int b_), (2, .int (nI (set))), (3, .int (nI (v_)))] (by decide) rfl dX12_areParted_15 ?_
        have lp17 : ∀ (dd : Nat) (w_ : Nat) , w_ ≤ aN a_ → v_ < w_ → (∀ w2, v_ < w2 → w2 < w_ → apQ a_ (shX h_ d_) (shY h_ d_) (shN h_ d_) b_ set v_ w2 = true) → aN a_ - w_ < dd → Wm l G cX12_areParted 5 RX12 ((some .boolean)) (rmk 1 0 0) (fun _ => True) (QfM G (qI (fun r_ σ => r_ = bI (apB a_ (shX h_ d_) (shY h_ d_) (shN h_ d_) b_ set) ∧ σ = (A, S, Z, B, T, V, J, Y, P))) 0 0) 17 [(0, .ref (gK G 4 0)), (1, .int b_), (2, .int (nI (set))), (3, .int (nI (v_))), (4, .int (nI (w_)))] [] (A, S, Z, B, T, V, J, Y, P) 0 0 := by
          intro dd
          induction dd with
          | zero => intro w_  hw_ hvw hrow hdd; exact absurd hdd (Nat.not_lt_zero _)
          | succ dd ih17 =>
            intro w_  hw_ hvw hrow hdd17
            refine m_iload 4 rfl dX12_areParted_17 ?_
            refine m_aload_n 0 rfl rfl dX12_areParted_19 ?_
            refine gf_X12_9 dX12_areParted_20 ?_
            refine m_iconst 0 dX12_areParted_23 rfl ?_
            refine al_40 0 rfl (by omega) dX12_areParted_24 ?_
            refine m_topi hX.1 ?_
            refine m_icmpn_ge w_ (aN a_) 79 (by omega) (by omega) dX12_areParted_25 (by decide) (fun c2_ => ?_) (fun c2_ => ?_)
            ·
              refine m_iinc (nI (v_ + 1)) 3 [(3, .int (nI (v_ + 1))), (0, .ref (gK G 4 0)), (1, .int b_), (2, .int (nI (set))), (4, .int (nI (w_)))] rfl (nI_1 _) (by decide) rfl dX12_areParted_79 ?_
              refine m_goto 2 dX12_areParted_82 (by decide) ?_
              refine m_lv [(0, .ref (gK G 4 0)), (1, .int b_), (2, .int (nI (set))), (3, .int (nI (v_ + 1)))] [1, 2, 3, 0] rfl ?_
              exact ih2 (v_ + 1)  (by omega) (fun v2 hv2 w2 hw2 hvw => by rcases Nat.lt_or_ge v2 v_ with z_ | z_; exact hdone v2 z_ w2 hw2 hvw; obtain rfl : v_ = v2 := (by omega); exact hrow w2 hvw (by omega)) (by omega)
            ·
              refine m_aload_n 0 rfl rfl dX12_areParted_28 ?_
              refine m_iload_n 1 rfl rfl dX12_areParted_29 ?_
              refine m_iload_n 3 rfl rfl dX12_areParted_30 ?_
              refine m_iload 4 rfl dX12_areParted_31 ?_
              refine m_callVi cv_X12_201 [.int b_, .int (nI (v_)), .int (nI (w_))] [] (k_m_areBoth l G b_ v_ w_) (by decide) (ce_4 G _ _ _ _ _ _ _ _ _ _) rfl rfl rfl ⟨Nat.le_of_ble_eq_true rfl, Nat.le_of_ble_eq_true rfl⟩ (Nat.le_of_ble_eq_true rfl) ⟨Nat.zero_le _, Nat.zero_le _⟩ dX12_areParted_33 (fun xx σ2 hq => ?_)
              obtain ⟨rfl, rfl⟩ := hq
              refine m_ifeq_b 73 dX12_areParted_36 (by decide) (fun c3_ => ?_) (fun c3_ => ?_)
              ·
                refine m_iinc (nI (w_ + 1)) 4 [(4, .int (nI (w_ + 1))), (0, .ref (gK G 4 0)), (1, .int b_), (2, .int (nI (set))), (3, .int (nI (v_)))] rfl (nI_1 _) (by decide) rfl dX12_areParted_73 ?_
                refine m_goto 17 dX12_areParted_76 (by decide) ?_
                refine m_lv [(0, .ref (gK G 4 0)), (1, .int b_), (2, .int (nI (set))), (3, .int (nI (v_))), (4, .int (nI (w_ + 1)))] [1, 2, 3, 4, 0] rfl ?_
                exact ih17 (w_ + 1)  (by omega) (by omega) (fun w2 h1_ h2_ => by rcases Nat.lt_or_ge w2 w_ with z_ | z_; exact hrow w2 h1_ z_; obtain rfl : w_ = w2 := (by omega); exact (by unfold apQ; rw [c3_]; rfl)) (by omega)
              ·
                have hpl : pdN a_ (shX h_ d_) (shY h_ d_) (shN h_ d_) v_ w_ < 2 ^ 31 := orN_lt31 _ hn12
                have hpa : (pdN a_ (shX h_ d_) (shY h_ d_) (shN h_ d_) v_ w_ &&& set) ≤ pdN a_ (shX h_ d_) (shY h_ d_) (shN h_ d_) v_ w_ := Nat.and_le_left
                refine m_aload_n 0 rfl rfl dX12_areParted_39 ?_
                refine gf_X12_49 dX12_areParted_40 ?_
                refine m_bipush (10) dX12_areParted_43 rfl ?_
                refine m_iload_n 3 rfl rfl dX12_areParted_45 ?_
                refine m_imul dX12_areParted_46 ?_
                refine m_topi (show 10 * (nI (v_)) = nI (10 * v_) from pk_mul _ _) ?_
                refine m_iload 4 rfl dX12_areParted_47 ?_
                refine m_iadd dX12_areParted_49 ?_
                refine m_topi (show (nI (10 * v_)) + (nI (w_)) = nI ((10 * v_) + w_) from nI_add _ _) ?_
                refine al_53 ((10 * v_) + w_) rfl (by omega) dX12_areParted_50 ?_
                refine m_topi (hfp v_ (by omega) w_ (by omega)) ?_
                refine m_ifn_eq (pdN a_ (shX h_ d_) (shY h_ d_) (shN h_ d_) v_ w_) 73 (by omega) dX12_areParted_51 (by decide) (fun c4_ => ?_) (fun c4_ => ?_)
                ·
                  refine m_iinc (nI (w_ + 1)) 4 [(4, .int (nI (w_ + 1))), (0, .ref (gK G 4 0)), (1, .int b_), (2, .int (nI (set))), (3, .int (nI (v_)))] rfl (nI_1 _) (by decide) rfl dX12_areParted_73 ?_
                  refine m_goto 17 dX12_areParted_76 (by decide) ?_
                  refine m_lv [(0, .ref (gK G 4 0)), (1, .int b_), (2, .int (nI (set))), (3, .int (nI (v_))), (4, .int (nI (w_ + 1)))] [1, 2, 3, 4, 0] rfl ?_
                  exact ih17 (w_ + 1)  (by omega) (by omega) (fun w2 h1_ h2_ => by rcases Nat.lt_or_ge w2 w_ with z_ | z_; exact hrow w2 h1_ z_; obtain rfl : w_ = w2 := (by omega); exact (by unfold apQ; rw [decide_eq_false (fun q_ => q_ c4_), Bool.false_and, Bool.and_false]; rfl)) (by omega)
                ·
                  refine m_aload_n 0 rfl rfl dX12_areParted_54 ?_
                  refine gf_X12_49 dX12_areParted_55 ?_
                  refine m_bipush (10) dX12_areParted_58 rfl ?_
                  refine m_iload_n 3 rfl rfl dX12_areParted_60 ?_
                  refine m_imul dX12_areParted_61 ?_
                  refine m_topi (show 10 * (nI (v_)) = nI (10 * v_) from pk_mul _ _) ?_
                  refine m_iload 4 rfl dX12_areParted_62 ?_
                  refine m_iadd dX12_areParted_64 ?_
                  refine m_topi (show (nI (10 * v_)) + (nI (w_)) = nI ((10 * v_) + w_) from nI_add _ _) ?_
                  refine al_53 ((10 * v_) + w_) rfl (by omega) dX12_areParted_65 ?_
                  refine m_topi (hfp v_ (by omega) w_ (by omega)) ?_
                  refine m_iload_n 2 rfl rfl dX12_areParted_66 ?_
                  refine m_iand dX12_areParted_67 ?_
                  refine m_topi ((show nI (pdN a_ (shX h_ d_) (shY h_ d_) (shN h_ d_) v_ w_) &&& nI set = nI (pdN a_ (shX h_ d_) (shY h_ d_) (shN h_ d_) v_ w_ &&& set) from nI_andN _ _)) ?_
                  refine m_ifn_ne (pdN a_ (shX h_ d_) (shY h_ d_) (shN h_ d_) v_ w_ &&& set) 73 (by omega) dX12_areParted_68 (by decide) (fun c5_ => ?_) (fun c5_ => ?_)
                  ·
                    refine m_iinc (nI (w_ + 1)) 4 [(4, .int (nI (w_ + 1))), (0, .ref (gK G 4 0)), (1, .int b_), (2, .int (nI (set))), (3, .int (nI (v_)))] rfl (nI_1 _) (by decide) rfl dX12_areParted_73 ?_
                    refine m_goto 17 dX12_areParted_76 (by decide) ?_
                    refine m_lv [(0, .ref (gK G 4 0)), (1, .int b_), (2, .int (nI (set))), (3, .int (nI (v_))), (4, .int (nI (w_ + 1)))] [1, 2, 3, 4, 0] rfl ?_
                    exact ih17 (w_ + 1)  (by omega) (by omega) (fun w2 h1_ h2_ => by rcases Nat.lt_or_ge w2 w_ with z_ | z_; exact hrow w2 h1_ z_; obtain rfl : w_ = w2 := (by omega); exact (by unfold apQ; rw [decide_eq_false (show ¬ (pdN a_ (shX h_ d_) (shY h_ d_) (shN h_ d_) v_ w_ &&& set = 0) by omega), Bool.and_false, Bool.and_false]; rfl)) (by omega)
                  ·
                    refine m_iconst 0 dX12_areParted_71 rfl ?_
                    exact m_zret dX12_areParted_72 (Nat.le_refl _) (Nat.le_refl _) nar0 (⟨by rw [show apB a_ (shX h_ d_) (shY h_ d_) (shN h_ d_) b_ set = false from Bool.eq_false_iff.mpr (fun q_ => by have q2_ := apB_iff.mp q_ v_ (by omega) w_ (by omega) (by omega); unfold apQ at q2_; rw [c3_, decide_eq_true (show pdN a_ (shX h_ d_) (shY h_ d_) (shN h_ d_) v_ w_ ≠ 0 by omega), decide_eq_true (show pdN a_ (shX h_ d_) (shY h_ d_) (shN h_ d_) v_ w_ &&& set = 0 by omega)] at q2_; exact absurd q2_ (by decide))]; rfl, rfl⟩)
        refine m_lv [(0, .ref (gK G 4 0)), (1, .int b_), (2, .int (nI (set))), (3, .int (nI (v_))), (4, .int (nI (v_ + 1)))] [1, 2, 3, 4, 0] rfl ?_
        exact lp17 ((aN a_ - (v_ + 1)) + 1) (v_ + 1)  (by omega) (by omega) (fun w2 h1_ h2_ => absurd h1_ (by omega)) (Nat.lt_succ_self _)
  refine m_lv [(0, .ref (gK G 4 0)), (1, .int b_), (2, .int (nI (set))), (3, .int 0)] [1, 2, 3, 0] rfl ?_
  exact lp2 ((aN a_ - 0) + 1) 0  (Nat.zero_le _) (fun v2 hv2 => absurd hv2 (Nat.not_lt_zero v2)) (Nat.lt_succ_self _)
set_option maxRecDepth 100000 in
set_option maxHeartbeats 4000000 in
theorem k_m_apart (l : Launch) (G : owG) {A S Z B T V : owF} {J : Nat → Nat → Int64} {Y : Nat → Nat → Nat → Option Nat} {P : Nat → Option owW} (a_ : owK) (ho_ : aOk a_) (im : Option owK) (h_ : owH) (hM : MR B a_ im h_) (x_ b_ p_ : Int32) : Ct l G yX12_apart cX12_apart 7 ((some .int)) 5 0 0 [.ref (gK G 4 0), .int x_, .int b_, .int p_] (A, S, Z, B, T, V, J, Y, P) (qI (fun r_ σ => r_ = apartI a_ h_ x_ b_ p_ ∧ ∃ (T2 V2 : owF), σ = (A, S, Z, B, T2, V2, J, Y, P))) := by
  refine ct_of (by decide +kernel) (Nat.le_of_ble_eq_true rfl) ?_
  have h10 := ho_.1
  have h8_ := ho_.2.1
  have hX := hM.1
  show Wm l G cX12_apart 7 RX12 ((some .int)) (rmk 5 0 0) (fun _ => True) (QfM G (qI (fun r_ σ => r_ = apartI a_ h_ x_ b_ p_ ∧ ∃ (T2 V2 : owF), σ = (A, S, Z, B, T2, V2, J, Y, P))) 0 0) 0 [(0, .ref (gK G 4 0)), (1, .int x_), (2, .int b_), (3, .int p_)] [] (A, S, Z, B, T, V, J, Y, P) 0 0
  refine m_iload_n 1 rfl rfl dX12_apart_0 ?_
  refine m_callSi cs_X12_101 [.int x_] [] (k_m_isShelf l G x_) rfl rfl ⟨Nat.le_of_ble_eq_true rfl, Nat.le_of_ble_eq_true rfl⟩ (Nat.le_of_ble_eq_true rfl) ⟨Nat.zero_le _, Nat.zero_le _⟩ dX12_apart_1 (fun xx σ2 hq => ?_)
  obtain ⟨rfl, rfl⟩ := hq
  refine m_ifeq_b 25 dX12_apart_4 (by decide) (fun c1_ => ?_) (fun c1_ => ?_)
  ·
    refine m_iconst (-1) dX12_apart_25 rfl ?_
    exact m_iret dX12_apart_26 (Nat.le_refl _) (Nat.le_refl _) (⟨by have hz := shRefI_n (h := h_) c1_; unfold apartI; rw [hz]; split <;> rfl, _, _, rfl⟩)
  ·
    refine m_aload_n 0 rfl rfl dX12_apart_7 ?_
    refine m_iload_n 2 rfl rfl dX12_apart_8 ?_
    refine m_callVi cv_X12_165 [.int b_] [] (k_m_areWays l G a_ ho_ im h_ hM b_) (by decide) (ce_4 G _ _ _ _ _ _ _ _ _ _) rfl rfl rfl ⟨Nat.le_of_ble_eq_true rfl, Nat.le_of_ble_eq_true rfl⟩ (Nat.le_of_ble_eq_true rfl) ⟨Nat.zero_le _, Nat.zero_le _⟩ dX12_apart_9 (fun xx σ2 hq => ?_)
    obtain ⟨rfl, rfl⟩ := hq
    refine m_ifeq_b 25 dX12_apart_12 (by decide) (fun c2_ => ?_) (fun c2_ => ?_)
    ·
      refine m_iconst (-1) dX12_apart_25 rfl ?_
      exact m_iret dX12_apart_26 (Nat.le_refl _) (Nat.le_refl _) (⟨by unfold apartI; rw [if_neg (fun q_ => by rw [q_.1] at c2_; exact absurd c2_ (by decide))], _, _, rfl⟩)
    ·
      have har := c2_
      obtain ⟨m_, hm_, rfl⟩ := (areW_nat ho_).mp c2_
      refine m_iload_n 3 rfl rfl dX12_apart_15 ?_
      refine m_i2l dX12_apart_16 ?_
      refine m_lconst 0 dX12_apart_17 rfl ?_
      refine m_topl (show (0 : Int64) = (0 : Int32).toInt64 by decide) ?_
      refine m_lconst 1 dX12_apart_18 rfl ?_
      refine m_topl (show (1 : Int64) = (1 : Int32).toInt64 by decide) ?_
      refine m_callSi cs_X12_62 [.long (p_.toInt64), .long ((0 : Int32).toInt64), .long ((1 : Int32).toInt64)] [] (k_m_isIn l G p_ 0 1) rfl rfl ⟨Nat.le_of_ble_eq_true rfl, Nat.le_of_ble_eq_true rfl⟩ (Nat.le_of_ble_eq_true rfl) ⟨Nat.zero_le _, Nat.zero_le _⟩ dX12_apart_19 (fun xx σ2 hq => ?_)
      obtain ⟨hgx, rfl⟩ := hq
      obtain rfl := hgx.trans (congrArg bI (inB_01))
      refine m_ifne_b 27 dX12_apart_22 (by decide) (fun c3_ => ?_) (fun c3_ => ?_)
      ·
        refine m_aload_n 0 rfl rfl dX12_apart_27 ?_
        refine m_iload_n 1 rfl rfl dX12_apart_28 ?_
        refine m_callVi cv_X12_175 [.int x_] [] (k_m_wrongSheet l G a_ ho_ im h_ hM x_) (by decide) (ce_4 G _ _ _ _ _ _ _ _ _ _) rfl rfl rfl ⟨Nat.le_of_ble_eq_true rfl, Nat.le_of_ble_eq_true rfl⟩ (Nat.le_of_ble_eq_true rfl) ⟨Nat.zero_le _, Nat.zero_le _⟩ dX12_apart_29 (fun xx σ2 hq => ?_)
        obtain ⟨rfl, rfl⟩ := hq
        refine m_istore [(4, .int (shRefI h_ x_)), (0, .ref (gK G 4 0)), (1, .int x_), (2, .int (nI (m_))), (3, .int p_)] (by decide) rfl dX12_apart_32 ?_
        refine m_iload 0 rfl dX12_apart_34 ?_
        refine m_if_ne 53 dX12_apart_36 (by decide) (fun c4_ => ?_) (fun c4_ => ?_)
        ·
          refine m_iload 0 rfl dX12_apart_53 ?_
          refine m_if_eq 61 dX12_apart_55 (by decide) (fun c5_ => ?_) (fun c5_ => ?_)
          ·
            have hz : False := c4_ c5_
            exact m_dead (by first | omega | assumption)
          ·
            refine m_iload 0 rfl dX12_apart_58 ?_
            exact m_iret dX12_apart_60 (Nat.le_refl _) (Nat.le_refl _) (⟨by unfold apartI; rw [if_pos ⟨har, c3_⟩, if_neg c4_], _, _, rfl⟩)
        ·
          have hb0 := c4_
          obtain ⟨dq, hdq, rfl, hsr, hDd⟩ := shRefI_0 hb0
          have hcldq : (nI dq).toNatClampNeg = dq := nI_clamp (by omega)
          obtain ⟨hk2, hso2, hev, h24, hsm⟩ := shRef_ok hsr
          have hn12 : shN h_ dq ≤ 12 := by unfold shN; omega
          have h2n : 2 ^ shN h_ dq ≤ 2 ^ 12 := Nat.pow_le_pow_right (by decide) hn12
          refine m_aload_n 1 rfl rfl dX12_apart_39 ?_
          refine m_iload_n 2 rfl rfl dX12_apart_40 ?_
          refine m_callVi cv_X12_171 [.int (nI (dq))] [] (k_m_sums l G a_ ho_ im h_ hM dq (by omega) hk2) (by decide) (ce_4 G _ _ _ _ _ _ _ _ _ _) rfl rfl rfl ⟨Nat.le_of_ble_eq_true rfl, Nat.le_of_ble_eq_true rfl⟩ (Nat.le_of_ble_eq_true rfl) ⟨Nat.zero_le _, Nat.zero_le _⟩ dX12_apart_41 (fun xx σ2 hq => ?_)
          obtain ⟨rfl, rfl⟩ := hq
          refine m_bipush (10) dX12_apart_44 rfl ?_
          refine m_icmpn_le (shN h_ dq) 10 53 (by omega) (by decide) dX12_apart_46 (by decide) (fun c6_ => ?_) (fun c6_ => ?_)
          ·
            refine m_iload 0 rfl dX12_apart_53 ?_
            refine m_if_eq 61 dX12_apart_55 (by decide) (fun c7_ => ?_) (fun c7_ => ?_)
            ·
              refine m_aload_n 1 rfl rfl dX12_apart_61 ?_
              refine m_iload_n 2 rfl rfl dX12_apart_62 ?_
              refine m_callVv cv_X12_205 [.int (nI (dq))] [] (k_m_findsParted l G a_ ho_ im h_ hM dq hdq hsr) (by decide) (ce_4 G _ _ _ _ _ _ _ _ _ _) rfl rfl rfl ⟨Nat.le_of_ble_eq_true rfl, Nat.le_of_ble_eq_true rfl⟩ (Nat.le_of_ble_eq_true rfl) ⟨Nat.zero_le _, Nat.zero_le _⟩ dX12_apart_63 (fun σ2 hq => ?_)
              obtain ⟨T8, V9, rfl, hfp⟩ := hq
              refine m_bipush (-4) dX12_apart_66 rfl ?_
              refine m_istore [(5, .int (-4)), (4, .int (shRefI h_ (nI dq))), (0, .ref (gK G 4 0)), (1, .int (nI (dq))), (2, .int (nI (m_))), (3, .int p_)] (by decide) rfl dX12_apart_68 ?_
              refine m_iconst 0 dX12_apart_70 rfl ?_
              refine m_istore [(6, .int 0), (5, .int (-4)), (4, .int (shRefI h_ (nI dq))), (0, .ref (gK G 4 0)), (1, .int (nI (dq))), (2, .int (nI (m_))), (3, .int p_)] (by decide) rfl dX12_apart_71 ?_
              have lp73 : ∀ (dd : Nat) (k_ : Nat) , k_ ≤ 2 ^ shN h_ dq → 2 ^ shN h_ dq - k_ < dd → Wm l G cX12_apart 7 RX12 ((some .int)) (rmk 5 0 0) (fun _ => True) (QfM G (qI (fun r_ σ => r_ = apartI a_ h_ (nI dq) (nI m_) p_ ∧ ∃ (T2 V2 : owF), σ = (A, S, Z, B, T2, V2, J, Y, P))) 0 0) 73 [(0, .ref (gK G 4 0)), (1, .int (nI (dq))), (2, .int (nI (m_))), (3, .int p_), (4, .int (shRefI h_ (nI dq))), (5, .int (optI (faS (apB a_ (shX h_ dq) (shY h_ dq) (shN h_ dq) (nI m_)) k_))), (6, .int (nI (k_)))] [] (A, S, Z, B, T8, V9, J, Y, P) 0 0 := by
                intro dd
                induction dd with
                | zero => intro k_  hk_ hdd; exact absurd hdd (Nat.not_lt_zero _)
                | succ dd ih73 =>
                  intro k_  hk_ hdd73
                  have hn10 : 2 ^ shN h_ dq ≤ 2 ^ 10 := Nat.pow_le_pow_right (by decide) (by omega)
                  refine m_iload 6 rfl dX12_apart_73 ?_
                  refine m_iconst 1 dX12_apart_75 rfl ?_
                  refine m_aload_n 0 rfl rfl dX12_apart_76 ?_
                  refine m_iload_n 1 rfl rfl dX12_apart_77 ?_
                  refine m_callVi cv_X12_171 [.int (nI (dq))] [.int 1, .int (nI (k_))] (k_m_sums l G a_ ho_ im h_ hM dq (by omega) hk2) (by decide) (ce_4 G _ _ _ _ _ _ _ _ _ _) rfl rfl rfl ⟨Nat.le_of_ble_eq_true rfl, Nat.le_of_ble_eq_true rfl⟩ (Nat.le_of_ble_eq_true rfl) ⟨Nat.zero_le _, Nat.zero_le _⟩ dX12_apart_78 (fun xx σ2 hq => ?_)
                  obtain ⟨rfl, rfl⟩ := hq
                  refine m_ishl dX12_apart_81 ?_
                  refine m_topi ((show (1 : Int32) <<< (nI (shN h_ dq) &&& 31) = nI (2 ^ shN h_ dq) from shl1 hn12)) ?_
                  refine m_icmpn_ge k_ (2 ^ shN h_ dq) 123 (by omega) (by omega) dX12_apart_82 (by decide) (fun c10_ => ?_) (fun c10_ => ?_)
                  ·
                    obtain rfl : k_ = 2 ^ shN h_ dq := (by omega)
                    cases hf0 : faS (apB a_ (shX h_ dq) (shY h_ dq) (shN h_ dq) (nI m_)) (2 ^ shN h_ dq) with
                    | none => exact m_dead (ap_none hf0)
                    | some bw =>
                      have hbk := faS_lt hf0
                      have hap := ap_end ho_ hm_ hn12 hdq hf0
                      refine m_iload_n 3 rfl rfl dX12_apart_123 ?_
                      refine m_if_ne 135 dX12_apart_124 (by decide) (fun c11_ => ?_) (fun c11_ => ?_)
                      ·
                        refine m_iload 5 rfl dX12_apart_135 ?_
                        exact m_iret dX12_apart_137 (Nat.le_refl _) (Nat.le_refl _) (⟨by unfold apartI; rw [if_pos ⟨har, c3_⟩, if_pos hb0, if_neg (show ¬ 10 < rN h_ (nI dq) by simp only [rN, hcldq]; omega), hap]; first | (rw [if_pos c11_]; done) | (rw [if_neg c11_]; done) | (rw [if_neg c11_]; rfl), _, _, rfl⟩)
                      ·
                        refine m_iload 5 rfl dX12_apart_127 ?_
                        refine m_callSi cs_X12_209 [.int (nI (bw))] [] (k_m_bits l G bw (by omega)) rfl rfl ⟨Nat.le_of_ble_eq_true rfl, Nat.le_of_ble_eq_true rfl⟩ (Nat.le_of_ble_eq_true rfl) ⟨Nat.zero_le _, Nat.zero_le _⟩ dX12_apart_129 (fun xx σ2 hq => ?_)
                        obtain ⟨rfl, rfl⟩ := hq
                        refine m_goto 137 dX12_apart_132 (by decide) ?_
                        exact m_iret dX12_apart_137 (Nat.le_refl _) (Nat.le_refl _) (⟨by unfold apartI; rw [if_pos ⟨har, c3_⟩, if_pos hb0, if_neg (show ¬ 10 < rN h_ (nI dq) by simp only [rN, hcldq]; omega), hap]; first | (rw [if_pos c11_]; done) | (rw [if_neg c11_]; done) | (rw [if_neg c11_]; rfl), _, _, rfl⟩)
                  ·
                    cases hf0 : faS (apB a_ (shX h_ dq) (shY h_ dq) (shN h_ dq) (nI m_)) k_ with
                    | none =>
                      refine m_iload 5 rfl dX12_apart_85 ?_
                      refine m_if_lt 103 dX12_apart_87 (by decide) (fun _ => ?_) (fun c12_ => absurd c12_ (by decide))
                      refine m_aload_n 0 rfl rfl dX12_apart_103 ?_
                      refine m_iload_n 2 rfl rfl dX12_apart_104 ?_
                      refine m_iload 6 rfl dX12_apart_105 ?_
                      refine m_callVi cv_X12_212 [.int (nI (m_)), .int (nI (k_))] [] (k_m_areParted l G a_ ho_ im h_ hM dq hdq hsr (nI (m_)) k_ hfp) (by decide) (ce_4 G _ _ _ _ _ _ _ _ _ _) rfl rfl rfl ⟨Nat.le_of_ble_eq_true rfl, Nat.le_of_ble_eq_true rfl⟩ (Nat.le_of_ble_eq_true rfl) ⟨Nat.zero_le _, Nat.zero_le _⟩ dX12_apart_107 (fun xx σ2 hq => ?_)
                      obtain ⟨rfl, rfl⟩ := hq
                      refine m_ifeq_b 117 dX12_apart_110 (by decide) (fun c13_ => ?_) (fun c13_ => ?_)
                      ·
                        refine m_iinc (nI (k_ + 1)) 6 [(6, .int (nI (k_ + 1))), (0, .ref (gK G 4 0)), (1, .int (nI (dq))), (2, .int (nI (m_))), (3, .int p_), (4, .int (shRefI h_ (nI dq))), (5, .int (-4))] rfl (nI_1 _) (by decide) rfl dX12_apart_117 ?_
                        refine m_goto 73 dX12_apart_120 (by decide) ?_
                        refine m_lv [(0, .ref (gK G 4 0)), (1, .int (nI (dq))), (2, .int (nI (m_))), (3, .int p_), (4, .int (shRefI h_ (nI dq))), (5, .int (-4)), (6, .int (nI (k_ + 1)))] [1, 2, 3, 4, 5, 6, 0] rfl ?_
                        have ihx := ih73 (k_ + 1)  (by omega) (by omega)
                        rw [faS_0n hf0 c13_] at ihx
                        exact ihx
                      ·
                        refine m_iload 6 rfl dX12_apart_113 ?_
                        refine m_istore [(5, .int (nI (k_))), (0, .ref (gK G 4 0)), (1, .int (nI (dq))), (2, .int (nI (m_))), (3, .int p_), (4, .int (shRefI h_ (nI dq))), (6, .int (nI (k_)))] (by decide) rfl dX12_apart_115 ?_
                        refine m_iinc (nI (k_ + 1)) 6 [(6, .int (nI (k_ + 1))), (5, .int (nI (k_))), (0, .ref (gK G 4 0)), (1, .int (nI (dq))), (2, .int (nI (m_))), (3, .int p_), (4, .int (shRefI h_ (nI dq)))] rfl (nI_1 _) (by decide) rfl dX12_apart_117 ?_
                        refine m_goto 73 dX12_apart_120 (by decide) ?_
                        refine m_lv [(0, .ref (gK G 4 0)), (1, .int (nI (dq))), (2, .int (nI (m_))), (3, .int p_), (4, .int (shRefI h_ (nI dq))), (5, .int (nI (k_))), (6, .int (nI (k_ + 1)))] [2, 3, 4, 5, 6, 1, 0] rfl ?_
                        have ihx := ih73 (k_ + 1)  (by omega) (by omega)
                        rw [faS_0 hf0 c13_] at ihx
                        exact ihx
                    | some bw =>
                      have hbk := faS_lt hf0
                      have hb1 := bcN_le bw
                      have hb2 := bcN_le k_
                      refine m_iload 5 rfl dX12_apart_85 ?_
                      refine m_ifn_lt bw 103 (by omega) dX12_apart_87 (by decide) (fun c14_ => m_dead c14_) (fun _ => ?_)
                      refine m_iload 6 rfl dX12_apart_90 ?_
                      refine m_callSi cs_X12_209 [.int (nI (k_))] [] (k_m_bits l G k_ (by omega)) rfl rfl ⟨Nat.le_of_ble_eq_true rfl, Nat.le_of_ble_eq_true rfl⟩ (Nat.le_of_ble_eq_true rfl) ⟨Nat.zero_le _, Nat.zero_le _⟩ dX12_apart_92 (fun xx σ2 hq => ?_)
                      obtain ⟨rfl, rfl⟩ := hq
                      refine m_iload 5 rfl dX12_apart_95 ?_
                      refine m_callSi cs_X12_209 [.int (nI (bw))] [.int (nI (bcN k_))] (k_m_bits l G bw (by omega)) rfl rfl ⟨Nat.le_of_ble_eq_true rfl, Nat.le_of_ble_eq_true rfl⟩ (Nat.le_of_ble_eq_true rfl) ⟨Nat.zero_le _, Nat.zero_le _⟩ dX12_apart_97 (fun xx σ2 hq => ?_)
                      obtain ⟨rfl, rfl⟩ := hq
                      refine m_icmpn_ge (bcN k_) (bcN bw) 117 (by omega) (by omega) dX12_apart_100 (by decide) (fun c15_ => ?_) (fun c15_ => ?_)
                      ·
                        refine m_iinc (nI (k_ + 1)) 6 [(6, .int (nI (k_ + 1))), (0, .ref (gK G 4 0)), (1, .int (nI (dq))), (2, .int (nI (m_))), (3, .int p_), (4, .int (shRefI h_ (nI dq))), (5, .int (nI (bw)))] rfl (nI_1 _) (by decide) rfl dX12_apart_117 ?_
                        refine m_goto 73 dX12_apart_120 (by decide) ?_
                        refine m_lv [(0, .ref (gK G 4 0)), (1, .int (nI (dq))), (2, .int (nI (m_))), (3, .int p_), (4, .int (shRefI h_ (nI dq))), (5, .int (nI (bw))), (6, .int (nI (k_ + 1)))] [1, 2, 3, 4, 5, 6, 0] rfl ?_
                        have ihx := ih73 (k_ + 1)  (by omega) (by omega)
                        rw [faS_n hf0 (fun q_ => absurd q_.1 (by omega))] at ihx
                        exact ihx
                      ·
                        refine m_aload_n 0 rfl rfl dX12_apart_103 ?_
                        refine m_iload_n 2 rfl rfl dX12_apart_104 ?_
                        refine m_iload 6 rfl dX12_apart_105 ?_
                        refine m_callVi cv_X12_212 [.int (nI (m_)), .int (nI (k_))] [] (k_m_areParted l G a_ ho_ im h_ hM dq hdq hsr (nI (m_)) k_ hfp) (by decide) (ce_4 G _ _ _ _ _ _ _ _ _ _) rfl rfl rfl ⟨Nat.le_of_ble_eq_true rfl, Nat.le_of_ble_eq_true rfl⟩ (Nat.le_of_ble_eq_true rfl) ⟨Nat.zero_le _, Nat.zero_le _⟩ dX12_apart_107 (fun xx σ2 hq => ?_)
                        obtain ⟨rfl, rfl⟩ := hq
                        refine m_ifeq_b 117 dX12_apart_110 (by decide) (fun c16_ => ?_) (fun c16_ => ?_)
                        ·
                          refine m_iinc (nI (k_ + 1)) 6 [(6, .int (nI (k_ + 1))), (0, .ref (gK G 4 0)), (1, .int (nI (dq))), (2, .int (nI (m_))), (3, .int p_), (4, .int (shRefI h_ (nI dq))), (5, .int (nI (bw)))] rfl (nI_1 _) (by decide) rfl dX12_apart_117 ?_
                          refine m_goto 73 dX12_apart_120 (by decide) ?_
                          refine m_lv [(0, .ref (gK G 4 0)), (1, .int (nI (dq))), (2, .int (nI (m_))), (3, .int p_), (4, .int (shRefI h_ (nI dq))), (5, .int (nI (bw))), (6, .int (nI (k_ + 1)))] [1, 2, 3, 4, 5, 6, 0] rfl ?_
                          have ihx := ih73 (k_ + 1)  (by omega) (by omega)
                          rw [faS_n hf0 (fun q_ => by rw [c16_] at q_; exact absurd q_.2 (by decide))] at ihx
                          exact ihx
                        ·
                          refine m_iload 6 rfl dX12_apart_113 ?_
                          refine m_istore [(5, .int (nI (k_))), (0, .ref (gK G 4 0)), (1, .int (nI (dq))), (2, .int (nI (m_))), (3, .int p_), (4, .int (shRefI h_ (nI dq))), (6, .int (nI (k_)))] (by decide) rfl dX12_apart_115 ?_
                          refine m_iinc (nI (k_ + 1)) 6 [(6, .int (nI (k_ + 1))), (5, .int (nI (k_))), (0, .ref (gK G 4 0)), (1, .int (nI (dq))), (2, .int (nI (m_))), (3, .int p_), (4, .int (shRefI h_ (nI dq)))] rfl (nI_1 _) (by decide) rfl dX12_apart_117 ?_
                          refine m_goto 73 dX12_apart_120 (by decide) ?_
                          refine m_lv [(0, .ref (gK G 4 0)), (1, .int (nI (dq))), (2, .int (nI (m_))), (3, .int p_), (4, .int (shRefI h_ (nI dq))), (5, .int (nI (k_))), (6, .int (nI (k_ + 1)))] [2, 3, 4, 5, 6, 1, 0] rfl ?_
                          have ihx := ih73 (k_ + 1)  (by omega) (by omega)
                          rw [faS_y hf0 (by omega) c16_] at ihx
                          exact ihx
              refine m_lv [(0, .ref (gK G 4 0)), (1, .int (nI (dq))), (2, .int (nI (m_))), (3, .int p_), (4, .int (shRefI h_ (nI dq))), (5, .int (-4)), (6, .int 0)] [3, 4, 5, 6, 2, 1, 0] rfl ?_
              exact lp73 ((2 ^ shN h_ dq - 0) + 1) 0  (Nat.zero_le _) (Nat.lt_succ_self _)
            ·
              have hz : False := c7_ hb0
              exact m_dead (by first | omega | assumption)
          ·
            refine m_bipush (-13) dX12_apart_49 rfl ?_
            refine m_istore [(4, .int (-13)), (0, .ref (gK G 4 0)), (1, .int (nI (dq))), (2, .int (nI (m_))), (3, .int p_)] (by decide) rfl dX12_apart_51 ?_
            refine m_iload 0 rfl dX12_apart_53 ?_
            refine m_if_eq 61 dX12_apart_55 (by decide) (fun c17_ => absurd c17_ (by decide)) (fun _ => ?_)
            refine m_iload 0 rfl dX12_apart_58 ?_
            exact m_iret dX12_apart_60 (Nat.le_refl _) (Nat.le_refl _) (⟨by unfold apartI; rw [if_pos ⟨har, c3_⟩, if_pos hb0, if_pos (show 10 < rN h_ (nI dq) by simp only [rN, hcldq]; omega)], _, _, rfl⟩)
      ·
        refine m_iconst (-1) dX12_apart_25 rfl ?_
        exact m_iret dX12_apart_26 (Nat.le_refl _) (Nat.le_refl _) (⟨by unfold apartI; rw [if_neg (fun q_ => by rw [q_.2] at c3_; exact absurd c3_ (by decide))], _, _, rfl⟩)
theorem rw_low {pq : Nat → Nat → Bool} {v_ : Nat} : ∀ {n_}, n_ ≤ v_ + 1 → cntB (fun w_ => decide (v_ < w_) && pq v_ w_) n_ = 0
  | 0, _ => rfl
  | n_ + 1, h_ => by
    show (if (decide (v_ < n_) && pq v_ n_) = true then _ else cntB (fun w_ => decide (v_ < w_) && pq v_ w_) n_) = 0
    rw [decide_eq_false (by omega), Bool.false_and, if_neg (by decide), rw_low (by omega)]
set_option maxRecDepth 100000 in
set_option maxHeartbeats 4000000 in
theorem k_m_never (l : Launch) (G : owG) {A S Z B T V : owF} {J : Nat → Nat → Int64} {Y : Nat → Nat → Nat → Option Nat} {P : Nat → Option owW} (a_ : owK) (ho_ : aOk a_) (im : Option owK) (h_ : owH) (hM : MR B a_ im h_) (x_ b_ : Int32) : Ct l G yX12_never cX12_never 7 ((some .int)) 5 0 0 [.ref (gK G 4 0), .int x_, .int b_] (A, S, Z, B, T, V, J, Y, P) (qI (fun r_ σ => r_ = neverI a_ h_ x_ b_ ∧ ∃ (T2 V2 : owF), σ = (A, S, Z, B, T2, V2, J, Y, P))) := by
  refine ct_of (by decide +kernel) (Nat.le_of_ble_eq_true rfl) ?_
  have h10 := ho_.1
  have h8_ := ho_.2.1
  have hX := hM.1
  show Wm l G cX12_never 7 RX12 ((some .int)) (rmk 5 0 0) (fun _ => True) (QfM G (qI (fun r_ σ => r_ = neverI a_ h_ x_ b_ ∧ ∃ (T2 V2 : owF), σ = (A, S, Z, B, T2, V2, J, Y, P))) 0 0) 0 [(0, .ref (gK G 4 0)), (1, .int x_), (2, .int b_)] [] (A, S, Z, B, T, V, J, Y, P) 0 0
  refine m_iload_n 1 rfl rfl dX12_never_0 ?_
  refine m_callSi cs_X12_101 [.int x_] [] (k_m_isShelf l G x_) rfl rfl ⟨Nat.le_of_ble_eq_true rfl, Nat.le_of_ble_eq_true rfl⟩ (Nat.le_of_ble_eq_true rfl) ⟨Nat.zero_le _, Nat.zero_le _⟩ dX12_never_1 (fun xx σ2 hq => ?_)
  obtain ⟨rfl, rfl⟩ := hq
  refine m_ifeq_b 15 dX12_never_4 (by decide) (fun c1_ => ?_) (fun c1_ => ?_)
  ·
    refine m_iconst (-1) dX12_never_15 rfl ?_
    exact m_iret dX12_never_16 (Nat.le_refl _) (Nat.le_refl _) (⟨by have hz := shRefI_n (h := h_) c1_; unfold neverI; rw [hz]; split <;> rfl, _, _, rfl⟩)
  ·
    refine m_aload_n 0 rfl rfl dX12_never_7 ?_
    refine m_iload_n 2 rfl rfl dX12_never_8 ?_
    refine m_callVi cv_X12_165 [.int b_] [] (k_m_areWays l G a_ ho_ im h_ hM b_) (by decide) (ce_4 G _ _ _ _ _ _ _ _ _ _) rfl rfl rfl ⟨Nat.le_of_ble_eq_true rfl, Nat.le_of_ble_eq_true rfl⟩ (Nat.le_of_ble_eq_true rfl) ⟨Nat.zero_le _, Nat.zero_le _⟩ dX12_never_9 (fun xx σ2 hq => ?_)
    obtain ⟨rfl, rfl⟩ := hq
    refine m_ifne_b 17 dX12_never_12 (by decide) (fun c2_ => ?_) (fun c2_ => ?_)
    ·
      have har := c2_
      obtain ⟨m_, hm_, rfl⟩ := (areW_nat ho_).mp c2_
      refine m_aload_n 0 rfl rfl dX12_never_17 ?_
      refine m_iload_n 1 rfl rfl dX12_never_18 ?_
      refine m_callVi cv_X12_175 [.int x_] [] (k_m_wrongSheet l G a_ ho_ im h_ hM x_) (by decide) (ce_4 G _ _ _ _ _ _ _ _ _ _) rfl rfl rfl ⟨Nat.le_of_ble_eq_true rfl, Nat.le_of_ble_eq_true rfl⟩ (Nat.le_of_ble_eq_true rfl) ⟨Nat.zero_le _, Nat.zero_le _⟩ dX12_never_19 (fun xx σ2 hq => ?_)
      obtain ⟨rfl, rfl⟩ := hq
      refine m_istore_n [(3, .int (shRefI h_ x_)), (0, .ref (gK G 4 0)), (1, .int x_), (2, .int (nI (m_)))] rfl (by decide) rfl dX12_never_22 ?_
      refine m_iload_n 0 rfl rfl dX12_never_23 ?_
      refine m_if_eq 29 dX12_never_24 (by decide) (fun c3_ => ?_) (fun c3_ => ?_)
      ·
        have hb0 := c3_
        obtain ⟨dq, hdq, rfl, hsr, hDd⟩ := shRefI_0 hb0
        have hcldq : (nI dq).toNatClampNeg = dq := nI_clamp (by omega)
        obtain ⟨hk2, hso2, hev, h24, hsm⟩ := shRef_ok hsr
        have hn12 : shN h_ dq ≤ 12 := by unfold shN; omega
        refine m_aload_n 1 rfl rfl dX12_never_29 ?_
        refine m_iload_n 2 rfl rfl dX12_never_30 ?_
        refine m_callVv cv_X12_205 [.int (nI (dq))] [] (k_m_findsParted l G a_ ho_ im h_ hM dq hdq hsr) (by decide) (ce_4 G _ _ _ _ _ _ _ _ _ _) rfl rfl rfl ⟨Nat.le_of_ble_eq_true rfl, Nat.le_of_ble_eq_true rfl⟩ (Nat.le_of_ble_eq_true rfl) ⟨Nat.zero_le _, Nat.zero_le _⟩ dX12_never_31 (fun σ2 hq => ?_)
        obtain ⟨T4, V5, rfl, hfp⟩ := hq
        refine m_iconst 0 dX12_never_34 rfl ?_
        refine m_istore [(4, .int 0), (3, .int (shRefI h_ (nI dq))), (0, .ref (gK G 4 0)), (1, .int (nI (dq))), (2, .int (nI (m_)))] (by decide) rfl dX12_never_35 ?_
        refine m_iconst 0 dX12_never_37 rfl ?_
        refine m_istore [(5, .int 0), (4, .int 0), (3, .int (shRefI h_ (nI dq))), (0, .ref (gK G 4 0)), (1, .int (nI (dq))), (2, .int (nI (m_)))] (by decide) rfl dX12_never_38 ?_
        have lp40 : ∀ (dd : Nat) (v_ : Nat) , v_ ≤ aN a_ → aN a_ - v_ < dd → Wm l G cX12_never 7 RX12 ((some .int)) (rmk 5 0 0) (fun _ => True) (QfM G (qI (fun r_ σ => r_ = neverI a_ h_ (nI dq) (nI m_) ∧ ∃ (T2 V2 : owF), σ = (A, S, Z, B, T2, V2, J, Y, P))) 0 0) 40 [(0, .ref (gK G 4 0)), (1, .int (nI (dq))), (2, .int (nI (m_))), (3, .int (shRefI h_ (nI dq))), (4, .int (nI (smN (fun v_ => rwS (fun v_ w_ => boB (nI m_) v_ w_ && decide (pdN a_ (shX h_ dq) (shY h_ dq) (shN h_ dq) v_ w_ = 0)) v_ (aN a_)) v_))), (5, .int (nI (v_)))] [] (A, S, Z, B, T4, V5, J, Y, P) 0 0 := by
          intro dd
          induction dd with
          | zero => intro v_  hv_ hdd; exact absurd hdd (Nat.not_lt_zero _)
          | succ dd ih40 =>
            intro v_  hv_ hdd40
            refine m_iload 5 rfl dX12_never_40 ?_
            refine m_aload_n 0 rfl rfl dX12_never_42 ?_
            refine gf_X12_9 dX12_never_43 ?_
            refine m_iconst 0 dX12_never_46 rfl ?_
            refine al_40 0 rfl (by omega) dX12_never_47 ?_
            refine m_topi hX.1 ?_
            refine m_icmpn_ge v_ (aN a_) 118 (by omega) (by omega) dX12_never_48 (by decide) (fun c6_ => ?_) (fun c6_ => ?_)
            ·
              refine m_iload 4 rfl dX12_never_118 ?_
              exact m_iret dX12_never_120 (Nat.le_refl _) (Nat.le_refl _) ((by obtain rfl : v_ = aN a_ := (by omega); exact ⟨by unfold neverI; rw [if_pos har, if_pos hb0, nI_clamp (show m_ < 2 ^ 31 from Nat.lt_trans (pow10 ho_ hm_) (by decide))]; simp only [rN, rX, rQ, hcldq]; exact (never_eq ho_ hm_).symm, _, _, rfl⟩))
            ·
              refine m_iload 5 rfl dX12_never_51 ?_
              refine m_iconst 1 dX12_never_53 rfl ?_
              refine m_iadd dX12_never_54 ?_
              refine m_topi (show (nI (v_)) + 1 = nI (v_ + 1) from nI_add _ _) ?_
              rw [show smN (fun v_ => rwS (fun v_ w_ => boB (nI m_) v_ w_ && decide (pdN a_ (shX h_ dq) (shY h_ dq) (shN h_ dq) v_ w_ = 0)) v_ (aN a_)) v_ = smN (fun v_ => rwS (fun v_ w_ => boB (nI m_) v_ w_ && decide (pdN a_ (shX h_ dq) (shY h_ dq) (shN h_ dq) v_ w_ = 0)) v_ (aN a_)) v_ + cntB (fun w2 => decide (v_ < w2) && (fun v_ w_ => boB (nI m_) v_ w_ && decide (pdN a_ (shX h_ dq) (shY h_ dq) (shN h_ dq) v_ w_ = 0)) v_ w2) (v_ + 1) from by rw [rw_low (pq := (fun v_ w_ => boB (nI m_) v_ w_ && decide (pdN a_ (shX h_ dq) (shY h_ dq) (shN h_ dq) v_ w_ = 0))) (Nat.le_refl _)]; rfl]
              refine m_istore [(6, .int (nI (v_ + 1))), (0, .ref (gK G 4 0)), (1, .int (nI (dq))), (2, .int (nI (m_))), (3, .int (shRefI h_ (nI dq))), (4, .int (nI (smN (fun v_ => rwS (fun v_ w_ => boB (nI m_) v_ w_ && decide (pdN a_ (shX h_ dq) (shY h_ dq) (shN h_ dq) v_ w_ = 0)) v_ (aN a_)) v_ + cntB (fun w2 => decide (v_ < w2) && (fun v_ w_ => boB (nI m_) v_ w_ && decide (pdN a_ (shX h_ dq) (shY h_ dq) (shN h_ dq) v_ w_ = 0)) v_ w2) (v_ + 1)))), (5, .int (nI (v_)))] (by decide) rfl dX12_never_55 ?_
              have lp57 : ∀ (dd : Nat) (w_ : Nat) , w_ ≤ aN a_ → v_ < w_ → aN a_ - w_ < dd → Wm l G cX12_never 7 RX12 ((some .int)) (rmk 5 0 0) (fun _ => True) (QfM G (qI (fun r_ σ => r_ = neverI a_ h_ (nI dq) (nI m_) ∧ ∃ (T2 V2 : owF), σ = (A, S, Z, B, T2, V2, J, Y, P))) 0 0) 57 [(0, .ref (gK G 4 0)), (1, .int (nI (dq))), (2, .int (nI (m_))), (3, .int (shRefI h_ (nI dq))), (4, .int (nI (smN (fun v_ => rwS (fun v_ w_ => boB (nI m_) v_ w_ && decide (pdN a_ (shX h_ dq) (shY h_ dq) (shN h_ dq) v_ w_ = 0)) v_ (aN a_)) v_ + cntB (fun w2 => decide (v_ < w2) && (fun v_ w_ => boB (nI m_) v_ w_ && decide (pdN a_ (shX h_ dq) (shY h_ dq) (shN h_ dq) v_ w_ = 0)) v_ w2) w_))), (5, .int (nI (v_))), (6, .int (nI (w_)))] [] (A, S, Z, B, T4, V5, J, Y, P) 0 0 := by
                intro dd
                induction dd with
                | zero => intro w_  hw_ hvw hdd; exact absurd hdd (Nat.not_lt_zero _)
                | succ dd ih57 =>
                  intro w_  hw_ hvw hdd57
                  refine m_iload 6 rfl dX12_never_57 ?_
                  refine m_aload_n 0 rfl rfl dX12_never_59 ?_
                  refine gf_X12_9 dX12_never_60 ?_
                  refine m_iconst 0 dX12_never_63 rfl ?_
                  refine al_40 0 rfl (by omega) dX12_never_64 ?_
                  refine m_topi hX.1 ?_
                  refine m_icmpn_ge w_ (aN a_) 112 (by omega) (by omega) dX12_never_65 (by decide) (fun c7_ => ?_) (fun c7_ => ?_)
                  ·
                    refine m_iinc (nI (v_ + 1)) 5 [(5, .int (nI (v_ + 1))), (0, .ref (gK G 4 0)), (1, .int (nI (dq))), (2, .int (nI (m_))), (3, .int (shRefI h_ (nI dq))), (4, .int (nI (smN (fun v_ => rwS (fun v_ w_ => boB (nI m_) v_ w_ && decide (pdN a_ (shX h_ dq) (shY h_ dq) (shN h_ dq) v_ w_ = 0)) v_ (aN a_)) v_ + cntB (fun w2 => decide (v_ < w2) && (fun v_ w_ => boB (nI m_) v_ w_ && decide (pdN a_ (shX h_ dq) (shY h_ dq) (shN h_ dq) v_ w_ = 0)) v_ w2) w_))), (6, .int (nI (w_)))] rfl (nI_1 _) (by decide) rfl dX12_never_112 ?_
                    refine m_goto 40 dX12_never_115 (by decide) ?_
                    refine m_lv [(0, .ref (gK G 4 0)), (1, .int (nI (dq))), (2, .int (nI (m_))), (3, .int (shRefI h_ (nI dq))), (4, .int (nI (smN (fun v_ => rwS (fun v_ w_ => boB (nI m_) v_ w_ && decide (pdN a_ (shX h_ dq) (shY h_ dq) (shN h_ dq) v_ w_ = 0)) v_ (aN a_)) v_ + cntB (fun w2 => decide (v_ < w2) && (fun v_ w_ => boB (nI m_) v_ w_ && decide (pdN a_ (shX h_ dq) (shY h_ dq) (shN h_ dq) v_ w_ = 0)) v_ w2) w_))), (5, .int (nI (v_ + 1)))] [1, 2, 3, 4, 5, 0] rfl ?_
                    rw [show smN (fun v_ => rwS (fun v_ w_ => boB (nI m_) v_ w_ && decide (pdN a_ (shX h_ dq) (shY h_ dq) (shN h_ dq) v_ w_ = 0)) v_ (aN a_)) v_ + cntB (fun w2 => decide (v_ < w2) && (fun v_ w_ => boB (nI m_) v_ w_ && decide (pdN a_ (shX h_ dq) (shY h_ dq) (shN h_ dq) v_ w_ = 0)) v_ w2) w_ = smN (fun v_ => rwS (fun v_ w_ => boB (nI m_) v_ w_ && decide (pdN a_ (shX h_ dq) (shY h_ dq) (shN h_ dq) v_ w_ = 0)) v_ (aN a_)) (v_ + 1) from by obtain rfl : w_ = aN a_ := (by omega); rfl]
                    exact ih40 (v_ + 1)  (by omega) (by omega)
                  ·
                    have hpl : pdN a_ (shX h_ dq) (shY h_ dq) (shN h_ dq) v_ w_ < 2 ^ 31 := orN_lt31 _ hn12
                    refine m_iload 4 rfl dX12_never_68 ?_
                    refine m_aload_n 0 rfl rfl dX12_never_70 ?_
                    refine m_iload_n 2 rfl rfl dX12_never_71 ?_
                    refine m_iload 5 rfl dX12_never_72 ?_
                    refine m_iload 6 rfl dX12_never_74 ?_
                    refine m_callVi cv_X12_201 [.int (nI (m_)), .int (nI (v_)), .int (nI (w_))] [.int (nI (smN (fun v_ => rwS (fun v_ w_ => boB (nI m_) v_ w_ && decide (pdN a_ (shX h_ dq) (shY h_ dq) (shN h_ dq) v_ w_ = 0)) v_ (aN a_)) v_ + cntB (fun w2 => decide (v_ < w2) && (fun v_ w_ => boB (nI m_) v_ w_ && decide (pdN a_ (shX h_ dq) (shY h_ dq) (shN h_ dq) v_ w_ = 0)) v_ w2) w_))] (k_m_areBoth l G (nI (m_)) v_ w_) (by decide) (ce_4 G _ _ _ _ _ _ _ _ _ _) rfl rfl rfl ⟨Nat.le_of_ble_eq_true rfl, Nat.le_of_ble_eq_true rfl⟩ (Nat.le_of_ble_eq_true rfl) ⟨Nat.zero_le _, Nat.zero_le _⟩ dX12_never_76 (fun xx σ2 hq => ?_)
                    obtain ⟨rfl, rfl⟩ := hq
                    refine m_ifeq_b 102 dX12_never_79 (by decide) (fun c8_ => ?_) (fun c8_ => ?_)
                    ·
                      refine m_iconst 0 dX12_never_102 rfl ?_
                      refine m_iadd dX12_never_103 ?_
                      refine m_topi (show (nI (smN (fun v_ => rwS (fun v_ w_ => boB (nI m_) v_ w_ && decide (pdN a_ (shX h_ dq) (shY h_ dq) (shN h_ dq) v_ w_ = 0)) v_ (aN a_)) v_ + cntB (fun w2 => decide (v_ < w2) && (fun v_ w_ => boB (nI m_) v_ w_ && decide (pdN a_ (shX h_ dq) (shY h_ dq) (shN h_ dq) v_ w_ = 0)) v_ w2) w_)) + 0 = nI ((smN (fun v_ => rwS (fun v_ w_ => boB (nI m_) v_ w_ && decide (pdN a_ (shX h_ dq) (shY h_ dq) (shN h_ dq) v_ w_ = 0)) v_ (aN a_)) v_ + cntB (fun w2 => decide (v_ < w2) && (fun v_ w_ => boB (nI m_) v_ w_ && decide (pdN a_ (shX h_ dq) (shY h_ dq) (shN h_ dq) v_ w_ = 0)) v_ w2) w_) + 0) from nI_add _ _) ?_
                      refine m_istore [(4, .int (nI ((smN (fun v_ => rwS (fun v_ w_ => boB (nI m_) v_ w_ && decide (pdN a_ (shX h_ dq) (shY h_ dq) (shN h_ dq) v_ w_ = 0)) v_ (aN a_)) v_ + cntB (fun w2 => decide (v_ < w2) && (fun v_ w_ => boB (nI m_) v_ w_ && decide (pdN a_ (shX h_ dq) (shY h_ dq) (shN h_ dq) v_ w_ = 0)) v_ w2) w_) + 0))), (0, .ref (gK G 4 0)), (1, .int (nI (dq))), (2, .int (nI (m_))), (3, .int (shRefI h_ (nI dq))), (5, .int (nI (v_))), (6, .int (nI (w_)))] (by decide) rfl dX12_never_104 ?_
                      refine m_iinc (nI (w_ + 1)) 6 [(6, .int (nI (w_ + 1))), (4, .int (nI ((smN (fun v_ => rwS (fun v_ w_ => boB (nI m_) v_ w_ && decide (pdN a_ (shX h_ dq) (shY h_ dq) (shN h_ dq) v_ w_ = 0)) v_ (aN a_)) v_ + cntB (fun w2 => decide (v_ < w2) && (fun v_ w_ => boB (nI m_) v_ w_ && decide (pdN a_ (shX h_ dq) (shY h_ dq) (shN h_ dq) v_ w_ = 0)) v_ w2) w_) + 0))), (0, .ref (gK G 4 0)), (1, .int (nI (dq))), (2, .int (nI (m_))), (3, .int (shRefI h_ (nI dq))), (5, .int (nI (v_)))] rfl (nI_1 _) (by decide) rfl dX12_never_106 ?_
                      refine m_goto 57 dX12_never_109 (by decide) ?_
                      refine m_lv [(0, .ref (gK G 4 0)), (1, .int (nI (dq))), (2, .int (nI (m_))), (3, .int (shRefI h_ (nI dq))), (4, .int (nI ((smN (fun v_ => rwS (fun v_ w_ => boB (nI m_) v_ w_ && decide (pdN a_ (shX h_ dq) (shY h_ dq) (shN h_ dq) v_ w_ = 0)) v_ (aN a_)) v_ + cntB (fun w2 => decide (v_ < w2) && (fun v_ w_ => boB (nI m_) v_ w_ && decide (pdN a_ (shX h_ dq) (shY h_ dq) (shN h_ dq) v_ w_ = 0)) v_ w2) w_) + 0))), (5, .int (nI (v_))), (6, .int (nI (w_ + 1)))] [2, 3, 4, 5, 1, 6, 0] rfl ?_
                      rw [show smN (fun v_ => rwS (fun v_ w_ => boB (nI m_) v_ w_ && decide (pdN a_ (shX h_ dq) (shY h_ dq) (shN h_ dq) v_ w_ = 0)) v_ (aN a_)) v_ + cntB (fun w2 => decide (v_ < w2) && (fun v_ w_ => boB (nI m_) v_ w_ && decide (pdN a_ (shX h_ dq) (shY h_ dq) (shN h_ dq) v_ w_ = 0)) v_ w2) w_ = smN (fun v_ => rwS (fun v_ w_ => boB (nI m_) v_ w_ && decide (pdN a_ (shX h_ dq) (shY h_ dq) (shN h_ dq) v_ w_ = 0)) v_ (aN a_)) v_ + cntB (fun w2 => decide (v_ < w2) && (fun v_ w_ => boB (nI m_) v_ w_ && decide (pdN a_ (shX h_ dq) (shY h_ dq) (shN h_ dq) v_ w_ = 0)) v_ w2) (w_ + 1) from by rw [← cntB_f (p := (fun w2 => decide (v_ < w2) && (fun v_ w_ => boB (nI m_) v_ w_ && decide (pdN a_ (shX h_ dq) (shY h_ dq) (shN h_ dq) v_ w_ = 0)) v_ w2)) (by show (decide (v_ < w_) && (boB (nI m_) v_ w_ && decide (pdN a_ (shX h_ dq) (shY h_ dq) (shN h_ dq) v_ w_ = 0))) = false; rw [c8_, Bool.false_and, Bool.and_false])]]
                      exact ih57 (w_ + 1)  (by omega) (by omega) (by omega)
                    ·
                      refine m_aload_n 0 rfl rfl dX12_never_82 ?_
                      refine gf_X12_49 dX12_never_83 ?_
                      refine m_bipush (10) dX12_never_86 rfl ?_
                      refine m_iload 5 rfl dX12_never_88 ?_
                      refine m_imul dX12_never_90 ?_
                      refine m_topi (show 10 * (nI (v_)) = nI (10 * v_) from pk_mul _ _) ?_
                      refine m_iload 6 rfl dX12_never_91 ?_
                      refine m_iadd dX12_never_93 ?_
                      refine m_topi (show (nI (10 * v_)) + (nI (w_)) = nI ((10 * v_) + w_) from nI_add _ _) ?_
                      refine al_53 ((10 * v_) + w_) rfl (by omega) dX12_never_94 ?_
                      refine m_topi (hfp v_ (by omega) w_ (by omega)) ?_
                      refine m_ifn_ne (pdN a_ (shX h_ dq) (shY h_ dq) (shN h_ dq) v_ w_) 102 (by omega) dX12_never_95 (by decide) (fun c9_ => ?_) (fun c9_ => ?_)
                      ·
                        refine m_iconst 0 dX12_never_102 rfl ?_
                        refine m_iadd dX12_never_103 ?_
                        refine m_topi (show (nI (smN (fun v_ => rwS (fun v_ w_ => boB (nI m_) v_ w_ && decide (pdN a_ (shX h_ dq) (shY h_ dq) (shN h_ dq) v_ w_ = 0)) v_ (aN a_)) v_ + cntB (fun w2 => decide (v_ < w2) && (fun v_ w_ => boB (nI m_) v_ w_ && decide (pdN a_ (shX h_ dq) (shY h_ dq) (shN h_ dq) v_ w_ = 0)) v_ w2) w_)) + 0 = nI ((smN (fun v_ => rwS (fun v_ w_ => boB (nI m_) v_ w_ && decide (pdN a_ (shX h_ dq) (shY h_ dq) (shN h_ dq) v_ w_ = 0)) v_ (aN a_)) v_ + cntB (fun w2 => decide (v_ < w2) && (fun v_ w_ => boB (nI m_) v_ w_ && decide (pdN a_ (shX h_ dq) (shY h_ dq) (shN h_ dq) v_ w_ = 0)) v_ w2) w_) + 0) from nI_add _ _) ?_
                        refine m_istore [(4, .int (nI ((smN (fun v_ => rwS (fun v_ w_ => boB (nI m_) v_ w_ && decide (pdN a_ (shX h_ dq) (shY h_ dq) (shN h_ dq) v_ w_ = 0)) v_ (aN a_)) v_ + cntB (fun w2 => decide (v_ < w2) && (fun v_ w_ => boB (nI m_) v_ w_ && decide (pdN a_ (shX h_ dq) (shY h_ dq) (shN h_ dq) v_ w_ = 0)) v_ w2) w_) + 0))), (0, .ref (gK G 4 0)), (1, .int (nI (dq))), (2, .int (nI (m_))), (3, .int (shRefI h_ (nI dq))), (5, .int (nI (v_))), (6, .int (nI (w_)))] (by decide) rfl dX12_never_104 ?_
                        refine m_iinc (nI (w_ + 1)) 6 [(6, .int (nI (w_ + 1))), (4, .int (nI ((smN (fun v_ => rwS (fun v_ w_ => boB (nI m_) v_ w_ && decide (pdN a_ (shX h_ dq) (shY h_ dq) (shN h_ dq) v_ w_ = 0)) v_ (aN a_)) v_ + cntB (fun w2 => decide (v_ < w2) && (fun v_ w_ => boB (nI m_) v_ w_ && decide (pdN a_ (shX h_ dq) (shY h_ dq) (shN h_ dq) v_ w_ = 0)) v_ w2) w_) + 0))), (0, .ref (gK G 4 0)), (1, .int (nI (dq))), (2, .int (nI (m_))), (3, .int (shRefI h_ (nI dq))), (5, .int (nI (v_)))] rfl (nI_1 _) (by decide) rfl dX12_never_106 ?_
                        refine m_goto 57 dX12_never_109 (by decide) ?_
                        refine m_lv [(0, .ref (gK G 4 0)), (1, .int (nI (dq))), (2, .int (nI (m_))), (3, .int (shRefI h_ (nI dq))), (4, .int (nI ((smN (fun v_ => rwS (fun v_ w_ => boB (nI m_) v_ w_ && decide (pdN a_ (shX h_ dq) (shY h_ dq) (shN h_ dq) v_ w_ = 0)) v_ (aN a_)) v_ + cntB (fun w2 => decide (v_ < w2) && (fun v_ w_ => boB (nI m_) v_ w_ && decide (pdN a_ (shX h_ dq) (shY h_ dq) (shN h_ dq) v_ w_ = 0)) v_ w2) w_) + 0))), (5, .int (nI (v_))), (6, .int (nI (w_ + 1)))] [2, 3, 4, 5, 1, 6, 0] rfl ?_
                        rw [show smN (fun v_ => rwS (fun v_ w_ => boB (nI m_) v_ w_ && decide (pdN a_ (shX h_ dq) (shY h_ dq) (shN h_ dq) v_ w_ = 0)) v_ (aN a_)) v_ + cntB (fun w2 => decide (v_ < w2) && (fun v_ w_ => boB (nI m_) v_ w_ && decide (pdN a_ (shX h_ dq) (shY h_ dq) (shN h_ dq) v_ w_ = 0)) v_ w2) w_ = smN (fun v_ => rwS (fun v_ w_ => boB (nI m_) v_ w_ && decide (pdN a_ (shX h_ dq) (shY h_ dq) (shN h_ dq) v_ w_ = 0)) v_ (aN a_)) v_ + cntB (fun w2 => decide (v_ < w2) && (fun v_ w_ => boB (nI m_) v_ w_ && decide (pdN a_ (shX h_ dq) (shY h_ dq) (shN h_ dq) v_ w_ = 0)) v_ w2) (w_ + 1) from by rw [← cntB_f (p := (fun w2 => decide (v_ < w2) && (fun v_ w_ => boB (nI m_) v_ w_ && decide (pdN a_ (shX h_ dq) (shY h_ dq) (shN h_ dq) v_ w_ = 0)) v_ w2)) (by show (decide (v_ < w_) && (boB (nI m_) v_ w_ && decide (pdN a_ (shX h_ dq) (shY h_ dq) (shN h_ dq) v_ w_ = 0))) = false; rw [decide_eq_false (show ¬ pdN a_ (shX h_ dq) (shY h_ dq) (shN h_ dq) v_ w_ = 0 by omega), Bool.and_false, Bool.and_false])]]
                        exact ih57 (w_ + 1)  (by omega) (by omega) (by omega)
                      ·
                        refine m_iconst 1 dX12_never_98 rfl ?_
                        refine m_goto 103 dX12_never_99 (by decide) ?_
                        refine m_iadd dX12_never_103 ?_
                        refine m_topi (show (nI (smN (fun v_ => rwS (fun v_ w_ => boB (nI m_) v_ w_ && decide (pdN a_ (shX h_ dq) (shY h_ dq) (shN h_ dq) v_ w_ = 0)) v_ (aN a_)) v_ + cntB (fun w2 => decide (v_ < w2) && (fun v_ w_ => boB (nI m_) v_ w_ && decide (pdN a_ (shX h_ dq) (shY h_ dq) (shN h_ dq) v_ w_ = 0)) v_ w2) w_)) + 1 = nI ((smN (fun v_ => rwS (fun v_ w_ => boB (nI m_) v_ w_ && decide (pdN a_ (shX h_ dq) (shY h_ dq) (shN h_ dq) v_ w_ = 0)) v_ (aN a_)) v_ + cntB (fun w2 => decide (v_ < w2) && (fun v_ w_ => boB (nI m_) v_ w_ && decide (pdN a_ (shX h_ dq) (shY h_ dq) (shN h_ dq) v_ w_ = 0)) v_ w2) w_) + 1) from nI_add _ _) ?_
                        refine m_istore [(4, .int (nI ((smN (fun v_ => rwS (fun v_ w_ => boB (nI m_) v_ w_ && decide (pdN a_ (shX h_ dq) (shY h_ dq) (shN h_ dq) v_ w_ = 0)) v_ (aN a_)) v_ + cntB (fun w2 => decide (v_ < w2) && (fun v_ w_ => boB (nI m_) v_ w_ && decide (pdN a_ (shX h_ dq) (shY h_ dq) (shN h_ dq) v_ w_ = 0)) v_ w2) w_) + 1))), (0, .ref (gK G 4 0)), (1, .int (nI (dq))), (2, .int (nI (m_))), (3, .int (shRefI h_ (nI dq))), (5, .int (nI (v_))), (6, .int (nI (w_)))] (by decide) rfl dX12_never_104 ?_
                        refine m_iinc (nI (w_ + 1)) 6 [(6, .int (nI (w_ + 1))), (4, .int (nI ((smN (fun v_ => rwS (fun v_ w_ => boB (nI m_) v_ w_ && decide (pdN a_ (shX h_ dq) (shY h_ dq) (shN h_ dq) v_ w_ = 0)) v_ (aN a_)) v_ + cntB (fun w2 => decide (v_ < w2) && (fun v_ w_ => boB (nI m_) v_ w_ && decide (pdN a_ (shX h_ dq) (shY h_ dq) (shN h_ dq) v_ w_ = 0)) v_ w2) w_) + 1))), (0, .ref (gK G 4 0)), (1, .int (nI (dq))), (2, .int (nI (m_))), (3, .int (shRefI h_ (nI dq))), (5, .int (nI (v_)))] rfl (nI_1 _) (by decide) rfl dX12_never_106 ?_
                        refine m_goto 57 dX12_never_109 (by decide) ?_
                        refine m_lv [(0, .ref (gK G 4 0)), (1, .int (nI (dq))), (2, .int (nI (m_))), (3, .int (shRefI h_ (nI dq))), (4, .int (nI ((smN (fun v_ => rwS (fun v_ w_ => boB (nI m_) v_ w_ && decide (pdN a_ (shX h_ dq) (shY h_ dq) (shN h_ dq) v_ w_ = 0)) v_ (aN a_)) v_ + cntB (fun w2 => decide (v_ < w2) && (fun v_ w_ => boB (nI m_) v_ w_ && decide (pdN a_ (shX h_ dq) (shY h_ dq) (shN h_ dq) v_ w_ = 0)) v_ w2) w_) + 1))), (5, .int (nI (v_))), (6, .int (nI (w_ + 1)))] [2, 3, 4, 5, 1, 6, 0] rfl ?_
                        rw [show (smN (fun v_ => rwS (fun v_ w_ => boB (nI m_) v_ w_ && decide (pdN a_ (shX h_ dq) (shY h_ dq) (shN h_ dq) v_ w_ = 0)) v_ (aN a_)) v_ + cntB (fun w2 => decide (v_ < w2) && (fun v_ w_ => boB (nI m_) v_ w_ && decide (pdN a_ (shX h_ dq) (shY h_ dq) (shN h_ dq) v_ w_ = 0)) v_ w2) w_) + 1 = smN (fun v_ => rwS (fun v_ w_ => boB (nI m_) v_ w_ && decide (pdN a_ (shX h_ dq) (shY h_ dq) (shN h_ dq) v_ w_ = 0)) v_ (aN a_)) v_ + cntB (fun w2 => decide (v_ < w2) && (fun v_ w_ => boB (nI m_) v_ w_ && decide (pdN a_ (shX h_ dq) (shY h_ dq) (shN h_ dq) v_ w_ = 0)) v_ w2) (w_ + 1) from by rw [← cntB_t (p := (fun w2 => decide (v_ < w2) && (fun v_ w_ => boB (nI m_) v_ w_ && decide (pdN a_ (shX h_ dq) (shY h_ dq) (shN h_ dq) v_ w_ = 0)) v_ w2)) (by show (decide (v_ < w_) && (boB (nI m_) v_ w_ && decide (pdN a_ (shX h_ dq) (shY h_ dq) (shN h_ dq) v_ w_ = 0))) = true; rw [decide_eq_true hvw, c8_, decide_eq_true c9_]; rfl)]; rfl]
                        exact ih57 (w_ + 1)  (by omega) (by omega) (by omega)
              refine m_lv [(0, .ref (gK G 4 0)), (1, .int (nI (dq))), (2, .int (nI (m_))), (3, .int (shRefI h_ (nI dq))), (4, .int (nI (smN (fun v_ => rwS (fun v_ w_ => boB (nI m_) v_ w_ && decide (pdN a_ (shX h_ dq) (shY h_ dq) (shN h_ dq) v_ w_ = 0)) v_ (aN a_)) v_ + cntB (fun w2 => decide (v_ < w2) && (fun v_ w_ => boB (nI m_) v_ w_ && decide (pdN a_ (shX h_ dq) (shY h_ dq) (shN h_ dq) v_ w_ = 0)) v_ w2) (v_ + 1)))), (5, .int (nI (v_))), (6, .int (nI (v_ + 1)))] [1, 2, 3, 4, 5, 6, 0] rfl ?_
              exact lp57 ((aN a_ - (v_ + 1)) + 1) (v_ + 1)  (by omega) (by omega) (Nat.lt_succ_self _)
        refine m_lv [(0, .ref (gK G 4 0)), (1, .int (nI (dq))), (2, .int (nI (m_))), (3, .int (shRefI h_ (nI dq))), (4, .int 0), (5, .int 0)] [3, 4, 5, 2, 1, 0] rfl ?_
        exact lp40 ((aN a_ - 0) + 1) 0  (Nat.zero_le _) (Nat.lt_succ_self _)
      ·
        refine m_iload_n 0 rfl rfl dX12_never_27 ?_
        exact m_iret dX12_never_28 (Nat.le_refl _) (Nat.le_refl _) (⟨by first | (simp [neverI, c1_, c2_, c3_]; done) | (simp_all [neverI, rN, rX, rQ, rV]; done) | grind [neverI], _, _, rfl⟩)
    ·
      refine m_iconst (-1) dX12_never_15 rfl ?_
      exact m_iret dX12_never_16 (Nat.le_refl _) (Nat.le_refl _) (⟨by first | (simp [neverI, c1_, c2_]; done) | (simp_all [neverI, rN, rX, rQ, rV]; done) | grind [neverI], _, _, rfl⟩)
