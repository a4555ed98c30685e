set_option maxRecDepth 100000 in
set_option maxHeartbeats 4000000 in
theorem k_becomes (l : Launch) (G : owG) {A S Z B T V : owF} {J : Nat → Nat → Int64} {Y : Nat → Nat → Nat → Option Nat} {P : Nat → Option owW} (i_ j_ : Nat) (hi_ : i_ < owN 1) (hj : j_ < owN 1) (hij : i_ ≠ j_) (a_ : owK) (ho_ : aOk a_) (hR : RX A Y P j_ a_) (hY : YOk Y P) : Ct l G yX5_becomes cX5_becomes 3 ((none : Option Jvm.ClassFile.FieldType)) 0 0 0 [.ref (gK G 1 i_), .ref (gK G 1 j_)] (A, S, Z, B, T, V, J, Y, P) (qV (fun σ => ∃ (A2 : owF) (Y2 : Nat → Nat → Nat → Option Nat), σ = (A2, S, Z, B, T, V, J, Y2, P) ∧ RX A2 Y2 P i_ a_ ∧ sfr i_ A A2 ∧ yfr i_ Y Y2 ∧ YOk Y2 P)) := by
  refine ct_of (by decide +kernel) (Nat.le_of_ble_eq_true rfl) ?_
  show Wm l G cX5_becomes 3 RX5 ((none : Option Jvm.ClassFile.FieldType)) (rmk 0 0 0) (fun _ => True) (QfM G (qV (fun σ => ∃ (A2 : owF) (Y2 : Nat → Nat → Nat → Option Nat), σ = (A2, S, Z, B, T, V, J, Y2, P) ∧ RX A2 Y2 P i_ a_ ∧ sfr i_ A A2 ∧ yfr i_ Y Y2 ∧ YOk Y2 P)) 0 0) 0 [(0, .ref (gK G 1 i_)), (1, .ref (gK G 1 j_))] [] (A, S, Z, B, T, V, J, Y, P) 0 0
  refine m_aload_n 1 rfl rfl dX5_becomes_0 ?_
  refine m_ifnonnull 5 dX5_becomes_1 (by decide) ?_
  refine m_aload_n 0 rfl rfl dX5_becomes_5 ?_
  refine m_aload_n 1 rfl rfl dX5_becomes_6 ?_
  refine gf_X5_33 hj dX5_becomes_7 ?_
  refine pf_X5_33 hi_ dX5_becomes_10 (fun A1 hA1 => ?_)
  refine m_aload_n 0 rfl rfl dX5_becomes_13 ?_
  refine m_aload_n 1 rfl rfl dX5_becomes_14 ?_
  refine gf_X5_45 hj dX5_becomes_15 ?_
  refine pf_X5_45 hi_ dX5_becomes_18 (fun A2 hA2 => ?_)
  refine m_iconst 0 dX5_becomes_21 rfl ?_
  refine m_istore_n [(2, .int 0), (0, .ref (gK G 1 i_)), (1, .ref (gK G 1 j_))] rfl (by decide) rfl dX5_becomes_22 ?_
  have lp23 : ∀ (dd : Nat) (k_ : Nat) (Y9 : Nat → Nat → Nat → Option Nat), k_ ≤ 10 → (∀ w_, w_ < k_ → Y9 15 i_ w_ = Y 15 j_ w_) → yfr i_ Y Y9 → YOk Y9 P → 10 - k_ < dd → Wm l G cX5_becomes 3 RX5 ((none : Option Jvm.ClassFile.FieldType)) (rmk 0 0 0) (fun _ => True) (QfM G (qV (fun σ => ∃ (A2 : owF) (Y2 : Nat → Nat → Nat → Option Nat), σ = (A2, S, Z, B, T, V, J, Y2, P) ∧ RX A2 Y2 P i_ a_ ∧ sfr i_ A A2 ∧ yfr i_ Y Y2 ∧ YOk Y2 P)) 0 0) 23 [(0, .ref (gK G 1 i_)), (1, .ref (gK G 1 j_)), (2, .int (nI (k_)))] [] (A2, S, Z, B, T, V, J, Y9, P) 0 0 := by
    intro dd
    induction dd with
    | zero => intro k_ Y9 hk_ hcp hyf hyk hdd; exact absurd hdd (Nat.not_lt_zero _)
    | succ dd ih23 =>
      intro k_ Y9 hk_ hcp hyf hyk hdd23
      refine m_iload_n 2 rfl rfl dX5_becomes_23 ?_
      refine m_bipush (10) dX5_becomes_24 rfl ?_
      refine m_icmpn_ge k_ 10 47 (by omega) (by decide) dX5_becomes_26 (by decide) (fun c3_ => ?_) (fun c3_ => ?_)
      ·
        obtain rfl : k_ = 10 := (by omega)
        have hcpy := hcp
        refine m_iconst 0 dX5_becomes_47 rfl ?_
        refine m_istore_n [(2, .int 0), (0, .ref (gK G 1 i_)), (1, .ref (gK G 1 j_))] rfl (by decide) rfl dX5_becomes_48 ?_
        have lp49 : ∀ (dd : Nat) (k_ : Nat) (A9 : owF), k_ ≤ 8 → (∀ c_, c_ < k_ → A9 10 i_ c_ = A 10 j_ c_ ∧ A9 11 i_ c_ = A 11 j_ c_ ∧ A9 12 i_ c_ = A 12 j_ c_) → sfr i_ A A9 → A9 1 i_ 1 = A 1 j_ 1 → A9 1 i_ 5 = A 1 j_ 5 → 8 - k_ < dd → Wm l G cX5_becomes 3 RX5 ((none : Option Jvm.ClassFile.FieldType)) (rmk 0 0 0) (fun _ => True) (QfM G (qV (fun σ => ∃ (A2 : owF) (Y2 : Nat → Nat → Nat → Option Nat), σ = (A2, S, Z, B, T, V, J, Y2, P) ∧ RX A2 Y2 P i_ a_ ∧ sfr i_ A A2 ∧ yfr i_ Y Y2 ∧ YOk Y2 P)) 0 0) 49 [(0, .ref (gK G 1 i_)), (1, .ref (gK G 1 j_)), (2, .int (nI (k_)))] [] (A9, S, Z, B, T, V, J, Y9, P) 0 0 := by
          intro dd
          induction dd with
          | zero => intro k_ A9 hk_ hcp hsf hn1 hn5 hdd; exact absurd hdd (Nat.not_lt_zero _)
          | succ dd ih49 =>
            intro k_ A9 hk_ hcp hsf hn1 hn5 hdd49
            refine m_iload_n 2 rfl rfl dX5_becomes_49 ?_
            refine m_bipush (8) dX5_becomes_50 rfl ?_
            refine m_icmpn_ge k_ 8 97 (by omega) (by decide) dX5_becomes_52 (by decide) (fun c4_ => ?_) (fun c4_ => ?_)
            ·
              obtain rfl : k_ = 8 := (by omega)
              refine m_iconst 0 dX5_becomes_97 rfl ?_
              refine m_istore_n [(2, .int 0), (0, .ref (gK G 1 i_)), (1, .ref (gK G 1 j_))] rfl (by decide) rfl dX5_becomes_98 ?_
              have lp99 : ∀ (dd : Nat) (k_ : Nat) (A8 : owF), k_ ≤ 100 → (∀ c_, c_ < k_ → A8 13 i_ c_ = A 13 j_ c_) → sfr i_ A A8 → A8 1 i_ 1 = A 1 j_ 1 → A8 1 i_ 5 = A 1 j_ 5 → (∀ c_, c_ < 8 → A8 10 i_ c_ = A 10 j_ c_ ∧ A8 11 i_ c_ = A 11 j_ c_ ∧ A8 12 i_ c_ = A 12 j_ c_) → 100 - k_ < dd → Wm l G cX5_becomes 3 RX5 ((none : Option Jvm.ClassFile.FieldType)) (rmk 0 0 0) (fun _ => True) (QfM G (qV (fun σ => ∃ (A2 : owF) (Y2 : Nat → Nat → Nat → Option Nat), σ = (A2, S, Z, B, T, V, J, Y2, P) ∧ RX A2 Y2 P i_ a_ ∧ sfr i_ A A2 ∧ yfr i_ Y Y2 ∧ YOk Y2 P)) 0 0) 99 [(0, .ref (gK G 1 i_)), (1, .ref (gK G 1 j_)), (2, .int (nI (k_)))] [] (A8, S, Z, B, T, V, J, Y9, P) 0 0 := by
                intro dd
                induction dd with
                | zero => intro k_ A8 hk_ htp hsf hn1 hn5 hcp hdd; exact absurd hdd (Nat.not_lt_zero _)
                | succ dd ih99 =>
                  intro k_ A8 hk_ htp hsf hn1 hn5 hcp hdd99
                  refine m_iload_n 2 rfl rfl dX5_becomes_99 ?_
                  refine m_bipush (100) dX5_becomes_100 rfl ?_
                  refine m_icmpn_ge k_ 100 123 (by omega) (by decide) dX5_becomes_102 (by decide) (fun c5_ => ?_) (fun c5_ => ?_)
                  ·
                    exact m_vret dX5_becomes_123 (Nat.le_refl _) (Nat.le_refl _) ((by obtain rfl : k_ = 100 := (by omega); exact ⟨A8, Y9, rfl, RX.copy ho_ hR hn1 hn5 hcpy hcp htp, hsf, hyf, hyk⟩))
                  ·
                    refine m_aload_n 0 rfl rfl dX5_becomes_105 ?_
                    refine gf_X5_27 hi_ dX5_becomes_106 ?_
                    refine m_iload_n 2 rfl rfl dX5_becomes_109 ?_
                    refine m_aload_n 1 rfl rfl dX5_becomes_110 ?_
                    refine gf_X5_27 hj dX5_becomes_111 ?_
                    refine m_iload_n 2 rfl rfl dX5_becomes_114 ?_
                    refine al_13 hj k_ rfl (by omega) dX5_becomes_115 ?_
                    refine as_13 hi_ k_ rfl (by omega) dX5_becomes_116 (fun A6 hA6 => ?_)
                    refine m_iinc (nI (k_ + 1)) 2 [(2, .int (nI (k_ + 1))), (0, .ref (gK G 1 i_)), (1, .ref (gK G 1 j_))] rfl (nI_1 _) (by decide) rfl dX5_becomes_117 ?_
                    refine m_goto 99 dX5_becomes_120 (by decide) ?_
                    refine m_lv [(0, .ref (gK G 1 i_)), (1, .ref (gK G 1 j_)), (2, .int (nI (k_ + 1)))] [1, 2, 0] rfl ?_
                    exact ih99 (k_ + 1) A6 (by omega) (fun c_ hc_ => by rcases Nat.lt_or_ge c_ k_ with q_ | q_; exact (up3_j hA6 (by omega) (htp c_ q_)); obtain rfl : k_ = c_ := (by omega); exact (up3_e hA6).trans (hsf 13 j_ k_ (fun q_ => hij q_.1.symm))) (sfr_up hsf hA6 rfl) (up3_t hA6 (by decide) hn1) (up3_t hA6 (by decide) hn5) (fun c_ hc_ => ⟨up3_t hA6 (by decide) (hcp c_ hc_).1, up3_t hA6 (by decide) (hcp c_ hc_).2.1, up3_t hA6 (by decide) (hcp c_ hc_).2.2⟩) (by omega)
              refine m_lv [(0, .ref (gK G 1 i_)), (1, .ref (gK G 1 j_)), (2, .int 0)] [1, 2, 0] rfl ?_
              exact lp99 ((100 - 0) + 1) 0 A9 (by omega) (fun c_ hc_ => absurd hc_ (Nat.not_lt_zero c_)) hsf hn1 hn5 (fun c_ hc_ => hcp c_ (by omega)) (Nat.lt_succ_self _)
            ·
              refine m_aload_n 0 rfl rfl dX5_becomes_55 ?_
              refine gf_X5_17 hi_ dX5_becomes_56 ?_
              refine m_iload_n 2 rfl rfl dX5_becomes_59 ?_
              refine m_aload_n 1 rfl rfl dX5_becomes_60 ?_
              refine gf_X5_17 hj dX5_becomes_61 ?_
              refine m_iload_n 2 rfl rfl dX5_becomes_64 ?_
              refine al_10 hj k_ rfl (by omega) dX5_becomes_65 ?_
              refine m_topi (hsf 10 j_ k_ (fun q_ => hij q_.1.symm)) ?_
              refine as_10 hi_ k_ rfl (by omega) dX5_becomes_66 (fun A7 hA7 => ?_)
              refine m_aload_n 0 rfl rfl dX5_becomes_67 ?_
              refine gf_X5_21 hi_ dX5_becomes_68 ?_
              refine m_iload_n 2 rfl rfl dX5_becomes_71 ?_
              refine m_aload_n 1 rfl rfl dX5_becomes_72 ?_
              refine gf_X5_21 hj dX5_becomes_73 ?_
              refine m_iload_n 2 rfl rfl dX5_becomes_76 ?_
              refine al_11 hj k_ rfl (by omega) dX5_becomes_77 ?_
              refine m_topi (up3_t hA7 (by decide) (hsf 11 j_ k_ (fun q_ => hij q_.1.symm))) ?_
              refine as_11 hi_ k_ rfl (by omega) dX5_becomes_78 (fun A8 hA8 => ?_)
              refine m_aload_n 0 rfl rfl dX5_becomes_79 ?_
              refine gf_X5_24 hi_ dX5_becomes_80 ?_
              refine m_iload_n 2 rfl rfl dX5_becomes_83 ?_
              refine m_aload_n 1 rfl rfl dX5_becomes_84 ?_
              refine gf_X5_24 hj dX5_becomes_85 ?_
              refine m_iload_n 2 rfl rfl dX5_becomes_88 ?_
              refine al_12 hj k_ rfl (by omega) dX5_becomes_89 ?_
              refine m_topi (up3_t hA8 (by decide) (up3_t hA7 (by decide) (hsf 12 j_ k_ (fun q_ => hij q_.1.symm)))) ?_
              refine as_12 hi_ k_ rfl (by omega) dX5_becomes_90 (fun A9 hA9 => ?_)
              refine m_iinc (nI (k_ + 1)) 2 [(2, .int (nI (k_ + 1))), (0, .ref (gK G 1 i_)), (1, .ref (gK G 1 j_))] rfl (nI_1 _) (by decide) rfl dX5_becomes_91 ?_
              refine m_goto 49 dX5_becomes_94 (by decide) ?_
              refine m_lv [(0, .ref (gK G 1 i_)), (1, .ref (gK G 1 j_)), (2, .int (nI (k_ + 1)))] [1, 2, 0] rfl ?_
              exact ih49 (k_ + 1) A9 (by omega) (fun c_ hc_ => by rcases Nat.lt_or_ge c_ k_ with q_ | q_; exact ⟨(up3_t hA9 (by decide) (up3_t hA8 (by decide) (up3_j hA7 (by omega) (hcp c_ q_).1))), (up3_t hA9 (by decide) (up3_j hA8 (by omega) (up3_t hA7 (by decide) (hcp c_ q_).2.1))), (up3_j hA9 (by omega) (up3_t hA8 (by decide) (up3_t hA7 (by decide) (hcp c_ q_).2.2)))⟩; obtain rfl : k_ = c_ := (by omega); exact ⟨(up3_t hA9 (by decide) (up3_t hA8 (by decide) (up3_e hA7))), (up3_t hA9 (by decide) (up3_e hA8)), (up3_e hA9)⟩) (sfr_up (sfr_up (sfr_up hsf hA7 rfl) hA8 rfl) hA9 rfl) ((up3_t hA9 (by decide) (up3_t hA8 (by decide) (up3_t hA7 (by decide) hn1)))) ((up3_t hA9 (by decide) (up3_t hA8 (by decide) (up3_t hA7 (by decide) hn5)))) (by omega)
        refine m_lv [(0, .ref (gK G 1 i_)), (1, .ref (gK G 1 j_)), (2, .int 0)] [1, 2, 0] rfl ?_
        exact lp49 ((8 - 0) + 1) 0 A2 (by omega) (fun c_ hc_ => absurd hc_ (Nat.not_lt_zero c_)) (by exact (sfr_up (sfr_up sfr_rf hA1 rfl) hA2 rfl)) (up3_j hA2 (by decide) (up3_e hA1)) ((up3_e hA2).trans (up3_i hA1 (Ne.symm hij) rfl)) (Nat.lt_succ_self _)
      ·
        refine m_aload_n 0 rfl rfl dX5_becomes_29 ?_
        refine gf_X5_11 hi_ dX5_becomes_30 ?_
        refine m_iload_n 2 rfl rfl dX5_becomes_33 ?_
        refine m_aload_n 1 rfl rfl dX5_becomes_34 ?_
        refine gf_X5_11 hj dX5_becomes_35 ?_
        refine m_iload_n 2 rfl rfl dX5_becomes_38 ?_
        refine al_15 hj k_ rfl (by omega) dX5_becomes_39 ?_
        refine m_topr (hyf 15 j_ k_ (fun q_ => hij q_.1.symm)) ?_
        cases hv_ : Y 15 j_ k_ with
        | none =>
          refine m_aastN hi_ k_ (by omega) dX5_becomes_40 ?_
          obtain ⟨Y10, hY10⟩ : ∃ q_ : Nat → Nat → Nat → Option Nat, q_ = up3 Y9 15 i_ k_ none := ⟨_, rfl⟩
          rw [← hY10]
          refine m_iinc (nI (k_ + 1)) 2 [(2, .int (nI (k_ + 1))), (0, .ref (gK G 1 i_)), (1, .ref (gK G 1 j_))] rfl (nI_1 _) (by decide) rfl dX5_becomes_41 ?_
          refine m_goto 23 dX5_becomes_44 (by decide) ?_
          refine m_lv [(0, .ref (gK G 1 i_)), (1, .ref (gK G 1 j_)), (2, .int (nI (k_ + 1)))] [1, 2, 0] rfl ?_
          exact ih23 (k_ + 1) Y10 (by omega) (fun w_ hw_ => by rcases Nat.lt_or_ge w_ k_ with q_ | q_; exact (up3_j hY10 (by omega) (hcp w_ q_)); obtain rfl : k_ = w_ := (by omega); exact (up3_e hY10).trans hv_.symm) (yfr_up hyf hY10) (YOk_up hyk hY10 (fun ad q_ => by cases q_)) (by omega)
        | some ad =>
          obtain ⟨wc, hw1, hw2⟩ := hY j_ k_ ad hj (by omega) hv_
          refine m_aastW hi_ hw1 hw2 k_ (by omega) dX5_becomes_40 ?_
          obtain ⟨Y11, hY11⟩ : ∃ q_ : Nat → Nat → Nat → Option Nat, q_ = up3 Y9 15 i_ k_ (some ad) := ⟨_, rfl⟩
          rw [← hY11]
          refine m_iinc (nI (k_ + 1)) 2 [(2, .int (nI (k_ + 1))), (0, .ref (gK G 1 i_)), (1, .ref (gK G 1 j_))] rfl (nI_1 _) (by decide) rfl dX5_becomes_41 ?_
          refine m_goto 23 dX5_becomes_44 (by decide) ?_
          refine m_lv [(0, .ref (gK G 1 i_)), (1, .ref (gK G 1 j_)), (2, .int (nI (k_ + 1)))] [1, 2, 0] rfl ?_
          exact ih23 (k_ + 1) Y11 (by omega) (fun w_ hw_ => by rcases Nat.lt_or_ge w_ k_ with q_ | q_; exact (up3_j hY11 (by omega) (hcp w_ q_)); obtain rfl : k_ = w_ := (by omega); exact (up3_e hY11).trans hv_.symm) (yfr_up hyf hY11) (YOk_up hyk hY11 (fun a2 q_ => by cases q_; exact ⟨wc, hw1, hw2⟩)) (by omega)
  refine m_lv [(0, .ref (gK G 1 i_)), (1, .ref (gK G 1 j_)), (2, .int 0)] [1, 2, 0] rfl ?_
  exact lp23 ((10 - 0) + 1) 0 Y (by omega) (fun w_ hw_ => absurd hw_ (Nat.not_lt_zero w_)) yfr_rf hY (Nat.lt_succ_self _)
