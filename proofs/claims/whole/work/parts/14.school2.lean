set_option maxRecDepth 100000 in
set_option maxHeartbeats 4000000 in
theorem k_becomes (l : Launch) (G : owG) {A S Z B T V : owF} {J : Nat → Nat → Int64} {Y : Nat → Nat → Nat → Option Nat} {P : Nat → Option owW} (i j : Nat) (hi : i < owN 1) (hj : j < owN 1) (hij : i ≠ j) (a : owK) (ho : aOk a) (hR : RX A Y P j a) (hY : YOk Y P) : Ct l G yX5_becomes cX5_becomes 3 ((none : Option Jvm.ClassFile.FieldType)) 0 0 0 [.ref (gK G 1 i), .ref (gK G 1 j)] (A, S, Z, B, T, V, J, Y, P) (qV (fun σ => ∃ (A2 : owF) (Y2 : Nat → Nat → Nat → Option Nat), σ = (A2, S, Z, B, T, V, J, Y2, P) ∧ RX A2 Y2 P i a ∧ sfr i A A2 ∧ yfr i Y Y2 ∧ YOk Y2 P)) := by
  refine ct_of (by decide +kernel) (Nat.le_of_ble_eq_true rfl) ?_
  show Wm l G cX5_becomes 3 RX5 ((none : Option Jvm.ClassFile.FieldType)) (rmk 0 0 0) (fun _ => True) (QfM G (qV (fun σ => ∃ (A2 : owF) (Y2 : Nat → Nat → Nat → Option Nat), σ = (A2, S, Z, B, T, V, J, Y2, P) ∧ RX A2 Y2 P i a ∧ sfr i A A2 ∧ yfr i Y Y2 ∧ YOk Y2 P)) 0 0) 0 [(0, .ref (gK G 1 i)), (1, .ref (gK G 1 j))] [] (A, S, Z, B, T, V, J, Y, P) 0 0
  refine m_aload_n 1 rfl rfl dX5_becomes_0 ?_
  refine m_ifnonnull 5 dX5_becomes_1 (by decide) ?_
  refine m_aload_n 0 rfl rfl dX5_becomes_5 ?_
  refine m_aload_n 1 rfl rfl dX5_becomes_6 ?_
  refine gf_X5_33 hj dX5_becomes_7 ?_
  refine pf_X5_33 hi dX5_becomes_10 (fun A1 hA1 => ?_)
  refine m_aload_n 0 rfl rfl dX5_becomes_13 ?_
  refine m_aload_n 1 rfl rfl dX5_becomes_14 ?_
  refine gf_X5_45 hj dX5_becomes_15 ?_
  refine pf_X5_45 hi dX5_becomes_18 (fun A2 hA2 => ?_)
  refine m_iconst 0 dX5_becomes_21 rfl ?_
  refine m_istore_n [(2, .int 0), (0, .ref (gK G 1 i)), (1, .ref (gK G 1 j))] rfl (by decide) rfl dX5_becomes_22 ?_
  have lp23 : ∀ (dd : Nat) (k : Nat) (Y9 : Nat → Nat → Nat → Option Nat), k ≤ 10 → (∀ w, w < k → Y9 15 i w = Y 15 j w) → yfr i Y Y9 → YOk Y9 P → 10 - k < dd → Wm l G cX5_becomes 3 RX5 ((none : Option Jvm.ClassFile.FieldType)) (rmk 0 0 0) (fun _ => True) (QfM G (qV (fun σ => ∃ (A2 : owF) (Y2 : Nat → Nat → Nat → Option Nat), σ = (A2, S, Z, B, T, V, J, Y2, P) ∧ RX A2 Y2 P i a ∧ sfr i A A2 ∧ yfr i Y Y2 ∧ YOk Y2 P)) 0 0) 23 [(0, .ref (gK G 1 i)), (1, .ref (gK G 1 j)), (2, .int (nI (k)))] [] (A2, S, Z, B, T, V, J, Y9, P) 0 0 := by
    intro dd
    induction dd with
    | zero => intro k Y9 hk hcp hyf hyk hdd; exact absurd hdd (Nat.not_lt_zero _)
    | succ dd ih23 =>
      intro k Y9 hk hcp hyf hyk hdd23
      refine m_iload_n 2 rfl rfl dX5_becomes_23 ?_
      refine m_bipush (10) dX5_becomes_24 rfl ?_
      refine m_icmpn_ge k 10 47 (by omega) (by decide) dX5_becomes_26 (by decide) (fun c3 => ?_) (fun c3 => ?_)
      ·
        obtain rfl : k = 10 := (by omega)
        have hcpy := hcp
        refine m_iconst 0 dX5_becomes_47 rfl ?_
        refine m_istore_n [(2, .int 0), (0, .ref (gK G 1 i)), (1, .ref (gK G 1 j))] rfl (by decide) rfl dX5_becomes_48 ?_
        have lp49 : ∀ (dd : Nat) (k : Nat) (A9 : owF), k ≤ 8 → (∀ c, c < k → A9 10 i c = A 10 j c ∧ A9 11 i c = A 11 j c ∧ A9 12 i c = A 12 j c) → sfr i A A9 → A9 1 i 1 = A 1 j 1 → A9 1 i 5 = A 1 j 5 → 8 - k < dd → Wm l G cX5_becomes 3 RX5 ((none : Option Jvm.ClassFile.FieldType)) (rmk 0 0 0) (fun _ => True) (QfM G (qV (fun σ => ∃ (A2 : owF) (Y2 : Nat → Nat → Nat → Option Nat), σ = (A2, S, Z, B, T, V, J, Y2, P) ∧ RX A2 Y2 P i a ∧ sfr i A A2 ∧ yfr i Y Y2 ∧ YOk Y2 P)) 0 0) 49 [(0, .ref (gK G 1 i)), (1, .ref (gK G 1 j)), (2, .int (nI (k)))] [] (A9, S, Z, B, T, V, J, Y9, P) 0 0 := by
          intro dd
          induction dd with
          | zero => intro k A9 hk hcp hsf hn1 hn5 hdd; exact absurd hdd (Nat.not_lt_zero _)
          | succ dd ih49 =>
            intro k A9 hk hcp hsf hn1 hn5 hdd49
            refine m_iload_n 2 rfl rfl dX5_becomes_49 ?_
            refine m_bipush (8) dX5_becomes_50 rfl ?_
            refine m_icmpn_ge k 8 97 (by omega) (by decide) dX5_becomes_52 (by decide) (fun c4 => ?_) (fun c4 => ?_)
            ·
              obtain rfl : k = 8 := (by omega)
              refine m_iconst 0 dX5_becomes_97 rfl ?_
              refine m_istore_n [(2, .int 0), (0, .ref (gK G 1 i)), (1, .ref (gK G 1 j))] rfl (by decide) rfl dX5_becomes_98 ?_
              have lp99 : ∀ (dd : Nat) (k : Nat) (A8 : owF), k ≤ 100 → (∀ c, c < k → A8 13 i c = A 13 j c) → sfr i A A8 → A8 1 i 1 = A 1 j 1 → A8 1 i 5 = A 1 j 5 → (∀ c, c < 8 → A8 10 i c = A 10 j c ∧ A8 11 i c = A 11 j c ∧ A8 12 i c = A 12 j c) → 100 - k < dd → Wm l G cX5_becomes 3 RX5 ((none : Option Jvm.ClassFile.FieldType)) (rmk 0 0 0) (fun _ => True) (QfM G (qV (fun σ => ∃ (A2 : owF) (Y2 : Nat → Nat → Nat → Option Nat), σ = (A2, S, Z, B, T, V, J, Y2, P) ∧ RX A2 Y2 P i a ∧ sfr i A A2 ∧ yfr i Y Y2 ∧ YOk Y2 P)) 0 0) 99 [(0, .ref (gK G 1 i)), (1, .ref (gK G 1 j)), (2, .int (nI (k)))] [] (A8, S, Z, B, T, V, J, Y9, P) 0 0 := by
                intro dd
                induction dd with
                | zero => intro k A8 hk htp hsf hn1 hn5 hcp hdd; exact absurd hdd (Nat.not_lt_zero _)
                | succ dd ih99 =>
                  intro k A8 hk htp hsf hn1 hn5 hcp hdd99
                  refine m_iload_n 2 rfl rfl dX5_becomes_99 ?_
                  refine m_bipush (100) dX5_becomes_100 rfl ?_
                  refine m_icmpn_ge k 100 123 (by omega) (by decide) dX5_becomes_102 (by decide) (fun c5 => ?_) (fun c5 => ?_)
                  ·
                    exact m_vret dX5_becomes_123 (Nat.le_refl _) (Nat.le_refl _) ((by obtain rfl : k = 100 := (by omega); exact ⟨A8, Y9, rfl, RX.copy ho hR hn1 hn5 hcpy hcp htp, hsf, hyf, hyk⟩))
                  ·
                    refine m_aload_n 0 rfl rfl dX5_becomes_105 ?_
                    refine gf_X5_27 hi dX5_becomes_106 ?_
                    refine m_iload_n 2 rfl rfl dX5_becomes_109 ?_
                    refine m_aload_n 1 rfl rfl dX5_becomes_110 ?_
                    refine gf_X5_27 hj dX5_becomes_111 ?_
                    refine m_iload_n 2 rfl rfl dX5_becomes_114 ?_
                    refine al_13 hj k rfl (by omega) dX5_becomes_115 ?_
                    refine as_13 hi k rfl (by omega) dX5_becomes_116 (fun A6 hA6 => ?_)
                    refine m_iinc (nI (k + 1)) 2 [(2, .int (nI (k + 1))), (0, .ref (gK G 1 i)), (1, .ref (gK G 1 j))] rfl (nI_1 _) (by decide) rfl dX5_becomes_117 ?_
                    refine m_goto 99 dX5_becomes_120 (by decide) ?_
                    refine m_lv [(0, .ref (gK G 1 i)), (1, .ref (gK G 1 j)), (2, .int (nI (k + 1)))] [1, 2, 0] rfl ?_
                    exact ih99 (k + 1) A6 (by omega) (fun c hc => by rcases Nat.lt_or_ge c k with q | q; exact (up3_j hA6 (by omega) (htp c q)); obtain rfl : k = c := (by omega); exact (up3_e hA6).trans (hsf 13 j k (fun q => hij q.1.symm))) (sfr_up hsf hA6 rfl) (up3_t hA6 (by decide) hn1) (up3_t hA6 (by decide) hn5) (fun c hc => ⟨up3_t hA6 (by decide) (hcp c hc).1, up3_t hA6 (by decide) (hcp c hc).2.1, up3_t hA6 (by decide) (hcp c hc).2.2⟩) (by omega)
              refine m_lv [(0, .ref (gK G 1 i)), (1, .ref (gK G 1 j)), (2, .int 0)] [1, 2, 0] rfl ?_
              exact lp99 ((100 - 0) + 1) 0 A9 (by omega) (fun c hc => absurd hc (Nat.not_lt_zero c)) hsf hn1 hn5 (fun c hc => hcp c (by omega)) (Nat.lt_succ_self _)
            ·
              refine m_aload_n 0 rfl rfl dX5_becomes_55 ?_
              refine gf_X5_17 hi dX5_becomes_56 ?_
              refine m_iload_n 2 rfl rfl dX5_becomes_59 ?_
              refine m_aload_n 1 rfl rfl dX5_becomes_60 ?_
              refine gf_X5_17 hj dX5_becomes_61 ?_
              refine m_iload_n 2 rfl rfl dX5_becomes_64 ?_
              refine al_10 hj k rfl (by omega) dX5_becomes_65 ?_
              refine m_topi (hsf 10 j k (fun q => hij q.1.symm)) ?_
              refine as_10 hi k rfl (by omega) dX5_becomes_66 (fun A7 hA7 => ?_)
              refine m_aload_n 0 rfl rfl dX5_becomes_67 ?_
              refine gf_X5_21 hi dX5_becomes_68 ?_
              refine m_iload_n 2 rfl rfl dX5_becomes_71 ?_
              refine m_aload_n 1 rfl rfl dX5_becomes_72 ?_
              refine gf_X5_21 hj dX5_becomes_73 ?_
              refine m_iload_n 2 rfl rfl dX5_becomes_76 ?_
              refine al_11 hj k rfl (by omega) dX5_becomes_77 ?_
              refine m_topi (up3_t hA7 (by decide) (hsf 11 j k (fun q => hij q.1.symm))) ?_
              refine as_11 hi k rfl (by omega) dX5_becomes_78 (fun A8 hA8 => ?_)
              refine m_aload_n 0 rfl rfl dX5_becomes_79 ?_
              refine gf_X5_24 hi dX5_becomes_80 ?_
              refine m_iload_n 2 rfl rfl dX5_becomes_83 ?_
              refine m_aload_n 1 rfl rfl dX5_becomes_84 ?_
              refine gf_X5_24 hj dX5_becomes_85 ?_
              refine m_iload_n 2 rfl rfl dX5_becomes_88 ?_
              refine al_12 hj k rfl (by omega) dX5_becomes_89 ?_
              refine m_topi (up3_t hA8 (by decide) (up3_t hA7 (by decide) (hsf 12 j k (fun q => hij q.1.symm)))) ?_
              refine as_12 hi k rfl (by omega) dX5_becomes_90 (fun A9 hA9 => ?_)
              refine m_iinc (nI (k + 1)) 2 [(2, .int (nI (k + 1))), (0, .ref (gK G 1 i)), (1, .ref (gK G 1 j))] rfl (nI_1 _) (by decide) rfl dX5_becomes_91 ?_
              refine m_goto 49 dX5_becomes_94 (by decide) ?_
              refine m_lv [(0, .ref (gK G 1 i)), (1, .ref (gK G 1 j)), (2, .int (nI (k + 1)))] [1, 2, 0] rfl ?_
              exact ih49 (k + 1) A9 (by omega) (fun c hc => by rcases Nat.lt_or_ge c k with q | q; exact ⟨(up3_t hA9 (by decide) (up3_t hA8 (by decide) (up3_j hA7 (by omega) (hcp c q).1))), (up3_t hA9 (by decide) (up3_j hA8 (by omega) (up3_t hA7 (by decide) (hcp c q).2.1))), (up3_j hA9 (by omega) (up3_t hA8 (by decide) (up3_t hA7 (by decide) (hcp c q).2.2)))⟩; obtain rfl : k = c := (by omega); exact ⟨(up3_t hA9 (by decide) (up3_t hA8 (by decide) (up3_e hA7))), (up3_t hA9 (by decide) (up3_e hA8)), (up3_e hA9)⟩) (sfr_up (sfr_up (sfr_up hsf hA7 rfl) hA8 rfl) hA9 rfl) ((up3_t hA9 (by decide) (up3_t hA8 (by decide) (up3_t hA7 (by decide) hn1)))) ((up3_t hA9 (by decide) (up3_t hA8 (by decide) (up3_t hA7 (by decide) hn5)))) (by omega)
        refine m_lv [(0, .ref (gK G 1 i)), (1, .ref (gK G 1 j)), (2, .int 0)] [1, 2, 0] rfl ?_
        exact lp49 ((8 - 0) + 1) 0 A2 (by omega) (fun c hc => absurd hc (Nat.not_lt_zero c)) (by exact (sfr_up (sfr_up sfr_rf hA1 rfl) hA2 rfl)) (up3_j hA2 (by decide) (up3_e hA1)) ((up3_e hA2).trans (up3_i hA1 (Ne.symm hij) rfl)) (Nat.lt_succ_self _)
      ·
        refine m_aload_n 0 rfl rfl dX5_becomes_29 ?_
        refine gf_X5_11 hi dX5_becomes_30 ?_
        refine m_iload_n 2 rfl rfl dX5_becomes_33 ?_
        refine m_aload_n 1 rfl rfl dX5_becomes_34 ?_
        refine gf_X5_11 hj dX5_becomes_35 ?_
        refine m_iload_n 2 rfl rfl dX5_becomes_38 ?_
        refine al_15 hj k rfl (by omega) dX5_becomes_39 ?_
        refine m_topr (hyf 15 j k (fun q => hij q.1.symm)) ?_
        cases hv : Y 15 j k with
        | none =>
          refine m_aastN hi k (by omega) dX5_becomes_40 ?_
          obtain ⟨Y10, hY10⟩ : ∃ q : Nat → Nat → Nat → Option Nat, q = up3 Y9 15 i k none := ⟨_, rfl⟩
          rw [← hY10]
          refine m_iinc (nI (k + 1)) 2 [(2, .int (nI (k + 1))), (0, .ref (gK G 1 i)), (1, .ref (gK G 1 j))] rfl (nI_1 _) (by decide) rfl dX5_becomes_41 ?_
          refine m_goto 23 dX5_becomes_44 (by decide) ?_
          refine m_lv [(0, .ref (gK G 1 i)), (1, .ref (gK G 1 j)), (2, .int (nI (k + 1)))] [1, 2, 0] rfl ?_
          exact ih23 (k + 1) Y10 (by omega) (fun w hw => by rcases Nat.lt_or_ge w k with q | q; exact (up3_j hY10 (by omega) (hcp w q)); obtain rfl : k = w := (by omega); exact (up3_e hY10).trans hv.symm) (yfr_up hyf hY10) (YOk_up hyk hY10 (fun ad q => by cases q)) (by omega)
        | some ad =>
          obtain ⟨wc, hw1, hw2⟩ := hY j k ad hj (by omega) hv
          refine m_aastW hi hw1 hw2 k (by omega) dX5_becomes_40 ?_
          obtain ⟨Y11, hY11⟩ : ∃ q : Nat → Nat → Nat → Option Nat, q = up3 Y9 15 i k (some ad) := ⟨_, rfl⟩
          rw [← hY11]
          refine m_iinc (nI (k + 1)) 2 [(2, .int (nI (k + 1))), (0, .ref (gK G 1 i)), (1, .ref (gK G 1 j))] rfl (nI_1 _) (by decide) rfl dX5_becomes_41 ?_
          refine m_goto 23 dX5_becomes_44 (by decide) ?_
          refine m_lv [(0, .ref (gK G 1 i)), (1, .ref (gK G 1 j)), (2, .int (nI (k + 1)))] [1, 2, 0] rfl ?_
          exact ih23 (k + 1) Y11 (by omega) (fun w hw => by rcases Nat.lt_or_ge w k with q | q; exact (up3_j hY11 (by omega) (hcp w q)); obtain rfl : k = w := (by omega); exact (up3_e hY11).trans hv.symm) (yfr_up hyf hY11) (YOk_up hyk hY11 (fun a2 q => by cases q; exact ⟨wc, hw1, hw2⟩)) (by omega)
  refine m_lv [(0, .ref (gK G 1 i)), (1, .ref (gK G 1 j)), (2, .int 0)] [1, 2, 0] rfl ?_
  exact lp23 ((10 - 0) + 1) 0 Y (by omega) (fun w hw => absurd hw (Nat.not_lt_zero w)) yfr_rf hY (Nat.lt_succ_self _)
