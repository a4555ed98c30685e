set_option maxRecDepth 100000 in
set_option maxHeartbeats 4000000 in
theorem k_copy (l : Launch) (G : owG) {A S Z B T V : owF} {J : Nat → Nat → Int64} {Y : Nat → Nat → Nat → Option Nat} {P : Nat → Option owW} (a_ : owK) (ho_ : aOk a_) (im : Option owK) (h_ : owH) (hC : CR A Y P a_ im h_) (x_ i_ z_ j_ n_ : Int32) : Ct l G yX11_copy cX11_copy 8 ((some .int)) 2 0 0 [.ref (gK G 0 0), .int x_, .int i_, .int z_, .int j_, .int n_] (A, S, Z, B, T, V, J, Y, P) (qI (fun r_ σ => r_ = cpI h_ x_ i_ z_ j_ n_ ∧ ∃ (A2 S2 Z2 : owF) (J2 : Nat → Nat → Int64) (Y2 : Nat → Nat → Nat → Option Nat), σ = (A2, S2, Z2, B, T, V, J2, Y2, P) ∧ CR A2 Y2 P (a_) (im) (cpH h_ x_ i_ z_ j_ n_))) := by
  refine ct_of (by decide +kernel) (Nat.le_of_ble_eq_true rfl) ?_
  have h10 := ho_.1
  have h8_ := ho_.2.1
  have hR := hC.1
  have hRS := hC.2.2.2.1
  show Wm l G cX11_copy 8 RX11 ((some .int)) (rmk 2 0 0) (fun _ => True) (QfM G (qI (fun r_ σ => r_ = cpI h_ x_ i_ z_ j_ n_ ∧ ∃ (A2 S2 Z2 : owF) (J2 : Nat → Nat → Int64) (Y2 : Nat → Nat → Nat → Option Nat), σ = (A2, S2, Z2, B, T, V, J2, Y2, P) ∧ CR A2 Y2 P (a_) (im) (cpH h_ x_ i_ z_ j_ n_))) 0 0) 0 [(0, .ref (gK G 0 0)), (1, .int x_), (2, .int i_), (3, .int z_), (4, .int j_), (5, .int n_)] [] (A, S, Z, B, T, V, J, Y, P) 0 0
  refine m_aload_n 0 rfl rfl dX11_copy_0 ?_
  refine m_iload_n 1 rfl rfl dX11_copy_1 ?_
  cases hDx : isD x_ with
  | false =>
    refine m_callVr cv_X11_59 [.int x_] [] (k_shelfAt_n l G x_ hDx) (by decide) (ce_0 G _ _ _ _ _ _ _ _ _ _) rfl rfl rfl ⟨Nat.le_of_ble_eq_true rfl, Nat.le_of_ble_eq_true rfl⟩ (Nat.le_of_ble_eq_true rfl) ⟨Nat.zero_le _, Nat.zero_le _⟩ dX11_copy_2 (fun xx σ2 hq => ?_)
    obtain ⟨rfl, rfl⟩ := hq
    refine m_astoreN [(6, .null), (0, .ref (gK G 0 0)), (1, .int x_), (2, .int i_), (3, .int z_), (4, .int j_), (5, .int n_)] (by decide) rfl dX11_copy_5 ?_
    refine m_aload_n 1 rfl rfl dX11_copy_7 ?_
    refine m_iload_n 4 rfl rfl dX11_copy_8 ?_
    cases hDz : isD z_ with
    | false =>
      refine m_callVr cv_X11_59 [.int z_] [] (k_shelfAt_n l G z_ hDz) (by decide) (ce_0 G _ _ _ _ _ _ _ _ _ _) rfl rfl rfl ⟨Nat.le_of_ble_eq_true rfl, Nat.le_of_ble_eq_true rfl⟩ (Nat.le_of_ble_eq_true rfl) ⟨Nat.zero_le _, Nat.zero_le _⟩ dX11_copy_9 (fun xx σ2 hq => ?_)
      obtain ⟨rfl, rfl⟩ := hq
      refine m_astoreN [(7, .null), (6, .null), (0, .ref (gK G 0 0)), (1, .int x_), (2, .int i_), (3, .int z_), (4, .int j_), (5, .int n_)] (by decide) rfl dX11_copy_12 ?_
      refine m_aloadN 1 rfl dX11_copy_14 ?_
      refine m_ifnullN 24 dX11_copy_16 (by decide) ?_
      refine m_iconst (-1) dX11_copy_24 rfl ?_
      exact m_iret dX11_copy_25 (Nat.le_refl _) (Nat.le_refl _) (⟨by unfold cpI; rw [if_neg (fun q_ => absurd q_.1 (by rw [hDx]; decide))], _, _, _, _, _, rfl, by unfold cpH; rw [if_neg (by rw [show cpB h_ x_ i_ z_ j_ n_ = false from by unfold cpB; rw [hDx]; rfl]; decide)]; exact hC⟩)
    | true =>
      obtain ⟨nz, hnz, rfl⟩ := isD_nat hDz
      refine m_callVr cv_X11_59 [.int (nI nz)] [] (k_shelfAt_s l G nz hnz) (by decide) (ce_0 G _ _ _ _ _ _ _ _ _ _) rfl rfl rfl ⟨Nat.le_of_ble_eq_true rfl, Nat.le_of_ble_eq_true rfl⟩ (Nat.le_of_ble_eq_true rfl) ⟨Nat.zero_le _, Nat.zero_le _⟩ dX11_copy_9 (fun xx σ2 hq => ?_)
      obtain ⟨rfl, rfl⟩ := hq
      have hi_nz : nz < owN 3 := hnz
      have hRS_nz := hRS nz hnz
      refine m_astore [(7, .ref (gK G 3 nz)), (6, .null), (0, .ref (gK G 0 0)), (1, .int x_), (2, .int i_), (3, .int (nI (nz))), (4, .int j_), (5, .int n_)] (by decide) rfl dX11_copy_12 ?_
      refine m_aloadN 1 rfl dX11_copy_14 ?_
      refine m_ifnullN 24 dX11_copy_16 (by decide) ?_
      refine m_iconst (-1) dX11_copy_24 rfl ?_
      exact m_iret dX11_copy_25 (Nat.le_refl _) (Nat.le_refl _) (⟨by unfold cpI; rw [if_neg (fun q_ => absurd q_.1 (by rw [hDx]; decide))], _, _, _, _, _, rfl, by unfold cpH; rw [if_neg (by rw [show cpB h_ x_ i_ (nI (nz)) j_ n_ = false from by unfold cpB; rw [hDx]; rfl]; decide)]; exact hC⟩)
  | true =>
    obtain ⟨nx, hnx, rfl⟩ := isD_nat hDx
    refine m_callVr cv_X11_59 [.int (nI nx)] [] (k_shelfAt_s l G nx hnx) (by decide) (ce_0 G _ _ _ _ _ _ _ _ _ _) rfl rfl rfl ⟨Nat.le_of_ble_eq_true rfl, Nat.le_of_ble_eq_true rfl⟩ (Nat.le_of_ble_eq_true rfl) ⟨Nat.zero_le _, Nat.zero_le _⟩ dX11_copy_2 (fun xx σ2 hq => ?_)
    obtain ⟨rfl, rfl⟩ := hq
    have hi_nx : nx < owN 3 := hnx
    have hRS_nx := hRS nx hnx
    refine m_astore [(6, .ref (gK G 3 nx)), (0, .ref (gK G 0 0)), (1, .int (nI (nx))), (2, .int i_), (3, .int z_), (4, .int j_), (5, .int n_)] (by decide) rfl dX11_copy_5 ?_
    refine m_aload_n 1 rfl rfl dX11_copy_7 ?_
    refine m_iload_n 4 rfl rfl dX11_copy_8 ?_
    cases hDz : isD z_ with
    | false =>
      refine m_callVr cv_X11_59 [.int z_] [] (k_shelfAt_n l G z_ hDz) (by decide) (ce_0 G _ _ _ _ _ _ _ _ _ _) rfl rfl rfl ⟨Nat.le_of_ble_eq_true rfl, Nat.le_of_ble_eq_true rfl⟩ (Nat.le_of_ble_eq_true rfl) ⟨Nat.zero_le _, Nat.zero_le _⟩ dX11_copy_9 (fun xx σ2 hq => ?_)
      obtain ⟨rfl, rfl⟩ := hq
      refine m_astoreN [(7, .null), (6, .ref (gK G 3 nx)), (0, .ref (gK G 0 0)), (1, .int (nI (nx))), (2, .int i_), (3, .int z_), (4, .int j_), (5, .int n_)] (by decide) rfl dX11_copy_12 ?_
      refine m_aload 1 rfl dX11_copy_14 ?_
      refine m_ifnull dX11_copy_16 ?_
      refine m_aloadN 0 rfl dX11_copy_19 ?_
      refine m_ifnonnullN dX11_copy_21 ?_
      refine m_iconst (-1) dX11_copy_24 rfl ?_
      exact m_iret dX11_copy_25 (Nat.le_refl _) (Nat.le_refl _) (⟨by unfold cpI; rw [if_neg (fun q_ => absurd q_.2 (by rw [hDz]; decide))], _, _, _, _, _, rfl, by unfold cpH; rw [if_neg (by rw [show cpB h_ (nI (nx)) i_ z_ j_ n_ = false from by unfold cpB; rw [hDz, Bool.false_and, Bool.and_false]]; decide)]; exact hC⟩)
    | true =>
      obtain ⟨nz, hnz, rfl⟩ := isD_nat hDz
      refine m_callVr cv_X11_59 [.int (nI nz)] [] (k_shelfAt_s l G nz hnz) (by decide) (ce_0 G _ _ _ _ _ _ _ _ _ _) rfl rfl rfl ⟨Nat.le_of_ble_eq_true rfl, Nat.le_of_ble_eq_true rfl⟩ (Nat.le_of_ble_eq_true rfl) ⟨Nat.zero_le _, Nat.zero_le _⟩ dX11_copy_9 (fun xx σ2 hq => ?_)
      obtain ⟨rfl, rfl⟩ := hq
      have hi_nz : nz < owN 3 := hnz
      have hRS_nz := hRS nz hnz
      refine m_astore [(7, .ref (gK G 3 nz)), (6, .ref (gK G 3 nx)), (0, .ref (gK G 0 0)), (1, .int (nI (nx))), (2, .int i_), (3, .int (nI (nz))), (4, .int j_), (5, .int n_)] (by decide) rfl dX11_copy_12 ?_
      refine m_aload 1 rfl dX11_copy_14 ?_
      refine m_ifnull dX11_copy_16 ?_
      refine m_aload 0 rfl dX11_copy_19 ?_
      refine m_ifnonnull 26 dX11_copy_21 (by decide) ?_
      refine m_aload 1 rfl dX11_copy_26 ?_
      refine m_callVi cv_X11_294 [] [] (k_isEmpty l G nx hi_nx h_ hRS_nx) hi_nx (ce_3 G _ _ _ _ _ _ _ _ _ _) rfl rfl rfl ⟨Nat.le_of_ble_eq_true rfl, Nat.le_of_ble_eq_true rfl⟩ (Nat.le_of_ble_eq_true rfl) ⟨Nat.zero_le _, Nat.zero_le _⟩ dX11_copy_28 (fun xx σ2 hq => ?_)
      obtain ⟨rfl, rfl⟩ := hq
      refine m_ifne_b 42 dX11_copy_31 (by decide) (fun c1_ => ?_) (fun c1_ => ?_)
      ·
        refine m_bipush (-11) dX11_copy_42 rfl ?_
        exact m_iret dX11_copy_44 (Nat.le_refl _) (Nat.le_refl _) (⟨by have hz9 := of_decide_eq_true c1_; unfold cpI; rw [if_pos ⟨hDx, hDz⟩, isD_clamp hnx, isD_clamp hnz, if_pos (by omega)], _, _, _, _, _, rfl, by unfold cpH; rw [if_neg (by rw [show cpB h_ (nI (nx)) i_ (nI (nz)) j_ n_ = false from by unfold cpB; have hz9 := of_decide_eq_true c1_; rw [isD_clamp hnx, isD_clamp hnz, decide_eq_false (by omega), Bool.false_and, Bool.and_false, Bool.and_false]]; decide)]; exact hC⟩)
      ·
        refine m_aload 0 rfl dX11_copy_34 ?_
        refine m_callVi cv_X11_294 [] [] (k_isEmpty l G nz hi_nz h_ hRS_nz) hi_nz (ce_3 G _ _ _ _ _ _ _ _ _ _) rfl rfl rfl ⟨Nat.le_of_ble_eq_true rfl, Nat.le_of_ble_eq_true rfl⟩ (Nat.le_of_ble_eq_true rfl) ⟨Nat.zero_le _, Nat.zero_le _⟩ dX11_copy_36 (fun xx σ2 hq => ?_)
        obtain ⟨rfl, rfl⟩ := hq
        refine m_ifeq_b 45 dX11_copy_39 (by decide) (fun c2_ => ?_) (fun c2_ => ?_)
        ·
          rcases hRS_nx with hq | hq | hq
          · exact absurd hq.1 (of_decide_eq_false c1_)
          ·
            have hKx := hq.1
            have hA1x := hq.2.2.2.2.2
            refine m_aload 1 rfl dX11_copy_45 ?_
            refine gf_X11_298 hi_nx dX11_copy_47 ?_
            refine m_topi hA1x ?_
            refine m_iconst (-1) dX11_copy_50 rfl ?_
            refine m_icmp_eq 67 dX11_copy_51 (by decide) (fun _ => ?_) (fun c3_ => absurd c3_ (by decide))
            refine m_bipush (-12) dX11_copy_67 rfl ?_
            exact m_iret dX11_copy_69 (Nat.le_refl _) (Nat.le_refl _) (⟨by have hy1 := of_decide_eq_false c1_; have hy2 := of_decide_eq_false c2_; unfold cpI; rw [if_pos ⟨hDx, hDz⟩, isD_clamp hnx, isD_clamp hnz, if_neg (by omega), if_neg (by omega)], _, _, _, _, _, rfl, by unfold cpH; rw [if_neg (by rw [show cpB h_ (nI (nx)) i_ (nI (nz)) j_ n_ = false from by unfold cpB; rw [isD_clamp hnx, isD_clamp hnz, decide_eq_false (by omega), Bool.false_and, Bool.and_false, Bool.and_false]]; decide)]; exact hC⟩)
          ·
            have hKx := hq.1
            have hrowx := hq
            have hnx100 := hq.2.2.2.2.2.1
            have hsx2 := hq.2.2.2.1
            refine m_aload 1 rfl dX11_copy_45 ?_
            refine gf_X11_298 hi_nx dX11_copy_47 ?_
            refine m_topi hq.2.2.1 ?_
            refine m_iconst (-1) dX11_copy_50 rfl ?_
            refine m_icmp_eq 67 dX11_copy_51 (by decide) (fun c4_ => absurd c4_ (nI_neg (by omega) (by decide))) (fun _ => ?_)
            refine m_aload 1 rfl dX11_copy_54 ?_
            refine gf_X11_298 hi_nx dX11_copy_56 ?_
            refine m_topi hq.2.2.1 ?_
            rcases hRS_nz with hq2 | hq2 | hq2
            · exact absurd hq2.1 (of_decide_eq_false c2_)
            ·
              have hKz := hq2.1
              have hA1z := hq2.2.2.2.2.2
              refine m_aload 0 rfl dX11_copy_59 ?_
              refine gf_X11_298 hi_nz dX11_copy_61 ?_
              refine m_topi hA1z ?_
              refine m_icmp_eq 70 dX11_copy_64 (by decide) (fun c5_ => absurd c5_ (nI_neg (by omega) (by decide))) (fun _ => ?_)
              refine m_bipush (-12) dX11_copy_67 rfl ?_
              exact m_iret dX11_copy_69 (Nat.le_refl _) (Nat.le_refl _) (⟨by have hy1 := of_decide_eq_false c1_; have hy2 := of_decide_eq_false c2_; unfold cpI; rw [if_pos ⟨hDx, hDz⟩, isD_clamp hnx, isD_clamp hnz, if_neg (by omega), if_neg (by omega)], _, _, _, _, _, rfl, by unfold cpH; rw [if_neg (by rw [show cpB h_ (nI (nx)) i_ (nI (nz)) j_ n_ = false from by unfold cpB; rw [isD_clamp hnx, isD_clamp hnz, decide_eq_false (by omega), Bool.false_and, Bool.and_false, Bool.and_false]]; decide)]; exact hC⟩)
            ·
              have hKz := hq2.1
              have hrowz := hq2
              have hnz100 := hq2.2.2.2.2.2.1
              have hsz2 := hq2.2.2.2.1
              refine m_aload 0 rfl dX11_copy_59 ?_
              refine gf_X11_298 hi_nz dX11_copy_61 ?_
              refine m_topi hq2.2.2.1 ?_
              refine m_icmpn_eq (hSo h_ nx) (hSo h_ nz) 70 (by omega) (by omega) dX11_copy_64 (by decide) (fun c6_ => ?_) (fun c6_ => ?_)
              ·
                have hss : hSo h_ nx = hSo h_ nz := c6_
                refine m_aload 1 rfl dX11_copy_70 ?_
                refine m_iload_n 4 rfl rfl dX11_copy_72 ?_
                refine m_iload 7 rfl dX11_copy_73 ?_
                refine m_callVi cv_X11_301 [.int i_, .int n_] [] (k_hasPlaces l G nx hi_nx h_ hrowx i_ n_) hi_nx (ce_3 G _ _ _ _ _ _ _ _ _ _) rfl rfl rfl ⟨Nat.le_of_ble_eq_true rfl, Nat.le_of_ble_eq_true rfl⟩ (Nat.le_of_ble_eq_true rfl) ⟨Nat.zero_le _, Nat.zero_le _⟩ dX11_copy_75 (fun xx σ2 hq => ?_)
                obtain ⟨rfl, rfl⟩ := hq
                refine m_ifeq_b 93 dX11_copy_78 (by decide) (fun c7_ => ?_) (fun c7_ => ?_)
                ·
                  refine m_bipush (-13) dX11_copy_93 rfl ?_
                  exact m_iret dX11_copy_95 (Nat.le_refl _) (Nat.le_refl _) (⟨by unfold cpI; rw [if_pos ⟨hDx, hDz⟩, isD_clamp hnx, isD_clamp hnz, if_neg (by omega), if_pos ⟨hKx, hKz, hss⟩, if_neg (fun q_ => by rw [q_.1] at c7_; exact absurd c7_ (by decide))], _, _, _, _, _, rfl, by unfold cpH; rw [if_neg (by rw [show cpB h_ (nI (nx)) i_ (nI (nz)) j_ n_ = false from by unfold cpB; rw [isD_clamp hnx, isD_clamp hnz, hDx, hDz, decide_eq_true ⟨hKx, hKz, hss⟩, c7_]; simp]; decide)]; exact hC⟩)
                ·
                  refine m_aload 0 rfl dX11_copy_81 ?_
                  refine m_iload 6 rfl dX11_copy_83 ?_
                  refine m_iload 7 rfl dX11_copy_85 ?_
                  refine m_callVi cv_X11_301 [.int j_, .int n_] [] (k_hasPlaces l G nz hi_nz h_ hrowz j_ n_) hi_nz (ce_3 G _ _ _ _ _ _ _ _ _ _) rfl rfl rfl ⟨Nat.le_of_ble_eq_true rfl, Nat.le_of_ble_eq_true rfl⟩ (Nat.le_of_ble_eq_true rfl) ⟨Nat.zero_le _, Nat.zero_le _⟩ dX11_copy_87 (fun xx σ2 hq => ?_)
                  obtain ⟨rfl, rfl⟩ := hq
                  refine m_ifne_b 96 dX11_copy_90 (by decide) (fun c8_ => ?_) (fun c8_ => ?_)
                  ·
                    have hpx := of_decide_eq_true c7_
                    have hpz := of_decide_eq_true c8_
                    obtain ⟨iq, nq, rfl, rfl, hin⟩ := sub_le hnx100 hpx.1 hpx.2.1 hpx.2.2.2
                    have hcliq : (nI iq).toNatClampNeg = iq := nI_clamp (by omega)
                    have hclnq : (nI nq).toNatClampNeg = nq := nI_clamp (by omega)
                    obtain ⟨jq, nq2, rfl, enq, hjn⟩ := sub_le hnz100 hpz.1 hpz.2.1 hpz.2.2.2
                    have hcljq : (nI jq).toNatClampNeg = jq := nI_clamp (by omega)
                    have hnn : nq2 = nq := by have h3_ := congrArg (fun z_ : Int32 => z_.toNatClampNeg) enq; simp only [hclnq] at h3_; rw [nI_clamp (by omega)] at h3_; exact h3_.symm
                    subst hnn
                    refine m_aload 1 rfl dX11_copy_96 ?_
                    refine gf_X11_304 hi_nx dX11_copy_98 ?_
                    refine m_iload_n 4 rfl rfl dX11_copy_101 ?_
                    refine m_aload 0 rfl dX11_copy_102 ?_
                    refine gf_X11_304 hi_nz dX11_copy_104 ?_
                    refine m_iload 6 rfl dX11_copy_107 ?_
                    refine m_iload 7 rfl dX11_copy_109 ?_
                    refine m_acopy (d := nx) (e2 := nz) (i := iq) (j := jq) (n := nq2) hnx hnz (by omega) (by omega) (Nat.le_of_ble_eq_true rfl) (Nat.le_of_ble_eq_true (by decide +kernel)) dX11_copy_111 ?_
                    refine m_iload 7 rfl dX11_copy_114 ?_
                    exact m_iret dX11_copy_116 (Nat.le_refl _) (Nat.le_refl _) (⟨by unfold cpI; rw [if_pos ⟨hDx, hDz⟩, isD_clamp hnx, isD_clamp hnz, if_neg (by omega), if_pos ⟨hKx, hKz, hss⟩, if_pos ⟨c7_, c8_⟩], _, _, _, _, _, rfl, by unfold cpH; rw [if_pos (show cpB h_ (nI nx) (nI iq) (nI nz) (nI jq) (nI nq2) = true from by unfold cpB; rw [isD_clamp hnx, isD_clamp hnz, hDx, hDz, decide_eq_true ⟨hKx, hKz, hss⟩, c7_, c8_]; rfl), isD_clamp hnx, isD_clamp hnz, hcliq, hcljq, hclnq]; exact hC.shelf (fun t_ k_ c_ hn => if_neg (fun q_ => hn ⟨q_.2, Or.inr q_.1⟩)) dyf_rf (RS.rows hrowz.2.1 ((if_neg (fun q_ => absurd q_.1 (by decide))).trans hrowz.2.2.1) hsz2 ((if_neg (fun q_ => absurd q_.1 (by decide))).trans hrowz.2.2.2.2.1) hnz100 (fun q_ hq9 => (if_pos ⟨rfl, rfl⟩).trans (by unfold va_cpy cpF; by_cases hz9 : jq ≤ q_ ∧ q_ < jq + nq2 <;> (first | (rw [if_pos hz9, if_pos hz9]; exact hrowx.2.2.2.2.2.2 _ (by omega)) | (rw [if_neg hz9, if_neg hz9]; exact hrowz.2.2.2.2.2.2 q_ hq9))))) (fun k_ hk_ => updH_o hk_)⟩)
                  ·
                    refine m_bipush (-13) dX11_copy_93 rfl ?_
                    exact m_iret dX11_copy_95 (Nat.le_refl _) (Nat.le_refl _) (⟨by unfold cpI; rw [if_pos ⟨hDx, hDz⟩, isD_clamp hnx, isD_clamp hnz, if_neg (by omega), if_pos ⟨hKx, hKz, hss⟩, if_neg (fun q_ => by rw [q_.2] at c8_; exact absurd c8_ (by decide))], _, _, _, _, _, rfl, by unfold cpH; rw [if_neg (by rw [show cpB h_ (nI (nx)) i_ (nI (nz)) j_ n_ = false from by unfold cpB; rw [isD_clamp hnx, isD_clamp hnz, hDx, hDz, decide_eq_true ⟨hKx, hKz, hss⟩, c8_]; simp]; decide)]; exact hC⟩)
              ·
                refine m_bipush (-12) dX11_copy_67 rfl ?_
                exact m_iret dX11_copy_69 (Nat.le_refl _) (Nat.le_refl _) (⟨by have hy1 := of_decide_eq_false c1_; have hy2 := of_decide_eq_false c2_; unfold cpI; rw [if_pos ⟨hDx, hDz⟩, isD_clamp hnx, isD_clamp hnz, if_neg (by omega), if_neg (by omega)], _, _, _, _, _, rfl, by unfold cpH; rw [if_neg (by rw [show cpB h_ (nI (nx)) i_ (nI (nz)) j_ n_ = false from by unfold cpB; rw [isD_clamp hnx, isD_clamp hnz, decide_eq_false (by omega), Bool.false_and, Bool.and_false, Bool.and_false]]; decide)]; exact hC⟩)
        ·
          refine m_bipush (-11) dX11_copy_42 rfl ?_
          exact m_iret dX11_copy_44 (Nat.le_refl _) (Nat.le_refl _) (⟨by have hz9 := of_decide_eq_true c2_; unfold cpI; rw [if_pos ⟨hDx, hDz⟩, isD_clamp hnx, isD_clamp hnz, if_pos (by omega)], _, _, _, _, _, rfl, by unfold cpH; rw [if_neg (by rw [show cpB h_ (nI (nx)) i_ (nI (nz)) j_ n_ = false from by unfold cpB; have hz9 := of_decide_eq_true c2_; rw [isD_clamp hnx, isD_clamp hnz, decide_eq_false (by omega), Bool.false_and, Bool.and_false, Bool.and_false]]; decide)]; exact hC⟩)
