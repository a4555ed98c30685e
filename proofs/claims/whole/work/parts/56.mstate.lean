theorem hs_eq {n_ p_ : Nat} {x_ c_ : Int32} (h1_ : c_ ≠ -1000) (e_ : (if p_ < n_ then x_ else -1000) = c_) : (if p_ < n_ then x_ else 0) = c_ := by
  by_cases z_ : p_ < n_
  · rw [if_pos z_] at e_ ⊢; exact e_
  · rw [if_neg z_] at e_; exact absurd e_.symm h1_
theorem hs_ne {n_ p_ : Nat} {x_ c_ : Int32} (h1_ : c_ ≠ 0) (e_ : ¬ (if p_ < n_ then x_ else -1000) = c_) : ¬ (if p_ < n_ then x_ else 0) = c_ := by
  by_cases z_ : p_ < n_
  · rw [if_pos z_] at e_ ⊢; exact e_
  · rw [if_neg z_]; exact fun q_ => h1_ q_.symm
set_option maxRecDepth 100000 in
set_option maxHeartbeats 4000000 in
theorem k_m_readsStatement (l : Launch) (G : owG) {A S Z B T V : owF} {J : Nat → Nat → Int64} {Y : Nat → Nat → Nat → Option Nat} {P : Nat → Option owW} (a_ : owK) (ho_ : aOk a_) (im : Option owK) (h_ : owH) (hM : MR B a_ im h_) (d_ : Nat) (hk2 : hK h_ d_ = 2) (hd_ : d_ < 8) (p_ : Nat) (hp : p_ ≤ hN h_ d_) (hpos : T 4 0 11 = nI p_) (hbase : T 4 0 12 = nI (100 * d_)) (hend : T 4 0 13 = nI (hN h_ d_))  : Ct l G yX12_readsStatement cX12_readsStatement 3 ((some .boolean)) 3 0 0 [.ref (gK G 4 0)] (A, S, Z, B, T, V, J, Y, P) (qI (fun r_ σ => r_ = bI (stS h_ d_ p_).1 ∧ ∃ T2 : owF, σ = (A, S, Z, B, T2, V, J, Y, P) ∧ T2 4 0 11 = nI (stS h_ d_ p_).2 ∧ T2 4 0 12 = nI (100 * d_) ∧ T2 4 0 13 = nI (hN h_ d_) ∧ (∀ j_, T2 42 0 j_ = T 42 0 j_) ∧ ((stS h_ d_ p_).1 = true → T2 49 0 0 = nI (sn0 h_ d_ p_) ∧ T2 49 0 1 = nI (sn1 h_ d_ p_) ∧ (sgI h_ d_ p_ ≠ 107 → T2 49 0 2 = nI (sn2 h_ d_ p_))))) := by
  refine ct_of (by decide +kernel) (Nat.le_of_ble_eq_true rfl) ?_
  have h10 := ho_.1
  have h8_ := ho_.2.1
  have hX := hM.1
  have hms := hM.2.2.2 d_ hd_
  have hm2 := hms.2.2.1 hk2
  have hn100 := hm2.2.2.2.1
  show Wm l G cX12_readsStatement 3 RX12 ((some .boolean)) (rmk 3 0 0) (fun _ => True) (QfM G (qI (fun r_ σ => r_ = bI (stS h_ d_ p_).1 ∧ ∃ T2 : owF, σ = (A, S, Z, B, T2, V, J, Y, P) ∧ T2 4 0 11 = nI (stS h_ d_ p_).2 ∧ T2 4 0 12 = nI (100 * d_) ∧ T2 4 0 13 = nI (hN h_ d_) ∧ (∀ j_, T2 42 0 j_ = T 42 0 j_) ∧ ((stS h_ d_ p_).1 = true → T2 49 0 0 = nI (sn0 h_ d_ p_) ∧ T2 49 0 1 = nI (sn1 h_ d_ p_) ∧ (sgI h_ d_ p_ ≠ 107 → T2 49 0 2 = nI (sn2 h_ d_ p_))))) 0 0) 0 [(0, .ref (gK G 4 0))] [] (A, S, Z, B, T, V, J, Y, P) 0 0
  refine m_aload_n 0 rfl rfl dX12_readsStatement_0 ?_
  refine m_callVi cv_X12_79 [] [] (k_m_here l G a_ ho_ im h_ hM d_ hk2 hd_ p_ hp hpos hbase hend) (by decide) (ce_4 G _ _ _ _ _ _ _ _ _ _) rfl rfl rfl ⟨Nat.le_of_ble_eq_true rfl, Nat.le_of_ble_eq_true rfl⟩ (Nat.le_of_ble_eq_true rfl) ⟨Nat.zero_le _, Nat.zero_le _⟩ dX12_readsStatement_1 (fun xx σ2 hq => ?_)
  obtain ⟨rfl, rfl⟩ := hq
  refine m_istore_n [(1, .int (if p_ < hN h_ d_ then hE h_ d_ p_ else -1000)), (0, .ref (gK G 4 0))] rfl (by decide) rfl dX12_readsStatement_4 ?_
  refine m_aload_n 1 rfl rfl dX12_readsStatement_5 ?_
  refine m_iconst 0 dX12_readsStatement_6 rfl ?_
  refine pf_X12_91 dX12_readsStatement_7 (fun T1 hT1 => ?_)
  refine m_iload_n 0 rfl rfl dX12_readsStatement_10 ?_
  refine m_bipush (121) dX12_readsStatement_11 rfl ?_
  refine m_icmp_eq 30 dX12_readsStatement_13 (by decide) (fun c2_ => ?_) (fun c2_ => ?_)
  ·
    have hsg : sgI h_ d_ p_ = 121 := hs_eq (by decide) c2_
    have hsn : sgI h_ d_ p_ ≠ 0 := by rw [hsg]; decide
    rw [c2_]
    refine m_aload_n 1 rfl rfl dX12_readsStatement_30 ?_
    refine m_dup rfl dX12_readsStatement_31 ?_
    refine gf_X12_70 dX12_readsStatement_32 ?_
    refine m_topi (up3_j hT1 (by decide) hpos) ?_
    refine m_iconst 1 dX12_readsStatement_35 rfl ?_
    refine m_iadd dX12_readsStatement_36 ?_
    refine m_topi (show (nI (p_)) + 1 = nI (p_ + 1) from nI_add _ _) ?_
    refine pf_X12_70 dX12_readsStatement_37 (fun T3 hT3 => ?_)
    refine m_aload_n 1 rfl rfl dX12_readsStatement_40 ?_
    refine m_iconst 1 dX12_readsStatement_41 rfl ?_
    cases hgp1 : dgB h_ d_ (p_ + 1) with
    | false =>
      refine m_callVi cv_X12_94 [.int 1] [] (k_m_rd_n l G a_ ho_ im h_ hM d_ hk2 hd_ (p_ + 1) (sg_lt (h := h_) (d := d_) (p := p_) hsn) (up3_e hT3) ((up3_o hT3 4 0 12 (by decide)).trans ((up3_o hT1 4 0 12 (by decide)).trans hbase)) ((up3_o hT3 4 0 13 (by decide)).trans ((up3_o hT1 4 0 13 (by decide)).trans hend)) 1 hgp1) (by decide) (ce_4 G _ _ _ _ _ _ _ _ _ _) rfl rfl rfl ⟨Nat.le_of_ble_eq_true rfl, Nat.le_of_ble_eq_true rfl⟩ (Nat.le_of_ble_eq_true rfl) ⟨Nat.zero_le _, Nat.zero_le _⟩ dX12_readsStatement_42 (fun xx σ2 hq => ?_)
      obtain ⟨rfl, rfl⟩ := hq
      refine m_istore_n [(2, .int 0), (1, .int 121), (0, .ref (gK G 4 0))] rfl (by decide) rfl dX12_readsStatement_45 ?_
      refine m_iload_n 1 rfl rfl dX12_readsStatement_46 ?_
      refine m_bipush (107) dX12_readsStatement_47 rfl ?_
      refine m_icmp_ne 79 dX12_readsStatement_49 (by decide) (fun _ => ?_) (fun c4_ => absurd c4_ (by decide))
      refine m_iload_n 0 rfl rfl dX12_readsStatement_79 ?_
      refine m_if_eq 95 dX12_readsStatement_80 (by decide) (fun _ => ?_) (fun c5_ => absurd c5_ (by decide))
      refine m_iconst 0 dX12_readsStatement_95 rfl ?_
      refine m_istore_n [(2, .int 0), (1, .int 121), (0, .ref (gK G 4 0))] rfl (by decide) rfl dX12_readsStatement_96 ?_
      refine m_iload_n 1 rfl rfl dX12_readsStatement_97 ?_
      refine m_bipush (121) dX12_readsStatement_98 rfl ?_
      refine m_icmp_ne 130 dX12_readsStatement_100 (by decide) (fun c6_ => absurd c6_ (by decide)) (fun _ => ?_)
      refine m_iload_n 0 rfl rfl dX12_readsStatement_103 ?_
      refine m_if_eq 128 dX12_readsStatement_104 (by decide) (fun _ => ?_) (fun c7_ => absurd c7_ (by decide))
      refine m_iconst 0 dX12_readsStatement_128 rfl ?_
      exact m_zret dX12_readsStatement_129 (Nat.le_refl _) (Nat.le_refl _) nar0 (⟨by rw [(show stS h_ d_ p_ = (false, (p_ + 1)) from (by unfold stS; rw [if_pos hsg]; unfold stY; simp [hgp1, enS]))]; rfl, T3, rfl, by rw [(show stS h_ d_ p_ = (false, (p_ + 1)) from (by unfold stS; rw [if_pos hsg]; unfold stY; simp [hgp1, enS]))]; exact (up3_e hT3), ((up3_o hT3 4 0 12 (by decide)).trans ((up3_o hT1 4 0 12 (by decide)).trans hbase)), ((up3_o hT3 4 0 13 (by decide)).trans ((up3_o hT1 4 0 13 (by decide)).trans hend)), (fun j_ => (up3_o hT3 42 0 j_ (fun z_ => absurd z_.1 (by decide))).trans ((fun j_ => (up3_o hT1 42 0 j_ (fun z_ => absurd z_.1 (by decide))).trans ((fun _ => rfl) j_)) j_)), fun q_ => by rw [(show stS h_ d_ p_ = (false, (p_ + 1)) from (by unfold stS; rw [if_pos hsg]; unfold stY; simp [hgp1, enS]))] at q_; exact absurd (show false = true from q_) (by decide)⟩)
    | true =>
      refine m_callVi cv_X12_94 [.int 1] [] (k_m_rd1_y l G a_ ho_ im h_ hM d_ hk2 hd_ (p_ + 1) (sg_lt (h := h_) (d := d_) (p := p_) hsn) (up3_e hT3) ((up3_o hT3 4 0 12 (by decide)).trans ((up3_o hT1 4 0 12 (by decide)).trans hbase)) ((up3_o hT3 4 0 13 (by decide)).trans ((up3_o hT1 4 0 13 (by decide)).trans hend)) 0 (by decide) ((up3_o hT3 4 0 14 (by decide)).trans (up3_e hT1)) hgp1) (by decide) (ce_4 G _ _ _ _ _ _ _ _ _ _) rfl rfl rfl ⟨Nat.le_of_ble_eq_true rfl, Nat.le_of_ble_eq_true rfl⟩ (Nat.le_of_ble_eq_true rfl) ⟨Nat.zero_le _, Nat.zero_le _⟩ dX12_readsStatement_42 (fun xx σ2 hq => ?_)
      obtain ⟨rfl, T8, rfl, hqT80, hqT81, hqT82, hqT83, hqT84, hqT85, hqT86⟩ := hq
      refine m_istore_n [(2, .int 1), (1, .int 121), (0, .ref (gK G 4 0))] rfl (by decide) rfl dX12_readsStatement_45 ?_
      refine m_iload_n 1 rfl rfl dX12_readsStatement_46 ?_
      refine m_bipush (107) dX12_readsStatement_47 rfl ?_
      refine m_icmp_ne 79 dX12_readsStatement_49 (by decide) (fun _ => ?_) (fun c9_ => absurd c9_ (by decide))
      refine m_iload_n 0 rfl rfl dX12_readsStatement_79 ?_
      refine m_if_eq 95 dX12_readsStatement_80 (by decide) (fun c10_ => absurd c10_ (by decide)) (fun _ => ?_)
      refine m_aload_n 2 rfl rfl dX12_readsStatement_83 ?_
      refine m_iconst 1 dX12_readsStatement_84 rfl ?_
      cases hgp2 : dgB h_ d_ (p_ + 2) with
      | false =>
        refine m_callVi cv_X12_94 [.int 1] [] (k_m_rd_n l G a_ ho_ im h_ hM d_ hk2 hd_ (p_ + 2) (dg_v hgp1).1 hqT80 hqT81 hqT82 1 hgp2) (by decide) (ce_4 G _ _ _ _ _ _ _ _ _ _) rfl rfl rfl ⟨Nat.le_of_ble_eq_true rfl, Nat.le_of_ble_eq_true rfl⟩ (Nat.le_of_ble_eq_true rfl) ⟨Nat.zero_le _, Nat.zero_le _⟩ dX12_readsStatement_85 (fun xx σ2 hq => ?_)
        obtain ⟨rfl, rfl⟩ := hq
        refine m_if_eq 95 dX12_readsStatement_88 (by decide) (fun _ => ?_) (fun c11_ => absurd c11_ (by decide))
        refine m_iconst 0 dX12_readsStatement_95 rfl ?_
        refine m_istore_n [(2, .int 0), (1, .int 121), (0, .ref (gK G 4 0))] rfl (by decide) rfl dX12_readsStatement_96 ?_
        refine m_iload_n 1 rfl rfl dX12_readsStatement_97 ?_
        refine m_bipush (121) dX12_readsStatement_98 rfl ?_
        refine m_icmp_ne 130 dX12_readsStatement_100 (by decide) (fun c12_ => absurd c12_ (by decide)) (fun _ => ?_)
        refine m_iload_n 0 rfl rfl dX12_readsStatement_103 ?_
        refine m_if_eq 128 dX12_readsStatement_104 (by decide) (fun _ => ?_) (fun c13_ => absurd c13_ (by decide))
        refine m_iconst 0 dX12_readsStatement_128 rfl ?_
        exact m_zret dX12_readsStatement_129 (Nat.le_refl _) (Nat.le_refl _) nar0 (⟨by rw [(show stS h_ d_ p_ = (false, (p_ + 2)) from (by unfold stS; rw [if_pos hsg]; unfold stY; simp [hgp1, hgp2, enS]))]; rfl, T8, rfl, by rw [(show stS h_ d_ p_ = (false, (p_ + 2)) from (by unfold stS; rw [if_pos hsg]; unfold stY; simp [hgp1, hgp2, enS]))]; exact hqT80, hqT81, hqT82, (fun j_ => (hqT86 j_).trans ((fun j_ => (up3_o hT3 42 0 j_ (fun z_ => absurd z_.1 (by decide))).trans ((fun j_ => (up3_o hT1 42 0 j_ (fun z_ => absurd z_.1 (by decide))).trans ((fun _ => rfl) j_)) j_)) j_)), fun q_ => by rw [(show stS h_ d_ p_ = (false, (p_ + 2)) from (by unfold stS; rw [if_pos hsg]; unfold stY; simp [hgp1, hgp2, enS]))] at q_; exact absurd (show false = true from q_) (by decide)⟩)
      | true =>
        refine m_callVi cv_X12_94 [.int 1] [] (k_m_rd1_y l G a_ ho_ im h_ hM d_ hk2 hd_ (p_ + 2) (dg_v hgp1).1 hqT80 hqT81 hqT82 1 (by decide) hqT83 hgp2) (by decide) (ce_4 G _ _ _ _ _ _ _ _ _ _) rfl rfl rfl ⟨Nat.le_of_ble_eq_true rfl, Nat.le_of_ble_eq_true rfl⟩ (Nat.le_of_ble_eq_true rfl) ⟨Nat.zero_le _, Nat.zero_le _⟩ dX12_readsStatement_85 (fun xx σ2 hq => ?_)
        obtain ⟨rfl, T14, rfl, hqT140, hqT141, hqT142, hqT143, hqT144, hqT145, hqT146⟩ := hq
        refine m_if_eq 95 dX12_readsStatement_88 (by decide) (fun c15_ => absurd c15_ (by decide)) (fun _ => ?_)
        refine m_iconst 1 dX12_readsStatement_91 rfl ?_
        refine m_goto 96 dX12_readsStatement_92 (by decide) ?_
        refine m_istore_n [(2, .int 1), (1, .int 121), (0, .ref (gK G 4 0))] rfl (by decide) rfl dX12_readsStatement_96 ?_
        refine m_iload_n 1 rfl rfl dX12_readsStatement_97 ?_
        refine m_bipush (121) dX12_readsStatement_98 rfl ?_
        refine m_icmp_ne 130 dX12_readsStatement_100 (by decide) (fun c16_ => absurd c16_ (by decide)) (fun _ => ?_)
        refine m_iload_n 0 rfl rfl dX12_readsStatement_103 ?_
        refine m_if_eq 128 dX12_readsStatement_104 (by decide) (fun c17_ => absurd c17_ (by decide)) (fun _ => ?_)
        refine m_aload_n 2 rfl rfl dX12_readsStatement_107 ?_
        refine m_iconst 2 dX12_readsStatement_108 rfl ?_
        cases hgp3 : dgB h_ d_ (p_ + 3) with
        | false =>
          refine m_callVi cv_X12_94 [.int 2] [] (k_m_rd_n l G a_ ho_ im h_ hM d_ hk2 hd_ (p_ + 3) (dg_v hgp2).1 hqT140 hqT141 hqT142 2 hgp3) (by decide) (ce_4 G _ _ _ _ _ _ _ _ _ _) rfl rfl rfl ⟨Nat.le_of_ble_eq_true rfl, Nat.le_of_ble_eq_true rfl⟩ (Nat.le_of_ble_eq_true rfl) ⟨Nat.zero_le _, Nat.zero_le _⟩ dX12_readsStatement_109 (fun xx σ2 hq => ?_)
          obtain ⟨rfl, rfl⟩ := hq
          refine m_if_eq 128 dX12_readsStatement_112 (by decide) (fun _ => ?_) (fun c18_ => absurd c18_ (by decide))
          refine m_iconst 0 dX12_readsStatement_128 rfl ?_
          exact m_zret dX12_readsStatement_129 (Nat.le_refl _) (Nat.le_refl _) nar0 (⟨by rw [(show stS h_ d_ p_ = (false, (p_ + 3)) from (by unfold stS; rw [if_pos hsg]; unfold stY; simp [hgp1, hgp2, hgp3, enS]))]; rfl, T14, rfl, by rw [(show stS h_ d_ p_ = (false, (p_ + 3)) from (by unfold stS; rw [if_pos hsg]; unfold stY; simp [hgp1, hgp2, hgp3, enS]))]; exact hqT140, hqT141, hqT142, (fun j_ => (hqT146 j_).trans ((fun j_ => (hqT86 j_).trans ((fun j_ => (up3_o hT3 42 0 j_ (fun z_ => absurd z_.1 (by decide))).trans ((fun j_ => (up3_o hT1 42 0 j_ (fun z_ => absurd z_.1 (by decide))).trans ((fun _ => rfl) j_)) j_)) j_)) j_)), fun q_ => by rw [(show stS h_ d_ p_ = (false, (p_ + 3)) from (by unfold stS; rw [if_pos hsg]; unfold stY; simp [hgp1, hgp2, hgp3, enS]))] at q_; exact absurd (show false = true from q_) (by decide)⟩)
        | true =>
          refine m_callVi cv_X12_94 [.int 2] [] (k_m_rd2_y l G a_ ho_ im h_ hM d_ hk2 hd_ (p_ + 3) (dg_v hgp2).1 hqT140 hqT141 hqT142 2 (by decide) hqT143 hgp3) (by decide) (ce_4 G _ _ _ _ _ _ _ _ _ _) rfl rfl rfl ⟨Nat.le_of_ble_eq_true rfl, Nat.le_of_ble_eq_true rfl⟩ (Nat.le_of_ble_eq_true rfl) ⟨Nat.zero_le _, Nat.zero_le _⟩ dX12_readsStatement_109 (fun xx σ2 hq => ?_)
          obtain ⟨rfl, T19, rfl, hqT190, hqT191, hqT192, hqT193, hqT194, hqT195, hqT196⟩ := hq
          refine m_if_eq 128 dX12_readsStatement_112 (by decide) (fun c20_ => absurd c20_ (by decide)) (fun _ => ?_)
          refine m_aload_n 2 rfl rfl dX12_readsStatement_115 ?_
          refine m_bipush (59) dX12_readsStatement_116 rfl ?_
          cases henmPhdp3 : enB h_ d_ (nmP h_ d_ (p_ + 3)) with
          | false =>
            refine m_callVi cv_X12_98 [.int 59] [] (k_m_takes_n l G a_ ho_ im h_ hM d_ hk2 hd_ (nmP h_ d_ (p_ + 3)) (nmP_le hgp3).2.1 hqT190 hqT191 hqT192 henmPhdp3) (by decide) (ce_4 G _ _ _ _ _ _ _ _ _ _) rfl rfl rfl ⟨Nat.le_of_ble_eq_true rfl, Nat.le_of_ble_eq_true rfl⟩ (Nat.le_of_ble_eq_true rfl) ⟨Nat.zero_le _, Nat.zero_le _⟩ dX12_readsStatement_118 (fun xx σ2 hq => ?_)
            obtain ⟨rfl, rfl⟩ := hq
            refine m_if_eq 128 dX12_readsStatement_121 (by decide) (fun _ => ?_) (fun c21_ => absurd c21_ (by decide))
            refine m_iconst 0 dX12_readsStatement_128 rfl ?_
            exact m_zret dX12_readsStatement_129 (Nat.le_refl _) (Nat.le_refl _) nar0 (⟨by rw [(show stS h_ d_ p_ = (false, (nmP h_ d_ (p_ + 3))) from (by unfold stS; rw [if_pos hsg]; unfold stY; simp [hgp1, hgp2, hgp3, henmPhdp3, enS]))]; rfl, T19, rfl, by rw [(show stS h_ d_ p_ = (false, (nmP h_ d_ (p_ + 3))) from (by unfold stS; rw [if_pos hsg]; unfold stY; simp [hgp1, hgp2, hgp3, henmPhdp3, enS]))]; exact hqT190, hqT191, hqT192, (fun j_ => (hqT196 j_).trans ((fun j_ => (hqT146 j_).trans ((fun j_ => (hqT86 j_).trans ((fun j_ => (up3_o hT3 42 0 j_ (fun z_ => absurd z_.1 (by decide))).trans ((fun j_ => (up3_o hT1 42 0 j_ (fun z_ => absurd z_.1 (by decide))).trans ((fun _ => rfl) j_)) j_)) j_)) j_)) j_)), fun q_ => by rw [(show stS h_ d_ p_ = (false, (nmP h_ d_ (p_ + 3))) from (by unfold stS; rw [if_pos hsg]; unfold stY; simp [hgp1, hgp2, hgp3, henmPhdp3, enS]))] at q_; exact absurd (show false = true from q_) (by decide)⟩)
          | true =>
            refine m_callVi cv_X12_98 [.int 59] [] (k_m_takes_y l G a_ ho_ im h_ hM d_ hk2 hd_ (nmP h_ d_ (p_ + 3)) (nmP_le hgp3).2.1 hqT190 hqT191 hqT192 henmPhdp3) (by decide) (ce_4 G _ _ _ _ _ _ _ _ _ _) rfl rfl rfl ⟨Nat.le_of_ble_eq_true rfl, Nat.le_of_ble_eq_true rfl⟩ (Nat.le_of_ble_eq_true rfl) ⟨Nat.zero_le _, Nat.zero_le _⟩ dX12_readsStatement_118 (fun xx σ2 hq => ?_)
            obtain ⟨rfl, T22, rfl, hT_T22⟩ := hq
            refine m_if_eq 128 dX12_readsStatement_121 (by decide) (fun c23_ => absurd c23_ (by decide)) (fun _ => ?_)
            refine m_iconst 1 dX12_readsStatement_124 rfl ?_
            refine m_goto 129 dX12_readsStatement_125 (by decide) ?_
            exact m_zret dX12_readsStatement_129 (Nat.le_refl _) (Nat.le_refl _) nar1 (⟨by rw [(show stS h_ d_ p_ = (true, ((nmP h_ d_ (p_ + 3)) + 1)) from (by unfold stS; rw [if_pos hsg]; unfold stY; simp [hgp1, hgp2, hgp3, henmPhdp3, enS]))]; rfl, T22, rfl, by rw [(show stS h_ d_ p_ = (true, ((nmP h_ d_ (p_ + 3)) + 1)) from (by unfold stS; rw [if_pos hsg]; unfold stY; simp [hgp1, hgp2, hgp3, henmPhdp3, enS]))]; exact (up3_e hT_T22), ((up3_o hT_T22 4 0 12 (by decide)).trans hqT191), ((up3_o hT_T22 4 0 13 (by decide)).trans hqT192), (fun j_ => (up3_o hT_T22 42 0 j_ (fun z_ => absurd z_.1 (by decide))).trans ((fun j_ => (hqT196 j_).trans ((fun j_ => (hqT146 j_).trans ((fun j_ => (hqT86 j_).trans ((fun j_ => (up3_o hT3 42 0 j_ (fun z_ => absurd z_.1 (by decide))).trans ((fun j_ => (up3_o hT1 42 0 j_ (fun z_ => absurd z_.1 (by decide))).trans ((fun _ => rfl) j_)) j_)) j_)) j_)) j_)) j_)), fun _ => ⟨((up3_o hT_T22 49 0 0 (by decide)).trans ((hqT195 0 (by decide)).trans ((hqT145 0 (by decide)).trans hqT84))), ((up3_o hT_T22 49 0 1 (by decide)).trans ((hqT195 1 (by decide)).trans hqT144)).trans (congrArg nI (show dgV h_ d_ (p_ + 2) = sn1 h_ d_ p_ from by unfold sn1; rw [if_neg (by rw [hsg]; decide)])), fun _ => ((up3_o hT_T22 49 0 2 (by decide)).trans hqT194).trans (congrArg nI (show nmV h_ d_ (p_ + 3) = sn2 h_ d_ p_ from by unfold sn2; rw [if_pos hsg]))⟩⟩)
  ·
    have hn121 : ¬ sgI h_ d_ p_ = 121 := hs_ne (by decide) c2_
    refine m_iload_n 0 rfl rfl dX12_readsStatement_16 ?_
    refine m_bipush (107) dX12_readsStatement_17 rfl ?_
    refine m_icmp_eq 30 dX12_readsStatement_19 (by decide) (fun c24_ => ?_) (fun c24_ => ?_)
    ·
      have hsg : sgI h_ d_ p_ = 107 := hs_eq (by decide) c24_
      have hsn : sgI h_ d_ p_ ≠ 0 := by rw [hsg]; decide
      rw [c24_]
      refine m_aload_n 1 rfl rfl dX12_readsStatement_30 ?_
      refine m_dup rfl dX12_readsStatement_31 ?_
      refine gf_X12_70 dX12_readsStatement_32 ?_
      refine m_topi (up3_j hT1 (by decide) hpos) ?_
      refine m_iconst 1 dX12_readsStatement_35 rfl ?_
      refine m_iadd dX12_readsStatement_36 ?_
      refine m_topi (show (nI (p_)) + 1 = nI (p_ + 1) from nI_add _ _) ?_
      refine pf_X12_70 dX12_readsStatement_37 (fun T25 hT25 => ?_)
      refine m_aload_n 1 rfl rfl dX12_readsStatement_40 ?_
      refine m_iconst 1 dX12_readsStatement_41 rfl ?_
      cases hgp1 : dgB h_ d_ (p_ + 1) with
      | false =>
        refine m_callVi cv_X12_94 [.int 1] [] (k_m_rd_n l G a_ ho_ im h_ hM d_ hk2 hd_ (p_ + 1) (sg_lt (h := h_) (d := d_) (p := p_) hsn) (up3_e hT25) ((up3_o hT25 4 0 12 (by decide)).trans ((up3_o hT1 4 0 12 (by decide)).trans hbase)) ((up3_o hT25 4 0 13 (by decide)).trans ((up3_o hT1 4 0 13 (by decide)).trans hend)) 1 hgp1) (by decide) (ce_4 G _ _ _ _ _ _ _ _ _ _) rfl rfl rfl ⟨Nat.le_of_ble_eq_true rfl, Nat.le_of_ble_eq_true rfl⟩ (Nat.le_of_ble_eq_true rfl) ⟨Nat.zero_le _, Nat.zero_le _⟩ dX12_readsStatement_42 (fun xx σ2 hq => ?_)
        obtain ⟨rfl, rfl⟩ := hq
        refine m_istore_n [(2, .int 0), (1, .int 107), (0, .ref (gK G 4 0))] rfl (by decide) rfl dX12_readsStatement_45 ?_
        refine m_iload_n 1 rfl rfl dX12_readsStatement_46 ?_
        refine m_bipush (107) dX12_readsStatement_47 rfl ?_
        refine m_icmp_ne 79 dX12_readsStatement_49 (by decide) (fun c26_ => absurd c26_ (by decide)) (fun _ => ?_)
        refine m_iload_n 0 rfl rfl dX12_readsStatement_52 ?_
        refine m_if_eq 77 dX12_readsStatement_53 (by decide) (fun _ => ?_) (fun c27_ => absurd c27_ (by decide))
        refine m_iconst 0 dX12_readsStatement_77 rfl ?_
        exact m_zret dX12_readsStatement_78 (Nat.le_refl _) (Nat.le_refl _) nar0 (⟨by rw [(show stS h_ d_ p_ = (false, (p_ + 1)) from (by unfold stS; rw [if_neg (by rw [hsg]; decide), if_pos hsg]; unfold stK; simp [hgp1, enS]))]; rfl, T25, rfl, by rw [(show stS h_ d_ p_ = (false, (p_ + 1)) from (by unfold stS; rw [if_neg (by rw [hsg]; decide), if_pos hsg]; unfold stK; simp [hgp1, enS]))]; exact (up3_e hT25), ((up3_o hT25 4 0 12 (by decide)).trans ((up3_o hT1 4 0 12 (by decide)).trans hbase)), ((up3_o hT25 4 0 13 (by decide)).trans ((up3_o hT1 4 0 13 (by decide)).trans hend)), (fun j_ => (up3_o hT25 42 0 j_ (fun z_ => absurd z_.1 (by decide))).trans ((fun j_ => (up3_o hT1 42 0 j_ (fun z_ => absurd z_.1 (by decide))).trans ((fun _ => rfl) j_)) j_)), fun q_ => by rw [(show stS h_ d_ p_ = (false, (p_ + 1)) from (by unfold stS; rw [if_neg (by rw [hsg]; decide), if_pos hsg]; unfold stK; simp [hgp1, enS]))] at q_; exact absurd (show false = true from q_) (by decide)⟩)
      | true =>
        refine m_callVi cv_X12_94 [.int 1] [] (k_m_rd1_y l G a_ ho_ im h_ hM d_ hk2 hd_ (p_ + 1) (sg_lt (h := h_) (d := d_) (p := p_) hsn) (up3_e hT25) ((up3_o hT25 4 0 12 (by decide)).trans ((up3_o hT1 4 0 12 (by decide)).trans hbase)) ((up3_o hT25 4 0 13 (by decide)).trans ((up3_o hT1 4 0 13 (by decide)).trans hend)) 0 (by decide) ((up3_o hT25 4 0 14 (by decide)).trans (up3_e hT1)) hgp1) (by decide) (ce_4 G _ _ _ _ _ _ _ _ _ _) rfl rfl rfl ⟨Nat.le_of_ble_eq_true rfl, Nat.le_of_ble_eq_true rfl⟩ (Nat.le_of_ble_eq_true rfl) ⟨Nat.zero_le _, Nat.zero_le _⟩ dX12_readsStatement_42 (fun xx σ2 hq => ?_)
        obtain ⟨rfl, T28, rfl, hqT280, hqT281, hqT282, hqT283, hqT284, hqT285, hqT286⟩ := hq
        refine m_istore_n [(2, .int 1), (1, .int 107), (0, .ref (gK G 4 0))] rfl (by decide) rfl dX12_readsStatement_45 ?_
        refine m_iload_n 1 rfl rfl dX12_readsStatement_46 ?_
        refine m_bipush (107) dX12_readsStatement_47 rfl ?_
        refine m_icmp_ne 79 dX12_readsStatement_49 (by decide) (fun c29_ => absurd c29_ (by decide)) (fun _ => ?_)
        refine m_iload_n 0 rfl rfl dX12_readsStatement_52 ?_
        refine m_if_eq 77 dX12_readsStatement_53 (by decide) (fun c30_ => absurd c30_ (by decide)) (fun _ => ?_)
        refine m_aload_n 2 rfl rfl dX12_readsStatement_56 ?_
        refine m_iconst 2 dX12_readsStatement_57 rfl ?_
        cases hgp2 : dgB h_ d_ (p_ + 2) with
        | false =>
          refine m_callVi cv_X12_94 [.int 2] [] (k_m_rd_n l G a_ ho_ im h_ hM d_ hk2 hd_ (p_ + 2) (dg_v hgp1).1 hqT280 hqT281 hqT282 2 hgp2) (by decide) (ce_4 G _ _ _ _ _ _ _ _ _ _) rfl rfl rfl ⟨Nat.le_of_ble_eq_true rfl, Nat.le_of_ble_eq_true rfl⟩ (Nat.le_of_ble_eq_true rfl) ⟨Nat.zero_le _, Nat.zero_le _⟩ dX12_readsStatement_58 (fun xx σ2 hq => ?_)
          obtain ⟨rfl, rfl⟩ := hq
          refine m_if_eq 77 dX12_readsStatement_61 (by decide) (fun _ => ?_) (fun c31_ => absurd c31_ (by decide))
          refine m_iconst 0 dX12_readsStatement_77 rfl ?_
          exact m_zret dX12_readsStatement_78 (Nat.le_refl _) (Nat.le_refl _) nar0 (⟨by rw [(show stS h_ d_ p_ = (false, (p_ + 2)) from (by unfold stS; rw [if_neg (by rw [hsg]; decide), if_pos hsg]; unfold stK; simp [hgp1, hgp2, enS]))]; rfl, T28, rfl, by rw [(show stS h_ d_ p_ = (false, (p_ + 2)) from (by unfold stS; rw [if_neg (by rw [hsg]; decide), if_pos hsg]; unfold stK; simp [hgp1, hgp2, enS]))]; exact hqT280, hqT281, hqT282, (fun j_ => (hqT286 j_).trans ((fun j_ => (up3_o hT25 42 0 j_ (fun z_ => absurd z_.1 (by decide))).trans ((fun j_ => (up3_o hT1 42 0 j_ (fun z_ => absurd z_.1 (by decide))).trans ((fun _ => rfl) j_)) j_)) j_)), fun q_ => by rw [(show stS h_ d_ p_ = (false, (p_ + 2)) from (by unfold stS; rw [if_neg (by rw [hsg]; decide), if_pos hsg]; unfold stK; simp [hgp1, hgp2, enS]))] at q_; exact absurd (show false = true from q_) (by decide)⟩)
        | true =>
          refine m_callVi cv_X12_94 [.int 2] [] (k_m_rd2_y l G a_ ho_ im h_ hM d_ hk2 hd_ (p_ + 2) (dg_v hgp1).1 hqT280 hqT281 hqT282 1 (by decide) hqT283 hgp2) (by decide) (ce_4 G _ _ _ _ _ _ _ _ _ _) rfl rfl rfl ⟨Nat.le_of_ble_eq_true rfl, Nat.le_of_ble_eq_true rfl⟩ (Nat.le_of_ble_eq_true rfl) ⟨Nat.zero_le _, Nat.zero_le _⟩ dX12_readsStatement_58 (fun xx σ2 hq => ?_)
          obtain ⟨rfl, T32, rfl, hqT320, hqT321, hqT322, hqT323, hqT324, hqT325, hqT326⟩ := hq
          refine m_if_eq 77 dX12_readsStatement_61 (by decide) (fun c33_ => absurd c33_ (by decide)) (fun _ => ?_)
          refine m_aload_n 2 rfl rfl dX12_readsStatement_64 ?_
          refine m_bipush (59) dX12_readsStatement_65 rfl ?_
          cases henmPhdp2 : enB h_ d_ (nmP h_ d_ (p_ + 2)) with
          | false =>
            refine m_callVi cv_X12_98 [.int 59] [] (k_m_takes_n l G a_ ho_ im h_ hM d_ hk2 hd_ (nmP h_ d_ (p_ + 2)) (nmP_le hgp2).2.1 hqT320 hqT321 hqT322 henmPhdp2) (by decide) (ce_4 G _ _ _ _ _ _ _ _ _ _) rfl rfl rfl ⟨Nat.le_of_ble_eq_true rfl, Nat.le_of_ble_eq_true rfl⟩ (Nat.le_of_ble_eq_true rfl) ⟨Nat.zero_le _, Nat.zero_le _⟩ dX12_readsStatement_67 (fun xx σ2 hq => ?_)
            obtain ⟨rfl, rfl⟩ := hq
            refine m_if_eq 77 dX12_readsStatement_70 (by decide) (fun _ => ?_) (fun c34_ => absurd c34_ (by decide))
            refine m_iconst 0 dX12_readsStatement_77 rfl ?_
            exact m_zret dX12_readsStatement_78 (Nat.le_refl _) (Nat.le_refl _) nar0 (⟨by rw [(show stS h_ d_ p_ = (false, (nmP h_ d_ (p_ + 2))) from (by unfold stS; rw [if_neg (by rw [hsg]; decide), if_pos hsg]; unfold stK; simp [hgp1, hgp2, henmPhdp2, enS]))]; rfl, T32, rfl, by rw [(show stS h_ d_ p_ = (false, (nmP h_ d_ (p_ + 2))) from (by unfold stS; rw [if_neg (by rw [hsg]; decide), if_pos hsg]; unfold stK; simp [hgp1, hgp2, henmPhdp2, enS]))]; exact hqT320, hqT321, hqT322, (fun j_ => (hqT326 j_).trans ((fun j_ => (hqT286 j_).trans ((fun j_ => (up3_o hT25 42 0 j_ (fun z_ => absurd z_.1 (by decide))).trans ((fun j_ => (up3_o hT1 42 0 j_ (fun z_ => absurd z_.1 (by decide))).trans ((fun _ => rfl) j_)) j_)) j_)) j_)), fun q_ => by rw [(show stS h_ d_ p_ = (false, (nmP h_ d_ (p_ + 2))) from (by unfold stS; rw [if_neg (by rw [hsg]; decide), if_pos hsg]; unfold stK; simp [hgp1, hgp2, henmPhdp2, enS]))] at q_; exact absurd (show false = true from q_) (by decide)⟩)
          | true =>
            refine m_callVi cv_X12_98 [.int 59] [] (k_m_takes_y l G a_ ho_ im h_ hM d_ hk2 hd_ (nmP h_ d_ (p_ + 2)) (nmP_le hgp2).2.1 hqT320 hqT321 hqT322 henmPhdp2) (by decide) (ce_4 G _ _ _ _ _ _ _ _ _ _) rfl rfl rfl ⟨Nat.le_of_ble_eq_true rfl, Nat.le_of_ble_eq_true rfl⟩ (Nat.le_of_ble_eq_true rfl) ⟨Nat.zero_le _, Nat.zero_le _⟩ dX12_readsStatement_67 (fun xx σ2 hq => ?_)
            obtain ⟨rfl, T35, rfl, hT_T35⟩ := hq
            refine m_if_eq 77 dX12_readsStatement_70 (by decide) (fun c36_ => absurd c36_ (by decide)) (fun _ => ?_)
            refine m_iconst 1 dX12_readsStatement_73 rfl ?_
            refine m_goto 78 dX12_readsStatement_74 (by decide) ?_
            exact m_zret dX12_readsStatement_78 (Nat.le_refl _) (Nat.le_refl _) nar1 (⟨by rw [(show stS h_ d_ p_ = (true, ((nmP h_ d_ (p_ + 2)) + 1)) from (by unfold stS; rw [if_neg (by rw [hsg]; decide), if_pos hsg]; unfold stK; simp [hgp1, hgp2, henmPhdp2, enS]))]; rfl, T35, rfl, by rw [(show stS h_ d_ p_ = (true, ((nmP h_ d_ (p_ + 2)) + 1)) from (by unfold stS; rw [if_neg (by rw [hsg]; decide), if_pos hsg]; unfold stK; simp [hgp1, hgp2, henmPhdp2, enS]))]; exact (up3_e hT_T35), ((up3_o hT_T35 4 0 12 (by decide)).trans hqT321), ((up3_o hT_T35 4 0 13 (by decide)).trans hqT322), (fun j_ => (up3_o hT_T35 42 0 j_ (fun z_ => absurd z_.1 (by decide))).trans ((fun j_ => (hqT326 j_).trans ((fun j_ => (hqT286 j_).trans ((fun j_ => (up3_o hT25 42 0 j_ (fun z_ => absurd z_.1 (by decide))).trans ((fun j_ => (up3_o hT1 42 0 j_ (fun z_ => absurd z_.1 (by decide))).trans ((fun _ => rfl) j_)) j_)) j_)) j_)) j_)), fun _ => ⟨((up3_o hT_T35 49 0 0 (by decide)).trans ((hqT325 0 (by decide)).trans hqT284)), ((up3_o hT_T35 49 0 1 (by decide)).trans hqT324).trans (congrArg nI (show nmV h_ d_ (p_ + 2) = sn1 h_ d_ p_ from by unfold sn1; rw [if_pos hsg])), fun z_ => absurd hsg z_⟩⟩)
    ·
      have hn107 : ¬ sgI h_ d_ p_ = 107 := hs_ne (by decide) c24_
      refine m_iload_n 0 rfl rfl dX12_readsStatement_22 ?_
      refine m_bipush (116) dX12_readsStatement_23 rfl ?_
      refine m_icmp_eq 30 dX12_readsStatement_25 (by decide) (fun c37_ => ?_) (fun c37_ => ?_)
      ·
        have hsg : sgI h_ d_ p_ = 116 := hs_eq (by decide) c37_
        have hsn : sgI h_ d_ p_ ≠ 0 := by rw [hsg]; decide
        rw [c37_]
        refine m_aload_n 1 rfl rfl dX12_readsStatement_30 ?_
        refine m_dup rfl dX12_readsStatement_31 ?_
        refine gf_X12_70 dX12_readsStatement_32 ?_
        refine m_topi (up3_j hT1 (by decide) hpos) ?_
        refine m_iconst 1 dX12_readsStatement_35 rfl ?_
        refine m_iadd dX12_readsStatement_36 ?_
        refine m_topi (show (nI (p_)) + 1 = nI (p_ + 1) from nI_add _ _) ?_
        refine pf_X12_70 dX12_readsStatement_37 (fun T38 hT38 => ?_)
        refine m_aload_n 1 rfl rfl dX12_readsStatement_40 ?_
        refine m_iconst 1 dX12_readsStatement_41 rfl ?_
        cases hgp1 : dgB h_ d_ (p_ + 1) with
        | false =>
          refine m_callVi cv_X12_94 [.int 1] [] (k_m_rd_n l G a_ ho_ im h_ hM d_ hk2 hd_ (p_ + 1) (sg_lt (h := h_) (d := d_) (p := p_) hsn) (up3_e hT38) ((up3_o hT38 4 0 12 (by decide)).trans ((up3_o hT1 4 0 12 (by decide)).trans hbase)) ((up3_o hT38 4 0 13 (by decide)).trans ((up3_o hT1 4 0 13 (by decide)).trans hend)) 1 hgp1) (by decide) (ce_4 G _ _ _ _ _ _ _ _ _ _) rfl rfl rfl ⟨Nat.le_of_ble_eq_true rfl, Nat.le_of_ble_eq_true rfl⟩ (Nat.le_of_ble_eq_true rfl) ⟨Nat.zero_le _, Nat.zero_le _⟩ dX12_readsStatement_42 (fun xx σ2 hq => ?_)
          obtain ⟨rfl, rfl⟩ := hq
          refine m_istore_n [(2, .int 0), (1, .int 116), (0, .ref (gK G 4 0))] rfl (by decide) rfl dX12_readsStatement_45 ?_
          refine m_iload_n 1 rfl rfl dX12_readsStatement_46 ?_
          refine m_bipush (107) dX12_readsStatement_47 rfl ?_
          refine m_icmp_ne 79 dX12_readsStatement_49 (by decide) (fun _ => ?_) (fun c39_ => absurd c39_ (by decide))
          refine m_iload_n 0 rfl rfl dX12_readsStatement_79 ?_
          refine m_if_eq 95 dX12_readsStatement_80 (by decide) (fun _ => ?_) (fun c40_ => absurd c40_ (by decide))
          refine m_iconst 0 dX12_readsStatement_95 rfl ?_
          refine m_istore_n [(2, .int 0), (1, .int 116), (0, .ref (gK G 4 0))] rfl (by decide) rfl dX12_readsStatement_96 ?_
          refine m_iload_n 1 rfl rfl dX12_readsStatement_97 ?_
          refine m_bipush (121) dX12_readsStatement_98 rfl ?_
          refine m_icmp_ne 130 dX12_readsStatement_100 (by decide) (fun _ => ?_) (fun c41_ => absurd c41_ (by decide))
          refine m_aload_n 2 rfl rfl dX12_readsStatement_130 ?_
          refine gf_X12_37 dX12_readsStatement_131 ?_
          refine m_iconst 2 dX12_readsStatement_134 rfl ?_
          refine m_iconst 0 dX12_readsStatement_135 rfl ?_
          refine as_49 2 rfl (by omega) dX12_readsStatement_136 (fun T42 hT42 => ?_)
          refine m_iload_n 0 rfl rfl dX12_readsStatement_137 ?_
          refine m_if_eq 154 dX12_readsStatement_138 (by decide) (fun _ => ?_) (fun c43_ => absurd c43_ (by decide))
          refine m_iload_n 0 rfl rfl dX12_readsStatement_154 ?_
          refine m_if_eq 171 dX12_readsStatement_155 (by decide) (fun _ => ?_) (fun c44_ => absurd c44_ (by decide))
          refine m_iconst 0 dX12_readsStatement_171 rfl ?_
          exact m_zret dX12_readsStatement_172 (Nat.le_refl _) (Nat.le_refl _) nar0 (⟨by rw [(show stS h_ d_ p_ = (false, (p_ + 1)) from (by unfold stS; rw [if_neg (by rw [hsg]; decide), if_neg (by rw [hsg]; decide), if_pos hsg]; unfold stT; simp [hgp1, enS, opP]))]; rfl, T42, rfl, by rw [(show stS h_ d_ p_ = (false, (p_ + 1)) from (by unfold stS; rw [if_neg (by rw [hsg]; decide), if_neg (by rw [hsg]; decide), if_pos hsg]; unfold stT; simp [hgp1, enS, opP]))]; exact ((up3_o hT42 4 0 11 (by decide)).trans (up3_e hT38)), ((up3_o hT42 4 0 12 (by decide)).trans ((up3_o hT38 4 0 12 (by decide)).trans ((up3_o hT1 4 0 12 (by decide)).trans hbase))), ((up3_o hT42 4 0 13 (by decide)).trans ((up3_o hT38 4 0 13 (by decide)).trans ((up3_o hT1 4 0 13 (by decide)).trans hend))), (fun j_ => (up3_o hT42 42 0 j_ (fun z_ => absurd z_.1 (by decide))).trans ((fun j_ => (up3_o hT38 42 0 j_ (fun z_ => absurd z_.1 (by decide))).trans ((fun j_ => (up3_o hT1 42 0 j_ (fun z_ => absurd z_.1 (by decide))).trans ((fun _ => rfl) j_)) j_)) j_)), fun q_ => by rw [(show stS h_ d_ p_ = (false, (p_ + 1)) from (by unfold stS; rw [if_neg (by rw [hsg]; decide), if_neg (by rw [hsg]; decide), if_pos hsg]; unfold stT; simp [hgp1, enS, opP]))] at q_; exact absurd (show false = true from q_) (by decide)⟩)
        | true =>
          refine m_callVi cv_X12_94 [.int 1] [] (k_m_rd1_y l G a_ ho_ im h_ hM d_ hk2 hd_ (p_ + 1) (sg_lt (h := h_) (d := d_) (p := p_) hsn) (up3_e hT38) ((up3_o hT38 4 0 12 (by decide)).trans ((up3_o hT1 4 0 12 (by decide)).trans hbase)) ((up3_o hT38 4 0 13 (by decide)).trans ((up3_o hT1 4 0 13 (by decide)).trans hend)) 0 (by decide) ((up3_o hT38 4 0 14 (by decide)).trans (up3_e hT1)) hgp1) (by decide) (ce_4 G _ _ _ _ _ _ _ _ _ _) rfl rfl rfl ⟨Nat.le_of_ble_eq_true rfl, Nat.le_of_ble_eq_true rfl⟩ (Nat.le_of_ble_eq_true rfl) ⟨Nat.zero_le _, Nat.zero_le _⟩ dX12_readsStatement_42 (fun xx σ2 hq => ?_)
          obtain ⟨rfl, T45, rfl, hqT450, hqT451, hqT452, hqT453, hqT454, hqT455, hqT456⟩ := hq
          refine m_istore_n [(2, .int 1), (1, .int 116), (0, .ref (gK G 4 0))] rfl (by decide) rfl dX12_readsStatement_45 ?_
          refine m_iload_n 1 rfl rfl dX12_readsStatement_46 ?_
          refine m_bipush (107) dX12_readsStatement_47 rfl ?_
          refine m_icmp_ne 79 dX12_readsStatement_49 (by decide) (fun _ => ?_) (fun c46_ => absurd c46_ (by decide))
          refine m_iload_n 0 rfl rfl dX12_readsStatement_79 ?_
          refine m_if_eq 95 dX12_readsStatement_80 (by decide) (fun c47_ => absurd c47_ (by decide)) (fun _ => ?_)
          refine m_aload_n 2 rfl rfl dX12_readsStatement_83 ?_
          refine m_iconst 1 dX12_readsStatement_84 rfl ?_
          cases hgp2 : dgB h_ d_ (p_ + 2) with
          | false =>
            refine m_callVi cv_X12_94 [.int 1] [] (k_m_rd_n l G a_ ho_ im h_ hM d_ hk2 hd_ (p_ + 2) (dg_v hgp1).1 hqT450 hqT451 hqT452 1 hgp2) (by decide) (ce_4 G _ _ _ _ _ _ _ _ _ _) rfl rfl rfl ⟨Nat.le_of_ble_eq_true rfl, Nat.le_of_ble_eq_true rfl⟩ (Nat.le_of_ble_eq_true rfl) ⟨Nat.zero_le _, Nat.zero_le _⟩ dX12_readsStatement_85 (fun xx σ2 hq => ?_)
            obtain ⟨rfl, rfl⟩ := hq
            refine m_if_eq 95 dX12_readsStatement_88 (by decide) (fun _ => ?_) (fun c48_ => absurd c48_ (by decide))
            refine m_iconst 0 dX12_readsStatement_95 rfl ?_
            refine m_istore_n [(2, .int 0), (1, .int 116), (0, .ref (gK G 4 0))] rfl (by decide) rfl dX12_readsStatement_96 ?_
            refine m_iload_n 1 rfl rfl dX12_readsStatement_97 ?_
            refine m_bipush (121) dX12_readsStatement_98 rfl ?_
            refine m_icmp_ne 130 dX12_readsStatement_100 (by decide) (fun _ => ?_) (fun c49_ => absurd c49_ (by decide))
            refine m_aload_n 2 rfl rfl dX12_readsStatement_130 ?_
            refine gf_X12_37 dX12_readsStatement_131 ?_
            refine m_iconst 2 dX12_readsStatement_134 rfl ?_
            refine m_iconst 0 dX12_readsStatement_135 rfl ?_
            refine as_49 2 rfl (by omega) dX12_readsStatement_136 (fun T50 hT50 => ?_)
            refine m_iload_n 0 rfl rfl dX12_readsStatement_137 ?_
            refine m_if_eq 154 dX12_readsStatement_138 (by decide) (fun _ => ?_) (fun c51_ => absurd c51_ (by decide))
            refine m_iload_n 0 rfl rfl dX12_readsStatement_154 ?_
            refine m_if_eq 171 dX12_readsStatement_155 (by decide) (fun _ => ?_) (fun c52_ => absurd c52_ (by decide))
            refine m_iconst 0 dX12_readsStatement_171 rfl ?_
            exact m_zret dX12_readsStatement_172 (Nat.le_refl _) (Nat.le_refl _) nar0 (⟨by rw [(show stS h_ d_ p_ = (false, (p_ + 2)) from (by unfold stS; rw [if_neg (by rw [hsg]; decide), if_neg (by rw [hsg]; decide), if_pos hsg]; unfold stT; simp [hgp1, hgp2, enS, opP]))]; rfl, T50, rfl, by rw [(show stS h_ d_ p_ = (false, (p_ + 2)) from (by unfold stS; rw [if_neg (by rw [hsg]; decide), if_neg (by rw [hsg]; decide), if_pos hsg]; unfold stT; simp [hgp1, hgp2, enS, opP]))]; exact ((up3_o hT50 4 0 11 (by decide)).trans hqT450), ((up3_o hT50 4 0 12 (by decide)).trans hqT451), ((up3_o hT50 4 0 13 (by decide)).trans hqT452), (fun j_ => (up3_o hT50 42 0 j_ (fun z_ => absurd z_.1 (by decide))).trans ((fun j_ => (hqT456 j_).trans ((fun j_ => (up3_o hT38 42 0 j_ (fun z_ => absurd z_.1 (by decide))).trans ((fun j_ => (up3_o hT1 42 0 j_ (fun z_ => absurd z_.1 (by decide))).trans ((fun _ => rfl) j_)) j_)) j_)) j_)), fun q_ => by rw [(show stS h_ d_ p_ = (false, (p_ + 2)) from (by unfold stS; rw [if_neg (by rw [hsg]; decide), if_neg (by rw [hsg]; decide), if_pos hsg]; unfold stT; simp [hgp1, hgp2, enS, opP]))] at q_; exact absurd (show false = true from q_) (by decide)⟩)
          | true =>
            refine m_callVi cv_X12_94 [.int 1] [] (k_m_rd1_y l G a_ ho_ im h_ hM d_ hk2 hd_ (p_ + 2) (dg_v hgp1).1 hqT450 hqT451 hqT452 1 (by decide) hqT453 hgp2) (by decide) (ce_4 G _ _ _ _ _ _ _ _ _ _) rfl rfl rfl ⟨Nat.le_of_ble_eq_true rfl, Nat.le_of_ble_eq_true rfl⟩ (Nat.le_of_ble_eq_true rfl) ⟨Nat.zero_le _, Nat.zero_le _⟩ dX12_readsStatement_85 (fun xx σ2 hq => ?_)
            obtain ⟨rfl, T53, rfl, hqT530, hqT531, hqT532, hqT533, hqT534, hqT535, hqT536⟩ := hq
            refine m_if_eq 95 dX12_readsStatement_88 (by decide) (fun c54_ => absurd c54_ (by decide)) (fun _ => ?_)
            refine m_iconst 1 dX12_readsStatement_91 rfl ?_
            refine m_goto 96 dX12_readsStatement_92 (by decide) ?_
            refine m_istore_n [(2, .int 1), (1, .int 116), (0, .ref (gK G 4 0))] rfl (by decide) rfl dX12_readsStatement_96 ?_
            refine m_iload_n 1 rfl rfl dX12_readsStatement_97 ?_
            refine m_bipush (121) dX12_readsStatement_98 rfl ?_
            refine m_icmp_ne 130 dX12_readsStatement_100 (by decide) (fun _ => ?_) (fun c55_ => absurd c55_ (by decide))
            refine m_aload_n 2 rfl rfl dX12_readsStatement_130 ?_
            refine gf_X12_37 dX12_readsStatement_131 ?_
            refine m_iconst 2 dX12_readsStatement_134 rfl ?_
            refine m_iconst 0 dX12_readsStatement_135 rfl ?_
            refine as_49 2 rfl (by omega) dX12_readsStatement_136 (fun T56 hT56 => ?_)
            refine m_iload_n 0 rfl rfl dX12_readsStatement_137 ?_
            refine m_if_eq 154 dX12_readsStatement_138 (by decide) (fun c57_ => absurd c57_ (by decide)) (fun _ => ?_)
            refine m_aload_n 2 rfl rfl dX12_readsStatement_141 ?_
            cases hgp3 : dgB h_ d_ (p_ + 3) with
            | false =>
              refine m_callVi cv_X12_87 [] [] (k_m_isDigit_n l G a_ ho_ im h_ hM d_ hk2 hd_ (p_ + 3) (dg_v hgp2).1 ((up3_o hT56 4 0 11 (by decide)).trans hqT530) ((up3_o hT56 4 0 12 (by decide)).trans hqT531) ((up3_o hT56 4 0 13 (by decide)).trans hqT532) hgp3) (by decide) (ce_4 G _ _ _ _ _ _ _ _ _ _) rfl rfl rfl ⟨Nat.le_of_ble_eq_true rfl, Nat.le_of_ble_eq_true rfl⟩ (Nat.le_of_ble_eq_true rfl) ⟨Nat.zero_le _, Nat.zero_le _⟩ dX12_readsStatement_142 (fun xx σ2 hq => ?_)
              obtain ⟨rfl, rfl⟩ := hq
              refine m_if_eq 154 dX12_readsStatement_145 (by decide) (fun _ => ?_) (fun c58_ => absurd c58_ (by decide))
              refine m_iload_n 0 rfl rfl dX12_readsStatement_154 ?_
              refine m_if_eq 171 dX12_readsStatement_155 (by decide) (fun c59_ => absurd c59_ (by decide)) (fun _ => ?_)
              refine m_aload_n 2 rfl rfl dX12_readsStatement_158 ?_
              refine m_bipush (59) dX12_readsStatement_159 rfl ?_
              cases hep3 : enB h_ d_ (p_ + 3) with
              | false =>
                refine m_callVi cv_X12_98 [.int 59] [] (k_m_takes_n l G a_ ho_ im h_ hM d_ hk2 hd_ (p_ + 3) (dg_v hgp2).1 ((up3_o hT56 4 0 11 (by decide)).trans hqT530) ((up3_o hT56 4 0 12 (by decide)).trans hqT531) ((up3_o hT56 4 0 13 (by decide)).trans hqT532) hep3) (by decide) (ce_4 G _ _ _ _ _ _ _ _ _ _) rfl rfl rfl ⟨Nat.le_of_ble_eq_true rfl, Nat.le_of_ble_eq_true rfl⟩ (Nat.le_of_ble_eq_true rfl) ⟨Nat.zero_le _, Nat.zero_le _⟩ dX12_readsStatement_161 (fun xx σ2 hq => ?_)
                obtain ⟨rfl, rfl⟩ := hq
                refine m_if_eq 171 dX12_readsStatement_164 (by decide) (fun _ => ?_) (fun c60_ => absurd c60_ (by decide))
                refine m_iconst 0 dX12_readsStatement_171 rfl ?_
                exact m_zret dX12_readsStatement_172 (Nat.le_refl _) (Nat.le_refl _) nar0 (⟨by rw [(show stS h_ d_ p_ = (false, (p_ + 3)) from (by unfold stS; rw [if_neg (by rw [hsg]; decide), if_neg (by rw [hsg]; decide), if_pos hsg]; unfold stT; simp [hgp1, hgp2, hgp3, hep3, enS, opP]))]; rfl, T56, rfl, by rw [(show stS h_ d_ p_ = (false, (p_ + 3)) from (by unfold stS; rw [if_neg (by rw [hsg]; decide), if_neg (by rw [hsg]; decide), if_pos hsg]; unfold stT; simp [hgp1, hgp2, hgp3, hep3, enS, opP]))]; exact ((up3_o hT56 4 0 11 (by decide)).trans hqT530), ((up3_o hT56 4 0 12 (by decide)).trans hqT531), ((up3_o hT56 4 0 13 (by decide)).trans hqT532), (fun j_ => (up3_o hT56 42 0 j_ (fun z_ => absurd z_.1 (by decide))).trans ((fun j_ => (hqT536 j_).trans ((fun j_ => (hqT456 j_).trans ((fun j_ => (up3_o hT38 42 0 j_ (fun z_ => absurd z_.1 (by decide))).trans ((fun j_ => (up3_o hT1 42 0 j_ (fun z_ => absurd z_.1 (by decide))).trans ((fun _ => rfl) j_)) j_)) j_)) j_)) j_)), fun q_ => by rw [(show stS h_ d_ p_ = (false, (p_ + 3)) from (by unfold stS; rw [if_neg (by rw [hsg]; decide), if_neg (by rw [hsg]; decide), if_pos hsg]; unfold stT; simp [hgp1, hgp2, hgp3, hep3, enS, opP]))] at q_; exact absurd (show false = true from q_) (by decide)⟩)
              | true =>
                refine m_callVi cv_X12_98 [.int 59] [] (k_m_takes_y l G a_ ho_ im h_ hM d_ hk2 hd_ (p_ + 3) (dg_v hgp2).1 ((up3_o hT56 4 0 11 (by decide)).trans hqT530) ((up3_o hT56 4 0 12 (by decide)).trans hqT531) ((up3_o hT56 4 0 13 (by decide)).trans hqT532) hep3) (by decide) (ce_4 G _ _ _ _ _ _ _ _ _ _) rfl rfl rfl ⟨Nat.le_of_ble_eq_true rfl, Nat.le_of_ble_eq_true rfl⟩ (Nat.le_of_ble_eq_true rfl) ⟨Nat.zero_le _, Nat.zero_le _⟩ dX12_readsStatement_161 (fun xx σ2 hq => ?_)
                obtain ⟨rfl, T61, rfl, hT_T61⟩ := hq
                refine m_if_eq 171 dX12_readsStatement_164 (by decide) (fun c62_ => absurd c62_ (by decide)) (fun _ => ?_)
                refine m_iconst 1 dX12_readsStatement_167 rfl ?_
                refine m_goto 172 dX12_readsStatement_168 (by decide) ?_
                exact m_zret dX12_readsStatement_172 (Nat.le_refl _) (Nat.le_refl _) nar1 (⟨by rw [(show stS h_ d_ p_ = (true, ((p_ + 3) + 1)) from (by unfold stS; rw [if_neg (by rw [hsg]; decide), if_neg (by rw [hsg]; decide), if_pos hsg]; unfold stT; simp [hgp1, hgp2, hgp3, hep3, enS, opP]))]; rfl, T61, rfl, by rw [(show stS h_ d_ p_ = (true, ((p_ + 3) + 1)) from (by unfold stS; rw [if_neg (by rw [hsg]; decide), if_neg (by rw [hsg]; decide), if_pos hsg]; unfold stT; simp [hgp1, hgp2, hgp3, hep3, enS, opP]))]; exact (up3_e hT_T61), ((up3_o hT_T61 4 0 12 (by decide)).trans ((up3_o hT56 4 0 12 (by decide)).trans hqT531)), ((up3_o hT_T61 4 0 13 (by decide)).trans ((up3_o hT56 4 0 13 (by decide)).trans hqT532)), (fun j_ => (up3_o hT_T61 42 0 j_ (fun z_ => absurd z_.1 (by decide))).trans ((fun j_ => (up3_o hT56 42 0 j_ (fun z_ => absurd z_.1 (by decide))).trans ((fun j_ => (hqT536 j_).trans ((fun j_ => (hqT456 j_).trans ((fun j_ => (up3_o hT38 42 0 j_ (fun z_ => absurd z_.1 (by decide))).trans ((fun j_ => (up3_o hT1 42 0 j_ (fun z_ => absurd z_.1 (by decide))).trans ((fun _ => rfl) j_)) j_)) j_)) j_)) j_)) j_)), fun _ => ⟨((up3_o hT_T61 49 0 0 (by decide)).trans ((up3_o hT56 49 0 0 (by decide)).trans ((hqT535 0 (by decide)).trans hqT454))), ((up3_o hT_T61 49 0 1 (by decide)).trans ((up3_o hT56 49 0 1 (by decide)).trans hqT534)).trans (congrArg nI (show dgV h_ d_ (p_ + 2) = sn1 h_ d_ p_ from by unfold sn1; rw [if_neg (by rw [hsg]; decide)])), fun _ => ((up3_o hT_T61 49 0 2 (by decide)).trans (up3_e hT56)).trans (congrArg nI (show 0 = sn2 h_ d_ p_ from by unfold sn2 opV; rw [if_neg (by rw [hsg]; decide), hgp3]; rfl))⟩⟩)
            | true =>
              refine m_callVi cv_X12_87 [] [] (k_m_isDigit_y l G a_ ho_ im h_ hM d_ hk2 hd_ (p_ + 3) (dg_v hgp2).1 ((up3_o hT56 4 0 11 (by decide)).trans hqT530) ((up3_o hT56 4 0 12 (by decide)).trans hqT531) ((up3_o hT56 4 0 13 (by decide)).trans hqT532) hgp3) (by decide) (ce_4 G _ _ _ _ _ _ _ _ _ _) rfl rfl rfl ⟨Nat.le_of_ble_eq_true rfl, Nat.le_of_ble_eq_true rfl⟩ (Nat.le_of_ble_eq_true rfl) ⟨Nat.zero_le _, Nat.zero_le _⟩ dX12_readsStatement_142 (fun xx σ2 hq => ?_)
              obtain ⟨rfl, rfl⟩ := hq
              refine m_if_eq 154 dX12_readsStatement_145 (by decide) (fun c63_ => absurd c63_ (by decide)) (fun _ => ?_)
              refine m_aload_n 2 rfl rfl dX12_readsStatement_148 ?_
              refine m_iconst 1 dX12_readsStatement_149 rfl ?_
              refine m_callVi cv_X12_94 [.int 1] [] (k_m_rd1_y l G a_ ho_ im h_ hM d_ hk2 hd_ (p_ + 3) (dg_v hgp2).1 ((up3_o hT56 4 0 11 (by decide)).trans hqT530) ((up3_o hT56 4 0 12 (by decide)).trans hqT531) ((up3_o hT56 4 0 13 (by decide)).trans hqT532) 2 (by decide) ((up3_o hT56 4 0 14 (by decide)).trans hqT533) hgp3) (by decide) (ce_4 G _ _ _ _ _ _ _ _ _ _) rfl rfl rfl ⟨Nat.le_of_ble_eq_true rfl, Nat.le_of_ble_eq_true rfl⟩ (Nat.le_of_ble_eq_true rfl) ⟨Nat.zero_le _, Nat.zero_le _⟩ dX12_readsStatement_150 (fun xx σ2 hq => ?_)
              obtain ⟨rfl, T64, rfl, hqT640, hqT641, hqT642, hqT643, hqT644, hqT645, hqT646⟩ := hq
              refine m_istore_n [(2, .int 1), (1, .int 116), (0, .ref (gK G 4 0))] rfl (by decide) rfl dX12_readsStatement_153 ?_
              refine m_iload_n 0 rfl rfl dX12_readsStatement_154 ?_
              refine m_if_eq 171 dX12_readsStatement_155 (by decide) (fun c65_ => absurd c65_ (by decide)) (fun _ => ?_)
              refine m_aload_n 2 rfl rfl dX12_readsStatement_158 ?_
              refine m_bipush (59) dX12_readsStatement_159 rfl ?_
              cases hep4 : enB h_ d_ (p_ + 4) with
              | false =>
                refine m_callVi cv_X12_98 [.int 59] [] (k_m_takes_n l G a_ ho_ im h_ hM d_ hk2 hd_ (p_ + 4) (dg_v hgp3).1 hqT640 hqT641 hqT642 hep4) (by decide) (ce_4 G _ _ _ _ _ _ _ _ _ _) rfl rfl rfl ⟨Nat.le_of_ble_eq_true rfl, Nat.le_of_ble_eq_true rfl⟩ (Nat.le_of_ble_eq_true rfl) ⟨Nat.zero_le _, Nat.zero_le _⟩ dX12_readsStatement_161 (fun xx σ2 hq => ?_)
                obtain ⟨rfl, rfl⟩ := hq
                refine m_if_eq 171 dX12_readsStatement_164 (by decide) (fun _ => ?_) (fun c66_ => absurd c66_ (by decide))
                refine m_iconst 0 dX12_readsStatement_171 rfl ?_
                exact m_zret dX12_readsStatement_172 (Nat.le_refl _) (Nat.le_refl _) nar0 (⟨by rw [(show stS h_ d_ p_ = (false, (p_ + 4)) from (by unfold stS; rw [if_neg (by rw [hsg]; decide), if_neg (by rw [hsg]; decide), if_pos hsg]; unfold stT; simp [hgp1, hgp2, hgp3, hep4, enS, opP]))]; rfl, T64, rfl, by rw [(show stS h_ d_ p_ = (false, (p_ + 4)) from (by unfold stS; rw [if_neg (by rw [hsg]; decide), if_neg (by rw [hsg]; decide), if_pos hsg]; unfold stT; simp [hgp1, hgp2, hgp3, hep4, enS, opP]))]; exact hqT640, hqT641, hqT642, (fun j_ => (hqT646 j_).trans ((fun j_ => (up3_o hT56 42 0 j_ (fun z_ => absurd z_.1 (by decide))).trans ((fun j_ => (hqT536 j_).trans ((fun j_ => (hqT456 j_).trans ((fun j_ => (up3_o hT38 42 0 j_ (fun z_ => absurd z_.1 (by decide))).trans ((fun j_ => (up3_o hT1 42 0 j_ (fun z_ => absurd z_.1 (by decide))).trans ((fun _ => rfl) j_)) j_)) j_)) j_)) j_)) j_)), fun q_ => by rw [(show stS h_ d_ p_ = (false, (p_ + 4)) from (by unfold stS; rw [if_neg (by rw [hsg]; decide), if_neg (by rw [hsg]; decide), if_pos hsg]; unfold stT; simp [hgp1, hgp2, hgp3, hep4, enS, opP]))] at q_; exact absurd (show false = true from q_) (by decide)⟩)
              | true =>
                refine m_callVi cv_X12_98 [.int 59] [] (k_m_takes_y l G a_ ho_ im h_ hM d_ hk2 hd_ (p_ + 4) (dg_v hgp3).1 hqT640 hqT641 hqT642 hep4) (by decide) (ce_4 G _ _ _ _ _ _ _ _ _ _) rfl rfl rfl ⟨Nat.le_of_ble_eq_true rfl, Nat.le_of_ble_eq_true rfl⟩ (Nat.le_of_ble_eq_true rfl) ⟨Nat.zero_le _, Nat.zero_le _⟩ dX12_readsStatement_161 (fun xx σ2 hq => ?_)
                obtain ⟨rfl, T67, rfl, hT_T67⟩ := hq
                refine m_if_eq 171 dX12_readsStatement_164 (by decide) (fun c68_ => absurd c68_ (by decide)) (fun _ => ?_)
                refine m_iconst 1 dX12_readsStatement_167 rfl ?_
                refine m_goto 172 dX12_readsStatement_168 (by decide) ?_
                exact m_zret dX12_readsStatement_172 (Nat.le_refl _) (Nat.le_refl _) nar1 (⟨by rw [(show stS h_ d_ p_ = (true, ((p_ + 4) + 1)) from (by unfold stS; rw [if_neg (by rw [hsg]; decide), if_neg (by rw [hsg]; decide), if_pos hsg]; unfold stT; simp [hgp1, hgp2, hgp3, hep4, enS, opP]))]; rfl, T67, rfl, by rw [(show stS h_ d_ p_ = (true, ((p_ + 4) + 1)) from (by unfold stS; rw [if_neg (by rw [hsg]; decide), if_neg (by rw [hsg]; decide), if_pos hsg]; unfold stT; simp [hgp1, hgp2, hgp3, hep4, enS, opP]))]; exact (up3_e hT_T67), ((up3_o hT_T67 4 0 12 (by decide)).trans hqT641), ((up3_o hT_T67 4 0 13 (by decide)).trans hqT642), (fun j_ => (up3_o hT_T67 42 0 j_ (fun z_ => absurd z_.1 (by decide))).trans ((fun j_ => (hqT646 j_).trans ((fun j_ => (up3_o hT56 42 0 j_ (fun z_ => absurd z_.1 (by decide))).trans ((fun j_ => (hqT536 j_).trans ((fun j_ => (hqT456 j_).trans ((fun j_ => (up3_o hT38 42 0 j_ (fun z_ => absurd z_.1 (by decide))).trans ((fun j_ => (up3_o hT1 42 0 j_ (fun z_ => absurd z_.1 (by decide))).trans ((fun _ => rfl) j_)) j_)) j_)) j_)) j_)) j_)) j_)), fun _ => ⟨((up3_o hT_T67 49 0 0 (by decide)).trans ((hqT645 0 (by decide)).trans ((up3_o hT56 49 0 0 (by decide)).trans ((hqT535 0 (by decide)).trans hqT454)))), ((up3_o hT_T67 49 0 1 (by decide)).trans ((hqT645 1 (by decide)).trans ((up3_o hT56 49 0 1 (by decide)).trans hqT534))).trans (congrArg nI (show dgV h_ d_ (p_ + 2) = sn1 h_ d_ p_ from by unfold sn1; rw [if_neg (by rw [hsg]; decide)])), fun _ => ((up3_o hT_T67 49 0 2 (by decide)).trans hqT644).trans (congrArg nI (show dgV h_ d_ (p_ + 3) = sn2 h_ d_ p_ from by unfold sn2 opV; rw [if_neg (by rw [hsg]; decide), hgp3]; rfl))⟩⟩)
      ·
        have hn116 : ¬ sgI h_ d_ p_ = 116 := hs_ne (by decide) c37_
        refine m_iconst 0 dX12_readsStatement_28 rfl ?_
        exact m_zret dX12_readsStatement_29 (Nat.le_refl _) (Nat.le_refl _) nar0 (⟨by rw [(show stS h_ d_ p_ = (false, p_) from (by unfold stS; rw [if_neg hn121, if_neg hn107, if_neg hn116]))]; rfl, T1, rfl, by rw [(show stS h_ d_ p_ = (false, p_) from (by unfold stS; rw [if_neg hn121, if_neg hn107, if_neg hn116]))]; exact ((up3_o hT1 4 0 11 (by decide)).trans hpos), ((up3_o hT1 4 0 12 (by decide)).trans hbase), ((up3_o hT1 4 0 13 (by decide)).trans hend), (fun j_ => (up3_o hT1 42 0 j_ (fun z_ => absurd z_.1 (by decide))).trans ((fun _ => rfl) j_)), fun q_ => by rw [(show stS h_ d_ p_ = (false, p_) from (by unfold stS; rw [if_neg hn121, if_neg hn107, if_neg hn116]))] at q_; exact absurd (show false = true from q_) (by decide)⟩)
