theorem lk3 {o1 o2 o3 df k_ : Int} (h1_ : ¬ (107 : Int) = k_) (h2_ : ¬ (116 : Int) = k_) (h3_ : ¬ (121 : Int) = k_) : Op.lookupswitch.offset [(107, o1), (116, o2), (121, o3)] df k_ = df := by
  show (if (107 : Int) = k_ then o1 else if (116 : Int) = k_ then o2 else if (121 : Int) = k_ then o3 else df) = df
  rw [if_neg h1_, if_neg h2_, if_neg h3_]
theorem tI_ne {x_ c_ : Int32} (h_ : ¬ x_ = c_) : ¬ c_.toInt = x_.toInt := fun q_ => h_ (Int32.toInt_inj.mp q_.symm)
set_option maxRecDepth 100000 in
set_option maxHeartbeats 4000000 in
theorem k_c_statement (l : Launch) (G : owG) {A S Z B T V : owF} {J : Nat → Nat → Int64} {Y : Nat → Nat → Nat → Option Nat} {P : Nat → Option owW} (d_ : Nat) (hd_ : d_ < owN 3) (h_ : owH) (hrow : hK h_ d_ = 2 ∧ Y 3 d_ 0 = none ∧ A 3 d_ 1 = nI (hSo h_ d_) ∧ hSo h_ d_ ≤ 2 ∧ A 3 d_ 2 = nI (hN h_ d_) ∧ hN h_ d_ ≤ 100 ∧ ∀ j_, j_ < 100 → A 16 d_ j_ = hE h_ d_ j_) (p_ : Nat) (hp : p_ ≤ hN h_ d_) (hpos : S 1 1 7 = nI p_)  : Ct l G yX5_readsStatement cX5_readsStatement 2 ((some .boolean)) 4 0 0 [.ref (gK G 1 1), .ref (gK G 3 d_)] (A, S, Z, B, T, V, J, Y, P) (qI (fun r_ σ => r_ = bI (stS h_ d_ p_).1 ∧ ∃ S2 : owF, σ = (A, S2, Z, B, T, V, J, Y, P) ∧ S2 1 1 7 = nI (stS h_ d_ p_).2 ∧ ((stS h_ d_ p_).1 = true → S2 1 1 8 = sgI h_ d_ p_ ∧ S2 14 1 0 = nI (sn0 h_ d_ p_) ∧ S2 14 1 1 = nI (sn1 h_ d_ p_) ∧ (sgI h_ d_ p_ ≠ 107 → S2 14 1 2 = nI (sn2 h_ d_ p_))))) := by
  refine ct_of (by decide +kernel) (Nat.le_of_ble_eq_true rfl) ?_
  have hn100 := hrow.2.2.2.2.2.1
  show Wm l G cX5_readsStatement 2 RX5 ((some .boolean)) (rmk 4 0 0) (fun _ => True) (QfM G (qI (fun r_ σ => r_ = bI (stS h_ d_ p_).1 ∧ ∃ S2 : owF, σ = (A, S2, Z, B, T, V, J, Y, P) ∧ S2 1 1 7 = nI (stS h_ d_ p_).2 ∧ ((stS h_ d_ p_).1 = true → S2 1 1 8 = sgI h_ d_ p_ ∧ S2 14 1 0 = nI (sn0 h_ d_ p_) ∧ S2 14 1 1 = nI (sn1 h_ d_ p_) ∧ (sgI h_ d_ p_ ≠ 107 → S2 14 1 2 = nI (sn2 h_ d_ p_))))) 0 0) 0 [(0, .ref (gK G 1 1)), (1, .ref (gK G 3 d_))] [] (A, S, Z, B, T, V, J, Y, P) 0 0
  refine m_aload_n 0 rfl rfl dX5_readsStatement_0 ?_
  refine m_aload_n 1 rfl rfl dX5_readsStatement_1 ?_
  refine m_aload_n 0 rfl rfl dX5_readsStatement_2 ?_
  refine gf_X5_62 (by decide) dX5_readsStatement_3 ?_
  refine m_topi hpos ?_
  refine m_callVi cv_X5_78 [.int (nI (p_))] [.ref (gK G 1 1)] (k_get l G d_ hd_ h_ hrow (nI p_)) hd_ (ce_3 G _ _ _ _ _ _ _ _ _ _) rfl rfl rfl ⟨Nat.le_of_ble_eq_true rfl, Nat.le_of_ble_eq_true rfl⟩ (Nat.le_of_ble_eq_true rfl) ⟨Nat.zero_le _, Nat.zero_le _⟩ dX5_readsStatement_6 (fun xx σ2 hq => ?_)
  obtain ⟨hgx, rfl⟩ := hq
  obtain rfl := hgx.trans (getI_sg hn100 (by omega))
  refine pf_X5_82 (by decide) dX5_readsStatement_9 (fun S1 hS1 => ?_)
  refine m_aload_n 0 rfl rfl dX5_readsStatement_12 ?_
  refine gf_X5_82 (by decide) dX5_readsStatement_13 ?_
  refine m_topi (up3_e hS1) ?_
  rcases Decidable.em (sgI h_ d_ p_ = 121) with hsg | hn121
  ·
    have hsn : sgI h_ d_ p_ ≠ 0 := by rw [hsg]; decide
    refine m_topi hsg ?_
    refine m_lookup 52 dX5_readsStatement_16 (by decide) (by rfl) (by decide) ?_
    refine m_aload_n 0 rfl rfl dX5_readsStatement_52 ?_
    refine m_dup rfl dX5_readsStatement_53 ?_
    refine gf_X5_62 (by decide) dX5_readsStatement_54 ?_
    refine m_topi (up3_j hS1 (by decide) hpos) ?_
    refine m_iconst 1 dX5_readsStatement_57 rfl ?_
    refine m_iadd dX5_readsStatement_58 ?_
    refine m_topi (show (nI (p_)) + 1 = nI (p_ + 1) from nI_add _ _) ?_
    refine pf_X5_62 (by decide) dX5_readsStatement_59 (fun S2 hS2 => ?_)
    refine m_aload_n 0 rfl rfl dX5_readsStatement_62 ?_
    refine m_aload_n 1 rfl rfl dX5_readsStatement_63 ?_
    refine m_iconst 0 dX5_readsStatement_64 rfl ?_
    cases hgp1 : dgB h_ d_ (p_ + 1) with
    | false =>
      refine m_callVi cv_X5_85 [.ref (gK G 3 d_), .int 0] [] (k_c_dig_n l G d_ hd_ h_ hrow (p_ + 1) (sg_lt (h := h_) (d := d_) (p := p_) hsn) (up3_e hS2) 0 hgp1) (by decide) (ce_1 G _ _ _ _ _ _ _ _ _ _) rfl rfl rfl ⟨Nat.le_of_ble_eq_true rfl, Nat.le_of_ble_eq_true rfl⟩ (Nat.le_of_ble_eq_true rfl) ⟨Nat.zero_le _, Nat.zero_le _⟩ dX5_readsStatement_65 (fun xx σ2 hq => ?_)
      obtain ⟨rfl, rfl⟩ := hq
      refine m_if_eq 101 dX5_readsStatement_68 (by decide) (fun _ => ?_) (fun c3_ => absurd c3_ (by decide))
      refine m_iconst 0 dX5_readsStatement_101 rfl ?_
      exact m_zret dX5_readsStatement_102 (Nat.le_refl _) (Nat.le_refl _) nar0 (⟨by rw [(show stS h_ d_ p_ = (false, (p_ + 1)) from (by unfold stS; rw [if_pos hsg]; unfold stY; simp [hgp1, enS]))]; rfl, S2, rfl, by rw [(show stS h_ d_ p_ = (false, (p_ + 1)) from (by unfold stS; rw [if_pos hsg]; unfold stY; simp [hgp1, enS]))]; exact (up3_e hS2), fun q_ => by rw [(show stS h_ d_ p_ = (false, (p_ + 1)) from (by unfold stS; rw [if_pos hsg]; unfold stY; simp [hgp1, enS]))] at q_; exact absurd (show false = true from q_) (by decide)⟩)
    | true =>
      refine m_callVi cv_X5_85 [.ref (gK G 3 d_), .int 0] [] (k_c_dig_y l G d_ hd_ h_ hrow (p_ + 1) (sg_lt (h := h_) (d := d_) (p := p_) hsn) (up3_e hS2) 0 (by decide) hgp1) (by decide) (ce_1 G _ _ _ _ _ _ _ _ _ _) rfl rfl rfl ⟨Nat.le_of_ble_eq_true rfl, Nat.le_of_ble_eq_true rfl⟩ (Nat.le_of_ble_eq_true rfl) ⟨Nat.zero_le _, Nat.zero_le _⟩ dX5_readsStatement_65 (fun xx σ2 hq => ?_)
      obtain ⟨rfl, S4, rfl, hrS40, hrS41, hrS42, hrS43⟩ := hq
      refine m_if_eq 101 dX5_readsStatement_68 (by decide) (fun c5_ => absurd c5_ (by decide)) (fun _ => ?_)
      refine m_aload_n 0 rfl rfl dX5_readsStatement_71 ?_
      refine m_aload_n 1 rfl rfl dX5_readsStatement_72 ?_
      refine m_iconst 1 dX5_readsStatement_73 rfl ?_
      cases hgp2 : dgB h_ d_ (p_ + 2) with
      | false =>
        refine m_callVi cv_X5_85 [.ref (gK G 3 d_), .int 1] [] (k_c_dig_n l G d_ hd_ h_ hrow (p_ + 2) (dg_v hgp1).1 hrS40 1 hgp2) (by decide) (ce_1 G _ _ _ _ _ _ _ _ _ _) rfl rfl rfl ⟨Nat.le_of_ble_eq_true rfl, Nat.le_of_ble_eq_true rfl⟩ (Nat.le_of_ble_eq_true rfl) ⟨Nat.zero_le _, Nat.zero_le _⟩ dX5_readsStatement_74 (fun xx σ2 hq => ?_)
        obtain ⟨rfl, rfl⟩ := hq
        refine m_if_eq 101 dX5_readsStatement_77 (by decide) (fun _ => ?_) (fun c6_ => absurd c6_ (by decide))
        refine m_iconst 0 dX5_readsStatement_101 rfl ?_
        exact m_zret dX5_readsStatement_102 (Nat.le_refl _) (Nat.le_refl _) nar0 (⟨by rw [(show stS h_ d_ p_ = (false, (p_ + 2)) from (by unfold stS; rw [if_pos hsg]; unfold stY; simp [hgp1, hgp2, enS]))]; rfl, S4, rfl, by rw [(show stS h_ d_ p_ = (false, (p_ + 2)) from (by unfold stS; rw [if_pos hsg]; unfold stY; simp [hgp1, hgp2, enS]))]; exact hrS40, fun q_ => by rw [(show stS h_ d_ p_ = (false, (p_ + 2)) from (by unfold stS; rw [if_pos hsg]; unfold stY; simp [hgp1, hgp2, enS]))] at q_; exact absurd (show false = true from q_) (by decide)⟩)
      | true =>
        refine m_callVi cv_X5_85 [.ref (gK G 3 d_), .int 1] [] (k_c_dig_y l G d_ hd_ h_ hrow (p_ + 2) (dg_v hgp1).1 hrS40 1 (by decide) hgp2) (by decide) (ce_1 G _ _ _ _ _ _ _ _ _ _) rfl rfl rfl ⟨Nat.le_of_ble_eq_true rfl, Nat.le_of_ble_eq_true rfl⟩ (Nat.le_of_ble_eq_true rfl) ⟨Nat.zero_le _, Nat.zero_le _⟩ dX5_readsStatement_74 (fun xx σ2 hq => ?_)
        obtain ⟨rfl, S7, rfl, hrS70, hrS71, hrS72, hrS73⟩ := hq
        refine m_if_eq 101 dX5_readsStatement_77 (by decide) (fun c8_ => absurd c8_ (by decide)) (fun _ => ?_)
        refine m_aload_n 0 rfl rfl dX5_readsStatement_80 ?_
        refine m_aload_n 1 rfl rfl dX5_readsStatement_81 ?_
        refine m_iconst 2 dX5_readsStatement_82 rfl ?_
        cases hgp3 : dgB h_ d_ (p_ + 3) with
        | false =>
          refine m_callVi cv_X5_89 [.ref (gK G 3 d_), .int 2] [] (k_c_num_n l G d_ hd_ h_ hrow (p_ + 3) (dg_v hgp2).1 hrS70 2 hgp3) (by decide) (ce_1 G _ _ _ _ _ _ _ _ _ _) rfl rfl rfl ⟨Nat.le_of_ble_eq_true rfl, Nat.le_of_ble_eq_true rfl⟩ (Nat.le_of_ble_eq_true rfl) ⟨Nat.zero_le _, Nat.zero_le _⟩ dX5_readsStatement_83 (fun xx σ2 hq => ?_)
          obtain ⟨rfl, rfl⟩ := hq
          refine m_if_eq 101 dX5_readsStatement_86 (by decide) (fun _ => ?_) (fun c9_ => absurd c9_ (by decide))
          refine m_iconst 0 dX5_readsStatement_101 rfl ?_
          exact m_zret dX5_readsStatement_102 (Nat.le_refl _) (Nat.le_refl _) nar0 (⟨by rw [(show stS h_ d_ p_ = (false, (p_ + 3)) from (by unfold stS; rw [if_pos hsg]; unfold stY; simp [hgp1, hgp2, hgp3, enS]))]; rfl, S7, rfl, by rw [(show stS h_ d_ p_ = (false, (p_ + 3)) from (by unfold stS; rw [if_pos hsg]; unfold stY; simp [hgp1, hgp2, hgp3, enS]))]; exact hrS70, fun q_ => by rw [(show stS h_ d_ p_ = (false, (p_ + 3)) from (by unfold stS; rw [if_pos hsg]; unfold stY; simp [hgp1, hgp2, hgp3, enS]))] at q_; exact absurd (show false = true from q_) (by decide)⟩)
        | true =>
          refine m_callVi cv_X5_89 [.ref (gK G 3 d_), .int 2] [] (k_c_num_y l G d_ hd_ h_ hrow (p_ + 3) (dg_v hgp2).1 hrS70 2 (by decide) hgp3) (by decide) (ce_1 G _ _ _ _ _ _ _ _ _ _) rfl rfl rfl ⟨Nat.le_of_ble_eq_true rfl, Nat.le_of_ble_eq_true rfl⟩ (Nat.le_of_ble_eq_true rfl) ⟨Nat.zero_le _, Nat.zero_le _⟩ dX5_readsStatement_83 (fun xx σ2 hq => ?_)
          obtain ⟨rfl, S10, rfl, hrS100, hrS101, hrS102, hrS103⟩ := hq
          refine m_if_eq 101 dX5_readsStatement_86 (by decide) (fun c11_ => absurd c11_ (by decide)) (fun _ => ?_)
          refine m_aload_n 0 rfl rfl dX5_readsStatement_89 ?_
          refine m_aload_n 1 rfl rfl dX5_readsStatement_90 ?_
          cases henmPhdp3 : enB h_ d_ (nmP h_ d_ (p_ + 3)) with
          | false =>
            refine m_callVi cv_X5_92 [.ref (gK G 3 d_)] [] (k_c_end_n l G d_ hd_ h_ hrow (nmP h_ d_ (p_ + 3)) (nmP_le hgp3).2.1 hrS100 henmPhdp3) (by decide) (ce_1 G _ _ _ _ _ _ _ _ _ _) rfl rfl rfl ⟨Nat.le_of_ble_eq_true rfl, Nat.le_of_ble_eq_true rfl⟩ (Nat.le_of_ble_eq_true rfl) ⟨Nat.zero_le _, Nat.zero_le _⟩ dX5_readsStatement_91 (fun xx σ2 hq => ?_)
            obtain ⟨rfl, rfl⟩ := hq
            refine m_if_eq 101 dX5_readsStatement_94 (by decide) (fun _ => ?_) (fun c12_ => absurd c12_ (by decide))
            refine m_iconst 0 dX5_readsStatement_101 rfl ?_
            exact m_zret dX5_readsStatement_102 (Nat.le_refl _) (Nat.le_refl _) nar0 (⟨by rw [(show stS h_ d_ p_ = (false, (nmP h_ d_ (p_ + 3))) from (by unfold stS; rw [if_pos hsg]; unfold stY; simp [hgp1, hgp2, hgp3, henmPhdp3, enS]))]; rfl, S10, rfl, by rw [(show stS h_ d_ p_ = (false, (nmP h_ d_ (p_ + 3))) from (by unfold stS; rw [if_pos hsg]; unfold stY; simp [hgp1, hgp2, hgp3, henmPhdp3, enS]))]; exact hrS100, fun q_ => by rw [(show stS h_ d_ p_ = (false, (nmP h_ d_ (p_ + 3))) from (by unfold stS; rw [if_pos hsg]; unfold stY; simp [hgp1, hgp2, hgp3, henmPhdp3, enS]))] at q_; exact absurd (show false = true from q_) (by decide)⟩)
          | true =>
            refine m_callVi cv_X5_92 [.ref (gK G 3 d_)] [] (k_c_end_y l G d_ hd_ h_ hrow (nmP h_ d_ (p_ + 3)) (nmP_le hgp3).2.1 hrS100 henmPhdp3) (by decide) (ce_1 G _ _ _ _ _ _ _ _ _ _) rfl rfl rfl ⟨Nat.le_of_ble_eq_true rfl, Nat.le_of_ble_eq_true rfl⟩ (Nat.le_of_ble_eq_true rfl) ⟨Nat.zero_le _, Nat.zero_le _⟩ dX5_readsStatement_91 (fun xx σ2 hq => ?_)
            obtain ⟨rfl, S13, rfl, hrS130, hrS131, hrS132⟩ := hq
            refine m_if_eq 101 dX5_readsStatement_94 (by decide) (fun c14_ => absurd c14_ (by decide)) (fun _ => ?_)
            refine m_iconst 1 dX5_readsStatement_97 rfl ?_
            refine m_goto 102 dX5_readsStatement_98 (by decide) ?_
            exact m_zret dX5_readsStatement_102 (Nat.le_refl _) (Nat.le_refl _) nar1 (⟨by rw [(show stS h_ d_ p_ = (true, ((nmP h_ d_ (p_ + 3)) + 1)) from (by unfold stS; rw [if_pos hsg]; unfold stY; simp [hgp1, hgp2, hgp3, henmPhdp3, enS]))]; rfl, S13, rfl, by rw [(show stS h_ d_ p_ = (true, ((nmP h_ d_ (p_ + 3)) + 1)) from (by unfold stS; rw [if_pos hsg]; unfold stY; simp [hgp1, hgp2, hgp3, henmPhdp3, enS]))]; exact hrS130, fun _ => ⟨(hrS132.trans (hrS103.trans (hrS73.trans (hrS43.trans ((up3_o hS2 1 1 8 (by decide)).trans (up3_e hS1)))))), ((hrS131 0).trans ((hrS102 0 (by decide)).trans ((hrS72 0 (by decide)).trans hrS41))), ((hrS131 1).trans ((hrS102 1 (by decide)).trans hrS71)).trans (congrArg nI (show dgV h_ d_ (p_ + 2) = sn1 h_ d_ p_ from by unfold sn1; rw [if_neg (by rw [hsg]; decide)])), fun _ => ((hrS131 2).trans hrS101).trans (congrArg nI (show nmV h_ d_ (p_ + 3) = sn2 h_ d_ p_ from by unfold sn2; rw [if_pos hsg]))⟩⟩)
  rcases Decidable.em (sgI h_ d_ p_ = 107) with hsg | hn107
  ·
    have hsn : sgI h_ d_ p_ ≠ 0 := by rw [hsg]; decide
    refine m_topi hsg ?_
    refine m_lookup 103 dX5_readsStatement_16 (by decide) (by rfl) (by decide) ?_
    refine m_aload_n 0 rfl rfl dX5_readsStatement_103 ?_
    refine m_dup rfl dX5_readsStatement_104 ?_
    refine gf_X5_62 (by decide) dX5_readsStatement_105 ?_
    refine m_topi (up3_j hS1 (by decide) hpos) ?_
    refine m_iconst 1 dX5_readsStatement_108 rfl ?_
    refine m_iadd dX5_readsStatement_109 ?_
    refine m_topi (show (nI (p_)) + 1 = nI (p_ + 1) from nI_add _ _) ?_
    refine pf_X5_62 (by decide) dX5_readsStatement_110 (fun S15 hS15 => ?_)
    refine m_aload_n 0 rfl rfl dX5_readsStatement_113 ?_
    refine m_aload_n 1 rfl rfl dX5_readsStatement_114 ?_
    refine m_iconst 0 dX5_readsStatement_115 rfl ?_
    cases hgp1 : dgB h_ d_ (p_ + 1) with
    | false =>
      refine m_callVi cv_X5_85 [.ref (gK G 3 d_), .int 0] [] (k_c_dig_n l G d_ hd_ h_ hrow (p_ + 1) (sg_lt (h := h_) (d := d_) (p := p_) hsn) (up3_e hS15) 0 hgp1) (by decide) (ce_1 G _ _ _ _ _ _ _ _ _ _) rfl rfl rfl ⟨Nat.le_of_ble_eq_true rfl, Nat.le_of_ble_eq_true rfl⟩ (Nat.le_of_ble_eq_true rfl) ⟨Nat.zero_le _, Nat.zero_le _⟩ dX5_readsStatement_116 (fun xx σ2 hq => ?_)
      obtain ⟨rfl, rfl⟩ := hq
      refine m_if_eq 143 dX5_readsStatement_119 (by decide) (fun _ => ?_) (fun c16_ => absurd c16_ (by decide))
      refine m_iconst 0 dX5_readsStatement_143 rfl ?_
      exact m_zret dX5_readsStatement_144 (Nat.le_refl _) (Nat.le_refl _) nar0 (⟨by rw [(show stS h_ d_ p_ = (false, (p_ + 1)) from (by unfold stS; rw [if_neg (by rw [hsg]; decide), if_pos hsg]; unfold stK; simp [hgp1, enS]))]; rfl, S15, rfl, by rw [(show stS h_ d_ p_ = (false, (p_ + 1)) from (by unfold stS; rw [if_neg (by rw [hsg]; decide), if_pos hsg]; unfold stK; simp [hgp1, enS]))]; exact (up3_e hS15), fun q_ => by rw [(show stS h_ d_ p_ = (false, (p_ + 1)) from (by unfold stS; rw [if_neg (by rw [hsg]; decide), if_pos hsg]; unfold stK; simp [hgp1, enS]))] at q_; exact absurd (show false = true from q_) (by decide)⟩)
    | true =>
      refine m_callVi cv_X5_85 [.ref (gK G 3 d_), .int 0] [] (k_c_dig_y l G d_ hd_ h_ hrow (p_ + 1) (sg_lt (h := h_) (d := d_) (p := p_) hsn) (up3_e hS15) 0 (by decide) hgp1) (by decide) (ce_1 G _ _ _ _ _ _ _ _ _ _) rfl rfl rfl ⟨Nat.le_of_ble_eq_true rfl, Nat.le_of_ble_eq_true rfl⟩ (Nat.le_of_ble_eq_true rfl) ⟨Nat.zero_le _, Nat.zero_le _⟩ dX5_readsStatement_116 (fun xx σ2 hq => ?_)
      obtain ⟨rfl, S17, rfl, hrS170, hrS171, hrS172, hrS173⟩ := hq
      refine m_if_eq 143 dX5_readsStatement_119 (by decide) (fun c18_ => absurd c18_ (by decide)) (fun _ => ?_)
      refine m_aload_n 0 rfl rfl dX5_readsStatement_122 ?_
      refine m_aload_n 1 rfl rfl dX5_readsStatement_123 ?_
      refine m_iconst 1 dX5_readsStatement_124 rfl ?_
      cases hgp2 : dgB h_ d_ (p_ + 2) with
      | false =>
        refine m_callVi cv_X5_89 [.ref (gK G 3 d_), .int 1] [] (k_c_num_n l G d_ hd_ h_ hrow (p_ + 2) (dg_v hgp1).1 hrS170 1 hgp2) (by decide) (ce_1 G _ _ _ _ _ _ _ _ _ _) rfl rfl rfl ⟨Nat.le_of_ble_eq_true rfl, Nat.le_of_ble_eq_true rfl⟩ (Nat.le_of_ble_eq_true rfl) ⟨Nat.zero_le _, Nat.zero_le _⟩ dX5_readsStatement_125 (fun xx σ2 hq => ?_)
        obtain ⟨rfl, rfl⟩ := hq
        refine m_if_eq 143 dX5_readsStatement_128 (by decide) (fun _ => ?_) (fun c19_ => absurd c19_ (by decide))
        refine m_iconst 0 dX5_readsStatement_143 rfl ?_
        exact m_zret dX5_readsStatement_144 (Nat.le_refl _) (Nat.le_refl _) nar0 (⟨by rw [(show stS h_ d_ p_ = (false, (p_ + 2)) from (by unfold stS; rw [if_neg (by rw [hsg]; decide), if_pos hsg]; unfold stK; simp [hgp1, hgp2, enS]))]; rfl, S17, rfl, by rw [(show stS h_ d_ p_ = (false, (p_ + 2)) from (by unfold stS; rw [if_neg (by rw [hsg]; decide), if_pos hsg]; unfold stK; simp [hgp1, hgp2, enS]))]; exact hrS170, fun q_ => by rw [(show stS h_ d_ p_ = (false, (p_ + 2)) from (by unfold stS; rw [if_neg (by rw [hsg]; decide), if_pos hsg]; unfold stK; simp [hgp1, hgp2, enS]))] at q_; exact absurd (show false = true from q_) (by decide)⟩)
      | true =>
        refine m_callVi cv_X5_89 [.ref (gK G 3 d_), .int 1] [] (k_c_num_y l G d_ hd_ h_ hrow (p_ + 2) (dg_v hgp1).1 hrS170 1 (by decide) hgp2) (by decide) (ce_1 G _ _ _ _ _ _ _ _ _ _) rfl rfl rfl ⟨Nat.le_of_ble_eq_true rfl, Nat.le_of_ble_eq_true rfl⟩ (Nat.le_of_ble_eq_true rfl) ⟨Nat.zero_le _, Nat.zero_le _⟩ dX5_readsStatement_125 (fun xx σ2 hq => ?_)
        obtain ⟨rfl, S20, rfl, hrS200, hrS201, hrS202, hrS203⟩ := hq
        refine m_if_eq 143 dX5_readsStatement_128 (by decide) (fun c21_ => absurd c21_ (by decide)) (fun _ => ?_)
        refine m_aload_n 0 rfl rfl dX5_readsStatement_131 ?_
        refine m_aload_n 1 rfl rfl dX5_readsStatement_132 ?_
        cases henmPhdp2 : enB h_ d_ (nmP h_ d_ (p_ + 2)) with
        | false =>
          refine m_callVi cv_X5_92 [.ref (gK G 3 d_)] [] (k_c_end_n l G d_ hd_ h_ hrow (nmP h_ d_ (p_ + 2)) (nmP_le hgp2).2.1 hrS200 henmPhdp2) (by decide) (ce_1 G _ _ _ _ _ _ _ _ _ _) rfl rfl rfl ⟨Nat.le_of_ble_eq_true rfl, Nat.le_of_ble_eq_true rfl⟩ (Nat.le_of_ble_eq_true rfl) ⟨Nat.zero_le _, Nat.zero_le _⟩ dX5_readsStatement_133 (fun xx σ2 hq => ?_)
          obtain ⟨rfl, rfl⟩ := hq
          refine m_if_eq 143 dX5_readsStatement_136 (by decide) (fun _ => ?_) (fun c22_ => absurd c22_ (by decide))
          refine m_iconst 0 dX5_readsStatement_143 rfl ?_
          exact m_zret dX5_readsStatement_144 (Nat.le_refl _) (Nat.le_refl _) nar0 (⟨by rw [(show stS h_ d_ p_ = (false, (nmP h_ d_ (p_ + 2))) from (by unfold stS; rw [if_neg (by rw [hsg]; decide), if_pos hsg]; unfold stK; simp [hgp1, hgp2, henmPhdp2, enS]))]; rfl, S20, rfl, by rw [(show stS h_ d_ p_ = (false, (nmP h_ d_ (p_ + 2))) from (by unfold stS; rw [if_neg (by rw [hsg]; decide), if_pos hsg]; unfold stK; simp [hgp1, hgp2, henmPhdp2, enS]))]; exact hrS200, fun q_ => by rw [(show stS h_ d_ p_ = (false, (nmP h_ d_ (p_ + 2))) from (by unfold stS; rw [if_neg (by rw [hsg]; decide), if_pos hsg]; unfold stK; simp [hgp1, hgp2, henmPhdp2, enS]))] at q_; exact absurd (show false = true from q_) (by decide)⟩)
        | true =>
          refine m_callVi cv_X5_92 [.ref (gK G 3 d_)] [] (k_c_end_y l G d_ hd_ h_ hrow (nmP h_ d_ (p_ + 2)) (nmP_le hgp2).2.1 hrS200 henmPhdp2) (by decide) (ce_1 G _ _ _ _ _ _ _ _ _ _) rfl rfl rfl ⟨Nat.le_of_ble_eq_true rfl, Nat.le_of_ble_eq_true rfl⟩ (Nat.le_of_ble_eq_true rfl) ⟨Nat.zero_le _, Nat.zero_le _⟩ dX5_readsStatement_133 (fun xx σ2 hq => ?_)
          obtain ⟨rfl, S23, rfl, hrS230, hrS231, hrS232⟩ := hq
          refine m_if_eq 143 dX5_readsStatement_136 (by decide) (fun c24_ => absurd c24_ (by decide)) (fun _ => ?_)
          refine m_iconst 1 dX5_readsStatement_139 rfl ?_
          refine m_goto 144 dX5_readsStatement_140 (by decide) ?_
          exact m_zret dX5_readsStatement_144 (Nat.le_refl _) (Nat.le_refl _) nar1 (⟨by rw [(show stS h_ d_ p_ = (true, ((nmP h_ d_ (p_ + 2)) + 1)) from (by unfold stS; rw [if_neg (by rw [hsg]; decide), if_pos hsg]; unfold stK; simp [hgp1, hgp2, henmPhdp2, enS]))]; rfl, S23, rfl, by rw [(show stS h_ d_ p_ = (true, ((nmP h_ d_ (p_ + 2)) + 1)) from (by unfold stS; rw [if_neg (by rw [hsg]; decide), if_pos hsg]; unfold stK; simp [hgp1, hgp2, henmPhdp2, enS]))]; exact hrS230, fun _ => ⟨(hrS232.trans (hrS203.trans (hrS173.trans ((up3_o hS15 1 1 8 (by decide)).trans (up3_e hS1))))), ((hrS231 0).trans ((hrS202 0 (by decide)).trans hrS171)), ((hrS231 1).trans hrS201).trans (congrArg nI (show nmV h_ d_ (p_ + 2) = sn1 h_ d_ p_ from by unfold sn1; rw [if_pos hsg])), fun z_ => absurd hsg z_⟩⟩)
  rcases Decidable.em (sgI h_ d_ p_ = 116) with hsg | hn116
  ·
    have hsn : sgI h_ d_ p_ ≠ 0 := by rw [hsg]; decide
    refine m_topi hsg ?_
    refine m_lookup 145 dX5_readsStatement_16 (by decide) (by rfl) (by decide) ?_
    refine m_aload_n 0 rfl rfl dX5_readsStatement_145 ?_
    refine m_dup rfl dX5_readsStatement_146 ?_
    refine gf_X5_62 (by decide) dX5_readsStatement_147 ?_
    refine m_topi (up3_j hS1 (by decide) hpos) ?_
    refine m_iconst 1 dX5_readsStatement_150 rfl ?_
    refine m_iadd dX5_readsStatement_151 ?_
    refine m_topi (show (nI (p_)) + 1 = nI (p_ + 1) from nI_add _ _) ?_
    refine pf_X5_62 (by decide) dX5_readsStatement_152 (fun S25 hS25 => ?_)
    refine m_aload_n 0 rfl rfl dX5_readsStatement_155 ?_
    refine m_aload_n 1 rfl rfl dX5_readsStatement_156 ?_
    refine m_iconst 0 dX5_readsStatement_157 rfl ?_
    cases hgp1 : dgB h_ d_ (p_ + 1) with
    | false =>
      refine m_callVi cv_X5_85 [.ref (gK G 3 d_), .int 0] [] (k_c_dig_n l G d_ hd_ h_ hrow (p_ + 1) (sg_lt (h := h_) (d := d_) (p := p_) hsn) (up3_e hS25) 0 hgp1) (by decide) (ce_1 G _ _ _ _ _ _ _ _ _ _) rfl rfl rfl ⟨Nat.le_of_ble_eq_true rfl, Nat.le_of_ble_eq_true rfl⟩ (Nat.le_of_ble_eq_true rfl) ⟨Nat.zero_le _, Nat.zero_le _⟩ dX5_readsStatement_158 (fun xx σ2 hq => ?_)
      obtain ⟨rfl, rfl⟩ := hq
      refine m_if_eq 194 dX5_readsStatement_161 (by decide) (fun _ => ?_) (fun c26_ => absurd c26_ (by decide))
      refine m_iconst 0 dX5_readsStatement_194 rfl ?_
      exact m_zret dX5_readsStatement_195 (Nat.le_refl _) (Nat.le_refl _) nar0 (⟨by rw [(show stS h_ d_ p_ = (false, (p_ + 1)) from (by unfold stS; rw [if_neg (by rw [hsg]; decide), if_neg (by rw [hsg]; decide), if_pos hsg]; unfold stT; simp [hgp1, enS, opP]))]; rfl, S25, rfl, by rw [(show stS h_ d_ p_ = (false, (p_ + 1)) from (by unfold stS; rw [if_neg (by rw [hsg]; decide), if_neg (by rw [hsg]; decide), if_pos hsg]; unfold stT; simp [hgp1, enS, opP]))]; exact (up3_e hS25), fun q_ => by rw [(show stS h_ d_ p_ = (false, (p_ + 1)) from (by unfold stS; rw [if_neg (by rw [hsg]; decide), if_neg (by rw [hsg]; decide), if_pos hsg]; unfold stT; simp [hgp1, enS, opP]))] at q_; exact absurd (show false = true from q_) (by decide)⟩)
    | true =>
      refine m_callVi cv_X5_85 [.ref (gK G 3 d_), .int 0] [] (k_c_dig_y l G d_ hd_ h_ hrow (p_ + 1) (sg_lt (h := h_) (d := d_) (p := p_) hsn) (up3_e hS25) 0 (by decide) hgp1) (by decide) (ce_1 G _ _ _ _ _ _ _ _ _ _) rfl rfl rfl ⟨Nat.le_of_ble_eq_true rfl, Nat.le_of_ble_eq_true rfl⟩ (Nat.le_of_ble_eq_true rfl) ⟨Nat.zero_le _, Nat.zero_le _⟩ dX5_readsStatement_158 (fun xx σ2 hq => ?_)
      obtain ⟨rfl, S27, rfl, hrS270, hrS271, hrS272, hrS273⟩ := hq
      refine m_if_eq 194 dX5_readsStatement_161 (by decide) (fun c28_ => absurd c28_ (by decide)) (fun _ => ?_)
      refine m_aload_n 0 rfl rfl dX5_readsStatement_164 ?_
      refine m_aload_n 1 rfl rfl dX5_readsStatement_165 ?_
      refine m_iconst 1 dX5_readsStatement_166 rfl ?_
      cases hgp2 : dgB h_ d_ (p_ + 2) with
      | false =>
        refine m_callVi cv_X5_85 [.ref (gK G 3 d_), .int 1] [] (k_c_dig_n l G d_ hd_ h_ hrow (p_ + 2) (dg_v hgp1).1 hrS270 1 hgp2) (by decide) (ce_1 G _ _ _ _ _ _ _ _ _ _) rfl rfl rfl ⟨Nat.le_of_ble_eq_true rfl, Nat.le_of_ble_eq_true rfl⟩ (Nat.le_of_ble_eq_true rfl) ⟨Nat.zero_le _, Nat.zero_le _⟩ dX5_readsStatement_167 (fun xx σ2 hq => ?_)
        obtain ⟨rfl, rfl⟩ := hq
        refine m_if_eq 194 dX5_readsStatement_170 (by decide) (fun _ => ?_) (fun c29_ => absurd c29_ (by decide))
        refine m_iconst 0 dX5_readsStatement_194 rfl ?_
        exact m_zret dX5_readsStatement_195 (Nat.le_refl _) (Nat.le_refl _) nar0 (⟨by rw [(show stS h_ d_ p_ = (false, (p_ + 2)) from (by unfold stS; rw [if_neg (by rw [hsg]; decide), if_neg (by rw [hsg]; decide), if_pos hsg]; unfold stT; simp [hgp1, hgp2, enS, opP]))]; rfl, S27, rfl, by rw [(show stS h_ d_ p_ = (false, (p_ + 2)) from (by unfold stS; rw [if_neg (by rw [hsg]; decide), if_neg (by rw [hsg]; decide), if_pos hsg]; unfold stT; simp [hgp1, hgp2, enS, opP]))]; exact hrS270, fun q_ => by rw [(show stS h_ d_ p_ = (false, (p_ + 2)) from (by unfold stS; rw [if_neg (by rw [hsg]; decide), if_neg (by rw [hsg]; decide), if_pos hsg]; unfold stT; simp [hgp1, hgp2, enS, opP]))] at q_; exact absurd (show false = true from q_) (by decide)⟩)
      | true =>
        refine m_callVi cv_X5_85 [.ref (gK G 3 d_), .int 1] [] (k_c_dig_y l G d_ hd_ h_ hrow (p_ + 2) (dg_v hgp1).1 hrS270 1 (by decide) hgp2) (by decide) (ce_1 G _ _ _ _ _ _ _ _ _ _) rfl rfl rfl ⟨Nat.le_of_ble_eq_true rfl, Nat.le_of_ble_eq_true rfl⟩ (Nat.le_of_ble_eq_true rfl) ⟨Nat.zero_le _, Nat.zero_le _⟩ dX5_readsStatement_167 (fun xx σ2 hq => ?_)
        obtain ⟨rfl, S30, rfl, hrS300, hrS301, hrS302, hrS303⟩ := hq
        refine m_if_eq 194 dX5_readsStatement_170 (by decide) (fun c31_ => absurd c31_ (by decide)) (fun _ => ?_)
        refine m_aload_n 0 rfl rfl dX5_readsStatement_173 ?_
        refine m_aload_n 1 rfl rfl dX5_readsStatement_174 ?_
        refine m_iconst 2 dX5_readsStatement_175 rfl ?_
        cases hgp3 : dgB h_ d_ (p_ + 3) with
        | false =>
          refine m_callVi cv_X5_95 [.ref (gK G 3 d_), .int 2] [] (k_c_opt_n l G d_ hd_ h_ hrow (p_ + 3) (dg_v hgp2).1 hrS300 2 (by decide) hgp3) (by decide) (ce_1 G _ _ _ _ _ _ _ _ _ _) rfl rfl rfl ⟨Nat.le_of_ble_eq_true rfl, Nat.le_of_ble_eq_true rfl⟩ (Nat.le_of_ble_eq_true rfl) ⟨Nat.zero_le _, Nat.zero_le _⟩ dX5_readsStatement_176 (fun xx σ2 hq => ?_)
          obtain ⟨rfl, S32, rfl, hrS320, hrS321, hrS322, hrS323⟩ := hq
          refine m_if_eq 194 dX5_readsStatement_179 (by decide) (fun c33_ => absurd c33_ (by decide)) (fun _ => ?_)
          refine m_aload_n 0 rfl rfl dX5_readsStatement_182 ?_
          refine m_aload_n 1 rfl rfl dX5_readsStatement_183 ?_
          cases hep3 : enB h_ d_ (p_ + 3) with
          | false =>
            refine m_callVi cv_X5_92 [.ref (gK G 3 d_)] [] (k_c_end_n l G d_ hd_ h_ hrow (p_ + 3) (dg_v hgp2).1 hrS320 hep3) (by decide) (ce_1 G _ _ _ _ _ _ _ _ _ _) rfl rfl rfl ⟨Nat.le_of_ble_eq_true rfl, Nat.le_of_ble_eq_true rfl⟩ (Nat.le_of_ble_eq_true rfl) ⟨Nat.zero_le _, Nat.zero_le _⟩ dX5_readsStatement_184 (fun xx σ2 hq => ?_)
            obtain ⟨rfl, rfl⟩ := hq
            refine m_if_eq 194 dX5_readsStatement_187 (by decide) (fun _ => ?_) (fun c34_ => absurd c34_ (by decide))
            refine m_iconst 0 dX5_readsStatement_194 rfl ?_
            exact m_zret dX5_readsStatement_195 (Nat.le_refl _) (Nat.le_refl _) nar0 (⟨by rw [(show stS h_ d_ p_ = (false, (p_ + 3)) from (by unfold stS; rw [if_neg (by rw [hsg]; decide), if_neg (by rw [hsg]; decide), if_pos hsg]; unfold stT; simp [hgp1, hgp2, hgp3, hep3, enS, opP]))]; rfl, S32, rfl, by rw [(show stS h_ d_ p_ = (false, (p_ + 3)) from (by unfold stS; rw [if_neg (by rw [hsg]; decide), if_neg (by rw [hsg]; decide), if_pos hsg]; unfold stT; simp [hgp1, hgp2, hgp3, hep3, enS, opP]))]; exact hrS320, fun q_ => by rw [(show stS h_ d_ p_ = (false, (p_ + 3)) from (by unfold stS; rw [if_neg (by rw [hsg]; decide), if_neg (by rw [hsg]; decide), if_pos hsg]; unfold stT; simp [hgp1, hgp2, hgp3, hep3, enS, opP]))] at q_; exact absurd (show false = true from q_) (by decide)⟩)
          | true =>
            refine m_callVi cv_X5_92 [.ref (gK G 3 d_)] [] (k_c_end_y l G d_ hd_ h_ hrow (p_ + 3) (dg_v hgp2).1 hrS320 hep3) (by decide) (ce_1 G _ _ _ _ _ _ _ _ _ _) rfl rfl rfl ⟨Nat.le_of_ble_eq_true rfl, Nat.le_of_ble_eq_true rfl⟩ (Nat.le_of_ble_eq_true rfl) ⟨Nat.zero_le _, Nat.zero_le _⟩ dX5_readsStatement_184 (fun xx σ2 hq => ?_)
            obtain ⟨rfl, S35, rfl, hrS350, hrS351, hrS352⟩ := hq
            refine m_if_eq 194 dX5_readsStatement_187 (by decide) (fun c36_ => absurd c36_ (by decide)) (fun _ => ?_)
            refine m_iconst 1 dX5_readsStatement_190 rfl ?_
            refine m_goto 195 dX5_readsStatement_191 (by decide) ?_
            exact m_zret dX5_readsStatement_195 (Nat.le_refl _) (Nat.le_refl _) nar1 (⟨by rw [(show stS h_ d_ p_ = (true, ((p_ + 3) + 1)) from (by unfold stS; rw [if_neg (by rw [hsg]; decide), if_neg (by rw [hsg]; decide), if_pos hsg]; unfold stT; simp [hgp1, hgp2, hgp3, hep3, enS, opP]))]; rfl, S35, rfl, by rw [(show stS h_ d_ p_ = (true, ((p_ + 3) + 1)) from (by unfold stS; rw [if_neg (by rw [hsg]; decide), if_neg (by rw [hsg]; decide), if_pos hsg]; unfold stT; simp [hgp1, hgp2, hgp3, hep3, enS, opP]))]; exact hrS350, fun _ => ⟨(hrS352.trans (hrS323.trans (hrS303.trans (hrS273.trans ((up3_o hS25 1 1 8 (by decide)).trans (up3_e hS1)))))), ((hrS351 0).trans ((hrS322 0 (by decide)).trans ((hrS302 0 (by decide)).trans hrS271))), ((hrS351 1).trans ((hrS322 1 (by decide)).trans hrS301)).trans (congrArg nI (show dgV h_ d_ (p_ + 2) = sn1 h_ d_ p_ from by unfold sn1; rw [if_neg (by rw [hsg]; decide)])), fun _ => ((hrS351 2).trans hrS321).trans (congrArg nI (show 0 = sn2 h_ d_ p_ from by unfold sn2 opV; rw [if_neg (by rw [hsg]; decide), hgp3]; rfl))⟩⟩)
        | true =>
          refine m_callVi cv_X5_95 [.ref (gK G 3 d_), .int 2] [] (k_c_opt_y l G d_ hd_ h_ hrow (p_ + 3) (dg_v hgp2).1 hrS300 2 (by decide) hgp3) (by decide) (ce_1 G _ _ _ _ _ _ _ _ _ _) rfl rfl rfl ⟨Nat.le_of_ble_eq_true rfl, Nat.le_of_ble_eq_true rfl⟩ (Nat.le_of_ble_eq_true rfl) ⟨Nat.zero_le _, Nat.zero_le _⟩ dX5_readsStatement_176 (fun xx σ2 hq => ?_)
          obtain ⟨rfl, S37, rfl, hrS370, hrS371, hrS372, hrS373⟩ := hq
          refine m_if_eq 194 dX5_readsStatement_179 (by decide) (fun c38_ => absurd c38_ (by decide)) (fun _ => ?_)
          refine m_aload_n 0 rfl rfl dX5_readsStatement_182 ?_
          refine m_aload_n 1 rfl rfl dX5_readsStatement_183 ?_
          cases hep4 : enB h_ d_ (p_ + 4) with
          | false =>
            refine m_callVi cv_X5_92 [.ref (gK G 3 d_)] [] (k_c_end_n l G d_ hd_ h_ hrow (p_ + 4) (dg_v hgp3).1 hrS370 hep4) (by decide) (ce_1 G _ _ _ _ _ _ _ _ _ _) rfl rfl rfl ⟨Nat.le_of_ble_eq_true rfl, Nat.le_of_ble_eq_true rfl⟩ (Nat.le_of_ble_eq_true rfl) ⟨Nat.zero_le _, Nat.zero_le _⟩ dX5_readsStatement_184 (fun xx σ2 hq => ?_)
            obtain ⟨rfl, rfl⟩ := hq
            refine m_if_eq 194 dX5_readsStatement_187 (by decide) (fun _ => ?_) (fun c39_ => absurd c39_ (by decide))
            refine m_iconst 0 dX5_readsStatement_194 rfl ?_
            exact m_zret dX5_readsStatement_195 (Nat.le_refl _) (Nat.le_refl _) nar0 (⟨by rw [(show stS h_ d_ p_ = (false, (p_ + 4)) from (by unfold stS; rw [if_neg (by rw [hsg]; decide), if_neg (by rw [hsg]; decide), if_pos hsg]; unfold stT; simp [hgp1, hgp2, hgp3, hep4, enS, opP]))]; rfl, S37, rfl, by rw [(show stS h_ d_ p_ = (false, (p_ + 4)) from (by unfold stS; rw [if_neg (by rw [hsg]; decide), if_neg (by rw [hsg]; decide), if_pos hsg]; unfold stT; simp [hgp1, hgp2, hgp3, hep4, enS, opP]))]; exact hrS370, fun q_ => by rw [(show stS h_ d_ p_ = (false, (p_ + 4)) from (by unfold stS; rw [if_neg (by rw [hsg]; decide), if_neg (by rw [hsg]; decide), if_pos hsg]; unfold stT; simp [hgp1, hgp2, hgp3, hep4, enS, opP]))] at q_; exact absurd (show false = true from q_) (by decide)⟩)
          | true =>
            refine m_callVi cv_X5_92 [.ref (gK G 3 d_)] [] (k_c_end_y l G d_ hd_ h_ hrow (p_ + 4) (dg_v hgp3).1 hrS370 hep4) (by decide) (ce_1 G _ _ _ _ _ _ _ _ _ _) rfl rfl rfl ⟨Nat.le_of_ble_eq_true rfl, Nat.le_of_ble_eq_true rfl⟩ (Nat.le_of_ble_eq_true rfl) ⟨Nat.zero_le _, Nat.zero_le _⟩ dX5_readsStatement_184 (fun xx σ2 hq => ?_)
            obtain ⟨rfl, S40, rfl, hrS400, hrS401, hrS402⟩ := hq
            refine m_if_eq 194 dX5_readsStatement_187 (by decide) (fun c41_ => absurd c41_ (by decide)) (fun _ => ?_)
            refine m_iconst 1 dX5_readsStatement_190 rfl ?_
            refine m_goto 195 dX5_readsStatement_191 (by decide) ?_
            exact m_zret dX5_readsStatement_195 (Nat.le_refl _) (Nat.le_refl _) nar1 (⟨by rw [(show stS h_ d_ p_ = (true, ((p_ + 4) + 1)) from (by unfold stS; rw [if_neg (by rw [hsg]; decide), if_neg (by rw [hsg]; decide), if_pos hsg]; unfold stT; simp [hgp1, hgp2, hgp3, hep4, enS, opP]))]; rfl, S40, rfl, by rw [(show stS h_ d_ p_ = (true, ((p_ + 4) + 1)) from (by unfold stS; rw [if_neg (by rw [hsg]; decide), if_neg (by rw [hsg]; decide), if_pos hsg]; unfold stT; simp [hgp1, hgp2, hgp3, hep4, enS, opP]))]; exact hrS400, fun _ => ⟨(hrS402.trans (hrS373.trans (hrS303.trans (hrS273.trans ((up3_o hS25 1 1 8 (by decide)).trans (up3_e hS1)))))), ((hrS401 0).trans ((hrS372 0 (by decide)).trans ((hrS302 0 (by decide)).trans hrS271))), ((hrS401 1).trans ((hrS372 1 (by decide)).trans hrS301)).trans (congrArg nI (show dgV h_ d_ (p_ + 2) = sn1 h_ d_ p_ from by unfold sn1; rw [if_neg (by rw [hsg]; decide)])), fun _ => ((hrS401 2).trans hrS371).trans (congrArg nI (show dgV h_ d_ (p_ + 3) = sn2 h_ d_ p_ from by unfold sn2 opV; rw [if_neg (by rw [hsg]; decide), hgp3]; rfl))⟩⟩)
  refine m_lookup 196 dX5_readsStatement_16 (by decide) (lk3 (tI_ne (c_ := 107) hn107) (tI_ne (c_ := 116) hn116) (tI_ne (c_ := 121) hn121)) (by decide) ?_
  refine m_iconst 0 dX5_readsStatement_196 rfl ?_
  exact m_zret dX5_readsStatement_197 (Nat.le_refl _) (Nat.le_refl _) nar0 (⟨by rw [(show stS h_ d_ p_ = (false, p_) from (by unfold stS; rw [if_neg hn121, if_neg hn107, if_neg hn116]))]; rfl, S1, rfl, by rw [(show stS h_ d_ p_ = (false, p_) from (by unfold stS; rw [if_neg hn121, if_neg hn107, if_neg hn116]))]; exact ((up3_o hS1 1 1 7 (by decide)).trans hpos), fun q_ => by rw [(show stS h_ d_ p_ = (false, p_) from (by unfold stS; rw [if_neg hn121, if_neg hn107, if_neg hn116]))] at q_; exact absurd (show false = true from q_) (by decide)⟩)
