/-! a day -/
def dyS (a : owK) (c : Nat) (z : Int32) : Nat → Int32 × Nat
  | 0 => (z, 0)
  | k + 1 => if drI (nxt (dyS a c z k).1) 100 < nI (aS a c) then (nxt (nxt (nxt (dyS a c z k).1)), (dyS a c z k).2 + 1) else (nxt (dyS a c z k).1, (dyS a c z k).2)
theorem dyS_y {a : owK} {c : Nat} {z : Int32} {k : Nat} (h : drI (nxt (dyS a c z k).1) 100 < nI (aS a c)) : dyS a c z (k + 1) = (nxt (nxt (nxt (dyS a c z k).1)), (dyS a c z k).2 + 1) := if_pos h
theorem dyS_n {a : owK} {c : Nat} {z : Int32} {k : Nat} (h : ¬ drI (nxt (dyS a c z k).1) 100 < nI (aS a c)) : dyS a c z (k + 1) = (nxt (dyS a c z k).1, (dyS a c z k).2) := if_neg h
theorem dyS_le {a : owK} {c : Nat} {z : Int32} : ∀ k, (dyS a c z k).2 ≤ k
  | 0 => Nat.le_refl 0
  | k + 1 => by
    have := dyS_le (a := a) (c := c) (z := z) k
    show (if _ then _ else _ : Int32 × Nat).2 ≤ k + 1
    split
    · show (dyS a c z k).2 + 1 ≤ k + 1
      omega
    · show (dyS a c z k).2 ≤ k + 1
      omega
def dyV (a : owK) (h : owH) (c d : Nat) (z : Int32) (k : Nat) : Int32 := if drI (nxt (dyS a c z k).1) 100 < nI (aS a c) then slpV (nI (ansA a (aH a c) (shX h d k) (shY h d k))) (nxt (dyS a c z k).1) else nI (ansA a (aH a c) (shX h d k) (shY h d k))
def dayB (a : owK) (h : owH) (c d e : Int32) : Bool := isC a c && (isD e && decide (shRefI h d = 0))
def dayI (a : owK) (h : owH) (c d e z : Int32) : Int32 := if isC a c = true ∧ isD e = true then (if shRefI h d = 0 then nI (dyS a c.toNatClampNeg z (rN h d)).2 else shRefI h d) else -1
def dyT (a : owK) (h : owH) (c d : Nat) (z : Int32) (k : Nat) : Nat → Int32 := fun j => if j < k then dyV a h c d z j else 0
def dayH (a : owK) (h : owH) (c d e z : Int32) : owH := if dayB a h c d e then updH h e.toNatClampNeg (2, 2, rN h d, dyT a h c.toNatClampNeg d.toNatClampNeg z (rN h d), 0, 0, 0) else h
theorem shS.seed {S S2 : owF} {n : Nat} {X Q : Nat → Nat} {v : Int32} (h : shS S n X Q) (e : S2 = up3 S 0 0 14 v) : shS S2 n X Q :=
  ⟨(up3_o e 0 0 8 (by decide)).trans h.1, h.2.1, fun s hs => by
    have g := h.2.2 s hs
    rw [up3_o e 30 0 s (fun q => absurd q.1 (by decide)), up3_o e 31 0 s (fun q => absurd q.1 (by decide))]
    exact g⟩
set_option maxRecDepth 100000 in
set_option maxHeartbeats 4000000 in
theorem k_day (l : Launch) (G : owG) {A S Z B T V : owF} {J : Nat → Nat → Int64} {Y : Nat → Nat → Nat → Option Nat} {P : Nat → Option owW} (a_ : owK) (ho_ : aOk a_) (im : Option owK) (h_ : owH) (hC : CR A Y P a_ im h_) (v_ x_ z_ sd8 : Int32) : Ct l G yX11_day cX11_day 10 ((some .int)) 6 0 0 [.ref (gK G 0 0), .int v_, .int x_, .int z_, .int sd8] (A, S, Z, B, T, V, J, Y, P) (qI (fun r_ σ => r_ = dayI a_ h_ v_ x_ z_ sd8 ∧ ∃ (A2 S2 Z2 : owF) (J2 : Nat → Nat → Int64) (Y2 : Nat → Nat → Nat → Option Nat), σ = (A2, S2, Z2, B, T, V, J2, Y2, P) ∧ CR A2 Y2 P (a_) (im) (dayH a_ h_ v_ x_ z_ sd8))) := by
  refine ct_of (by decide +kernel) (Nat.le_of_ble_eq_true rfl) ?_
  have h10 := ho_.1
  have h8_ := ho_.2.1
  have hR := hC.1
  have hRS := hC.2.2.2.1
  show Wm l G cX11_day 10 RX11 ((some .int)) (rmk 6 0 0) (fun _ => True) (QfM G (qI (fun r_ σ => r_ = dayI a_ h_ v_ x_ z_ sd8 ∧ ∃ (A2 S2 Z2 : owF) (J2 : Nat → Nat → Int64) (Y2 : Nat → Nat → Nat → Option Nat), σ = (A2, S2, Z2, B, T, V, J2, Y2, P) ∧ CR A2 Y2 P (a_) (im) (dayH a_ h_ v_ x_ z_ sd8))) 0 0) 0 [(0, .ref (gK G 0 0)), (1, .int v_), (2, .int x_), (3, .int z_), (4, .int sd8)] [] (A, S, Z, B, T, V, J, Y, P) 0 0
  refine m_aload_n 0 rfl rfl dX11_day_0 ?_
  refine m_iload_n 3 rfl rfl dX11_day_1 ?_
  cases hDz : isD z_ with
  | false =>
    refine m_callVr cv_X11_59 [.int z_] [] (k_shelfAt_n l G z_ hDz) (by decide) (ce_0 G _ _ _ _ _ _ _ _ _ _) rfl rfl rfl ⟨Nat.le_of_ble_eq_true rfl, Nat.le_of_ble_eq_true rfl⟩ (Nat.le_of_ble_eq_true rfl) ⟨Nat.zero_le _, Nat.zero_le _⟩ dX11_day_2 (fun xx σ2 hq => ?_)
    obtain ⟨rfl, rfl⟩ := hq
    refine m_astoreN [(5, .null), (0, .ref (gK G 0 0)), (1, .int v_), (2, .int x_), (3, .int z_), (4, .int sd8)] (by decide) rfl dX11_day_5 ?_
    refine m_aload_n 1 rfl rfl dX11_day_7 ?_
    refine gf_X11_10 dX11_day_8 ?_
    refine m_iload_n 2 rfl rfl dX11_day_11 ?_
    refine m_callVi cv_X11_95 [.int v_] [] (k_hasChild l G 0 (by decide) a_ ho_ hR v_) (by decide) (ce_1 G _ _ _ _ _ _ _ _ _ _) rfl rfl rfl ⟨Nat.le_of_ble_eq_true rfl, Nat.le_of_ble_eq_true rfl⟩ (Nat.le_of_ble_eq_true rfl) ⟨Nat.zero_le _, Nat.zero_le _⟩ dX11_day_12 (fun xx σ2 hq => ?_)
    obtain ⟨rfl, rfl⟩ := hq
    refine m_ifeq_b 23 dX11_day_15 (by decide) (fun c1_ => ?_) (fun c1_ => ?_)
    ·
      refine m_iconst (-1) dX11_day_23 rfl ?_
      exact m_iret dX11_day_24 (Nat.le_refl _) (Nat.le_refl _) (⟨by simp [dayI, hDz, c1_], _, _, _, _, _, rfl, by unfold dayH dayB; first | (rw [hDz]; simp; exact hC) | (simp [hDz, c1_]; exact hC)⟩)
    ·
      obtain ⟨cq, hcq, rfl⟩ := isC_nat ho_ c1_
      have hclcq : (nI cq).toNatClampNeg = cq := nI_clamp (by omega)
      refine m_aloadN 0 rfl dX11_day_18 ?_
      refine m_ifnonnullN dX11_day_20 ?_
      refine m_iconst (-1) dX11_day_23 rfl ?_
      exact m_iret dX11_day_24 (Nat.le_refl _) (Nat.le_refl _) (⟨by simp [dayI, hDz, c1_], _, _, _, _, _, rfl, by unfold dayH dayB; first | (rw [hDz]; simp; exact hC) | (simp [hDz, c1_]; exact hC)⟩)
  | true =>
    obtain ⟨nz, hnz, rfl⟩ := isD_nat hDz
    refine m_callVr cv_X11_59 [.int (nI nz)] [] (k_shelfAt_s l G nz hnz) (by decide) (ce_0 G _ _ _ _ _ _ _ _ _ _) rfl rfl rfl ⟨Nat.le_of_ble_eq_true rfl, Nat.le_of_ble_eq_true rfl⟩ (Nat.le_of_ble_eq_true rfl) ⟨Nat.zero_le _, Nat.zero_le _⟩ dX11_day_2 (fun xx σ2 hq => ?_)
    obtain ⟨rfl, rfl⟩ := hq
    have hi_nz : nz < owN 3 := hnz
    have hRS_nz := hRS nz hnz
    refine m_astore [(5, .ref (gK G 3 nz)), (0, .ref (gK G 0 0)), (1, .int v_), (2, .int x_), (3, .int (nI (nz))), (4, .int sd8)] (by decide) rfl dX11_day_5 ?_
    refine m_aload_n 1 rfl rfl dX11_day_7 ?_
    refine gf_X11_10 dX11_day_8 ?_
    refine m_iload_n 2 rfl rfl dX11_day_11 ?_
    refine m_callVi cv_X11_95 [.int v_] [] (k_hasChild l G 0 (by decide) a_ ho_ hR v_) (by decide) (ce_1 G _ _ _ _ _ _ _ _ _ _) rfl rfl rfl ⟨Nat.le_of_ble_eq_true rfl, Nat.le_of_ble_eq_true rfl⟩ (Nat.le_of_ble_eq_true rfl) ⟨Nat.zero_le _, Nat.zero_le _⟩ dX11_day_12 (fun xx σ2 hq => ?_)
    obtain ⟨rfl, rfl⟩ := hq
    refine m_ifeq_b 23 dX11_day_15 (by decide) (fun c2_ => ?_) (fun c2_ => ?_)
    ·
      refine m_iconst (-1) dX11_day_23 rfl ?_
      exact m_iret dX11_day_24 (Nat.le_refl _) (Nat.le_refl _) (⟨by simp [dayI, hDz, c2_], _, _, _, _, _, rfl, by unfold dayH dayB; first | (rw [hDz]; simp; exact hC) | (simp [hDz, c2_]; exact hC)⟩)
    ·
      obtain ⟨cq, hcq, rfl⟩ := isC_nat ho_ c2_
      have hclcq : (nI cq).toNatClampNeg = cq := nI_clamp (by omega)
      refine m_aload 0 rfl dX11_day_18 ?_
      refine m_ifnonnull 25 dX11_day_20 (by decide) ?_
      refine m_aload_n 1 rfl rfl dX11_day_25 ?_
      refine m_iload_n 3 rfl rfl dX11_day_26 ?_
      refine m_callVi cv_X11_176 [.int x_] [] (k_sheet l G h_ hRS x_) (by decide) (ce_0 G _ _ _ _ _ _ _ _ _ _) rfl rfl rfl ⟨Nat.le_of_ble_eq_true rfl, Nat.le_of_ble_eq_true rfl⟩ (Nat.le_of_ble_eq_true rfl) ⟨Nat.zero_le _, Nat.zero_le _⟩ dX11_day_27 (fun xx σ2 hq => ?_)
      obtain ⟨rfl, S3, rfl, hsh⟩ := hq
      refine m_istore [(6, .int (shRefI h_ x_)), (5, .ref (gK G 3 nz)), (0, .ref (gK G 0 0)), (1, .int (nI (cq))), (2, .int x_), (3, .int (nI (nz))), (4, .int sd8)] (by decide) rfl dX11_day_30 ?_
      refine m_iload 0 rfl dX11_day_32 ?_
      refine m_if_eq 40 dX11_day_34 (by decide) (fun c4_ => ?_) (fun c4_ => ?_)
      ·
        have hb0 := c4_
        obtain ⟨dq, hdq, rfl, hk2, hs_⟩ := hsh hb0
        have hcldq : (nI dq).toNatClampNeg = dq := nI_clamp (by omega)
        have hn12 := hs_.2.1
        have hch := ho_.2.2.2.1 cq hcq
        refine m_aload_n 2 rfl rfl dX11_day_40 ?_
        refine m_iload 6 rfl dX11_day_41 ?_
        refine pf_X11_203 dX11_day_43 (fun S5 hS5 => ?_)
        refine m_iconst 0 dX11_day_46 rfl ?_
        refine m_istore [(7, .int 0), (6, .int (shRefI h_ (nI dq))), (5, .ref (gK G 3 nz)), (0, .ref (gK G 0 0)), (1, .int (nI (cq))), (2, .int (nI (dq))), (3, .int (nI (nz))), (4, .int sd8)] (by decide) rfl dX11_day_47 ?_
        refine m_aload 2 rfl dX11_day_49 ?_
        refine m_iconst 2 dX11_day_51 rfl ?_
        refine m_aload_n 3 rfl rfl dX11_day_52 ?_
        refine gf_X11_179 dX11_day_53 ?_
        refine m_topi (up3_j hS5 (by decide) hs_.1) ?_
        refine m_callVv cv_X11_206 [.int 2, .int (nI (shN h_ dq))] [] (k_takeRow l G nz hi_nz 2 (shN h_ dq) (by omega) (by omega)) hi_nz (ce_3 G _ _ _ _ _ _ _ _ _ _) rfl rfl rfl ⟨Nat.le_of_ble_eq_true rfl, Nat.le_of_ble_eq_true rfl⟩ (Nat.le_of_ble_eq_true rfl) ⟨Nat.zero_le _, Nat.zero_le _⟩ dX11_day_56 (fun σ2 hq => ?_)
        obtain ⟨A6, Y7, rfl, hdf, hyf, hy0, ha1, ha2, hz⟩ := hq
        refine m_iconst 0 dX11_day_59 rfl ?_
        refine m_istore [(8, .int 0), (7, .int 0), (6, .int (shRefI h_ (nI dq))), (5, .ref (gK G 3 nz)), (0, .ref (gK G 0 0)), (1, .int (nI (cq))), (2, .int (nI (dq))), (3, .int (nI (nz))), (4, .int sd8)] (by decide) rfl dX11_day_60 ?_
        have lp62 : ∀ (dd : Nat) (k_ : Nat) (A9 : owF) (S9 : owF) (Z9 : owF), k_ ≤ shN h_ dq → S9 0 0 14 = (dyS a_ cq sd8 k_).1 → shS S9 (shN h_ dq) (shX h_ dq) (shY h_ dq) → dfr nz A A9 → A9 3 nz 1 = nI 2 → A9 3 nz 2 = nI (shN h_ dq) → (∀ j_, j_ < 100 → A9 16 nz j_ = dyT a_ h_ cq dq sd8 k_ j_) → shN h_ dq - k_ < dd → Wm l G cX11_day 10 RX11 ((some .int)) (rmk 6 0 0) (fun _ => True) (QfM G (qI (fun r_ σ => r_ = dayI a_ h_ (nI cq) (nI dq) (nI nz) sd8 ∧ ∃ (A2 S2 Z2 : owF) (J2 : Nat → Nat → Int64) (Y2 : Nat → Nat → Nat → Option Nat), σ = (A2, S2, Z2, B, T, V, J2, Y2, P) ∧ CR A2 Y2 P (a_) (im) (dayH a_ h_ (nI cq) (nI dq) (nI nz) sd8))) 0 0) 62 [(0, .ref (gK G 0 0)), (1, .int (nI (cq))), (2, .int (nI (dq))), (3, .int (nI (nz))), (4, .int sd8), (5, .ref (gK G 3 nz)), (6, .int (shRefI h_ (nI dq))), (7, .int (nI ((dyS a_ cq sd8 k_).2))), (8, .int (nI (k_)))] [] (A9, S9, Z9, B, T, V, J, Y7, P) 0 0 := by
          intro dd
          induction dd with
          | zero => intro k_ A9 S9 Z9 hk_ hsd hs9 hdf ha1 ha2 hz hdd; exact absurd hdd (Nat.not_lt_zero _)
          | succ dd ih62 =>
            intro k_ A9 S9 Z9 hk_ hsd hs9 hdf ha1 ha2 hz hdd62
            have hR := hC.1.shelf hdf hyf
            have hdl := dyS_le (a := a_) (c := cq) (z := sd8) k_
            obtain ⟨hh9, eh9⟩ : ∃ q_ : owH, q_ = (updH h_ nz (2, 2, shN h_ dq, dyT a_ h_ cq dq sd8 k_, 0, 0, 0)) := ⟨_, rfl⟩
            have hRS9 : RS A9 Y7 P nz hh9 := by rw [eh9]; exact RS.rows hy0 ha1 (by decide) ha2 (by omega) hz
            have hrow := hRS9.row (by rw [eh9]; unfold hK; rw [updH_e])
            have hso9 : hSo hh9 nz = 2 := by rw [eh9]; unfold hSo; rw [updH_e]
            have hnh9 : hN hh9 nz = shN h_ dq := by rw [eh9]; unfold hN; rw [updH_e]
            refine m_iload 8 rfl dX11_day_62 ?_
            refine m_aload_n 0 rfl rfl dX11_day_64 ?_
            refine gf_X11_179 dX11_day_65 ?_
            refine m_topi hs9.1 ?_
            refine m_icmpn_ge k_ (shN h_ dq) 136 (by omega) (by omega) dX11_day_68 (by decide) (fun c8_ => ?_) (fun c8_ => ?_)
            ·
              refine m_iload 7 rfl dX11_day_136 ?_
              exact m_iret dX11_day_138 (Nat.le_refl _) (Nat.le_refl _) ((by obtain rfl : k_ = shN h_ dq := (by omega); exact ⟨by unfold dayI; rw [if_pos ⟨isC_of ho_ hcq, isD_of hnz⟩, if_pos hb0, hclcq]; unfold rN; rw [isD_clamp hdq], _, _, _, _, _, rfl, by unfold dayH dayB; rw [isC_of ho_ hcq, isD_of hnz, decide_eq_true hb0]; unfold rN; rw [isD_clamp hdq, isD_clamp hnz, hclcq]; exact hC.shelf hdf hyf (RS.rows hy0 ha1 (by decide) ha2 (by omega) hz) (fun k_ hk_ => updH_o hk_)⟩))
            ·
              have hkk : k_ < hN hh9 nz := by rw [hnh9]; omega
              refine m_aload_n 0 rfl rfl dX11_day_71 ?_
              refine m_aload_n 0 rfl rfl dX11_day_72 ?_
              refine gf_X11_10 dX11_day_73 ?_
              refine gf_X11_99 (by decide) dX11_day_76 ?_
              refine m_iload_n 1 rfl rfl dX11_day_79 ?_
              refine m_callSi cs_X11_102 [.ref (gK G 10 0), .int (nI (cq))] [.ref (gK G 0 0)] (k_at (t := 10) (n := 8) l G (by decide) (ce_10 G _ _ _ _ _ _ _ _ _ 0) (by decide) (nI (cq))) rfl rfl ⟨Nat.le_of_ble_eq_true rfl, Nat.le_of_ble_eq_true rfl⟩ (Nat.le_of_ble_eq_true rfl) ⟨Nat.zero_le _, Nat.zero_le _⟩ dX11_day_80 (fun xx σ2 hq => ?_)
              obtain rfl : xx = A9 10 0 cq := hq.1.trans (atV_in (by omega) (by decide))
              obtain rfl := hq.2
              refine m_topi (hR.2.2.2.1 cq hcq).1 ?_
              refine m_iload 8 rfl dX11_day_83 ?_
              refine m_callVi cv_X11_210 [.int (nI (aH a_ cq)), .int (nI (k_))] [] (k_answerToSum l G a_ ho_ hR (shN h_ dq) (shX h_ dq) (shY h_ dq) hs9 (aH a_ cq) hch.1 k_ (by omega)) (by decide) (ce_0 G _ _ _ _ _ _ _ _ _ _) rfl rfl rfl ⟨Nat.le_of_ble_eq_true rfl, Nat.le_of_ble_eq_true rfl⟩ (Nat.le_of_ble_eq_true rfl) ⟨Nat.zero_le _, Nat.zero_le _⟩ dX11_day_85 (fun xx σ2 hq => ?_)
              obtain ⟨rfl, Z10, rfl, hwZ10⟩ := hq
              refine m_istore [(9, .int (nI (ansA a_ (aH a_ cq) (shX h_ dq k_) (shY h_ dq k_)))), (0, .ref (gK G 0 0)), (1, .int (nI (cq))), (2, .int (nI (dq))), (3, .int (nI (nz))), (4, .int sd8), (5, .ref (gK G 3 nz)), (6, .int (shRefI h_ (nI dq))), (7, .int (nI ((dyS a_ cq sd8 k_).2))), (8, .int (nI (k_)))] (by decide) rfl dX11_day_88 ?_
              refine m_aload_n 1 rfl rfl dX11_day_90 ?_
              refine m_bipush (100) dX11_day_91 rfl ?_
              refine m_callVi cv_X11_213 [.int 100] [] (k_draw l G 100 (by decide)) (by decide) (ce_0 G _ _ _ _ _ _ _ _ _ _) rfl rfl rfl ⟨Nat.le_of_ble_eq_true rfl, Nat.le_of_ble_eq_true rfl⟩ (Nat.le_of_ble_eq_true rfl) ⟨Nat.zero_le _, Nat.zero_le _⟩ dX11_day_93 (fun xx σ2 hq => ?_)
              obtain ⟨rfl, rfl⟩ := hq
              obtain ⟨S11, hS11⟩ : ∃ q_ : owF, q_ = up3 S9 0 0 14 (nxt (S9 0 0 14)) := ⟨_, rfl⟩
              rw [← hS11]
              refine m_aload_n 1 rfl rfl dX11_day_96 ?_
              refine gf_X11_10 dX11_day_97 ?_
              refine gf_X11_106 (by decide) dX11_day_100 ?_
              refine m_iload_n 2 rfl rfl dX11_day_103 ?_
              refine m_callSi cs_X11_102 [.ref (gK G 12 0), .int (nI (cq))] [.int (drI (nxt (S9 0 0 14)) 100)] (k_at (t := 12) (n := 8) l G (by decide) (ce_12 G _ _ _ _ _ _ _ _ _ 0) (by decide) (nI (cq))) rfl rfl ⟨Nat.le_of_ble_eq_true rfl, Nat.le_of_ble_eq_true rfl⟩ (Nat.le_of_ble_eq_true rfl) ⟨Nat.zero_le _, Nat.zero_le _⟩ dX11_day_104 (fun xx σ2 hq => ?_)
              obtain rfl : xx = A9 12 0 cq := hq.1.trans (atV_in (by omega) (by decide))
              obtain rfl := hq.2
              refine m_topi (hR.2.2.2.1 cq hcq).2.1 ?_
              refine m_icmp_ge 121 dX11_day_107 (by decide) (fun c13_ => ?_) (fun c13_ => ?_)
              ·
                have hcd : ¬ drI (nxt (dyS a_ cq sd8 k_).1) 100 < nI (aS a_ cq) := by rw [← hsd]; exact Int32.not_lt.mpr c13_
                refine m_aload 6 rfl dX11_day_121 ?_
                refine m_iload 9 rfl dX11_day_123 ?_
                refine m_iload 0 rfl dX11_day_125 ?_
                refine m_callVv cv_X11_219 [.int (nI (k_)), .int (nI (ansA a_ (aH a_ cq) (shX h_ dq k_) (shY h_ dq k_)))] [] (k_store l G nz hi_nz hh9 hrow k_ hkk (nI (ansA a_ (aH a_ cq) (shX h_ dq k_) (shY h_ dq k_)))) hi_nz (ce_3 G _ _ _ _ _ _ _ _ _ _) rfl rfl rfl ⟨Nat.le_of_ble_eq_true rfl, Nat.le_of_ble_eq_true rfl⟩ (Nat.le_of_ble_eq_true rfl) ⟨Nat.zero_le _, Nat.zero_le _⟩ dX11_day_127 (fun σ2 hq => ?_)
                obtain rfl := hq
                obtain ⟨A14, hA14⟩ : ∃ q_ : owF, q_ = up3 A9 16 nz k_ (narI (hSo hh9 nz) (nI (ansA a_ (aH a_ cq) (shX h_ dq k_) (shY h_ dq k_)))) := ⟨_, rfl⟩
                rw [← hA14]
                refine m_iinc (nI (k_ + 1)) 9 [(8, .int (nI (k_ + 1))), (9, .int (nI (ansA a_ (aH a_ cq) (shX h_ dq k_) (shY h_ dq k_)))), (0, .ref (gK G 0 0)), (1, .int (nI (cq))), (2, .int (nI (dq))), (3, .int (nI (nz))), (4, .int sd8), (5, .ref (gK G 3 nz)), (6, .int (shRefI h_ (nI dq))), (7, .int (nI ((dyS a_ cq sd8 k_).2)))] rfl (nI_1 _) (by decide) rfl dX11_day_130 ?_
                refine m_goto 62 dX11_day_133 (by decide) ?_
                refine m_lv [(0, .ref (gK G 0 0)), (1, .int (nI (cq))), (2, .int (nI (dq))), (3, .int (nI (nz))), (4, .int sd8), (5, .ref (gK G 3 nz)), (6, .int (shRefI h_ (nI dq))), (7, .int (nI ((dyS a_ cq sd8 k_).2))), (8, .int (nI (k_ + 1)))] [2, 3, 4, 5, 6, 7, 8, 9, 0] rfl ?_
                have ihx := ih62 (k_ + 1) A14 S11 Z10 (by omega) (by rw [dyS_n hcd, up3_e hS11, hsd]) (hs9.seed hS11) (dfr_up hdf hA14 (by decide)) (up3_t hA14 (by decide) ha1) (up3_t hA14 (by decide) ha2) (fun j_ hj => if qe : j_ = k_ then (by rw [qe]; refine (up3_e hA14).trans ?_; unfold dyT; rw [if_pos (Nat.lt_succ_self k_)]; exact (congrArg (fun q_ => narI q_ (nI (ansA a_ (aH a_ cq) (shX h_ dq k_) (shY h_ dq k_)))) hso9).trans (show narI 2 (nI (ansA a_ (aH a_ cq) (shX h_ dq k_) (shY h_ dq k_))) = dyV a_ h_ cq dq sd8 k_ by unfold dyV; rw [if_neg hcd]; rfl)) else (by refine (up3_j hA14 qe (hz j_ hj)).trans ?_; unfold dyT; by_cases ql : j_ < k_; rw [if_pos ql, if_pos (by omega)]; rw [if_neg ql, if_neg (by omega)])) (by omega)
                rw [dyS_n hcd] at ihx
                exact ihx
              ·
                have hcd : drI (nxt (dyS a_ cq sd8 k_).1) 100 < nI (aS a_ cq) := by rw [← hsd]; exact Int32.not_le.mp c13_
                refine m_aload_n 1 rfl rfl dX11_day_110 ?_
                refine m_iload 0 rfl dX11_day_111 ?_
                refine m_callVi cv_X11_216 [.int (nI (ansA a_ (aH a_ cq) (shX h_ dq k_) (shY h_ dq k_)))] [] (k_slipped l G (nI (ansA a_ (aH a_ cq) (shX h_ dq k_) (shY h_ dq k_)))) (by decide) (ce_0 G _ _ _ _ _ _ _ _ _ _) rfl rfl rfl ⟨Nat.le_of_ble_eq_true rfl, Nat.le_of_ble_eq_true rfl⟩ (Nat.le_of_ble_eq_true rfl) ⟨Nat.zero_le _, Nat.zero_le _⟩ dX11_day_113 (fun xx σ2 hq => ?_)
                obtain ⟨rfl, S15, rfl, hS15⟩ := hq
                refine m_istore [(9, .int (slpV (nI (ansA a_ (aH a_ cq) (shX h_ dq k_) (shY h_ dq k_))) (S11 0 0 14))), (0, .ref (gK G 0 0)), (1, .int (nI (cq))), (2, .int (nI (dq))), (3, .int (nI (nz))), (4, .int sd8), (5, .ref (gK G 3 nz)), (6, .int (shRefI h_ (nI dq))), (7, .int (nI ((dyS a_ cq sd8 k_).2))), (8, .int (nI (k_)))] (by decide) rfl dX11_day_116 ?_
                refine m_iinc (nI ((dyS a_ cq sd8 k_).2 + 1)) 8 [(7, .int (nI ((dyS a_ cq sd8 k_).2 + 1))), (9, .int (slpV (nI (ansA a_ (aH a_ cq) (shX h_ dq k_) (shY h_ dq k_))) (S11 0 0 14))), (0, .ref (gK G 0 0)), (1, .int (nI (cq))), (2, .int (nI (dq))), (3, .int (nI (nz))), (4, .int sd8), (5, .ref (gK G 3 nz)), (6, .int (shRefI h_ (nI dq))), (8, .int (nI (k_)))] rfl (nI_1 _) (by decide) rfl dX11_day_118 ?_
                refine m_aload 7 rfl dX11_day_121 ?_
                refine m_iload 9 rfl dX11_day_123 ?_
                refine m_iload 1 rfl dX11_day_125 ?_
                refine m_callVv cv_X11_219 [.int (nI (k_)), .int (slpV (nI (ansA a_ (aH a_ cq) (shX h_ dq k_) (shY h_ dq k_))) (S11 0 0 14))] [] (k_store l G nz hi_nz hh9 hrow k_ hkk (slpV (nI (ansA a_ (aH a_ cq) (shX h_ dq k_) (shY h_ dq k_))) (S11 0 0 14))) hi_nz (ce_3 G _ _ _ _ _ _ _ _ _ _) rfl rfl rfl ⟨Nat.le_of_ble_eq_true rfl, Nat.le_of_ble_eq_true rfl⟩ (Nat.le_of_ble_eq_true rfl) ⟨Nat.zero_le _, Nat.zero_le _⟩ dX11_day_127 (fun σ2 hq => ?_)
                obtain rfl := hq
                obtain ⟨A16, hA16⟩ : ∃ q_ : owF, q_ = up3 A9 16 nz k_ (narI (hSo hh9 nz) (slpV (nI (ansA a_ (aH a_ cq) (shX h_ dq k_) (shY h_ dq k_))) (S11 0 0 14))) := ⟨_, rfl⟩
                rw [← hA16]
                refine m_iinc (nI (k_ + 1)) 9 [(8, .int (nI (k_ + 1))), (7, .int (nI ((dyS a_ cq sd8 k_).2 + 1))), (9, .int (slpV (nI (ansA a_ (aH a_ cq) (shX h_ dq k_) (shY h_ dq k_))) (S11 0 0 14))), (0, .ref (gK G 0 0)), (1, .int (nI (cq))), (2, .int (nI (dq))), (3, .int (nI (nz))), (4, .int sd8), (5, .ref (gK G 3 nz)), (6, .int (shRefI h_ (nI dq)))] rfl (nI_1 _) (by decide) rfl dX11_day_130 ?_
                refine m_goto 62 dX11_day_133 (by decide) ?_
                refine m_lv [(0, .ref (gK G 0 0)), (1, .int (nI (cq))), (2, .int (nI (dq))), (3, .int (nI (nz))), (4, .int sd8), (5, .ref (gK G 3 nz)), (6, .int (shRefI h_ (nI dq))), (7, .int (nI ((dyS a_ cq sd8 k_).2 + 1))), (8, .int (nI (k_ + 1)))] [3, 4, 5, 6, 7, 8, 9, 1, 0] rfl ?_
                have ihx := ih62 (k_ + 1) A16 S15 Z10 (by omega) (by rw [dyS_y hcd, hS15, up3_e rfl, up3_e hS11, hsd]) ((hs9.seed hS11).seed hS15) (dfr_up hdf hA16 (by decide)) (up3_t hA16 (by decide) ha1) (up3_t hA16 (by decide) ha2) (fun j_ hj => if qe : j_ = k_ then (by rw [qe]; refine (up3_e hA16).trans ?_; unfold dyT; rw [if_pos (Nat.lt_succ_self k_)]; exact (congrArg (fun q_ => narI q_ (slpV (nI (ansA a_ (aH a_ cq) (shX h_ dq k_) (shY h_ dq k_))) (S11 0 0 14))) hso9).trans (show narI 2 (slpV (nI (ansA a_ (aH a_ cq) (shX h_ dq k_) (shY h_ dq k_))) (S11 0 0 14)) = dyV a_ h_ cq dq sd8 k_ by unfold dyV; rw [if_pos hcd, up3_e hS11, hsd]; rfl)) else (by refine (up3_j hA16 qe (hz j_ hj)).trans ?_; unfold dyT; by_cases ql : j_ < k_; rw [if_pos ql, if_pos (by omega)]; rw [if_neg ql, if_neg (by omega)])) (by omega)
                rw [dyS_y hcd] at ihx
                exact ihx
        refine m_lv [(0, .ref (gK G 0 0)), (1, .int (nI (cq))), (2, .int (nI (dq))), (3, .int (nI (nz))), (4, .int sd8), (5, .ref (gK G 3 nz)), (6, .int (shRefI h_ (nI dq))), (7, .int 0), (8, .int 0)] [4, 5, 6, 7, 8, 3, 2, 1, 0] rfl ?_
        exact lp62 ((shN h_ dq - 0) + 1) 0 A6 S5 Z (Nat.zero_le _) (up3_e hS5) (hs_.seed hS5) hdf ha1 ha2 (fun j_ hj => (hz j_ hj).trans (by unfold dyT; rw [if_neg (Nat.not_lt_zero j_)])) (Nat.lt_succ_self _)
      ·
        refine m_iload 0 rfl dX11_day_37 ?_
        exact m_iret dX11_day_39 (Nat.le_refl _) (Nat.le_refl _) (⟨by unfold dayI; rw [if_pos ⟨isC_of ho_ hcq, isD_of hnz⟩, if_neg c4_], _, _, _, _, _, rfl, by unfold dayH dayB; rw [decide_eq_false c4_, Bool.and_false, Bool.and_false]; exact hC⟩)
