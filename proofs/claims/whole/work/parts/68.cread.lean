/-! the class's reading of a whole text -/
def misI : Option Nat → Int32
  | none => -1
  | some m => nI m
theorem p2R_end {h : owH} {d : Nat} {p : Nat} {b : owK} (hp : hN h d ≤ p) : ∀ f, p2R h d f p b = (none, b)
  | 0 => rfl
  | _ + 1 => if_neg (Nat.not_lt.mpr hp)
theorem row_sfr {i d : Nat} {A A2 : owF} {Y Y2 : Nat → Nat → Nat → Option Nat} {h : owH} (r : hK h d = 2 ∧ Y 3 d 0 = none ∧ A 3 d 1 = nI (hSo h d) ∧ hSo h d ≤ 2 ∧ A 3 d 2 = nI (hN h d) ∧ hN h d ≤ 100 ∧ ∀ j, j < 100 → A 16 d j = hE h d j) (hs : sfr i A A2) (hy : yfr i Y Y2) : hK h d = 2 ∧ Y2 3 d 0 = none ∧ A2 3 d 1 = nI (hSo h d) ∧ hSo h d ≤ 2 ∧ A2 3 d 2 = nI (hN h d) ∧ hN h d ≤ 100 ∧ ∀ j, j < 100 → A2 16 d j = hE h d j := by
  have e3 : ∀ c, A2 3 d c = A 3 d c := fun c => hs 3 d c (fun q => absurd q.2 (by decide))
  have e16 : ∀ c, A2 16 d c = A 16 d c := fun c => hs 16 d c (fun q => absurd q.2 (by decide))
  have ey : Y2 3 d 0 = Y 3 d 0 := hy 3 d 0 (fun q => absurd q.2 (by decide))
  exact ⟨r.1, ey.trans r.2.1, (e3 1).trans r.2.2.1, r.2.2.2.1, (e3 2).trans r.2.2.2.2.1, r.2.2.2.2.2.1, fun j hj => (e16 j).trans (r.2.2.2.2.2.2 j hj)⟩
theorem sfr_tr {i : Nat} {A A2 A3 : owF} (h : sfr i A A2) (g : sfr i A2 A3) : sfr i A A3 := fun t k c n => (g t k c n).trans (h t k c n)
theorem yfr_tr {i : Nat} {A A2 A3 : Nat → Nat → Nat → Option Nat} (h : yfr i A A2) (g : yfr i A2 A3) : yfr i A A3 := fun t k c n => (g t k c n).trans (h t k c n)
theorem CR.other {A A2 : owF} {Y Y2 : Nat → Nat → Nat → Option Nat} {P P2 : Nat → Option owW} {a : owK} {im : Option owK} {h : owH} (hC : CR A Y P a im h) (hs : sfr 1 A A2) (hy : yfr 1 Y Y2) (hp : PX P P2) (hk : YOk Y2 P2) : CR A2 Y2 P2 a im h :=
  ⟨(hC.1.keep hs hy (by decide)).P hp, (hs 0 0 3 (fun q => absurd q.2 (by decide))).trans hC.2.1, fun b hb => ((hC.2.2.1 b hb).keep hs hy (by decide)).P hp, fun d hd => ((hC.2.2.2.1 d hd).sch hs hy).P hp, hk⟩
set_option maxRecDepth 100000 in
set_option maxHeartbeats 4000000 in
theorem k_c_readFrom (l : Launch) (G : owG) {A S Z B T V : owF} {J : Nat → Nat → Int64} {Y : Nat → Nat → Nat → Option Nat} {P : Nat → Option owW} (d_ : Nat) (hd_ : d_ < owN 3) (h_ : owH) (hrow : hK h_ d_ = 2 ∧ Y 3 d_ 0 = none ∧ A 3 d_ 1 = nI (hSo h_ d_) ∧ hSo h_ d_ ≤ 2 ∧ A 3 d_ 2 = nI (hN h_ d_) ∧ hN h_ d_ ≤ 100 ∧ ∀ j_, j_ < 100 → A 16 d_ j_ = hE h_ d_ j_) (a_ : owK) (ho_ : aOk a_) (hR : RX A Y P 1 a_) (hyk : YOk Y P) : Ct l G yX5_readFrom cX5_readFrom 5 ((some .int)) 9 25 100 [.ref (gK G 1 1), .ref (gK G 3 d_)] (A, S, Z, B, T, V, J, Y, P) (qI (fun r_ σ => r_ = gpI h_ d_ a_ ∧ ∃ (A2 S2 : owF) (Y2 : Nat → Nat → Nat → Option Nat) (P2 : Nat → Option owW), σ = (A2, S2, Z, B, T, V, J, Y2, P2) ∧ sfr 1 A A2 ∧ yfr 1 Y Y2 ∧ PX P P2 ∧ YOk Y2 P2 ∧ (gpA h_ d_ a_ = true → RX A2 Y2 P2 1 (p2R h_ d_ 101 0 a_).2 ∧ aOk (p2R h_ d_ 101 0 a_).2))) := by
  refine ct_of (by decide +kernel) (Nat.le_of_ble_eq_true rfl) ?_
  have hn100 := hrow.2.2.2.2.2.1
  show Wm l G cX5_readFrom 5 RX5 ((some .int)) (rmk 9 25 100) (fun _ => True) (QfM G (qI (fun r_ σ => r_ = gpI h_ d_ a_ ∧ ∃ (A2 S2 : owF) (Y2 : Nat → Nat → Nat → Option Nat) (P2 : Nat → Option owW), σ = (A2, S2, Z, B, T, V, J, Y2, P2) ∧ sfr 1 A A2 ∧ yfr 1 Y Y2 ∧ PX P P2 ∧ YOk Y2 P2 ∧ (gpA h_ d_ a_ = true → RX A2 Y2 P2 1 (p2R h_ d_ 101 0 a_).2 ∧ aOk (p2R h_ d_ 101 0 a_).2))) 25 100) 0 [(0, .ref (gK G 1 1)), (1, .ref (gK G 3 d_))] [] (A, S, Z, B, T, V, J, Y, P) 0 0
  refine m_iconst (-1) dX5_readFrom_0 rfl ?_
  refine m_istore_n [(2, .int (-1)), (0, .ref (gK G 1 1)), (1, .ref (gK G 3 d_))] rfl (by decide) rfl dX5_readFrom_1 ?_
  refine m_iconst 0 dX5_readFrom_2 rfl ?_
  refine m_istore_n [(3, .int 0), (2, .int (-1)), (0, .ref (gK G 1 1)), (1, .ref (gK G 3 d_))] rfl (by decide) rfl dX5_readFrom_3 ?_
  refine m_aload_n 2 rfl rfl dX5_readFrom_4 ?_
  refine m_iconst 0 dX5_readFrom_5 rfl ?_
  refine pf_X5_62 (by decide) dX5_readFrom_6 (fun S1 hS1 => ?_)
  have lp9 : ∀ (dd : Nat) (p_ : Nat) (c_ : Nat) (b_ : owK) (mis : Option Nat) (A9 : owF) (S9 : owF) (Y9 : Nat → Nat → Nat → Option Nat) (P9 : Nat → Option owW), p_ ≤ hN h_ d_ → 4 * c_ ≤ p_ → S9 1 1 7 = nI p_ → p1R h_ d_ (101 - c_) p_ c_ = p1R h_ d_ 101 0 0 → aOk b_ → RX A9 Y9 P9 1 b_ → sfr 1 A A9 → yfr 1 Y Y9 → PX P P9 → YOk Y9 P9 → (mis = none → p2R h_ d_ (101 - c_) p_ b_ = p2R h_ d_ 101 0 a_) → (∀ m_, mis = some m_ → p2R h_ d_ 101 0 a_ = (some m_, b_) ∧ m_ ≤ 100) → 101 - c_ < dd → Wm l G cX5_readFrom 5 RX5 ((some .int)) (rmk 9 25 100) (fun _ => True) (QfM G (qI (fun r_ σ => r_ = gpI h_ d_ a_ ∧ ∃ (A2 S2 : owF) (Y2 : Nat → Nat → Nat → Option Nat) (P2 : Nat → Option owW), σ = (A2, S2, Z, B, T, V, J, Y2, P2) ∧ sfr 1 A A2 ∧ yfr 1 Y Y2 ∧ PX P P2 ∧ YOk Y2 P2 ∧ (gpA h_ d_ a_ = true → RX A2 Y2 P2 1 (p2R h_ d_ 101 0 a_).2 ∧ aOk (p2R h_ d_ 101 0 a_).2))) 25 100) 9 [(0, .ref (gK G 1 1)), (1, .ref (gK G 3 d_)), (2, .int (misI mis)), (3, .int (nI (c_)))] [] (A9, S9, Z, B, T, V, J, Y9, P9) c_ (4 * c_) := by
    intro dd
    induction dd with
    | zero => intro p_ c_ b_ mis A9 S9 Y9 P9 hp hcp4 hpos h1_ hob hRb hsf hyf hpx hyk9 h2n h2s hdd; exact absurd hdd (Nat.not_lt_zero _)
    | succ dd ih9 =>
      intro p_ c_ b_ mis A9 S9 Y9 P9 hp hcp4 hpos h1_ hob hRb hsf hyf hpx hyk9 h2n h2s hdd9
      have hrow9 := row_sfr hrow hsf hyf
      refine m_aload_n 0 rfl rfl dX5_readFrom_9 ?_
      refine gf_X5_62 (by decide) dX5_readFrom_10 ?_
      refine m_topi hpos ?_
      refine m_istore [(4, .int (nI (p_))), (0, .ref (gK G 1 1)), (1, .ref (gK G 3 d_)), (2, .int (misI mis)), (3, .int (nI (c_)))] (by decide) rfl dX5_readFrom_13 ?_
      refine m_aload_n 1 rfl rfl dX5_readFrom_15 ?_
      refine m_aload_n 2 rfl rfl dX5_readFrom_16 ?_
      refine m_callVi cv_X5_65 [.ref (gK G 3 d_)] [] (k_c_statement l G d_ hd_ h_ hrow9 p_ hp hpos) (by decide) (ce_1 G _ _ _ _ _ _ _ _ _ _) rfl rfl rfl ⟨Nat.le_of_ble_eq_true rfl, Nat.le_of_ble_eq_true rfl⟩ (Nat.le_of_ble_eq_true rfl) ⟨by show c_ ≤ 25; omega, by show (4 * c_) ≤ 100; omega⟩ dX5_readFrom_17 (fun xx σ2 hq => ?_)
      obtain ⟨rfl, S2, rfl, hs0, hs1⟩ := hq
      refine m_ifne_b 32 dX5_readFrom_20 (by decide) (fun c3_ => ?_) (fun c3_ => ?_)
      ·
        have hR := p1R_s (by omega) h1_
        have hst := c3_
        have hy_ := stS_y hst
        rw [hst, if_pos rfl] at hR
        rcases mis with _ | m_
        ·
          have hR8 := p2R_s (by omega) (h2n rfl)
          rw [if_pos hy_.1] at hR8
          refine m_iload_n 3 rfl rfl dX5_readFrom_32 ?_
          refine m_if_ge 46 dX5_readFrom_33 (by decide) (fun c4_ => absurd c4_ (by decide)) (fun _ => ?_)
          refine m_aload_n 1 rfl rfl dX5_readFrom_36 ?_
          refine m_callVia cv_X5_69 [] [] (k_c_takes l G b_ hob hRb hyk9 h_ d_ p_ hst (hs1 hst).1 (hs1 hst).2.1 (hs1 hst).2.2.1 (hs1 hst).2.2.2) (by decide) (ce_1 G _ _ _ _ _ _ _ _ _ _) rfl rfl rfl ⟨Nat.le_of_ble_eq_true rfl, Nat.le_of_ble_eq_true rfl⟩ (Nat.le_of_ble_eq_true rfl) ⟨by show c_ + 1 ≤ 25; omega, by show (4 * c_) + 4 ≤ 100; omega⟩ dX5_readFrom_37 (fun xx σ2 hq => ?_)
          obtain ⟨rfl, A5, Y6, P7, rfl, hsn, hyn, hpn, hRn, hykn⟩ := hq
          refine m_ifne_b 46 dX5_readFrom_40 (by decide) (fun c8_ => ?_) (fun c8_ => ?_)
          ·
            have htf := c8_
            rw [htf] at hR8 hRn
            rw [if_pos rfl] at hR8 hRn
            refine m_iinc (nI (c_ + 1)) 4 [(3, .int (nI (c_ + 1))), (4, .int (nI (p_))), (0, .ref (gK G 1 1)), (1, .ref (gK G 3 d_)), (2, .int (-1))] rfl (nI_1 _) (by decide) rfl dX5_readFrom_46 ?_
            refine m_iload_n 0 rfl rfl dX5_readFrom_49 ?_
            refine m_bipush (100) dX5_readFrom_50 rfl ?_
            refine m_icmpn_ge (c_ + 1) 100 66 (by omega) (by decide) dX5_readFrom_52 (by decide) (fun c9_ => ?_) (fun c9_ => ?_)
            ·
              exact m_dead (by first | omega | assumption)
            ·
              refine m_aload_n 2 rfl rfl dX5_readFrom_55 ?_
              refine gf_X5_62 (by decide) dX5_readFrom_56 ?_
              refine m_topi hs0 ?_
              refine m_aload_n 3 rfl rfl dX5_readFrom_59 ?_
              refine gf_X5_73 hd_ dX5_readFrom_60 ?_
              refine m_topi (row_sfr hrow9 hsn hyn).2.2.2.2.1 ?_
              refine m_icmpn_lt ((stS h_ d_ p_).2) (hN h_ d_) 9 (by omega) (by omega) dX5_readFrom_63 (by decide) (fun c10_ => ?_) (fun c10_ => ?_)
              ·
                rw [if_pos c10_] at hR
                refine m_lv [(0, .ref (gK G 1 1)), (1, .ref (gK G 3 d_)), (2, .int (-1)), (3, .int (nI (c_ + 1)))] [2, 3, 4, 0] rfl ?_
                refine m_widen (k := c_ + 1) (n := 4 * (c_ + 1)) (by omega) (by omega) ?_
                exact ih9 ((stS h_ d_ p_).2) (c_ + 1) (tfA h_ d_ p_ b_) none A5 S2 Y6 P7 (by omega) (by omega) hs0 hR (tfA_ok hob hst htf) hRn (sfr_tr hsf hsn) (yfr_tr hyf hyn) (hpx.trans hpn) hykn (fun _ => hR8) (fun _ z_ => absurd z_ (by simp)) (by omega)
              ·
                rw [if_neg (Nat.not_lt.mpr c10_)] at hR
                have hR2 : p1R h_ d_ 101 0 0 = (true, c_ + 1) := hR.symm
                refine m_iload_n 4 rfl rfl dX5_readFrom_66 ?_
                refine m_if_ge 74 dX5_readFrom_67 (by decide) (fun c11_ => absurd c11_ (by decide)) (fun _ => ?_)
                refine m_iload_n 0 rfl rfl dX5_readFrom_70 ?_
                refine m_goto 79 dX5_readFrom_71 (by decide) ?_
                exact m_iret dX5_readFrom_79 (by omega) (by omega) ((by have hR7 : p2R h_ d_ 101 0 a_ = (none, tfA h_ d_ p_ b_) := hR8.symm.trans (p2R_end (by omega) _); exact ⟨by unfold gpI; rw [hR2, hR7]; rfl, A5, S2, Y6, P7, rfl, (sfr_tr hsf hsn), (yfr_tr hyf hyn), (hpx.trans hpn), hykn, fun _ => by rw [hR7]; exact ⟨hRn, tfA_ok hob hst htf⟩⟩))
          ·
            have htf := c8_
            rw [htf] at hR8 hRn
            have hR7 : p2R h_ d_ 101 0 a_ = (some p_, b_) := hR8.symm
            refine m_iload 0 rfl dX5_readFrom_43 ?_
            refine m_istore_n [(2, .int (nI (p_))), (4, .int (nI (p_))), (0, .ref (gK G 1 1)), (1, .ref (gK G 3 d_)), (3, .int (nI (c_)))] rfl (by decide) rfl dX5_readFrom_45 ?_
            refine m_iinc (nI (c_ + 1)) 4 [(3, .int (nI (c_ + 1))), (2, .int (nI (p_))), (4, .int (nI (p_))), (0, .ref (gK G 1 1)), (1, .ref (gK G 3 d_))] rfl (nI_1 _) (by decide) rfl dX5_readFrom_46 ?_
            refine m_iload_n 0 rfl rfl dX5_readFrom_49 ?_
            refine m_bipush (100) dX5_readFrom_50 rfl ?_
            refine m_icmpn_ge (c_ + 1) 100 66 (by omega) (by decide) dX5_readFrom_52 (by decide) (fun c12_ => ?_) (fun c12_ => ?_)
            ·
              exact m_dead (by first | omega | assumption)
            ·
              refine m_aload_n 3 rfl rfl dX5_readFrom_55 ?_
              refine gf_X5_62 (by decide) dX5_readFrom_56 ?_
              refine m_topi hs0 ?_
              refine m_aload_n 4 rfl rfl dX5_readFrom_59 ?_
              refine gf_X5_73 hd_ dX5_readFrom_60 ?_
              refine m_topi (row_sfr hrow9 hsn hyn).2.2.2.2.1 ?_
              refine m_icmpn_lt ((stS h_ d_ p_).2) (hN h_ d_) 9 (by omega) (by omega) dX5_readFrom_63 (by decide) (fun c13_ => ?_) (fun c13_ => ?_)
              ·
                rw [if_pos c13_] at hR
                refine m_lv [(0, .ref (gK G 1 1)), (1, .ref (gK G 3 d_)), (2, .int (nI (p_))), (3, .int (nI (c_ + 1)))] [3, 4, 1, 0] rfl ?_
                refine m_widen (k := c_ + 1) (n := 4 * (c_ + 1)) (by omega) (by omega) ?_
                exact ih9 ((stS h_ d_ p_).2) (c_ + 1) b_ ((some p_)) A5 S2 Y6 P7 (by omega) (by omega) hs0 hR hob hRn (sfr_tr hsf hsn) (yfr_tr hyf hyn) (hpx.trans hpn) hykn (fun z_ => absurd z_ (by simp)) (fun m2 z_ => by obtain rfl := Option.some.inj z_; exact ⟨hR7, by omega⟩) (by omega)
              ·
                rw [if_neg (Nat.not_lt.mpr c13_)] at hR
                have hR2 : p1R h_ d_ 101 0 0 = (true, c_ + 1) := hR.symm
                refine m_iload_n 1 rfl rfl dX5_readFrom_66 ?_
                refine m_ifn_ge p_ 74 (by omega) dX5_readFrom_67 (by decide) (fun _ => ?_) (fun c14_ => m_dead c14_)
                refine m_sipush (-2000) dX5_readFrom_74 rfl ?_
                refine m_iload_n 1 rfl rfl dX5_readFrom_77 ?_
                refine m_isub dX5_readFrom_78 ?_
                exact m_iret dX5_readFrom_79 (by omega) (by omega) (⟨by unfold gpI; rw [hR2, hR7]; rfl, A5, S2, Y6, P7, rfl, (sfr_tr hsf hsn), (yfr_tr hyf hyn), (hpx.trans hpn), hykn, fun q_ => absurd (show false = true from (show gpA h_ d_ a_ = false from by unfold gpA; rw [hR2, hR7]; rfl).symm.trans q_) (by decide)⟩)
        ·
          have hms := h2s m_ rfl
          refine m_iload_n 3 rfl rfl dX5_readFrom_32 ?_
          refine m_ifn_ge m_ 46 (by omega) dX5_readFrom_33 (by decide) (fun _ => ?_) (fun c15_ => m_dead c15_)
          refine m_iinc (nI (c_ + 1)) 4 [(3, .int (nI (c_ + 1))), (4, .int (nI (p_))), (0, .ref (gK G 1 1)), (1, .ref (gK G 3 d_)), (2, .int (nI (m_)))] rfl (nI_1 _) (by decide) rfl dX5_readFrom_46 ?_
          refine m_iload_n 0 rfl rfl dX5_readFrom_49 ?_
          refine m_bipush (100) dX5_readFrom_50 rfl ?_
          refine m_icmpn_ge (c_ + 1) 100 66 (by omega) (by decide) dX5_readFrom_52 (by decide) (fun c16_ => ?_) (fun c16_ => ?_)
          ·
            exact m_dead (by first | omega | assumption)
          ·
            refine m_aload_n 2 rfl rfl dX5_readFrom_55 ?_
            refine gf_X5_62 (by decide) dX5_readFrom_56 ?_
            refine m_topi hs0 ?_
            refine m_aload_n 3 rfl rfl dX5_readFrom_59 ?_
            refine gf_X5_73 hd_ dX5_readFrom_60 ?_
            refine m_topi hrow9.2.2.2.2.1 ?_
            refine m_icmpn_lt ((stS h_ d_ p_).2) (hN h_ d_) 9 (by omega) (by omega) dX5_readFrom_63 (by decide) (fun c17_ => ?_) (fun c17_ => ?_)
            ·
              rw [if_pos c17_] at hR
              refine m_lv [(0, .ref (gK G 1 1)), (1, .ref (gK G 3 d_)), (2, .int (nI (m_))), (3, .int (nI (c_ + 1)))] [2, 3, 4, 0] rfl ?_
              refine m_widen (k := c_ + 1) (n := 4 * (c_ + 1)) (by omega) (by omega) ?_
              exact ih9 ((stS h_ d_ p_).2) (c_ + 1) b_ ((some m_)) A9 S2 Y9 P9 (by omega) (by omega) hs0 hR hob hRb hsf hyf hpx hyk9 (fun z_ => absurd z_ (by simp)) (fun m2 z_ => by obtain rfl := Option.some.inj z_; exact hms) (by omega)
            ·
              rw [if_neg (Nat.not_lt.mpr c17_)] at hR
              have hR2 : p1R h_ d_ 101 0 0 = (true, c_ + 1) := hR.symm
              refine m_iload_n 4 rfl rfl dX5_readFrom_66 ?_
              refine m_ifn_ge m_ 74 (by omega) dX5_readFrom_67 (by decide) (fun _ => ?_) (fun c18_ => m_dead c18_)
              refine m_sipush (-2000) dX5_readFrom_74 rfl ?_
              refine m_iload_n 4 rfl rfl dX5_readFrom_77 ?_
              refine m_isub dX5_readFrom_78 ?_
              exact m_iret dX5_readFrom_79 (by omega) (by omega) (⟨by unfold gpI; rw [hR2, hms.1]; rfl, A9, S2, Y9, P9, rfl, hsf, hyf, hpx, hyk9, fun q_ => absurd (show false = true from (show gpA h_ d_ a_ = false from by unfold gpA; rw [hR2, hms.1]; rfl).symm.trans q_) (by decide)⟩)
      ·
        have hR := p1R_s (by omega) h1_
        rw [c3_] at hR
        have hR2 : p1R h_ d_ 101 0 0 = (false, (stS h_ d_ p_).2) := hR.symm
        have hpl := stS_le (h := h_) (d := d_) hp
        refine m_sipush (-1000) dX5_readFrom_23 rfl ?_
        refine m_aload_n 1 rfl rfl dX5_readFrom_26 ?_
        refine gf_X5_62 (by decide) dX5_readFrom_27 ?_
        refine m_topi hs0 ?_
        refine m_isub dX5_readFrom_30 ?_
        exact m_iret dX5_readFrom_31 (by omega) (by omega) (⟨by unfold gpI; rw [hR2]; rfl, A9, S2, Y9, P9, rfl, hsf, hyf, hpx, hyk9, fun q_ => absurd (show false = true from (show gpA h_ d_ a_ = false from by unfold gpA; rw [hR2]; rfl).symm.trans q_) (by decide)⟩)
  refine m_lv [(0, .ref (gK G 1 1)), (1, .ref (gK G 3 d_)), (2, .int (-1)), (3, .int 0)] [2, 3, 1, 0] rfl ?_
  exact lp9 ((101 - 0) + 1) 0 0 a_ none A S1 Y P (Nat.zero_le _) (Nat.zero_le _) (up3_e hS1) rfl ho_ hR sfr_rf yfr_rf PX_rf hyk (fun _ => rfl) (fun _ z_ => absurd z_ (by simp)) (Nat.lt_succ_self _)
