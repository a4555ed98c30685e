theorem boRefI_neg {h : owH} {x z : Int32} (q : ¬ boRefI h x z = 0) : boRefI h x z < 0 := by
  have h1 : ∀ d, shRef h d = 0 ∨ shRef h d < 0 := by
    intro d
    unfold shRef
    repeat' split
    all_goals first | exact Or.inl rfl | exact Or.inr (by decide)
  have h2 : ∀ d n, anRef h d n = 0 ∨ anRef h d n < 0 := by
    intro d n
    unfold anRef
    repeat' split
    all_goals first | exact Or.inl rfl | exact Or.inr (by decide)
  have h3 : shRefI h x = 0 ∨ shRefI h x < 0 := by
    unfold shRefI
    split
    · exact h1 _
    · exact Or.inr (by decide)
  have h4 : ∀ n, anRefI h z n = 0 ∨ anRefI h z n < 0 := by
    intro n
    unfold anRefI
    split
    · exact h2 _ _
    · exact Or.inr (by decide)
  unfold boRefI at q ⊢
  by_cases h0 : shRefI h x = 0
  · rw [if_pos h0] at q ⊢
    exact (h4 _).resolve_left q
  · rw [if_neg h0] at q ⊢
    exact h3.resolve_left q
theorem likelyI_nn {a : owK} {h : owH} {d e : Int32} (ho : aOk a) (q : 0 ≤ likelyI a h d e) : ∃ b, boRefI h d e = 0 ∧ likA a (rN h d) (rX h d) (rQ h d) (rV h e) = some b ∧ likelyI a h d e = nI b ∧ b < aN a := by
  by_cases h0 : boRefI h d e = 0
  · unfold likelyI at q ⊢
    rw [if_pos h0] at q ⊢
    cases hl : likA a (rN h d) (rX h d) (rQ h d) (rV h e) with
    | none => rw [hl] at q; exact absurd q (by decide)
    | some b => exact ⟨b, h0, rfl, rfl, likS_lt hl⟩
  · have h1 := boRefI_neg h0
    unfold likelyI at q
    rw [if_neg h0] at q
    exact absurd h1 (Int32.not_lt.mpr q)
theorem lacksI_n {a : owK} {h : owH} {d e : Int32} (ho : aOk a) (q : ¬ 0 ≤ likelyI a h d e) : lacksI a h d e = likelyI a h d e := by
  have h10 := ho.1
  unfold lacksI likelyI at *
  by_cases h0 : boRefI h d e = 0
  · rw [if_pos h0] at q ⊢
    rw [if_pos h0]
    cases hl : likA a (rN h d) (rX h d) (rQ h d) (rV h e) with
    | none => rfl
    | some b =>
      rw [hl] at q
      have := likS_lt hl
      exact absurd (nI_pos' (show b < 2 ^ 31 by omega)) q
  · rw [if_neg h0] at q ⊢
    rw [if_neg h0]
theorem fw_and {a : owK} {n : Nat} {X Q : Nat → Nat} {V : Nat → Int32} {x y k : Nat} {v : Int32} (ho : aOk a) (hk : k < aN a) : amongB (fitA a n X Q V 0 &&& whoA a x y v) (nI k) = (amongB (fitA a n X Q V 0) (nI k) && decide (nI (ansA a k x y) = v)) := by
  have h10 := ho.1
  unfold fitA whoA
  rw [among_and2 (by omega) (by omega), among_orI (by omega) (by omega), decide_eq_true hk, Bool.true_and, Bool.true_and]
set_option maxRecDepth 100000 in
set_option maxHeartbeats 4000000 in
theorem k_m_odds (l : Launch) (G : owG) {A S Z B T V : owF} {J : Nat → Nat → Int64} {Y : Nat → Nat → Nat → Option Nat} {P : Nat → Option owW} (a_ : owK) (ho_ : aOk a_) (im : Option owK) (h_ : owH) (hM : MR B a_ im h_) (v_ x_ z_ p_ : Int32) : Ct l G yX12_odds cX12_odds 10 ((some .int)) 48 0 0 [.ref (gK G 4 0), .int v_, .int x_, .int z_, .int p_] (A, S, Z, B, T, V, J, Y, P) (qI (fun r_ σ => r_ = oddsI a_ h_ v_ x_ z_ p_ ∧ ∃ (T2 V2 : owF), σ = (A, S, Z, B, T2, V2, J, Y, P))) := by
  refine ct_of (by decide +kernel) (Nat.le_of_ble_eq_true rfl) ?_
  have h10 := ho_.1
  have h8_ := ho_.2.1
  have hX := hM.1
  show Wm l G cX12_odds 10 RX12 ((some .int)) (rmk 48 0 0) (fun _ => True) (QfM G (qI (fun r_ σ => r_ = oddsI a_ h_ v_ x_ z_ p_ ∧ ∃ (T2 V2 : owF), σ = (A, S, Z, B, T2, V2, J, Y, P))) 0 0) 0 [(0, .ref (gK G 4 0)), (1, .int v_), (2, .int x_), (3, .int z_), (4, .int p_)] [] (A, S, Z, B, T, V, J, Y, P) 0 0
  refine m_aload_n 0 rfl rfl dX12_odds_0 ?_
  refine m_iload_n 1 rfl rfl dX12_odds_1 ?_
  refine m_callVi cv_X12_114 [.int v_] [] (k_m_isWay l G a_ ho_ im h_ hM v_) (by decide) (ce_4 G _ _ _ _ _ _ _ _ _ _) rfl rfl rfl ⟨Nat.le_of_ble_eq_true rfl, Nat.le_of_ble_eq_true rfl⟩ (Nat.le_of_ble_eq_true rfl) ⟨Nat.zero_le _, Nat.zero_le _⟩ dX12_odds_2 (fun xx σ2 hq => ?_)
  obtain ⟨rfl, rfl⟩ := hq
  refine m_ifeq_b 19 dX12_odds_5 (by decide) (fun c1_ => ?_) (fun c1_ => ?_)
  ·
    refine m_iconst (-1) dX12_odds_19 rfl ?_
    exact m_iret dX12_odds_20 (Nat.le_refl _) (Nat.le_refl _) (⟨by first | (simp [oddsI, c1_]; done) | (simp_all [oddsI, rN, rX, rQ, rV]; done) | grind [oddsI], _, _, rfl⟩)
  ·
    have hwc := c1_
    obtain ⟨wq, hwq, rfl⟩ := isW_nat ho_ c1_
    have hclwq : (nI wq).toNatClampNeg = wq := nI_clamp (by omega)
    refine m_iload 4 rfl dX12_odds_8 ?_
    refine m_i2l dX12_odds_10 ?_
    refine m_lconst 0 dX12_odds_11 rfl ?_
    refine m_topl (show (0 : Int64) = (0 : Int32).toInt64 by decide) ?_
    refine m_lconst 1 dX12_odds_12 rfl ?_
    refine m_topl (show (1 : Int64) = (1 : Int32).toInt64 by decide) ?_
    refine m_callSi cs_X12_62 [.long (p_.toInt64), .long ((0 : Int32).toInt64), .long ((1 : Int32).toInt64)] [] (k_m_isIn l G p_ 0 1) rfl rfl ⟨Nat.le_of_ble_eq_true rfl, Nat.le_of_ble_eq_true rfl⟩ (Nat.le_of_ble_eq_true rfl) ⟨Nat.zero_le _, Nat.zero_le _⟩ dX12_odds_13 (fun xx σ2 hq => ?_)
    obtain ⟨hgx, rfl⟩ := hq
    obtain rfl := hgx.trans (congrArg bI (inB_01))
    refine m_ifne_b 21 dX12_odds_16 (by decide) (fun c2_ => ?_) (fun c2_ => ?_)
    ·
      refine m_aload_n 0 rfl rfl dX12_odds_21 ?_
      refine m_iload_n 2 rfl rfl dX12_odds_22 ?_
      refine m_iload_n 3 rfl rfl dX12_odds_23 ?_
      refine m_callVi cv_X12_187 [.int x_, .int z_] [] (k_m_wrongBoth l G a_ ho_ im h_ hM x_ z_) (by decide) (ce_4 G _ _ _ _ _ _ _ _ _ _) rfl rfl rfl ⟨Nat.le_of_ble_eq_true rfl, Nat.le_of_ble_eq_true rfl⟩ (Nat.le_of_ble_eq_true rfl) ⟨Nat.zero_le _, Nat.zero_le _⟩ dX12_odds_24 (fun xx σ2 hq => ?_)
      obtain ⟨rfl, rfl⟩ := hq
      refine m_istore [(5, .int (boRefI h_ x_ z_)), (0, .ref (gK G 4 0)), (1, .int (nI (wq))), (2, .int x_), (3, .int z_), (4, .int p_)] (by decide) rfl dX12_odds_27 ?_
      refine m_iload 0 rfl dX12_odds_29 ?_
      refine m_if_eq 37 dX12_odds_31 (by decide) (fun c3_ => ?_) (fun c3_ => ?_)
      ·
        have hb0 := c3_
        obtain ⟨dq, eq, hdq, heq, rfl, rfl, hsr, hke, hne⟩ := boRefI_0 hb0
        have hcldq : (nI dq).toNatClampNeg = dq := nI_clamp (by omega)
        have hcleq : (nI eq).toNatClampNeg = eq := nI_clamp (by omega)
        obtain ⟨hk2, hso2, hev, h24, hsm⟩ := shRef_ok hsr
        have hn12 : shN h_ dq ≤ 12 := by unfold shN; omega
        refine m_iconst 0 dX12_odds_37 rfl ?_
        refine m_istore [(6, .int 0), (5, .int (boRefI h_ (nI dq) (nI eq))), (0, .ref (gK G 4 0)), (1, .int (nI (wq))), (2, .int (nI (dq))), (3, .int (nI (eq))), (4, .int p_)] (by decide) rfl dX12_odds_38 ?_
        refine m_iconst 0 dX12_odds_40 rfl ?_
        refine m_istore [(7, .int 0), (6, .int 0), (5, .int (boRefI h_ (nI dq) (nI eq))), (0, .ref (gK G 4 0)), (1, .int (nI (wq))), (2, .int (nI (dq))), (3, .int (nI (eq))), (4, .int p_)] (by decide) rfl dX12_odds_41 ?_
        refine m_iconst 0 dX12_odds_43 rfl ?_
        refine m_istore [(8, .int 0), (7, .int 0), (6, .int 0), (5, .int (boRefI h_ (nI dq) (nI eq))), (0, .ref (gK G 4 0)), (1, .int (nI (wq))), (2, .int (nI (dq))), (3, .int (nI (eq))), (4, .int p_)] (by decide) rfl dX12_odds_44 ?_
        have lp46 : ∀ (dd : Nat) (k_ : Nat) (V9 : owF), k_ ≤ aN a_ → aN a_ - k_ < dd → Wm l G cX12_odds 10 RX12 ((some .int)) (rmk 48 0 0) (fun _ => True) (QfM G (qI (fun r_ σ => r_ = oddsI a_ h_ (nI wq) (nI dq) (nI eq) p_ ∧ ∃ (T2 V2 : owF), σ = (A, S, Z, B, T2, V2, J, Y, P))) 0 0) 46 [(0, .ref (gK G 4 0)), (1, .int (nI (wq))), (2, .int (nI (dq))), (3, .int (nI (eq))), (4, .int p_), (5, .int (boRefI h_ (nI dq) (nI eq))), (6, .int (nI ((if wq < k_ then chN a_ (shN h_ dq) (shX h_ dq) (shY h_ dq) (hE h_ eq) wq else 0)))), (7, .int (nI (smN (chN a_ (shN h_ dq) (shX h_ dq) (shY h_ dq) (hE h_ eq)) k_))), (8, .int (nI (k_)))] [] (A, S, Z, B, T, V9, J, Y, P) 0 0 := by
          intro dd
          induction dd with
          | zero => intro k_ V9 hk_ hdd; exact absurd hdd (Nat.not_lt_zero _)
          | succ dd ih46 =>
            intro k_ V9 hk_ hdd46
            refine m_iload 8 rfl dX12_odds_46 ?_
            refine m_aload_n 0 rfl rfl dX12_odds_48 ?_
            refine gf_X12_9 dX12_odds_49 ?_
            refine m_iconst 0 dX12_odds_52 rfl ?_
            refine al_40 0 rfl (by omega) dX12_odds_53 ?_
            refine m_topi hX.1 ?_
            refine m_icmpn_ge k_ (aN a_) 106 (by omega) (by omega) dX12_odds_54 (by decide) (fun c4_ => ?_) (fun c4_ => ?_)
            ·
              obtain rfl : k_ = aN a_ := (by omega)
              rw [if_pos hwq]
              have hsm2 := smN_bound (f := (chN a_ (shN h_ dq) (shX h_ dq) (shY h_ dq) (hE h_ eq))) (n := aN a_) (c := 405504) (fun j_ hj => chN_le ho_ hj)
              have hck := chN_le (n := shN h_ dq) (X := shX h_ dq) (Q := shY h_ dq) (V := hE h_ eq) ho_ hwq
              have hcp := chN_pos (n := shN h_ dq) (X := shX h_ dq) (Q := shY h_ dq) (V := hE h_ eq) ho_ hwq
              have hpt := smN_part (f := (chN a_ (shN h_ dq) (shX h_ dq) (shY h_ dq) (hE h_ eq))) hwq
              have hgp : 0 < Nat.gcd (smN (chN a_ (shN h_ dq) (shX h_ dq) (shY h_ dq) (hE h_ eq)) (aN a_)) (chN a_ (shN h_ dq) (shX h_ dq) (shY h_ dq) (hE h_ eq) wq) := Nat.gcd_pos_of_pos_left _ (by omega)
              have hgl : Nat.gcd (smN (chN a_ (shN h_ dq) (shX h_ dq) (shY h_ dq) (hE h_ eq)) (aN a_)) (chN a_ (shN h_ dq) (shX h_ dq) (shY h_ dq) (hE h_ eq) wq) ≤ smN (chN a_ (shN h_ dq) (shX h_ dq) (shY h_ dq) (hE h_ eq)) (aN a_) := Nat.gcd_le_left _ (by omega)
              refine m_iload 7 rfl dX12_odds_106 ?_
              refine m_iload 6 rfl dX12_odds_108 ?_
              refine m_callSi cs_X12_198 [.int (nI (smN (chN a_ (shN h_ dq) (shX h_ dq) (shY h_ dq) (hE h_ eq)) (aN a_))), .int (nI (chN a_ (shN h_ dq) (shX h_ dq) (shY h_ dq) (hE h_ eq) wq))] [] (k_m_common_n l G 23 (smN (chN a_ (shN h_ dq) (shX h_ dq) (shY h_ dq) (hE h_ eq)) (aN a_)) (chN a_ (shN h_ dq) (shX h_ dq) (shY h_ dq) (hE h_ eq) wq) (by decide) (by omega) (by omega)) rfl rfl ⟨Nat.le_of_ble_eq_true rfl, Nat.le_of_ble_eq_true rfl⟩ (Nat.le_of_ble_eq_true rfl) ⟨Nat.zero_le _, Nat.zero_le _⟩ dX12_odds_110 (fun xx σ2 hq => ?_)
              obtain ⟨rfl, rfl⟩ := hq
              refine m_istore [(8, .int (nI (Nat.gcd (smN (chN a_ (shN h_ dq) (shX h_ dq) (shY h_ dq) (hE h_ eq)) (aN a_)) (chN a_ (shN h_ dq) (shX h_ dq) (shY h_ dq) (hE h_ eq) wq)))), (0, .ref (gK G 4 0)), (1, .int (nI (wq))), (2, .int (nI (dq))), (3, .int (nI (eq))), (4, .int p_), (5, .int (boRefI h_ (nI dq) (nI eq))), (6, .int (nI (chN a_ (shN h_ dq) (shX h_ dq) (shY h_ dq) (hE h_ eq) wq))), (7, .int (nI (smN (chN a_ (shN h_ dq) (shX h_ dq) (shY h_ dq) (hE h_ eq)) (aN a_))))] (by decide) rfl dX12_odds_113 ?_
              refine m_iload 5 rfl dX12_odds_115 ?_
              refine m_if_ne 128 dX12_odds_117 (by decide) (fun c5_ => ?_) (fun c5_ => ?_)
              ·
                refine m_iload 8 rfl dX12_odds_128 ?_
                refine m_iload 0 rfl dX12_odds_130 ?_
                refine m_idiv (nI_ne0 hgp (by omega)) dX12_odds_132 ?_
                refine m_topi ((show (nI (smN (chN a_ (shN h_ dq) (shX h_ dq) (shY h_ dq) (hE h_ eq)) (aN a_))) / (nI (Nat.gcd (smN (chN a_ (shN h_ dq) (shX h_ dq) (shY h_ dq) (hE h_ eq)) (aN a_)) (chN a_ (shN h_ dq) (shX h_ dq) (shY h_ dq) (hE h_ eq) wq))) = nI ((smN (chN a_ (shN h_ dq) (shX h_ dq) (shY h_ dq) (hE h_ eq)) (aN a_)) / (Nat.gcd (smN (chN a_ (shN h_ dq) (shX h_ dq) (shY h_ dq) (hE h_ eq)) (aN a_)) (chN a_ (shN h_ dq) (shX h_ dq) (shY h_ dq) (hE h_ eq) wq))) from pk_div (by omega) hgp (by omega))) ?_
                exact m_iret dX12_odds_133 (Nat.le_refl _) (Nat.le_refl _) (⟨by unfold oddsI; rw [if_pos ⟨hwc, c2_⟩, if_pos hb0]; simp only [rN, rX, rQ, rV, hclwq, hcldq, hcleq]; first | rw [ltI_p c5_] | rw [ltI_n c5_], _, _, rfl⟩)
              ·
                refine m_iload 7 rfl dX12_odds_120 ?_
                refine m_iload 0 rfl dX12_odds_122 ?_
                refine m_idiv (nI_ne0 hgp (by omega)) dX12_odds_124 ?_
                refine m_topi ((show (nI (chN a_ (shN h_ dq) (shX h_ dq) (shY h_ dq) (hE h_ eq) wq)) / (nI (Nat.gcd (smN (chN a_ (shN h_ dq) (shX h_ dq) (shY h_ dq) (hE h_ eq)) (aN a_)) (chN a_ (shN h_ dq) (shX h_ dq) (shY h_ dq) (hE h_ eq) wq))) = nI ((chN a_ (shN h_ dq) (shX h_ dq) (shY h_ dq) (hE h_ eq) wq) / (Nat.gcd (smN (chN a_ (shN h_ dq) (shX h_ dq) (shY h_ dq) (hE h_ eq)) (aN a_)) (chN a_ (shN h_ dq) (shX h_ dq) (shY h_ dq) (hE h_ eq) wq))) from pk_div (by omega) hgp (by omega))) ?_
                refine m_goto 133 dX12_odds_125 (by decide) ?_
                exact m_iret dX12_odds_133 (Nat.le_refl _) (Nat.le_refl _) (⟨by unfold oddsI; rw [if_pos ⟨hwc, c2_⟩, if_pos hb0]; simp only [rN, rX, rQ, rV, hclwq, hcldq, hcleq]; first | rw [ltI_p c5_] | rw [ltI_n c5_], _, _, rfl⟩)
            ·
              refine m_aload_n 0 rfl rfl dX12_odds_57 ?_
              refine m_iload 8 rfl dX12_odds_58 ?_
              refine m_iconst 2 dX12_odds_60 rfl ?_
              refine m_callVi cv_X12_119 [.int (nI (k_)), .int 2] [] (k_m_get l G a_ ho_ im h_ hM k_ (by omega) 2 (by decide)) (by decide) (ce_4 G _ _ _ _ _ _ _ _ _ _) rfl rfl rfl ⟨Nat.le_of_ble_eq_true rfl, Nat.le_of_ble_eq_true rfl⟩ (Nat.le_of_ble_eq_true rfl) ⟨Nat.zero_le _, Nat.zero_le _⟩ dX12_odds_61 (fun xx σ2 hq => ?_)
              obtain ⟨hgx, rfl⟩ := hq
              obtain rfl : xx = nI (aG a_ k_) := hgx
              refine m_bipush (12) dX12_odds_64 rfl ?_
              refine m_aload_n 0 rfl rfl dX12_odds_66 ?_
              refine m_iload 8 rfl dX12_odds_67 ?_
              refine m_iload_n 2 rfl rfl dX12_odds_69 ?_
              refine m_iload_n 3 rfl rfl dX12_odds_70 ?_
              refine m_callVi cv_X12_190 [.int (nI (k_)), .int (nI (dq)), .int (nI (eq))] [.int 12, .int (nI (aG a_ k_))] (k_m_slipsOf l G a_ ho_ im h_ hM k_ (by omega) dq hdq hsr eq heq hke hne) (by decide) (ce_4 G _ _ _ _ _ _ _ _ _ _) rfl rfl rfl ⟨Nat.le_of_ble_eq_true rfl, Nat.le_of_ble_eq_true rfl⟩ (Nat.le_of_ble_eq_true rfl) ⟨Nat.zero_le _, Nat.zero_le _⟩ dX12_odds_71 (fun xx σ2 hq => ?_)
              obtain ⟨rfl, V6, rfl⟩ := hq
              have hsl := slN_le (a := a_) (X := shX h_ dq) (Q := shY h_ dq) (V := hE h_ eq) (w := k_) (n := shN h_ dq) hn12
              refine m_isub dX12_odds_74 ?_
              refine m_ishl dX12_odds_75 ?_
              refine m_topi ((show _ = nI (chN a_ (shN h_ dq) (shX h_ dq) (shY h_ dq) (hE h_ eq) k_) from shl12 hsl (ho_.2.2.1 k_ (by omega)).2.2.2)) ?_
              refine m_istore [(9, .int (nI (chN a_ (shN h_ dq) (shX h_ dq) (shY h_ dq) (hE h_ eq) k_))), (0, .ref (gK G 4 0)), (1, .int (nI (wq))), (2, .int (nI (dq))), (3, .int (nI (eq))), (4, .int p_), (5, .int (boRefI h_ (nI dq) (nI eq))), (6, .int (nI ((if wq < k_ then chN a_ (shN h_ dq) (shX h_ dq) (shY h_ dq) (hE h_ eq) wq else 0)))), (7, .int (nI (smN (chN a_ (shN h_ dq) (shX h_ dq) (shY h_ dq) (hE h_ eq)) k_))), (8, .int (nI (k_)))] (by decide) rfl dX12_odds_76 ?_
              refine m_iload 8 rfl dX12_odds_78 ?_
              refine m_iload 0 rfl dX12_odds_80 ?_
              refine m_iadd dX12_odds_82 ?_
              refine m_topi (show (nI (smN (chN a_ (shN h_ dq) (shX h_ dq) (shY h_ dq) (hE h_ eq)) k_)) + (nI (chN a_ (shN h_ dq) (shX h_ dq) (shY h_ dq) (hE h_ eq) k_)) = nI ((smN (chN a_ (shN h_ dq) (shX h_ dq) (shY h_ dq) (hE h_ eq)) k_) + (chN a_ (shN h_ dq) (shX h_ dq) (shY h_ dq) (hE h_ eq) k_)) from nI_add _ _) ?_
              refine m_istore [(7, .int (nI ((smN (chN a_ (shN h_ dq) (shX h_ dq) (shY h_ dq) (hE h_ eq)) k_) + (chN a_ (shN h_ dq) (shX h_ dq) (shY h_ dq) (hE h_ eq) k_)))), (9, .int (nI (chN a_ (shN h_ dq) (shX h_ dq) (shY h_ dq) (hE h_ eq) k_))), (0, .ref (gK G 4 0)), (1, .int (nI (wq))), (2, .int (nI (dq))), (3, .int (nI (eq))), (4, .int p_), (5, .int (boRefI h_ (nI dq) (nI eq))), (6, .int (nI ((if wq < k_ then chN a_ (shN h_ dq) (shX h_ dq) (shY h_ dq) (hE h_ eq) wq else 0)))), (8, .int (nI (k_)))] (by decide) rfl dX12_odds_83 ?_
              refine m_iload 9 rfl dX12_odds_85 ?_
              refine m_iload_n 3 rfl rfl dX12_odds_87 ?_
              refine m_icmpn_ne k_ wq 96 (by omega) (by omega) dX12_odds_88 (by decide) (fun c7_ => ?_) (fun c7_ => ?_)
              ·
                have hkw : k_ ≠ wq := by omega
                refine m_iload 8 rfl dX12_odds_96 ?_
                refine m_istore [(6, .int (nI ((if wq < k_ then chN a_ (shN h_ dq) (shX h_ dq) (shY h_ dq) (hE h_ eq) wq else 0)))), (7, .int (nI ((smN (chN a_ (shN h_ dq) (shX h_ dq) (shY h_ dq) (hE h_ eq)) k_) + (chN a_ (shN h_ dq) (shX h_ dq) (shY h_ dq) (hE h_ eq) k_)))), (9, .int (nI (chN a_ (shN h_ dq) (shX h_ dq) (shY h_ dq) (hE h_ eq) k_))), (0, .ref (gK G 4 0)), (1, .int (nI (wq))), (2, .int (nI (dq))), (3, .int (nI (eq))), (4, .int p_), (5, .int (boRefI h_ (nI dq) (nI eq))), (8, .int (nI (k_)))] (by decide) rfl dX12_odds_98 ?_
                refine m_iinc (nI (k_ + 1)) 9 [(8, .int (nI (k_ + 1))), (6, .int (nI ((if wq < k_ then chN a_ (shN h_ dq) (shX h_ dq) (shY h_ dq) (hE h_ eq) wq else 0)))), (7, .int (nI ((smN (chN a_ (shN h_ dq) (shX h_ dq) (shY h_ dq) (hE h_ eq)) k_) + (chN a_ (shN h_ dq) (shX h_ dq) (shY h_ dq) (hE h_ eq) k_)))), (9, .int (nI (chN a_ (shN h_ dq) (shX h_ dq) (shY h_ dq) (hE h_ eq) k_))), (0, .ref (gK G 4 0)), (1, .int (nI (wq))), (2, .int (nI (dq))), (3, .int (nI (eq))), (4, .int p_), (5, .int (boRefI h_ (nI dq) (nI eq)))] rfl (nI_1 _) (by decide) rfl dX12_odds_100 ?_
                refine m_goto 46 dX12_odds_103 (by decide) ?_
                refine m_lv [(0, .ref (gK G 4 0)), (1, .int (nI (wq))), (2, .int (nI (dq))), (3, .int (nI (eq))), (4, .int p_), (5, .int (boRefI h_ (nI dq) (nI eq))), (6, .int (nI ((if wq < k_ then chN a_ (shN h_ dq) (shX h_ dq) (shY h_ dq) (hE h_ eq) wq else 0)))), (7, .int (nI ((smN (chN a_ (shN h_ dq) (shX h_ dq) (shY h_ dq) (hE h_ eq)) k_) + (chN a_ (shN h_ dq) (shX h_ dq) (shY h_ dq) (hE h_ eq) k_)))), (8, .int (nI (k_ + 1)))] [4, 5, 6, 7, 8, 9, 1, 2, 0] rfl ?_
                rw [show (if wq < k_ then chN a_ (shN h_ dq) (shX h_ dq) (shY h_ dq) (hE h_ eq) wq else 0) = (if wq < k_ + 1 then chN a_ (shN h_ dq) (shX h_ dq) (shY h_ dq) (hE h_ eq) wq else 0) from by by_cases hz : wq < k_ <;> (first | rw [if_pos hz, if_pos (by omega)] | rw [if_neg hz, if_neg (by omega)])]
                exact ih46 (k_ + 1) V6 (by omega) (by omega)
              ·
                have hkw : k_ = wq := by omega
                refine m_iload 1 rfl dX12_odds_91 ?_
                refine m_goto 98 dX12_odds_93 (by decide) ?_
                refine m_istore [(6, .int (nI (chN a_ (shN h_ dq) (shX h_ dq) (shY h_ dq) (hE h_ eq) k_))), (7, .int (nI ((smN (chN a_ (shN h_ dq) (shX h_ dq) (shY h_ dq) (hE h_ eq)) k_) + (chN a_ (shN h_ dq) (shX h_ dq) (shY h_ dq) (hE h_ eq) k_)))), (9, .int (nI (chN a_ (shN h_ dq) (shX h_ dq) (shY h_ dq) (hE h_ eq) k_))), (0, .ref (gK G 4 0)), (1, .int (nI (wq))), (2, .int (nI (dq))), (3, .int (nI (eq))), (4, .int p_), (5, .int (boRefI h_ (nI dq) (nI eq))), (8, .int (nI (k_)))] (by decide) rfl dX12_odds_98 ?_
                refine m_iinc (nI (k_ + 1)) 9 [(8, .int (nI (k_ + 1))), (6, .int (nI (chN a_ (shN h_ dq) (shX h_ dq) (shY h_ dq) (hE h_ eq) k_))), (7, .int (nI ((smN (chN a_ (shN h_ dq) (shX h_ dq) (shY h_ dq) (hE h_ eq)) k_) + (chN a_ (shN h_ dq) (shX h_ dq) (shY h_ dq) (hE h_ eq) k_)))), (9, .int (nI (chN a_ (shN h_ dq) (shX h_ dq) (shY h_ dq) (hE h_ eq) k_))), (0, .ref (gK G 4 0)), (1, .int (nI (wq))), (2, .int (nI (dq))), (3, .int (nI (eq))), (4, .int p_), (5, .int (boRefI h_ (nI dq) (nI eq)))] rfl (nI_1 _) (by decide) rfl dX12_odds_100 ?_
                refine m_goto 46 dX12_odds_103 (by decide) ?_
                refine m_lv [(0, .ref (gK G 4 0)), (1, .int (nI (wq))), (2, .int (nI (dq))), (3, .int (nI (eq))), (4, .int p_), (5, .int (boRefI h_ (nI dq) (nI eq))), (6, .int (nI (chN a_ (shN h_ dq) (shX h_ dq) (shY h_ dq) (hE h_ eq) k_))), (7, .int (nI ((smN (chN a_ (shN h_ dq) (shX h_ dq) (shY h_ dq) (hE h_ eq)) k_) + (chN a_ (shN h_ dq) (shX h_ dq) (shY h_ dq) (hE h_ eq) k_)))), (8, .int (nI (k_ + 1)))] [4, 5, 6, 7, 8, 9, 1, 2, 0] rfl ?_
                rw [show nI (chN a_ (shN h_ dq) (shX h_ dq) (shY h_ dq) (hE h_ eq) k_) = nI (if wq < k_ + 1 then chN a_ (shN h_ dq) (shX h_ dq) (shY h_ dq) (hE h_ eq) wq else 0) from by rw [if_pos (by omega), hkw]]
                exact ih46 (k_ + 1) V6 (by omega) (by omega)
        refine m_lv [(0, .ref (gK G 4 0)), (1, .int (nI (wq))), (2, .int (nI (dq))), (3, .int (nI (eq))), (4, .int p_), (5, .int (boRefI h_ (nI dq) (nI eq))), (6, .int 0), (7, .int 0), (8, .int 0)] [4, 5, 6, 7, 8, 3, 2, 1, 0] rfl ?_
        exact lp46 ((aN a_ - 0) + 1) 0 V (Nat.zero_le _) (Nat.lt_succ_self _)
      ·
        refine m_iload 0 rfl dX12_odds_34 ?_
        exact m_iret dX12_odds_36 (Nat.le_refl _) (Nat.le_refl _) (⟨by first | (simp [oddsI, c1_, c2_, c3_, hclwq]; done) | (simp_all [oddsI, rN, rX, rQ, rV]; done) | grind [oddsI], _, _, rfl⟩)
    ·
      refine m_iconst (-1) dX12_odds_19 rfl ?_
      exact m_iret dX12_odds_20 (Nat.le_refl _) (Nat.le_refl _) (⟨by first | (simp [oddsI, c1_, c2_, hclwq]; done) | (simp_all [oddsI, rN, rX, rQ, rV]; done) | grind [oddsI], _, _, rfl⟩)
set_option maxRecDepth 100000 in
set_option maxHeartbeats 4000000 in
theorem k_m_held (l : Launch) (G : owG) {A S Z B T V : owF} {J : Nat → Nat → Int64} {Y : Nat → Nat → Nat → Option Nat} {P : Nat → Option owW} (a_ : owK) (ho_ : aOk a_) (im : Option owK) (h_ : owH) (hM : MR B a_ im h_) (x_ z_ ab v_ p_ : Int32) : Ct l G yX12_held cX12_held 13 ((some .int)) 48 0 0 [.ref (gK G 4 0), .int x_, .int z_, .int ab, .int v_, .int p_] (A, S, Z, B, T, V, J, Y, P) (qI (fun r_ σ => r_ = heldI a_ h_ x_ z_ ab v_ p_ ∧ ∃ (T2 V2 : owF), σ = (A, S, Z, B, T2, V2, J, Y, P))) := by
  refine ct_of (by decide +kernel) (Nat.le_of_ble_eq_true rfl) ?_
  have h10 := ho_.1
  have h8_ := ho_.2.1
  have hX := hM.1
  show Wm l G cX12_held 13 RX12 ((some .int)) (rmk 48 0 0) (fun _ => True) (QfM G (qI (fun r_ σ => r_ = heldI a_ h_ x_ z_ ab v_ p_ ∧ ∃ (T2 V2 : owF), σ = (A, S, Z, B, T2, V2, J, Y, P))) 0 0) 0 [(0, .ref (gK G 4 0)), (1, .int x_), (2, .int z_), (3, .int ab), (4, .int v_), (5, .int p_)] [] (A, S, Z, B, T, V, J, Y, P) 0 0
  refine m_iload_n 3 rfl rfl dX12_held_0 ?_
  refine m_sipush (10000) dX12_held_1 rfl ?_
  refine m_idiv (by decide) dX12_held_4 ?_
  refine m_istore [(6, .int (ab / 10000)), (0, .ref (gK G 4 0)), (1, .int x_), (2, .int z_), (3, .int ab), (4, .int v_), (5, .int p_)] (by decide) rfl dX12_held_5 ?_
  refine m_iload_n 4 rfl rfl dX12_held_7 ?_
  refine m_sipush (10000) dX12_held_8 rfl ?_
  refine m_irem (by decide) dX12_held_11 ?_
  refine m_istore [(7, .int (ab - ab / 10000 * 10000)), (6, .int (ab / 10000)), (0, .ref (gK G 4 0)), (1, .int x_), (2, .int z_), (3, .int ab), (4, .int v_), (5, .int p_)] (by decide) rfl dX12_held_12 ?_
  refine m_iload_n 5 rfl rfl dX12_held_14 ?_
  refine m_if_lt 52 dX12_held_15 (by decide) (fun c1_ => ?_) (fun c1_ => ?_)
  ·
    refine m_iconst (-1) dX12_held_52 rfl ?_
    exact m_iret dX12_held_53 (Nat.le_refl _) (Nat.le_refl _) (⟨by first | (simp [heldI, c1_]; done) | (simp_all [heldI, rN, rX, rQ, rV]; done) | grind [heldI, rN, rX, rQ, rV], _, _, rfl⟩)
  ·
    refine m_iload 1 rfl dX12_held_18 ?_
    refine m_iload 0 rfl dX12_held_20 ?_
    refine m_callSi cs_X12_153 [.int (ab / 10000), .int (ab - ab / 10000 * 10000)] [] (k_m_isSum l G (ab / 10000) (ab - ab / 10000 * 10000)) rfl rfl ⟨Nat.le_of_ble_eq_true rfl, Nat.le_of_ble_eq_true rfl⟩ (Nat.le_of_ble_eq_true rfl) ⟨Nat.zero_le _, Nat.zero_le _⟩ dX12_held_22 (fun xx σ2 hq => ?_)
    obtain ⟨rfl, rfl⟩ := hq
    refine m_ifeq_b 52 dX12_held_25 (by decide) (fun c2_ => ?_) (fun c2_ => ?_)
    ·
      refine m_iconst (-1) dX12_held_52 rfl ?_
      exact m_iret dX12_held_53 (Nat.le_refl _) (Nat.le_refl _) (⟨by first | (simp [heldI, c1_, c2_]; done) | (simp_all [heldI, rN, rX, rQ, rV]; done) | grind [heldI, rN, rX, rQ, rV], _, _, rfl⟩)
    ·
      obtain ⟨xq, yq, ex, ey, hy_, hx_⟩ := sumNat c2_
      have hclxq : (ab / 10000).toNatClampNeg = xq := by rw [ex]; exact nI_clamp (by omega)
      have hclyq : (ab - ab / 10000 * 10000).toNatClampNeg = yq := by rw [ey]; exact nI_clamp (by omega)
      rw [ey, ex]
      refine m_iload 6 rfl dX12_held_28 ?_
      refine m_i2l dX12_held_30 ?_
      refine m_lconst 0 dX12_held_31 rfl ?_
      refine m_topl (show (0 : Int64) = (0 : Int32).toInt64 by decide) ?_
      refine m_ldc2 9999 tw_1201 dX12_held_32 ?_
      refine m_topl (show (9999 : Int64) = (9999 : Int32).toInt64 by decide) ?_
      refine m_callSi cs_X12_62 [.long (v_.toInt64), .long ((0 : Int32).toInt64), .long ((9999 : Int32).toInt64)] [] (k_m_isIn l G v_ 0 9999) rfl rfl ⟨Nat.le_of_ble_eq_true rfl, Nat.le_of_ble_eq_true rfl⟩ (Nat.le_of_ble_eq_true rfl) ⟨Nat.zero_le _, Nat.zero_le _⟩ dX12_held_35 (fun xx σ2 hq => ?_)
      obtain ⟨hgx, rfl⟩ := hq
      obtain rfl := hgx.trans (congrArg bI (inB_A))
      refine m_ifeq_b 52 dX12_held_38 (by decide) (fun c3_ => ?_) (fun c3_ => ?_)
      ·
        refine m_iconst (-1) dX12_held_52 rfl ?_
        exact m_iret dX12_held_53 (Nat.le_refl _) (Nat.le_refl _) (⟨by first | (simp [heldI, c1_, c2_, c3_, hclxq, hclyq]; done) | (simp_all [heldI, rN, rX, rQ, rV]; done) | grind [heldI, rN, rX, rQ, rV], _, _, rfl⟩)
      ·
        refine m_iload 7 rfl dX12_held_41 ?_
        refine m_i2l dX12_held_43 ?_
        refine m_lconst 0 dX12_held_44 rfl ?_
        refine m_topl (show (0 : Int64) = (0 : Int32).toInt64 by decide) ?_
        refine m_lconst 1 dX12_held_45 rfl ?_
        refine m_topl (show (1 : Int64) = (1 : Int32).toInt64 by decide) ?_
        refine m_callSi cs_X12_62 [.long (p_.toInt64), .long ((0 : Int32).toInt64), .long ((1 : Int32).toInt64)] [] (k_m_isIn l G p_ 0 1) rfl rfl ⟨Nat.le_of_ble_eq_true rfl, Nat.le_of_ble_eq_true rfl⟩ (Nat.le_of_ble_eq_true rfl) ⟨Nat.zero_le _, Nat.zero_le _⟩ dX12_held_46 (fun xx σ2 hq => ?_)
        obtain ⟨hgx, rfl⟩ := hq
        obtain rfl := hgx.trans (congrArg bI (inB_01))
        refine m_ifne_b 54 dX12_held_49 (by decide) (fun c4_ => ?_) (fun c4_ => ?_)
        ·
          refine m_aload_n 2 rfl rfl dX12_held_54 ?_
          refine m_iload_n 3 rfl rfl dX12_held_55 ?_
          refine m_iload_n 4 rfl rfl dX12_held_56 ?_
          refine m_callVi cv_X12_187 [.int x_, .int z_] [] (k_m_wrongBoth l G a_ ho_ im h_ hM x_ z_) (by decide) (ce_4 G _ _ _ _ _ _ _ _ _ _) rfl rfl rfl ⟨Nat.le_of_ble_eq_true rfl, Nat.le_of_ble_eq_true rfl⟩ (Nat.le_of_ble_eq_true rfl) ⟨Nat.zero_le _, Nat.zero_le _⟩ dX12_held_57 (fun xx σ2 hq => ?_)
          obtain ⟨rfl, rfl⟩ := hq
          refine m_istore [(8, .int (boRefI h_ x_ z_)), (7, .int (nI (yq))), (6, .int (nI (xq))), (0, .ref (gK G 4 0)), (1, .int x_), (2, .int z_), (3, .int ab), (4, .int v_), (5, .int p_)] (by decide) rfl dX12_held_60 ?_
          refine m_iload 0 rfl dX12_held_62 ?_
          refine m_if_eq 70 dX12_held_64 (by decide) (fun c5_ => ?_) (fun c5_ => ?_)
          ·
            have hb0 := c5_
            obtain ⟨dq, eq, hdq, heq, rfl, rfl, hsr, hke, hne⟩ := boRefI_0 hb0
            have hcldq : (nI dq).toNatClampNeg = dq := nI_clamp (by omega)
            have hcleq : (nI eq).toNatClampNeg = eq := nI_clamp (by omega)
            obtain ⟨hk2, hso2, hev, h24, hsm⟩ := shRef_ok hsr
            have hn12 : shN h_ dq ≤ 12 := by unfold shN; omega
            refine m_aload_n 3 rfl rfl dX12_held_70 ?_
            refine m_iload_n 4 rfl rfl dX12_held_71 ?_
            refine m_iload_n 5 rfl rfl dX12_held_72 ?_
            refine m_iconst 0 dX12_held_73 rfl ?_
            refine m_callVi cv_X12_195 [.int (nI (dq)), .int (nI (eq)), .int 0] [] (k_m_fitting l G a_ ho_ im h_ hM dq hdq hsr eq heq hke hne 0 (by omega)) (by decide) (ce_4 G _ _ _ _ _ _ _ _ _ _) rfl rfl rfl ⟨Nat.le_of_ble_eq_true rfl, Nat.le_of_ble_eq_true rfl⟩ (Nat.le_of_ble_eq_true rfl) ⟨Nat.zero_le _, Nat.zero_le _⟩ dX12_held_74 (fun xx σ2 hq => ?_)
            obtain ⟨rfl, V6, rfl⟩ := hq
            refine m_istore [(9, .int (fitA a_ (shN h_ dq) (shX h_ dq) (shY h_ dq) (hE h_ eq) 0)), (8, .int (boRefI h_ (nI dq) (nI eq))), (7, .int (nI (yq))), (6, .int (nI (xq))), (0, .ref (gK G 4 0)), (1, .int (nI (dq))), (2, .int (nI (eq))), (3, .int ab), (4, .int v_), (5, .int p_)] (by decide) rfl dX12_held_77 ?_
            refine m_iconst 0 dX12_held_79 rfl ?_
            refine m_istore [(10, .int 0), (9, .int (fitA a_ (shN h_ dq) (shX h_ dq) (shY h_ dq) (hE h_ eq) 0)), (8, .int (boRefI h_ (nI dq) (nI eq))), (7, .int (nI (yq))), (6, .int (nI (xq))), (0, .ref (gK G 4 0)), (1, .int (nI (dq))), (2, .int (nI (eq))), (3, .int ab), (4, .int v_), (5, .int p_)] (by decide) rfl dX12_held_80 ?_
            refine m_iconst 0 dX12_held_82 rfl ?_
            refine m_istore [(11, .int 0), (10, .int 0), (9, .int (fitA a_ (shN h_ dq) (shX h_ dq) (shY h_ dq) (hE h_ eq) 0)), (8, .int (boRefI h_ (nI dq) (nI eq))), (7, .int (nI (yq))), (6, .int (nI (xq))), (0, .ref (gK G 4 0)), (1, .int (nI (dq))), (2, .int (nI (eq))), (3, .int ab), (4, .int v_), (5, .int p_)] (by decide) rfl dX12_held_83 ?_
            refine m_iconst 0 dX12_held_85 rfl ?_
            refine m_istore [(12, .int 0), (11, .int 0), (10, .int 0), (9, .int (fitA a_ (shN h_ dq) (shX h_ dq) (shY h_ dq) (hE h_ eq) 0)), (8, .int (boRefI h_ (nI dq) (nI eq))), (7, .int (nI (yq))), (6, .int (nI (xq))), (0, .ref (gK G 4 0)), (1, .int (nI (dq))), (2, .int (nI (eq))), (3, .int ab), (4, .int v_), (5, .int p_)] (by decide) rfl dX12_held_86 ?_
            have lp88 : ∀ (dd : Nat) (k_ : Nat) (V9 : owF), k_ ≤ aN a_ → aN a_ - k_ < dd → Wm l G cX12_held 13 RX12 ((some .int)) (rmk 48 0 0) (fun _ => True) (QfM G (qI (fun r_ σ => r_ = heldI a_ h_ (nI dq) (nI eq) ab v_ p_ ∧ ∃ (T2 V2 : owF), σ = (A, S, Z, B, T2, V2, J, Y, P))) 0 0) 88 [(0, .ref (gK G 4 0)), (1, .int (nI (dq))), (2, .int (nI (eq))), (3, .int ab), (4, .int v_), (5, .int p_), (6, .int (nI (xq))), (7, .int (nI (yq))), (8, .int (boRefI h_ (nI dq) (nI eq))), (9, .int (fitA a_ (shN h_ dq) (shX h_ dq) (shY h_ dq) (hE h_ eq) 0)), (10, .int (nI (wgN a_ (fitA a_ (shN h_ dq) (shX h_ dq) (shY h_ dq) (hE h_ eq) 0 &&& whoA a_ xq yq v_) k_))), (11, .int (nI (wgN a_ (fitA a_ (shN h_ dq) (shX h_ dq) (shY h_ dq) (hE h_ eq) 0) k_))), (12, .int (nI (k_)))] [] (A, S, Z, B, T, V9, J, Y, P) 0 0 := by
              intro dd
              induction dd with
              | zero => intro k_ V9 hk_ hdd; exact absurd hdd (Nat.not_lt_zero _)
              | succ dd ih88 =>
                intro k_ V9 hk_ hdd88
                refine m_iload 12 rfl dX12_held_88 ?_
                refine m_aload_n 0 rfl rfl dX12_held_90 ?_
                refine gf_X12_9 dX12_held_91 ?_
                refine m_iconst 0 dX12_held_94 rfl ?_
                refine al_40 0 rfl (by omega) dX12_held_95 ?_
                refine m_topi hX.1 ?_
                refine m_icmpn_ge k_ (aN a_) 161 (by omega) (by omega) dX12_held_96 (by decide) (fun c7_ => ?_) (fun c7_ => ?_)
                ·
                  obtain rfl : k_ = aN a_ := (by omega)
                  have hw1 := wgN_le (ws := fitA a_ (shN h_ dq) (shX h_ dq) (shY h_ dq) (hE h_ eq) 0) ho_ (Nat.le_refl _)
                  have hw2 := wgN_le (ws := fitA a_ (shN h_ dq) (shX h_ dq) (shY h_ dq) (hE h_ eq) 0 &&& whoA a_ xq yq v_) ho_ (Nat.le_refl _)
                  refine m_iload 9 rfl dX12_held_161 ?_
                  refine m_if_ne 169 dX12_held_163 (by decide) (fun c8_ => ?_) (fun c8_ => ?_)
                  ·
                    have hfp : 0 < wgN a_ (fitA a_ (shN h_ dq) (shX h_ dq) (shY h_ dq) (hE h_ eq) 0) (aN a_) := wgN_pos ho_ c8_
                    have hgp : 0 < Nat.gcd (wgN a_ (fitA a_ (shN h_ dq) (shX h_ dq) (shY h_ dq) (hE h_ eq) 0) (aN a_)) (wgN a_ (fitA a_ (shN h_ dq) (shX h_ dq) (shY h_ dq) (hE h_ eq) 0 &&& whoA a_ xq yq v_) (aN a_)) := Nat.gcd_pos_of_pos_left _ (by omega)
                    have hgl : Nat.gcd (wgN a_ (fitA a_ (shN h_ dq) (shX h_ dq) (shY h_ dq) (hE h_ eq) 0) (aN a_)) (wgN a_ (fitA a_ (shN h_ dq) (shX h_ dq) (shY h_ dq) (hE h_ eq) 0 &&& whoA a_ xq yq v_) (aN a_)) ≤ wgN a_ (fitA a_ (shN h_ dq) (shX h_ dq) (shY h_ dq) (hE h_ eq) 0) (aN a_) := Nat.gcd_le_left _ (by omega)
                    refine m_iload 11 rfl dX12_held_169 ?_
                    refine m_iload 10 rfl dX12_held_171 ?_
                    refine m_callSi cs_X12_198 [.int (nI (wgN a_ (fitA a_ (shN h_ dq) (shX h_ dq) (shY h_ dq) (hE h_ eq) 0) (aN a_))), .int (nI (wgN a_ (fitA a_ (shN h_ dq) (shX h_ dq) (shY h_ dq) (hE h_ eq) 0 &&& whoA a_ xq yq v_) (aN a_)))] [] (k_m_common_n l G 23 (wgN a_ (fitA a_ (shN h_ dq) (shX h_ dq) (shY h_ dq) (hE h_ eq) 0) (aN a_)) (wgN a_ (fitA a_ (shN h_ dq) (shX h_ dq) (shY h_ dq) (hE h_ eq) 0 &&& whoA a_ xq yq v_) (aN a_)) (by decide) (by omega) (by omega)) rfl rfl ⟨Nat.le_of_ble_eq_true rfl, Nat.le_of_ble_eq_true rfl⟩ (Nat.le_of_ble_eq_true rfl) ⟨Nat.zero_le _, Nat.zero_le _⟩ dX12_held_173 (fun xx σ2 hq => ?_)
                    obtain ⟨rfl, rfl⟩ := hq
                    refine m_istore [(12, .int (nI (Nat.gcd (wgN a_ (fitA a_ (shN h_ dq) (shX h_ dq) (shY h_ dq) (hE h_ eq) 0) (aN a_)) (wgN a_ (fitA a_ (shN h_ dq) (shX h_ dq) (shY h_ dq) (hE h_ eq) 0 &&& whoA a_ xq yq v_) (aN a_))))), (0, .ref (gK G 4 0)), (1, .int (nI (dq))), (2, .int (nI (eq))), (3, .int ab), (4, .int v_), (5, .int p_), (6, .int (nI (xq))), (7, .int (nI (yq))), (8, .int (boRefI h_ (nI dq) (nI eq))), (9, .int (fitA a_ (shN h_ dq) (shX h_ dq) (shY h_ dq) (hE h_ eq) 0)), (10, .int (nI (wgN a_ (fitA a_ (shN h_ dq) (shX h_ dq) (shY h_ dq) (hE h_ eq) 0 &&& whoA a_ xq yq v_) (aN a_)))), (11, .int (nI (wgN a_ (fitA a_ (shN h_ dq) (shX h_ dq) (shY h_ dq) (hE h_ eq) 0) (aN a_))))] (by decide) rfl dX12_held_176 ?_
                    refine m_iload 6 rfl dX12_held_178 ?_
                    refine m_if_ne 191 dX12_held_180 (by decide) (fun c9_ => ?_) (fun c9_ => ?_)
                    ·
                      refine m_iload 12 rfl dX12_held_191 ?_
                      refine m_iload 0 rfl dX12_held_193 ?_
                      refine m_idiv (nI_ne0 hgp (by omega)) dX12_held_195 ?_
                      refine m_topi ((show (nI (wgN a_ (fitA a_ (shN h_ dq) (shX h_ dq) (shY h_ dq) (hE h_ eq) 0) (aN a_))) / (nI (Nat.gcd (wgN a_ (fitA a_ (shN h_ dq) (shX h_ dq) (shY h_ dq) (hE h_ eq) 0) (aN a_)) (wgN a_ (fitA a_ (shN h_ dq) (shX h_ dq) (shY h_ dq) (hE h_ eq) 0 &&& whoA a_ xq yq v_) (aN a_)))) = nI ((wgN a_ (fitA a_ (shN h_ dq) (shX h_ dq) (shY h_ dq) (hE h_ eq) 0) (aN a_)) / (Nat.gcd (wgN a_ (fitA a_ (shN h_ dq) (shX h_ dq) (shY h_ dq) (hE h_ eq) 0) (aN a_)) (wgN a_ (fitA a_ (shN h_ dq) (shX h_ dq) (shY h_ dq) (hE h_ eq) 0 &&& whoA a_ xq yq v_) (aN a_)))) from pk_div (by omega) hgp (by omega))) ?_
                      exact m_iret dX12_held_196 (Nat.le_refl _) (Nat.le_refl _) (⟨by unfold heldI; rw [if_pos ⟨Int32.not_lt.mp c1_, c2_, c3_, c4_⟩, if_pos hb0]; simp only [rN, rX, rQ, rV, hcldq, hcleq, hclxq, hclyq]; rw [if_neg c8_]; first | rw [ltI_p c9_] | rw [ltI_n c9_], _, _, rfl⟩)
                    ·
                      refine m_iload 11 rfl dX12_held_183 ?_
                      refine m_iload 0 rfl dX12_held_185 ?_
                      refine m_idiv (nI_ne0 hgp (by omega)) dX12_held_187 ?_
                      refine m_topi ((show (nI (wgN a_ (fitA a_ (shN h_ dq) (shX h_ dq) (shY h_ dq) (hE h_ eq) 0 &&& whoA a_ xq yq v_) (aN a_))) / (nI (Nat.gcd (wgN a_ (fitA a_ (shN h_ dq) (shX h_ dq) (shY h_ dq) (hE h_ eq) 0) (aN a_)) (wgN a_ (fitA a_ (shN h_ dq) (shX h_ dq) (shY h_ dq) (hE h_ eq) 0 &&& whoA a_ xq yq v_) (aN a_)))) = nI ((wgN a_ (fitA a_ (shN h_ dq) (shX h_ dq) (shY h_ dq) (hE h_ eq) 0 &&& whoA a_ xq yq v_) (aN a_)) / (Nat.gcd (wgN a_ (fitA a_ (shN h_ dq) (shX h_ dq) (shY h_ dq) (hE h_ eq) 0) (aN a_)) (wgN a_ (fitA a_ (shN h_ dq) (shX h_ dq) (shY h_ dq) (hE h_ eq) 0 &&& whoA a_ xq yq v_) (aN a_)))) from pk_div (by omega) hgp (by omega))) ?_
                      refine m_goto 196 dX12_held_188 (by decide) ?_
                      exact m_iret dX12_held_196 (Nat.le_refl _) (Nat.le_refl _) (⟨by unfold heldI; rw [if_pos ⟨Int32.not_lt.mp c1_, c2_, c3_, c4_⟩, if_pos hb0]; simp only [rN, rX, rQ, rV, hcldq, hcleq, hclxq, hclyq]; rw [if_neg c8_]; first | rw [ltI_p c9_] | rw [ltI_n c9_], _, _, rfl⟩)
                  ·
                    refine m_bipush (-4) dX12_held_166 rfl ?_
                    exact m_iret dX12_held_168 (Nat.le_refl _) (Nat.le_refl _) (⟨by unfold heldI; rw [if_pos ⟨Int32.not_lt.mp c1_, c2_, c3_, c4_⟩, if_pos hb0]; simp only [rN, rX, rQ, rV, hcldq, hcleq, hclxq, hclyq]; rw [if_pos c8_], _, _, rfl⟩)
                ·
                  refine m_iload 9 rfl dX12_held_99 ?_
                  refine m_iload 12 rfl dX12_held_101 ?_
                  refine m_ishr dX12_held_103 ?_
                  refine m_iconst 1 dX12_held_104 rfl ?_
                  refine m_iand dX12_held_105 ?_
                  refine m_if_ne 112 dX12_held_106 (by decide) (fun c10_ => ?_) (fun c10_ => ?_)
                  ·
                    have hin := am_ne c10_
                    refine m_iload 11 rfl dX12_held_112 ?_
                    refine m_aload_n 0 rfl rfl dX12_held_114 ?_
                    refine m_iload 12 rfl dX12_held_115 ?_
                    refine m_iconst 2 dX12_held_117 rfl ?_
                    refine m_callVi cv_X12_119 [.int (nI (k_)), .int 2] [.int (nI (wgN a_ (fitA a_ (shN h_ dq) (shX h_ dq) (shY h_ dq) (hE h_ eq) 0) k_))] (k_m_get l G a_ ho_ im h_ hM k_ (by omega) 2 (by decide)) (by decide) (ce_4 G _ _ _ _ _ _ _ _ _ _) rfl rfl rfl ⟨Nat.le_of_ble_eq_true rfl, Nat.le_of_ble_eq_true rfl⟩ (Nat.le_of_ble_eq_true rfl) ⟨Nat.zero_le _, Nat.zero_le _⟩ dX12_held_118 (fun xx σ2 hq => ?_)
                    obtain ⟨hgx, rfl⟩ := hq
                    obtain rfl : xx = nI (aG a_ k_) := hgx
                    refine m_iadd dX12_held_121 ?_
                    refine m_topi (show (nI (wgN a_ (fitA a_ (shN h_ dq) (shX h_ dq) (shY h_ dq) (hE h_ eq) 0) k_)) + (nI (aG a_ k_)) = nI ((wgN a_ (fitA a_ (shN h_ dq) (shX h_ dq) (shY h_ dq) (hE h_ eq) 0) k_) + (aG a_ k_)) from nI_add _ _) ?_
                    refine m_istore [(11, .int (nI ((wgN a_ (fitA a_ (shN h_ dq) (shX h_ dq) (shY h_ dq) (hE h_ eq) 0) k_) + (aG a_ k_)))), (0, .ref (gK G 4 0)), (1, .int (nI (dq))), (2, .int (nI (eq))), (3, .int ab), (4, .int v_), (5, .int p_), (6, .int (nI (xq))), (7, .int (nI (yq))), (8, .int (boRefI h_ (nI dq) (nI eq))), (9, .int (fitA a_ (shN h_ dq) (shX h_ dq) (shY h_ dq) (hE h_ eq) 0)), (10, .int (nI (wgN a_ (fitA a_ (shN h_ dq) (shX h_ dq) (shY h_ dq) (hE h_ eq) 0 &&& whoA a_ xq yq v_) k_))), (12, .int (nI (k_)))] (by decide) rfl dX12_held_122 ?_
                    refine m_iload 11 rfl dX12_held_124 ?_
                    refine m_aload_n 1 rfl rfl dX12_held_126 ?_
                    refine m_iload 12 rfl dX12_held_127 ?_
                    refine m_iload 7 rfl dX12_held_129 ?_
                    refine m_iload 8 rfl dX12_held_131 ?_
                    refine m_callVi cv_X12_157 [.int (nI (k_)), .int (nI (xq)), .int (nI (yq))] [.int (nI (wgN a_ (fitA a_ (shN h_ dq) (shX h_ dq) (shY h_ dq) (hE h_ eq) 0 &&& whoA a_ xq yq v_) k_))] (k_m_answerOf l G a_ ho_ im h_ hM k_ (by omega) xq yq (by omega) (by omega)) (by decide) (ce_4 G _ _ _ _ _ _ _ _ _ _) rfl rfl rfl ⟨Nat.le_of_ble_eq_true rfl, Nat.le_of_ble_eq_true rfl⟩ (Nat.le_of_ble_eq_true rfl) ⟨Nat.zero_le _, Nat.zero_le _⟩ dX12_held_133 (fun xx σ2 hq => ?_)
                    obtain ⟨rfl, V11, rfl, hwV11⟩ := hq
                    refine m_iload 5 rfl dX12_held_136 ?_
                    refine m_icmp_ne 151 dX12_held_138 (by decide) (fun c12_ => ?_) (fun c12_ => ?_)
                    ·
                      have hve := c12_
                      refine m_iconst 0 dX12_held_151 rfl ?_
                      refine m_iadd dX12_held_152 ?_
                      refine m_topi (show (nI (wgN a_ (fitA a_ (shN h_ dq) (shX h_ dq) (shY h_ dq) (hE h_ eq) 0 &&& whoA a_ xq yq v_) k_)) + 0 = nI ((wgN a_ (fitA a_ (shN h_ dq) (shX h_ dq) (shY h_ dq) (hE h_ eq) 0 &&& whoA a_ xq yq v_) k_) + 0) from nI_add _ _) ?_
                      refine m_istore [(10, .int (nI ((wgN a_ (fitA a_ (shN h_ dq) (shX h_ dq) (shY h_ dq) (hE h_ eq) 0 &&& whoA a_ xq yq v_) k_) + 0))), (11, .int (nI ((wgN a_ (fitA a_ (shN h_ dq) (shX h_ dq) (shY h_ dq) (hE h_ eq) 0) k_) + (aG a_ k_)))), (0, .ref (gK G 4 0)), (1, .int (nI (dq))), (2, .int (nI (eq))), (3, .int ab), (4, .int v_), (5, .int p_), (6, .int (nI (xq))), (7, .int (nI (yq))), (8, .int (boRefI h_ (nI dq) (nI eq))), (9, .int (fitA a_ (shN h_ dq) (shX h_ dq) (shY h_ dq) (hE h_ eq) 0)), (12, .int (nI (k_)))] (by decide) rfl dX12_held_153 ?_
                      refine m_iinc (nI (k_ + 1)) 12 [(12, .int (nI (k_ + 1))), (10, .int (nI ((wgN a_ (fitA a_ (shN h_ dq) (shX h_ dq) (shY h_ dq) (hE h_ eq) 0 &&& whoA a_ xq yq v_) k_) + 0))), (11, .int (nI ((wgN a_ (fitA a_ (shN h_ dq) (shX h_ dq) (shY h_ dq) (hE h_ eq) 0) k_) + (aG a_ k_)))), (0, .ref (gK G 4 0)), (1, .int (nI (dq))), (2, .int (nI (eq))), (3, .int ab), (4, .int v_), (5, .int p_), (6, .int (nI (xq))), (7, .int (nI (yq))), (8, .int (boRefI h_ (nI dq) (nI eq))), (9, .int (fitA a_ (shN h_ dq) (shX h_ dq) (shY h_ dq) (hE h_ eq) 0))] rfl (nI_1 _) (by decide) rfl dX12_held_155 ?_
                      refine m_goto 88 dX12_held_158 (by decide) ?_
                      refine m_lv [(0, .ref (gK G 4 0)), (1, .int (nI (dq))), (2, .int (nI (eq))), (3, .int ab), (4, .int v_), (5, .int p_), (6, .int (nI (xq))), (7, .int (nI (yq))), (8, .int (boRefI h_ (nI dq) (nI eq))), (9, .int (fitA a_ (shN h_ dq) (shX h_ dq) (shY h_ dq) (hE h_ eq) 0)), (10, .int (nI ((wgN a_ (fitA a_ (shN h_ dq) (shX h_ dq) (shY h_ dq) (hE h_ eq) 0 &&& whoA a_ xq yq v_) k_) + 0))), (11, .int (nI ((wgN a_ (fitA a_ (shN h_ dq) (shX h_ dq) (shY h_ dq) (hE h_ eq) 0) k_) + (aG a_ k_)))), (12, .int (nI (k_ + 1)))] [3, 4, 5, 6, 7, 8, 9, 10, 11, 12, 1, 2, 0] rfl ?_
                      rw [show wgN a_ (fitA a_ (shN h_ dq) (shX h_ dq) (shY h_ dq) (hE h_ eq) 0 &&& whoA a_ xq yq v_) k_ + 0 = wgN a_ (fitA a_ (shN h_ dq) (shX h_ dq) (shY h_ dq) (hE h_ eq) 0 &&& whoA a_ xq yq v_) (k_ + 1) from wgN_f (by rw [fw_and ho_ (by omega), hin, decide_eq_false hve]; rfl), show wgN a_ (fitA a_ (shN h_ dq) (shX h_ dq) (shY h_ dq) (hE h_ eq) 0) k_ + aG a_ k_ = wgN a_ (fitA a_ (shN h_ dq) (shX h_ dq) (shY h_ dq) (hE h_ eq) 0) (k_ + 1) from wgN_t hin]
                      exact ih88 (k_ + 1) V11 (by omega) (by omega)
                    ·
                      have hve := c12_
                      refine m_aload_n 1 rfl rfl dX12_held_141 ?_
                      refine m_iload 12 rfl dX12_held_142 ?_
                      refine m_iconst 2 dX12_held_144 rfl ?_
                      refine m_callVi cv_X12_119 [.int (nI (k_)), .int 2] [.int (nI (wgN a_ (fitA a_ (shN h_ dq) (shX h_ dq) (shY h_ dq) (hE h_ eq) 0 &&& whoA a_ xq yq v_) k_))] (k_m_get l G a_ ho_ im h_ hM k_ (by omega) 2 (by decide)) (by decide) (ce_4 G _ _ _ _ _ _ _ _ _ _) rfl rfl rfl ⟨Nat.le_of_ble_eq_true rfl, Nat.le_of_ble_eq_true rfl⟩ (Nat.le_of_ble_eq_true rfl) ⟨Nat.zero_le _, Nat.zero_le _⟩ dX12_held_145 (fun xx σ2 hq => ?_)
                      obtain ⟨hgx, rfl⟩ := hq
                      obtain rfl : xx = nI (aG a_ k_) := hgx
                      refine m_goto 152 dX12_held_148 (by decide) ?_
                      refine m_iadd dX12_held_152 ?_
                      refine m_topi (show (nI (wgN a_ (fitA a_ (shN h_ dq) (shX h_ dq) (shY h_ dq) (hE h_ eq) 0 &&& whoA a_ xq yq v_) k_)) + (nI (aG a_ k_)) = nI ((wgN a_ (fitA a_ (shN h_ dq) (shX h_ dq) (shY h_ dq) (hE h_ eq) 0 &&& whoA a_ xq yq v_) k_) + (aG a_ k_)) from nI_add _ _) ?_
                      refine m_istore [(10, .int (nI ((wgN a_ (fitA a_ (shN h_ dq) (shX h_ dq) (shY h_ dq) (hE h_ eq) 0 &&& whoA a_ xq yq v_) k_) + (aG a_ k_)))), (11, .int (nI ((wgN a_ (fitA a_ (shN h_ dq) (shX h_ dq) (shY h_ dq) (hE h_ eq) 0) k_) + (aG a_ k_)))), (0, .ref (gK G 4 0)), (1, .int (nI (dq))), (2, .int (nI (eq))), (3, .int ab), (4, .int v_), (5, .int p_), (6, .int (nI (xq))), (7, .int (nI (yq))), (8, .int (boRefI h_ (nI dq) (nI eq))), (9, .int (fitA a_ (shN h_ dq) (shX h_ dq) (shY h_ dq) (hE h_ eq) 0)), (12, .int (nI (k_)))] (by decide) rfl dX12_held_153 ?_
                      refine m_iinc (nI (k_ + 1)) 12 [(12, .int (nI (k_ + 1))), (10, .int (nI ((wgN a_ (fitA a_ (shN h_ dq) (shX h_ dq) (shY h_ dq) (hE h_ eq) 0 &&& whoA a_ xq yq v_) k_) + (aG a_ k_)))), (11, .int (nI ((wgN a_ (fitA a_ (shN h_ dq) (shX h_ dq) (shY h_ dq) (hE h_ eq) 0) k_) + (aG a_ k_)))), (0, .ref (gK G 4 0)), (1, .int (nI (dq))), (2, .int (nI (eq))), (3, .int ab), (4, .int v_), (5, .int p_), (6, .int (nI (xq))), (7, .int (nI (yq))), (8, .int (boRefI h_ (nI dq) (nI eq))), (9, .int (fitA a_ (shN h_ dq) (shX h_ dq) (shY h_ dq) (hE h_ eq) 0))] rfl (nI_1 _) (by decide) rfl dX12_held_155 ?_
                      refine m_goto 88 dX12_held_158 (by decide) ?_
                      refine m_lv [(0, .ref (gK G 4 0)), (1, .int (nI (dq))), (2, .int (nI (eq))), (3, .int ab), (4, .int v_), (5, .int p_), (6, .int (nI (xq))), (7, .int (nI (yq))), (8, .int (boRefI h_ (nI dq) (nI eq))), (9, .int (fitA a_ (shN h_ dq) (shX h_ dq) (shY h_ dq) (hE h_ eq) 0)), (10, .int (nI ((wgN a_ (fitA a_ (shN h_ dq) (shX h_ dq) (shY h_ dq) (hE h_ eq) 0 &&& whoA a_ xq yq v_) k_) + (aG a_ k_)))), (11, .int (nI ((wgN a_ (fitA a_ (shN h_ dq) (shX h_ dq) (shY h_ dq) (hE h_ eq) 0) k_) + (aG a_ k_)))), (12, .int (nI (k_ + 1)))] [3, 4, 5, 6, 7, 8, 9, 10, 11, 12, 1, 2, 0] rfl ?_
                      rw [show wgN a_ (fitA a_ (shN h_ dq) (shX h_ dq) (shY h_ dq) (hE h_ eq) 0 &&& whoA a_ xq yq v_) k_ + aG a_ k_ = wgN a_ (fitA a_ (shN h_ dq) (shX h_ dq) (shY h_ dq) (hE h_ eq) 0 &&& whoA a_ xq yq v_) (k_ + 1) from wgN_t (by rw [fw_and ho_ (by omega), hin, decide_eq_true hve]; rfl), show wgN a_ (fitA a_ (shN h_ dq) (shX h_ dq) (shY h_ dq) (hE h_ eq) 0) k_ + aG a_ k_ = wgN a_ (fitA a_ (shN h_ dq) (shX h_ dq) (shY h_ dq) (hE h_ eq) 0) (k_ + 1) from wgN_t hin]
                      exact ih88 (k_ + 1) V11 (by omega) (by omega)
                  ·
                    have hin := am_eq c10_
                    refine m_goto 155 dX12_held_109 (by decide) ?_
                    refine m_iinc (nI (k_ + 1)) 12 [(12, .int (nI (k_ + 1))), (0, .ref (gK G 4 0)), (1, .int (nI (dq))), (2, .int (nI (eq))), (3, .int ab), (4, .int v_), (5, .int p_), (6, .int (nI (xq))), (7, .int (nI (yq))), (8, .int (boRefI h_ (nI dq) (nI eq))), (9, .int (fitA a_ (shN h_ dq) (shX h_ dq) (shY h_ dq) (hE h_ eq) 0)), (10, .int (nI (wgN a_ (fitA a_ (shN h_ dq) (shX h_ dq) (shY h_ dq) (hE h_ eq) 0 &&& whoA a_ xq yq v_) k_))), (11, .int (nI (wgN a_ (fitA a_ (shN h_ dq) (shX h_ dq) (shY h_ dq) (hE h_ eq) 0) k_)))] rfl (nI_1 _) (by decide) rfl dX12_held_155 ?_
                    refine m_goto 88 dX12_held_158 (by decide) ?_
                    refine m_lv [(0, .ref (gK G 4 0)), (1, .int (nI (dq))), (2, .int (nI (eq))), (3, .int ab), (4, .int v_), (5, .int p_), (6, .int (nI (xq))), (7, .int (nI (yq))), (8, .int (boRefI h_ (nI dq) (nI eq))), (9, .int (fitA a_ (shN h_ dq) (shX h_ dq) (shY h_ dq) (hE h_ eq) 0)), (10, .int (nI (wgN a_ (fitA a_ (shN h_ dq) (shX h_ dq) (shY h_ dq) (hE h_ eq) 0 &&& whoA a_ xq yq v_) k_))), (11, .int (nI (wgN a_ (fitA a_ (shN h_ dq) (shX h_ dq) (shY h_ dq) (hE h_ eq) 0) k_))), (12, .int (nI (k_ + 1)))] [1, 2, 3, 4, 5, 6, 7, 8, 9, 10, 11, 12, 0] rfl ?_
                    rw [show wgN a_ (fitA a_ (shN h_ dq) (shX h_ dq) (shY h_ dq) (hE h_ eq) 0 &&& whoA a_ xq yq v_) k_ = wgN a_ (fitA a_ (shN h_ dq) (shX h_ dq) (shY h_ dq) (hE h_ eq) 0 &&& whoA a_ xq yq v_) (k_ + 1) from wgN_f (by rw [fw_and ho_ (by omega), hin]; rfl), show wgN a_ (fitA a_ (shN h_ dq) (shX h_ dq) (shY h_ dq) (hE h_ eq) 0) k_ = wgN a_ (fitA a_ (shN h_ dq) (shX h_ dq) (shY h_ dq) (hE h_ eq) 0) (k_ + 1) from wgN_f hin]
                    exact ih88 (k_ + 1) V9 (by omega) (by omega)
            refine m_lv [(0, .ref (gK G 4 0)), (1, .int (nI (dq))), (2, .int (nI (eq))), (3, .int ab), (4, .int v_), (5, .int p_), (6, .int (nI (xq))), (7, .int (nI (yq))), (8, .int (boRefI h_ (nI dq) (nI eq))), (9, .int (fitA a_ (shN h_ dq) (shX h_ dq) (shY h_ dq) (hE h_ eq) 0)), (10, .int 0), (11, .int 0), (12, .int 0)] [7, 8, 9, 10, 11, 12, 6, 5, 4, 3, 2, 1, 0] rfl ?_
            exact lp88 ((aN a_ - 0) + 1) 0 V6 (Nat.zero_le _) (Nat.lt_succ_self _)
          ·
            refine m_iload 0 rfl dX12_held_67 ?_
            exact m_iret dX12_held_69 (Nat.le_refl _) (Nat.le_refl _) (⟨by first | (simp [heldI, c1_, c2_, c3_, c4_, c5_, hclxq, hclyq]; done) | (simp_all [heldI, rN, rX, rQ, rV]; done) | grind [heldI, rN, rX, rQ, rV], _, _, rfl⟩)
        ·
          refine m_iconst (-1) dX12_held_52 rfl ?_
          exact m_iret dX12_held_53 (Nat.le_refl _) (Nat.le_refl _) (⟨by first | (simp [heldI, c1_, c2_, c3_, c4_, hclxq, hclyq]; done) | (simp_all [heldI, rN, rX, rQ, rV]; done) | grind [heldI, rN, rX, rQ, rV], _, _, rfl⟩)
set_option maxRecDepth 100000 in
set_option maxHeartbeats 4000000 in
theorem k_m_most (l : Launch) (G : owG) {A S Z B T V : owF} {J : Nat → Nat → Int64} {Y : Nat → Nat → Nat → Option Nat} {P : Nat → Option owW} (a_ : owK) (ho_ : aOk a_) (im : Option owK) (h_ : owH) (hM : MR B a_ im h_) (x_ b_ : Int32) : Ct l G yX12_most cX12_most 8 ((some .int)) 6 0 0 [.ref (gK G 4 0), .int x_, .int b_] (A, S, Z, B, T, V, J, Y, P) (qI (fun r_ σ => r_ = mostI a_ h_ x_ b_ ∧ ∃ (T2 V2 : owF), σ = (A, S, Z, B, T2, V2, J, Y, P))) := by
  refine ct_of (by decide +kernel) (Nat.le_of_ble_eq_true rfl) ?_
  have h10 := ho_.1
  have h8_ := ho_.2.1
  have hX := hM.1
  show Wm l G cX12_most 8 RX12 ((some .int)) (rmk 6 0 0) (fun _ => True) (QfM G (qI (fun r_ σ => r_ = mostI a_ h_ x_ b_ ∧ ∃ (T2 V2 : owF), σ = (A, S, Z, B, T2, V2, J, Y, P))) 0 0) 0 [(0, .ref (gK G 4 0)), (1, .int x_), (2, .int b_)] [] (A, S, Z, B, T, V, J, Y, P) 0 0
  refine m_iload_n 1 rfl rfl dX12_most_0 ?_
  refine m_callSi cs_X12_101 [.int x_] [] (k_m_isShelf l G x_) rfl rfl ⟨Nat.le_of_ble_eq_true rfl, Nat.le_of_ble_eq_true rfl⟩ (Nat.le_of_ble_eq_true rfl) ⟨Nat.zero_le _, Nat.zero_le _⟩ dX12_most_1 (fun xx σ2 hq => ?_)
  obtain ⟨rfl, rfl⟩ := hq
  refine m_ifeq_b 15 dX12_most_4 (by decide) (fun c1_ => ?_) (fun c1_ => ?_)
  ·
    refine m_iconst (-1) dX12_most_15 rfl ?_
    exact m_iret dX12_most_16 (Nat.le_refl _) (Nat.le_refl _) (⟨by have hz := shRefI_n (h := h_) c1_; unfold mostI; rw [hz]; split <;> rfl, _, _, rfl⟩)
  ·
    refine m_aload_n 0 rfl rfl dX12_most_7 ?_
    refine m_iload_n 2 rfl rfl dX12_most_8 ?_
    refine m_callVi cv_X12_165 [.int b_] [] (k_m_areWays l G a_ ho_ im h_ hM b_) (by decide) (ce_4 G _ _ _ _ _ _ _ _ _ _) rfl rfl rfl ⟨Nat.le_of_ble_eq_true rfl, Nat.le_of_ble_eq_true rfl⟩ (Nat.le_of_ble_eq_true rfl) ⟨Nat.zero_le _, Nat.zero_le _⟩ dX12_most_9 (fun xx σ2 hq => ?_)
    obtain ⟨rfl, rfl⟩ := hq
    refine m_ifne_b 17 dX12_most_12 (by decide) (fun c2_ => ?_) (fun c2_ => ?_)
    ·
      have har := c2_
      obtain ⟨m_, hm_, rfl⟩ := (areW_nat ho_).mp c2_
      refine m_aload_n 0 rfl rfl dX12_most_17 ?_
      refine m_iload_n 1 rfl rfl dX12_most_18 ?_
      refine m_callVi cv_X12_175 [.int x_] [] (k_m_wrongSheet l G a_ ho_ im h_ hM x_) (by decide) (ce_4 G _ _ _ _ _ _ _ _ _ _) rfl rfl rfl ⟨Nat.le_of_ble_eq_true rfl, Nat.le_of_ble_eq_true rfl⟩ (Nat.le_of_ble_eq_true rfl) ⟨Nat.zero_le _, Nat.zero_le _⟩ dX12_most_19 (fun xx σ2 hq => ?_)
      obtain ⟨rfl, rfl⟩ := hq
      refine m_istore_n [(3, .int (shRefI h_ x_)), (0, .ref (gK G 4 0)), (1, .int x_), (2, .int (nI (m_)))] rfl (by decide) rfl dX12_most_22 ?_
      refine m_iload_n 0 rfl rfl dX12_most_23 ?_
      refine m_if_eq 29 dX12_most_24 (by decide) (fun c3_ => ?_) (fun c3_ => ?_)
      ·
        have hb0 := c3_
        obtain ⟨dq, hdq, rfl, hsr, hDd⟩ := shRefI_0 hb0
        have hcldq : (nI dq).toNatClampNeg = dq := nI_clamp (by omega)
        obtain ⟨hk2, hso2, hev, h24, hsm⟩ := shRef_ok hsr
        have hn12 : shN h_ dq ≤ 12 := by unfold shN; omega
        refine m_bipush (-4) dX12_most_29 rfl ?_
        refine m_istore [(4, .int (-4)), (3, .int (shRefI h_ (nI dq))), (0, .ref (gK G 4 0)), (1, .int (nI (dq))), (2, .int (nI (m_)))] (by decide) rfl dX12_most_31 ?_
        refine m_iconst 0 dX12_most_33 rfl ?_
        refine m_istore [(5, .int 0), (4, .int (-4)), (3, .int (shRefI h_ (nI dq))), (0, .ref (gK G 4 0)), (1, .int (nI (dq))), (2, .int (nI (m_)))] (by decide) rfl dX12_most_34 ?_
        refine m_iconst 0 dX12_most_36 rfl ?_
        refine m_istore [(6, .int 0), (5, .int 0), (4, .int (-4)), (3, .int (shRefI h_ (nI dq))), (0, .ref (gK G 4 0)), (1, .int (nI (dq))), (2, .int (nI (m_)))] (by decide) rfl dX12_most_37 ?_
        have lp39 : ∀ (dd : Nat) (k_ : Nat) (V9 : owF), k_ ≤ shN h_ dq → shN h_ dq - k_ < dd → Wm l G cX12_most 8 RX12 ((some .int)) (rmk 6 0 0) (fun _ => True) (QfM G (qI (fun r_ σ => r_ = mostI a_ h_ (nI dq) (nI m_) ∧ ∃ (T2 V2 : owF), σ = (A, S, Z, B, T2, V2, J, Y, P))) 0 0) 39 [(0, .ref (gK G 4 0)), (1, .int (nI (dq))), (2, .int (nI (m_))), (3, .int (shRefI h_ (nI dq))), (4, .int (optI (mstS (fun s_ => parN a_ (shX h_ dq s_) (shY h_ dq s_) (nI m_)) k_))), (5, .int (lesF (fun s_ => parN a_ (shX h_ dq s_) (shY h_ dq s_) (nI m_)) (mstS (fun s_ => parN a_ (shX h_ dq s_) (shY h_ dq s_) (nI m_)) k_))), (6, .int (nI (k_)))] [] (A, S, Z, B, T, V9, J, Y, P) 0 0 := by
          intro dd
          induction dd with
          | zero => intro k_ V9 hk_ hdd; exact absurd hdd (Nat.not_lt_zero _)
          | succ dd ih39 =>
            intro k_ V9 hk_ hdd39
            refine m_iload 6 rfl dX12_most_39 ?_
            refine m_aload_n 0 rfl rfl dX12_most_41 ?_
            refine m_iload_n 1 rfl rfl dX12_most_42 ?_
            refine m_callVi cv_X12_171 [.int (nI (dq))] [.int (nI (k_))] (k_m_sums l G a_ ho_ im h_ hM dq (by omega) hk2) (by decide) (ce_4 G _ _ _ _ _ _ _ _ _ _) rfl rfl rfl ⟨Nat.le_of_ble_eq_true rfl, Nat.le_of_ble_eq_true rfl⟩ (Nat.le_of_ble_eq_true rfl) ⟨Nat.zero_le _, Nat.zero_le _⟩ dX12_most_43 (fun xx σ2 hq => ?_)
            obtain ⟨rfl, rfl⟩ := hq
            refine m_icmpn_ge k_ (shN h_ dq) 99 (by omega) (by omega) dX12_most_46 (by decide) (fun c4_ => ?_) (fun c4_ => ?_)
            ·
              refine m_iload 4 rfl dX12_most_99 ?_
              exact m_iret dX12_most_101 (Nat.le_refl _) (Nat.le_refl _) ((by obtain rfl : k_ = shN h_ dq := (by omega); exact ⟨by unfold mostI; rw [if_pos har, if_pos hb0]; simp only [rN, rX, rQ, hcldq], _, _, rfl⟩))
            ·
              refine m_aload_n 0 rfl rfl dX12_most_49 ?_
              refine m_aload_n 0 rfl rfl dX12_most_50 ?_
              refine m_iload_n 1 rfl rfl dX12_most_51 ?_
              refine m_iload 6 rfl dX12_most_52 ?_
              refine m_callVi cv_X12_181 [.int (nI (dq)), .int (nI (k_))] [.ref (gK G 4 0)] (k_m_upperOf l G a_ ho_ im h_ hM dq (by omega) hsr k_ (by omega)) (by decide) (ce_4 G _ _ _ _ _ _ _ _ _ _) rfl rfl rfl ⟨Nat.le_of_ble_eq_true rfl, Nat.le_of_ble_eq_true rfl⟩ (Nat.le_of_ble_eq_true rfl) ⟨Nat.zero_le _, Nat.zero_le _⟩ dX12_most_54 (fun xx σ2 hq => ?_)
              obtain ⟨rfl, rfl⟩ := hq
              refine m_aload_n 0 rfl rfl dX12_most_57 ?_
              refine m_iload_n 1 rfl rfl dX12_most_58 ?_
              refine m_iload 6 rfl dX12_most_59 ?_
              refine m_callVi cv_X12_184 [.int (nI (dq)), .int (nI (k_))] [.int (nI (shX h_ dq k_)), .ref (gK G 4 0)] (k_m_lowerOf l G a_ ho_ im h_ hM dq (by omega) hsr k_ (by omega)) (by decide) (ce_4 G _ _ _ _ _ _ _ _ _ _) rfl rfl rfl ⟨Nat.le_of_ble_eq_true rfl, Nat.le_of_ble_eq_true rfl⟩ (Nat.le_of_ble_eq_true rfl) ⟨Nat.zero_le _, Nat.zero_le _⟩ dX12_most_61 (fun xx σ2 hq => ?_)
              obtain ⟨rfl, rfl⟩ := hq
              refine m_iload_n 2 rfl rfl dX12_most_64 ?_
              refine m_callVi cv_X12_168 [.int (nI (shX h_ dq k_)), .int (nI (shY h_ dq k_)), .int (nI (m_))] [] (k_m_partsOf l G a_ ho_ im h_ hM (shX h_ dq k_) (shY h_ dq k_) (hsm k_ (by omega)).2.2.2 (hsm k_ (by omega)).2.2.1 m_ hm_) (by decide) (ce_4 G _ _ _ _ _ _ _ _ _ _) rfl rfl rfl ⟨Nat.le_of_ble_eq_true rfl, Nat.le_of_ble_eq_true rfl⟩ (Nat.le_of_ble_eq_true rfl) ⟨Nat.zero_le _, Nat.zero_le _⟩ dX12_most_65 (fun xx σ2 hq => ?_)
              obtain ⟨rfl, V5, rfl⟩ := hq
              refine m_istore [(7, .int (nI (parN a_ (shX h_ dq k_) (shY h_ dq k_) (nI m_)))), (0, .ref (gK G 4 0)), (1, .int (nI (dq))), (2, .int (nI (m_))), (3, .int (shRefI h_ (nI dq))), (4, .int (optI (mstS (fun s_ => parN a_ (shX h_ dq s_) (shY h_ dq s_) (nI m_)) k_))), (5, .int (lesF (fun s_ => parN a_ (shX h_ dq s_) (shY h_ dq s_) (nI m_)) (mstS (fun s_ => parN a_ (shX h_ dq s_) (shY h_ dq s_) (nI m_)) k_))), (6, .int (nI (k_)))] (by decide) rfl dX12_most_68 ?_
              cases hl0 : mstS (fun s_ => parN a_ (shX h_ dq s_) (shY h_ dq s_) (nI m_)) k_ with
              | none =>
                have hpk : parN a_ (shX h_ dq k_) (shY h_ dq k_) (nI m_) ≤ 10 := Nat.le_trans (cntB_le _ _) h10
                refine m_iload 5 rfl dX12_most_70 ?_
                refine m_if_lt 85 dX12_most_72 (by decide) (fun _ => ?_) (fun c6_ => absurd c6_ (by decide))
                refine m_iload 7 rfl dX12_most_85 ?_
                refine m_istore [(4, .int (nI (k_))), (7, .int (nI (parN a_ (shX h_ dq k_) (shY h_ dq k_) (nI m_)))), (0, .ref (gK G 4 0)), (1, .int (nI (dq))), (2, .int (nI (m_))), (3, .int (shRefI h_ (nI dq))), (5, .int 0), (6, .int (nI (k_)))] (by decide) rfl dX12_most_87 ?_
                refine m_iload 1 rfl dX12_most_89 ?_
                refine m_istore [(5, .int (nI (parN a_ (shX h_ dq k_) (shY h_ dq k_) (nI m_)))), (4, .int (nI (k_))), (7, .int (nI (parN a_ (shX h_ dq k_) (shY h_ dq k_) (nI m_)))), (0, .ref (gK G 4 0)), (1, .int (nI (dq))), (2, .int (nI (m_))), (3, .int (shRefI h_ (nI dq))), (6, .int (nI (k_)))] (by decide) rfl dX12_most_91 ?_
                refine m_iinc (nI (k_ + 1)) 7 [(6, .int (nI (k_ + 1))), (5, .int (nI (parN a_ (shX h_ dq k_) (shY h_ dq k_) (nI m_)))), (4, .int (nI (k_))), (7, .int (nI (parN a_ (shX h_ dq k_) (shY h_ dq k_) (nI m_)))), (0, .ref (gK G 4 0)), (1, .int (nI (dq))), (2, .int (nI (m_))), (3, .int (shRefI h_ (nI dq)))] rfl (nI_1 _) (by decide) rfl dX12_most_93 ?_
                refine m_goto 39 dX12_most_96 (by decide) ?_
                refine m_lv [(0, .ref (gK G 4 0)), (1, .int (nI (dq))), (2, .int (nI (m_))), (3, .int (shRefI h_ (nI dq))), (4, .int (nI (k_))), (5, .int (nI (parN a_ (shX h_ dq k_) (shY h_ dq k_) (nI m_)))), (6, .int (nI (k_ + 1)))] [4, 5, 6, 7, 2, 1, 0] rfl ?_
                have ihx := ih39 (k_ + 1) V5 (by omega) (by omega)
                rw [mstS_0 hl0] at ihx
                exact ihx
              | some bw =>
                have hbk := mstS_lt hl0
                have hpk : parN a_ (shX h_ dq k_) (shY h_ dq k_) (nI m_) ≤ 10 := Nat.le_trans (cntB_le _ _) h10
                have hpb : parN a_ (shX h_ dq bw) (shY h_ dq bw) (nI m_) ≤ 10 := Nat.le_trans (cntB_le _ _) h10
                refine m_iload 5 rfl dX12_most_70 ?_
                refine m_ifn_lt bw 85 (by omega) dX12_most_72 (by decide) (fun c7_ => m_dead c7_) (fun _ => ?_)
                refine m_iload 0 rfl dX12_most_75 ?_
                refine m_iload 6 rfl dX12_most_77 ?_
                refine m_icmpn_gt (parN a_ (shX h_ dq k_) (shY h_ dq k_) (nI m_)) (parN a_ (shX h_ dq bw) (shY h_ dq bw) (nI m_)) 85 (by omega) (by omega) dX12_most_79 (by decide) (fun c8_ => ?_) (fun c8_ => ?_)
                ·
                  refine m_iload 7 rfl dX12_most_85 ?_
                  refine m_istore [(4, .int (nI (k_))), (7, .int (nI (parN a_ (shX h_ dq k_) (shY h_ dq k_) (nI m_)))), (0, .ref (gK G 4 0)), (1, .int (nI (dq))), (2, .int (nI (m_))), (3, .int (shRefI h_ (nI dq))), (5, .int (nI (parN a_ (shX h_ dq bw) (shY h_ dq bw) (nI m_)))), (6, .int (nI (k_)))] (by decide) rfl dX12_most_87 ?_
                  refine m_iload 1 rfl dX12_most_89 ?_
                  refine m_istore [(5, .int (nI (parN a_ (shX h_ dq k_) (shY h_ dq k_) (nI m_)))), (4, .int (nI (k_))), (7, .int (nI (parN a_ (shX h_ dq k_) (shY h_ dq k_) (nI m_)))), (0, .ref (gK G 4 0)), (1, .int (nI (dq))), (2, .int (nI (m_))), (3, .int (shRefI h_ (nI dq))), (6, .int (nI (k_)))] (by decide) rfl dX12_most_91 ?_
                  refine m_iinc (nI (k_ + 1)) 7 [(6, .int (nI (k_ + 1))), (5, .int (nI (parN a_ (shX h_ dq k_) (shY h_ dq k_) (nI m_)))), (4, .int (nI (k_))), (7, .int (nI (parN a_ (shX h_ dq k_) (shY h_ dq k_) (nI m_)))), (0, .ref (gK G 4 0)), (1, .int (nI (dq))), (2, .int (nI (m_))), (3, .int (shRefI h_ (nI dq)))] rfl (nI_1 _) (by decide) rfl dX12_most_93 ?_
                  refine m_goto 39 dX12_most_96 (by decide) ?_
                  refine m_lv [(0, .ref (gK G 4 0)), (1, .int (nI (dq))), (2, .int (nI (m_))), (3, .int (shRefI h_ (nI dq))), (4, .int (nI (k_))), (5, .int (nI (parN a_ (shX h_ dq k_) (shY h_ dq k_) (nI m_)))), (6, .int (nI (k_ + 1)))] [4, 5, 6, 7, 2, 1, 0] rfl ?_
                  have ihx := ih39 (k_ + 1) V5 (by omega) (by omega)
                  rw [mstS_y hl0 (show parN a_ (shX h_ dq bw) (shY h_ dq bw) (nI m_) < parN a_ (shX h_ dq k_) (shY h_ dq k_) (nI m_) by omega)] at ihx
                  exact ihx
                ·
                  refine m_goto 93 dX12_most_82 (by decide) ?_
                  refine m_iinc (nI (k_ + 1)) 7 [(6, .int (nI (k_ + 1))), (7, .int (nI (parN a_ (shX h_ dq k_) (shY h_ dq k_) (nI m_)))), (0, .ref (gK G 4 0)), (1, .int (nI (dq))), (2, .int (nI (m_))), (3, .int (shRefI h_ (nI dq))), (4, .int (nI (bw))), (5, .int (nI (parN a_ (shX h_ dq bw) (shY h_ dq bw) (nI m_))))] rfl (nI_1 _) (by decide) rfl dX12_most_93 ?_
                  refine m_goto 39 dX12_most_96 (by decide) ?_
                  refine m_lv [(0, .ref (gK G 4 0)), (1, .int (nI (dq))), (2, .int (nI (m_))), (3, .int (shRefI h_ (nI dq))), (4, .int (nI (bw))), (5, .int (nI (parN a_ (shX h_ dq bw) (shY h_ dq bw) (nI m_)))), (6, .int (nI (k_ + 1)))] [2, 3, 4, 5, 6, 7, 0] rfl ?_
                  have ihx := ih39 (k_ + 1) V5 (by omega) (by omega)
                  rw [mstS_n hl0 (show ¬ parN a_ (shX h_ dq bw) (shY h_ dq bw) (nI m_) < parN a_ (shX h_ dq k_) (shY h_ dq k_) (nI m_) by omega)] at ihx
                  exact ihx
        refine m_lv [(0, .ref (gK G 4 0)), (1, .int (nI (dq))), (2, .int (nI (m_))), (3, .int (shRefI h_ (nI dq))), (4, .int (-4)), (5, .int 0), (6, .int 0)] [4, 5, 6, 3, 2, 1, 0] rfl ?_
        exact lp39 ((shN h_ dq - 0) + 1) 0 V (Nat.zero_le _) (Nat.lt_succ_self _)
      ·
        refine m_iload_n 0 rfl rfl dX12_most_27 ?_
        exact m_iret dX12_most_28 (Nat.le_refl _) (Nat.le_refl _) (⟨by first | (simp [mostI, c1_, c2_, c3_]; done) | (simp_all [mostI, rN, rX, rQ, rV]; done) | grind [mostI], _, _, rfl⟩)
    ·
      refine m_iconst (-1) dX12_most_15 rfl ?_
      exact m_iret dX12_most_16 (Nat.le_refl _) (Nat.le_refl _) (⟨by first | (simp [mostI, c1_, c2_]; done) | (simp_all [mostI, rN, rX, rQ, rV]; done) | grind [mostI], _, _, rfl⟩)
set_option maxRecDepth 100000 in
set_option maxHeartbeats 4000000 in
theorem k_m_lacks (l : Launch) (G : owG) {A S Z B T V : owF} {J : Nat → Nat → Int64} {Y : Nat → Nat → Nat → Option Nat} {P : Nat → Option owW} (a_ : owK) (ho_ : aOk a_) (im : Option owK) (h_ : owH) (hM : MR B a_ im h_) (x_ z_ : Int32) : Ct l G yX12_lacks cX12_lacks 4 ((some .int)) 6 0 0 [.ref (gK G 4 0), .int x_, .int z_] (A, S, Z, B, T, V, J, Y, P) (qI (fun r_ σ => r_ = lacksI a_ h_ x_ z_ ∧ ∃ (T2 V2 : owF), σ = (A, S, Z, B, T2, V2, J, Y, P))) := by
  refine ct_of (by decide +kernel) (Nat.le_of_ble_eq_true rfl) ?_
  have h10 := ho_.1
  have h8_ := ho_.2.1
  have hX := hM.1
  show Wm l G cX12_lacks 4 RX12 ((some .int)) (rmk 6 0 0) (fun _ => True) (QfM G (qI (fun r_ σ => r_ = lacksI a_ h_ x_ z_ ∧ ∃ (T2 V2 : owF), σ = (A, S, Z, B, T2, V2, J, Y, P))) 0 0) 0 [(0, .ref (gK G 4 0)), (1, .int x_), (2, .int z_)] [] (A, S, Z, B, T, V, J, Y, P) 0 0
  refine m_aload_n 0 rfl rfl dX12_lacks_0 ?_
  refine m_iload_n 1 rfl rfl dX12_lacks_1 ?_
  refine m_iload_n 2 rfl rfl dX12_lacks_2 ?_
  refine m_callVi cv_X12_246 [.int x_, .int z_] [] (k_m_likely l G a_ ho_ im h_ hM x_ z_) (by decide) (ce_4 G _ _ _ _ _ _ _ _ _ _) rfl rfl rfl ⟨Nat.le_of_ble_eq_true rfl, Nat.le_of_ble_eq_true rfl⟩ (Nat.le_of_ble_eq_true rfl) ⟨Nat.zero_le _, Nat.zero_le _⟩ dX12_lacks_3 (fun xx σ2 hq => ?_)
  obtain ⟨rfl, T1, V2, rfl⟩ := hq
  refine m_istore_n [(3, .int (likelyI a_ h_ x_ z_)), (0, .ref (gK G 4 0)), (1, .int x_), (2, .int z_)] rfl (by decide) rfl dX12_lacks_6 ?_
  refine m_iload_n 0 rfl rfl dX12_lacks_7 ?_
  refine m_if_ge 15 dX12_lacks_8 (by decide) (fun c3_ => ?_) (fun c3_ => ?_)
  ·
    obtain ⟨bw, hb0, hl0, hl1, hbw⟩ := likelyI_nn ho_ c3_
    rw [hl1]
    refine m_aload_n 1 rfl rfl dX12_lacks_15 ?_
    refine m_iload_n 0 rfl rfl dX12_lacks_16 ?_
    refine m_iconst 0 dX12_lacks_17 rfl ?_
    refine m_callVi cv_X12_119 [.int (nI (bw)), .int 0] [] (k_m_get l G a_ ho_ im h_ hM bw (by omega) 0 (by decide)) (by decide) (ce_4 G _ _ _ _ _ _ _ _ _ _) rfl rfl rfl ⟨Nat.le_of_ble_eq_true rfl, Nat.le_of_ble_eq_true rfl⟩ (Nat.le_of_ble_eq_true rfl) ⟨Nat.zero_le _, Nat.zero_le _⟩ dX12_lacks_18 (fun xx σ2 hq => ?_)
    obtain ⟨hgx, rfl⟩ := hq
    obtain rfl : xx = nI (aK a_ bw) := hgx
    have hx4 := aK_lt ho_ (w := bw) (by omega)
    exact m_iret dX12_lacks_21 (Nat.le_refl _) (Nat.le_refl _) (⟨by unfold lacksI; rw [if_pos hb0, hl0], _, _, rfl⟩)
  ·
    have hla := lacksI_n ho_ c3_
    refine m_iload_n 0 rfl rfl dX12_lacks_11 ?_
    refine m_goto 21 dX12_lacks_12 (by decide) ?_
    exact m_iret dX12_lacks_21 (Nat.le_refl _) (Nat.le_refl _) (⟨hla.symm, _, _, rfl⟩)
set_option maxRecDepth 100000 in
set_option maxHeartbeats 4000000 in
theorem k_m_marksOf (l : Launch) (G : owG) {A S Z B T V : owF} {J : Nat → Nat → Int64} {Y : Nat → Nat → Nat → Option Nat} {P : Nat → Option owW} (a_ : owK) (ho_ : aOk a_) (im : Option owK) (h_ : owH) (hM : MR B a_ im h_) (w_ : Nat) (hw_ : w_ < aN a_) (d_ : Nat) (hd_ : d_ < 8) (hsr : shRef h_ d_ = 0) (fl : Bool) : Ct l G yX12_marksOf cX12_marksOf 7 ((some .int)) 4 0 0 [.ref (gK G 4 0), .int (nI (w_)), .int (nI (d_)), .int (bI (fl))] (A, S, Z, B, T, V, J, Y, P) (qI (fun r_ σ => r_ = nI (mkN a_ (shN h_ d_) (shX h_ d_) (shY h_ d_) fl w_) ∧ ∃ V2 : owF, σ = (A, S, Z, B, T, V2, J, Y, P))) := by
  refine ct_of (by decide +kernel) (Nat.le_of_ble_eq_true rfl) ?_
  have h10 := ho_.1
  have h8_ := ho_.2.1
  have hX := hM.1
  obtain ⟨hk2, hso2, hev, h24, hsm⟩ := shRef_ok hsr
  have hms := hM.2.2.2 d_ hd_
  have hm2 := hms.2.2.1 hk2
  have hs2 := hm2.2.1
  have hn100 := hm2.2.2.2.1
  have hsn : shN h_ d_ = hN h_ d_ / 2 := rfl
  have hn12 : shN h_ d_ ≤ 12 := (by omega)
  show Wm l G cX12_marksOf 7 RX12 ((some .int)) (rmk 4 0 0) (fun _ => True) (QfM G (qI (fun r_ σ => r_ = nI (mkN a_ (shN h_ d_) (shX h_ d_) (shY h_ d_) fl w_) ∧ ∃ V2 : owF, σ = (A, S, Z, B, T, V2, J, Y, P))) 0 0) 0 [(0, .ref (gK G 4 0)), (1, .int (nI (w_))), (2, .int (nI (d_))), (3, .int (bI (fl)))] [] (A, S, Z, B, T, V, J, Y, P) 0 0
  refine m_iconst 0 dX12_marksOf_0 rfl ?_
  refine m_istore [(4, .int 0), (0, .ref (gK G 4 0)), (1, .int (nI (w_))), (2, .int (nI (d_))), (3, .int (bI (fl)))] (by decide) rfl dX12_marksOf_1 ?_
  refine m_iconst 0 dX12_marksOf_3 rfl ?_
  refine m_istore [(5, .int 0), (4, .int 0), (0, .ref (gK G 4 0)), (1, .int (nI (w_))), (2, .int (nI (d_))), (3, .int (bI (fl)))] (by decide) rfl dX12_marksOf_4 ?_
  have lp6 : ∀ (dd : Nat) (k_ : Nat) (V9 : owF), k_ ≤ shN h_ d_ → shN h_ d_ - k_ < dd → Wm l G cX12_marksOf 7 RX12 ((some .int)) (rmk 4 0 0) (fun _ => True) (QfM G (qI (fun r_ σ => r_ = nI (mkN a_ (shN h_ d_) (shX h_ d_) (shY h_ d_) fl w_) ∧ ∃ V2 : owF, σ = (A, S, Z, B, T, V2, J, Y, P))) 0 0) 6 [(0, .ref (gK G 4 0)), (1, .int (nI (w_))), (2, .int (nI (d_))), (3, .int (bI (fl))), (4, .int (nI (cntB (fun s_ => decide (nI (ansA a_ w_ (shX h_ d_ s_) (shY h_ d_ s_)) = nI (shX h_ d_ s_) - nI (shY h_ d_ s_)) && (!fl || decide (stkI (aK a_ w_) (aF a_ w_) (shX h_ d_ s_) (shY h_ d_ s_) 4 ≠ 0))) k_))), (5, .int (nI (k_)))] [] (A, S, Z, B, T, V9, J, Y, P) 0 0 := by
    intro dd
    induction dd with
    | zero => intro k_ V9 hk_ hdd; exact absurd hdd (Nat.not_lt_zero _)
    | succ dd ih6 =>
      intro k_ V9 hk_ hdd6
      have hcc := cntB_le (fun s_ => decide (nI (ansA a_ w_ (shX h_ d_ s_) (shY h_ d_ s_)) = nI (shX h_ d_ s_) - nI (shY h_ d_ s_)) && (!fl || decide (stkI (aK a_ w_) (aF a_ w_) (shX h_ d_ s_) (shY h_ d_ s_) 4 ≠ 0))) k_
      refine m_iload 5 rfl dX12_marksOf_6 ?_
      refine m_aload_n 0 rfl rfl dX12_marksOf_8 ?_
      refine m_iload_n 2 rfl rfl dX12_marksOf_9 ?_
      refine m_callVi cv_X12_171 [.int (nI (d_))] [.int (nI (k_))] (k_m_sums l G a_ ho_ im h_ hM d_ (by omega) hk2) (by decide) (ce_4 G _ _ _ _ _ _ _ _ _ _) rfl rfl rfl ⟨Nat.le_of_ble_eq_true rfl, Nat.le_of_ble_eq_true rfl⟩ (Nat.le_of_ble_eq_true rfl) ⟨Nat.zero_le _, Nat.zero_le _⟩ dX12_marksOf_10 (fun xx σ2 hq => ?_)
      obtain ⟨rfl, rfl⟩ := hq
      refine m_icmpn_ge k_ (shN h_ d_) 92 (by omega) (by omega) dX12_marksOf_13 (by decide) (fun c1_ => ?_) (fun c1_ => ?_)
      ·
        refine m_iload 4 rfl dX12_marksOf_92 ?_
        exact m_iret dX12_marksOf_94 (Nat.le_refl _) (Nat.le_refl _) ((by obtain rfl : k_ = shN h_ d_ := (by omega); exact ⟨rfl, _, rfl⟩))
      ·
        refine m_aload_n 0 rfl rfl dX12_marksOf_16 ?_
        refine m_iload_n 1 rfl rfl dX12_marksOf_17 ?_
        refine m_aload_n 0 rfl rfl dX12_marksOf_18 ?_
        refine m_iload_n 2 rfl rfl dX12_marksOf_19 ?_
        refine m_iload 5 rfl dX12_marksOf_20 ?_
        refine m_callVi cv_X12_181 [.int (nI (d_)), .int (nI (k_))] [.int (nI (w_)), .ref (gK G 4 0)] (k_m_upperOf l G a_ ho_ im h_ hM d_ (by omega) hsr k_ (by omega)) (by decide) (ce_4 G _ _ _ _ _ _ _ _ _ _) rfl rfl rfl ⟨Nat.le_of_ble_eq_true rfl, Nat.le_of_ble_eq_true rfl⟩ (Nat.le_of_ble_eq_true rfl) ⟨Nat.zero_le _, Nat.zero_le _⟩ dX12_marksOf_22 (fun xx σ2 hq => ?_)
        obtain ⟨rfl, rfl⟩ := hq
        refine m_aload_n 0 rfl rfl dX12_marksOf_25 ?_
        refine m_iload_n 2 rfl rfl dX12_marksOf_26 ?_
        refine m_iload 5 rfl dX12_marksOf_27 ?_
        refine m_callVi cv_X12_184 [.int (nI (d_)), .int (nI (k_))] [.int (nI (shX h_ d_ k_)), .int (nI (w_)), .ref (gK G 4 0)] (k_m_lowerOf l G a_ ho_ im h_ hM d_ (by omega) hsr k_ (by omega)) (by decide) (ce_4 G _ _ _ _ _ _ _ _ _ _) rfl rfl rfl ⟨Nat.le_of_ble_eq_true rfl, Nat.le_of_ble_eq_true rfl⟩ (Nat.le_of_ble_eq_true rfl) ⟨Nat.zero_le _, Nat.zero_le _⟩ dX12_marksOf_29 (fun xx σ2 hq => ?_)
        obtain ⟨rfl, rfl⟩ := hq
        refine m_callVi cv_X12_157 [.int (nI (w_)), .int (nI (shX h_ d_ k_)), .int (nI (shY h_ d_ k_))] [] (k_m_answerOf l G a_ ho_ im h_ hM w_ (by omega) (shX h_ d_ k_) (shY h_ d_ k_) (hsm k_ (by omega)).2.2.2 (hsm k_ (by omega)).2.2.1) (by decide) (ce_4 G _ _ _ _ _ _ _ _ _ _) rfl rfl rfl ⟨Nat.le_of_ble_eq_true rfl, Nat.le_of_ble_eq_true rfl⟩ (Nat.le_of_ble_eq_true rfl) ⟨Nat.zero_le _, Nat.zero_le _⟩ dX12_marksOf_32 (fun xx σ2 hq => ?_)
        obtain ⟨rfl, V2, rfl, hwV2⟩ := hq
        refine m_aload_n 0 rfl rfl dX12_marksOf_35 ?_
        refine m_iload_n 2 rfl rfl dX12_marksOf_36 ?_
        refine m_iload 5 rfl dX12_marksOf_37 ?_
        refine m_callVi cv_X12_181 [.int (nI (d_)), .int (nI (k_))] [.int (nI (ansA a_ w_ (shX h_ d_ k_) (shY h_ d_ k_)))] (k_m_upperOf l G a_ ho_ im h_ hM d_ (by omega) hsr k_ (by omega)) (by decide) (ce_4 G _ _ _ _ _ _ _ _ _ _) rfl rfl rfl ⟨Nat.le_of_ble_eq_true rfl, Nat.le_of_ble_eq_true rfl⟩ (Nat.le_of_ble_eq_true rfl) ⟨Nat.zero_le _, Nat.zero_le _⟩ dX12_marksOf_39 (fun xx σ2 hq => ?_)
        obtain ⟨rfl, rfl⟩ := hq
        refine m_aload_n 0 rfl rfl dX12_marksOf_42 ?_
        refine m_iload_n 2 rfl rfl dX12_marksOf_43 ?_
        refine m_iload 5 rfl dX12_marksOf_44 ?_
        refine m_callVi cv_X12_184 [.int (nI (d_)), .int (nI (k_))] [.int (nI (shX h_ d_ k_)), .int (nI (ansA a_ w_ (shX h_ d_ k_) (shY h_ d_ k_)))] (k_m_lowerOf l G a_ ho_ im h_ hM d_ (by omega) hsr k_ (by omega)) (by decide) (ce_4 G _ _ _ _ _ _ _ _ _ _) rfl rfl rfl ⟨Nat.le_of_ble_eq_true rfl, Nat.le_of_ble_eq_true rfl⟩ (Nat.le_of_ble_eq_true rfl) ⟨Nat.zero_le _, Nat.zero_le _⟩ dX12_marksOf_46 (fun xx σ2 hq => ?_)
        obtain ⟨rfl, rfl⟩ := hq
        refine m_isub dX12_marksOf_49 ?_
        refine m_icmp_ne 57 dX12_marksOf_50 (by decide) (fun c3_ => ?_) (fun c3_ => ?_)
        ·
          refine m_iconst 0 dX12_marksOf_57 rfl ?_
          refine m_istore [(6, .int 0), (0, .ref (gK G 4 0)), (1, .int (nI (w_))), (2, .int (nI (d_))), (3, .int (bI (fl))), (4, .int (nI (cntB (fun s_ => decide (nI (ansA a_ w_ (shX h_ d_ s_) (shY h_ d_ s_)) = nI (shX h_ d_ s_) - nI (shY h_ d_ s_)) && (!fl || decide (stkI (aK a_ w_) (aF a_ w_) (shX h_ d_ s_) (shY h_ d_ s_) 4 ≠ 0))) k_))), (5, .int (nI (k_)))] (by decide) rfl dX12_marksOf_58 ?_
          refine m_iload 5 rfl dX12_marksOf_60 ?_
          refine m_iload 0 rfl dX12_marksOf_62 ?_
          refine m_if_eq 82 dX12_marksOf_64 (by decide) (fun _ => ?_) (fun c4_ => absurd c4_ (by decide))
          refine m_iconst 0 dX12_marksOf_82 rfl ?_
          refine m_iadd dX12_marksOf_83 ?_
          refine m_topi (show (nI (cntB (fun s_ => decide (nI (ansA a_ w_ (shX h_ d_ s_) (shY h_ d_ s_)) = nI (shX h_ d_ s_) - nI (shY h_ d_ s_)) && (!fl || decide (stkI (aK a_ w_) (aF a_ w_) (shX h_ d_ s_) (shY h_ d_ s_) 4 ≠ 0))) k_)) + 0 = nI ((cntB (fun s_ => decide (nI (ansA a_ w_ (shX h_ d_ s_) (shY h_ d_ s_)) = nI (shX h_ d_ s_) - nI (shY h_ d_ s_)) && (!fl || decide (stkI (aK a_ w_) (aF a_ w_) (shX h_ d_ s_) (shY h_ d_ s_) 4 ≠ 0))) k_) + 0) from nI_add _ _) ?_
          refine m_istore [(4, .int (nI ((cntB (fun s_ => decide (nI (ansA a_ w_ (shX h_ d_ s_) (shY h_ d_ s_)) = nI (shX h_ d_ s_) - nI (shY h_ d_ s_)) && (!fl || decide (stkI (aK a_ w_) (aF a_ w_) (shX h_ d_ s_) (shY h_ d_ s_) 4 ≠ 0))) k_) + 0))), (6, .int 0), (0, .ref (gK G 4 0)), (1, .int (nI (w_))), (2, .int (nI (d_))), (3, .int (bI (fl))), (5, .int (nI (k_)))] (by decide) rfl dX12_marksOf_84 ?_
          refine m_iinc (nI (k_ + 1)) 6 [(5, .int (nI (k_ + 1))), (4, .int (nI ((cntB (fun s_ => decide (nI (ansA a_ w_ (shX h_ d_ s_) (shY h_ d_ s_)) = nI (shX h_ d_ s_) - nI (shY h_ d_ s_)) && (!fl || decide (stkI (aK a_ w_) (aF a_ w_) (shX h_ d_ s_) (shY h_ d_ s_) 4 ≠ 0))) k_) + 0))), (6, .int 0), (0, .ref (gK G 4 0)), (1, .int (nI (w_))), (2, .int (nI (d_))), (3, .int (bI (fl)))] rfl (nI_1 _) (by decide) rfl dX12_marksOf_86 ?_
          refine m_goto 6 dX12_marksOf_89 (by decide) ?_
          refine m_lv [(0, .ref (gK G 4 0)), (1, .int (nI (w_))), (2, .int (nI (d_))), (3, .int (bI (fl))), (4, .int (nI ((cntB (fun s_ => decide (nI (ansA a_ w_ (shX h_ d_ s_) (shY h_ d_ s_)) = nI (shX h_ d_ s_) - nI (shY h_ d_ s_)) && (!fl || decide (stkI (aK a_ w_) (aF a_ w_) (shX h_ d_ s_) (shY h_ d_ s_) 4 ≠ 0))) k_) + 0))), (5, .int (nI (k_ + 1)))] [3, 4, 5, 6, 1, 0] rfl ?_
          rw [show cntB (fun s_ => decide (nI (ansA a_ w_ (shX h_ d_ s_) (shY h_ d_ s_)) = nI (shX h_ d_ s_) - nI (shY h_ d_ s_)) && (!fl || decide (stkI (aK a_ w_) (aF a_ w_) (shX h_ d_ s_) (shY h_ d_ s_) 4 ≠ 0))) k_ = cntB (fun s_ => decide (nI (ansA a_ w_ (shX h_ d_ s_) (shY h_ d_ s_)) = nI (shX h_ d_ s_) - nI (shY h_ d_ s_)) && (!fl || decide (stkI (aK a_ w_) (aF a_ w_) (shX h_ d_ s_) (shY h_ d_ s_) 4 ≠ 0))) (k_ + 1) from cntB_f (p := (fun s_ => decide (nI (ansA a_ w_ (shX h_ d_ s_) (shY h_ d_ s_)) = nI (shX h_ d_ s_) - nI (shY h_ d_ s_)) && (!fl || decide (stkI (aK a_ w_) (aF a_ w_) (shX h_ d_ s_) (shY h_ d_ s_) 4 ≠ 0)))) (by simp [*])]
          exact ih6 (k_ + 1) V2 (by omega) (by omega)
        ·
          refine m_iconst 1 dX12_marksOf_53 rfl ?_
          refine m_goto 58 dX12_marksOf_54 (by decide) ?_
          refine m_istore [(6, .int 1), (0, .ref (gK G 4 0)), (1, .int (nI (w_))), (2, .int (nI (d_))), (3, .int (bI (fl))), (4, .int (nI (cntB (fun s_ => decide (nI (ansA a_ w_ (shX h_ d_ s_) (shY h_ d_ s_)) = nI (shX h_ d_ s_) - nI (shY h_ d_ s_)) && (!fl || decide (stkI (aK a_ w_) (aF a_ w_) (shX h_ d_ s_) (shY h_ d_ s_) 4 ≠ 0))) k_))), (5, .int (nI (k_)))] (by decide) rfl dX12_marksOf_58 ?_
          refine m_iload 5 rfl dX12_marksOf_60 ?_
          refine m_iload 0 rfl dX12_marksOf_62 ?_
          refine m_if_eq 82 dX12_marksOf_64 (by decide) (fun c5_ => absurd c5_ (by decide)) (fun _ => ?_)
          refine m_iload_n 4 rfl rfl dX12_marksOf_67 ?_
          refine m_ifeq_b 78 dX12_marksOf_68 (by decide) (fun c6_ => ?_) (fun c6_ => ?_)
          ·
            refine m_iconst 1 dX12_marksOf_78 rfl ?_
            refine m_goto 83 dX12_marksOf_79 (by decide) ?_
            refine m_iadd dX12_marksOf_83 ?_
            refine m_topi (show (nI (cntB (fun s_ => decide (nI (ansA a_ w_ (shX h_ d_ s_) (shY h_ d_ s_)) = nI (shX h_ d_ s_) - nI (shY h_ d_ s_)) && (!fl || decide (stkI (aK a_ w_) (aF a_ w_) (shX h_ d_ s_) (shY h_ d_ s_) 4 ≠ 0))) k_)) + 1 = nI ((cntB (fun s_ => decide (nI (ansA a_ w_ (shX h_ d_ s_) (shY h_ d_ s_)) = nI (shX h_ d_ s_) - nI (shY h_ d_ s_)) && (!fl || decide (stkI (aK a_ w_) (aF a_ w_) (shX h_ d_ s_) (shY h_ d_ s_) 4 ≠ 0))) k_) + 1) from nI_add _ _) ?_
            refine m_istore [(4, .int (nI ((cntB (fun s_ => decide (nI (ansA a_ w_ (shX h_ d_ s_) (shY h_ d_ s_)) = nI (shX h_ d_ s_) - nI (shY h_ d_ s_)) && (!fl || decide (stkI (aK a_ w_) (aF a_ w_) (shX h_ d_ s_) (shY h_ d_ s_) 4 ≠ 0))) k_) + 1))), (6, .int 1), (0, .ref (gK G 4 0)), (1, .int (nI (w_))), (2, .int (nI (d_))), (3, .int (bI (fl))), (5, .int (nI (k_)))] (by decide) rfl dX12_marksOf_84 ?_
            refine m_iinc (nI (k_ + 1)) 6 [(5, .int (nI (k_ + 1))), (4, .int (nI ((cntB (fun s_ => decide (nI (ansA a_ w_ (shX h_ d_ s_) (shY h_ d_ s_)) = nI (shX h_ d_ s_) - nI (shY h_ d_ s_)) && (!fl || decide (stkI (aK a_ w_) (aF a_ w_) (shX h_ d_ s_) (shY h_ d_ s_) 4 ≠ 0))) k_) + 1))), (6, .int 1), (0, .ref (gK G 4 0)), (1, .int (nI (w_))), (2, .int (nI (d_))), (3, .int (bI (fl)))] rfl (nI_1 _) (by decide) rfl dX12_marksOf_86 ?_
            refine m_goto 6 dX12_marksOf_89 (by decide) ?_
            refine m_lv [(0, .ref (gK G 4 0)), (1, .int (nI (w_))), (2, .int (nI (d_))), (3, .int (bI (fl))), (4, .int (nI ((cntB (fun s_ => decide (nI (ansA a_ w_ (shX h_ d_ s_) (shY h_ d_ s_)) = nI (shX h_ d_ s_) - nI (shY h_ d_ s_)) && (!fl || decide (stkI (aK a_ w_) (aF a_ w_) (shX h_ d_ s_) (shY h_ d_ s_) 4 ≠ 0))) k_) + 1))), (5, .int (nI (k_ + 1)))] [3, 4, 5, 6, 1, 0] rfl ?_
            rw [show (cntB (fun s_ => decide (nI (ansA a_ w_ (shX h_ d_ s_) (shY h_ d_ s_)) = nI (shX h_ d_ s_) - nI (shY h_ d_ s_)) && (!fl || decide (stkI (aK a_ w_) (aF a_ w_) (shX h_ d_ s_) (shY h_ d_ s_) 4 ≠ 0))) k_) + 1 = cntB (fun s_ => decide (nI (ansA a_ w_ (shX h_ d_ s_) (shY h_ d_ s_)) = nI (shX h_ d_ s_) - nI (shY h_ d_ s_)) && (!fl || decide (stkI (aK a_ w_) (aF a_ w_) (shX h_ d_ s_) (shY h_ d_ s_) 4 ≠ 0))) (k_ + 1) from cntB_t (p := (fun s_ => decide (nI (ansA a_ w_ (shX h_ d_ s_) (shY h_ d_ s_)) = nI (shX h_ d_ s_) - nI (shY h_ d_ s_)) && (!fl || decide (stkI (aK a_ w_) (aF a_ w_) (shX h_ d_ s_) (shY h_ d_ s_) 4 ≠ 0)))) (by simp [*])]
            exact ih6 (k_ + 1) V2 (by omega) (by omega)
          ·
            refine m_aload_n 1 rfl rfl dX12_marksOf_71 ?_
            refine gf_X12_150 dX12_marksOf_72 ?_
            refine m_topi hwV2.2 ?_
            refine m_if_eq 82 dX12_marksOf_75 (by decide) (fun c7_ => ?_) (fun c7_ => ?_)
            ·
              refine m_iconst 0 dX12_marksOf_82 rfl ?_
              refine m_iadd dX12_marksOf_83 ?_
              refine m_topi (show (nI (cntB (fun s_ => decide (nI (ansA a_ w_ (shX h_ d_ s_) (shY h_ d_ s_)) = nI (shX h_ d_ s_) - nI (shY h_ d_ s_)) && (!fl || decide (stkI (aK a_ w_) (aF a_ w_) (shX h_ d_ s_) (shY h_ d_ s_) 4 ≠ 0))) k_)) + 0 = nI ((cntB (fun s_ => decide (nI (ansA a_ w_ (shX h_ d_ s_) (shY h_ d_ s_)) = nI (shX h_ d_ s_) - nI (shY h_ d_ s_)) && (!fl || decide (stkI (aK a_ w_) (aF a_ w_) (shX h_ d_ s_) (shY h_ d_ s_) 4 ≠ 0))) k_) + 0) from nI_add _ _) ?_
              refine m_istore [(4, .int (nI ((cntB (fun s_ => decide (nI (ansA a_ w_ (shX h_ d_ s_) (shY h_ d_ s_)) = nI (shX h_ d_ s_) - nI (shY h_ d_ s_)) && (!fl || decide (stkI (aK a_ w_) (aF a_ w_) (shX h_ d_ s_) (shY h_ d_ s_) 4 ≠ 0))) k_) + 0))), (6, .int 1), (0, .ref (gK G 4 0)), (1, .int (nI (w_))), (2, .int (nI (d_))), (3, .int (bI (fl))), (5, .int (nI (k_)))] (by decide) rfl dX12_marksOf_84 ?_
              refine m_iinc (nI (k_ + 1)) 6 [(5, .int (nI (k_ + 1))), (4, .int (nI ((cntB (fun s_ => decide (nI (ansA a_ w_ (shX h_ d_ s_) (shY h_ d_ s_)) = nI (shX h_ d_ s_) - nI (shY h_ d_ s_)) && (!fl || decide (stkI (aK a_ w_) (aF a_ w_) (shX h_ d_ s_) (shY h_ d_ s_) 4 ≠ 0))) k_) + 0))), (6, .int 1), (0, .ref (gK G 4 0)), (1, .int (nI (w_))), (2, .int (nI (d_))), (3, .int (bI (fl)))] rfl (nI_1 _) (by decide) rfl dX12_marksOf_86 ?_
              refine m_goto 6 dX12_marksOf_89 (by decide) ?_
              refine m_lv [(0, .ref (gK G 4 0)), (1, .int (nI (w_))), (2, .int (nI (d_))), (3, .int (bI (fl))), (4, .int (nI ((cntB (fun s_ => decide (nI (ansA a_ w_ (shX h_ d_ s_) (shY h_ d_ s_)) = nI (shX h_ d_ s_) - nI (shY h_ d_ s_)) && (!fl || decide (stkI (aK a_ w_) (aF a_ w_) (shX h_ d_ s_) (shY h_ d_ s_) 4 ≠ 0))) k_) + 0))), (5, .int (nI (k_ + 1)))] [3, 4, 5, 6, 1, 0] rfl ?_
              rw [show cntB (fun s_ => decide (nI (ansA a_ w_ (shX h_ d_ s_) (shY h_ d_ s_)) = nI (shX h_ d_ s_) - nI (shY h_ d_ s_)) && (!fl || decide (stkI (aK a_ w_) (aF a_ w_) (shX h_ d_ s_) (shY h_ d_ s_) 4 ≠ 0))) k_ = cntB (fun s_ => decide (nI (ansA a_ w_ (shX h_ d_ s_) (shY h_ d_ s_)) = nI (shX h_ d_ s_) - nI (shY h_ d_ s_)) && (!fl || decide (stkI (aK a_ w_) (aF a_ w_) (shX h_ d_ s_) (shY h_ d_ s_) 4 ≠ 0))) (k_ + 1) from cntB_f (p := (fun s_ => decide (nI (ansA a_ w_ (shX h_ d_ s_) (shY h_ d_ s_)) = nI (shX h_ d_ s_) - nI (shY h_ d_ s_)) && (!fl || decide (stkI (aK a_ w_) (aF a_ w_) (shX h_ d_ s_) (shY h_ d_ s_) 4 ≠ 0)))) (by simp [*])]
              exact ih6 (k_ + 1) V2 (by omega) (by omega)
            ·
              refine m_iconst 1 dX12_marksOf_78 rfl ?_
              refine m_goto 83 dX12_marksOf_79 (by decide) ?_
              refine m_iadd dX12_marksOf_83 ?_
              refine m_topi (show (nI (cntB (fun s_ => decide (nI (ansA a_ w_ (shX h_ d_ s_) (shY h_ d_ s_)) = nI (shX h_ d_ s_) - nI (shY h_ d_ s_)) && (!fl || decide (stkI (aK a_ w_) (aF a_ w_) (shX h_ d_ s_) (shY h_ d_ s_) 4 ≠ 0))) k_)) + 1 = nI ((cntB (fun s_ => decide (nI (ansA a_ w_ (shX h_ d_ s_) (shY h_ d_ s_)) = nI (shX h_ d_ s_) - nI (shY h_ d_ s_)) && (!fl || decide (stkI (aK a_ w_) (aF a_ w_) (shX h_ d_ s_) (shY h_ d_ s_) 4 ≠ 0))) k_) + 1) from nI_add _ _) ?_
              refine m_istore [(4, .int (nI ((cntB (fun s_ => decide (nI (ansA a_ w_ (shX h_ d_ s_) (shY h_ d_ s_)) = nI (shX h_ d_ s_) - nI (shY h_ d_ s_)) && (!fl || decide (stkI (aK a_ w_) (aF a_ w_) (shX h_ d_ s_) (shY h_ d_ s_) 4 ≠ 0))) k_) + 1))), (6, .int 1), (0, .ref (gK G 4 0)), (1, .int (nI (w_))), (2, .int (nI (d_))), (3, .int (bI (fl))), (5, .int (nI (k_)))] (by decide) rfl dX12_marksOf_84 ?_
              refine m_iinc (nI (k_ + 1)) 6 [(5, .int (nI (k_ + 1))), (4, .int (nI ((cntB (fun s_ => decide (nI (ansA a_ w_ (shX h_ d_ s_) (shY h_ d_ s_)) = nI (shX h_ d_ s_) - nI (shY h_ d_ s_)) && (!fl || decide (stkI (aK a_ w_) (aF a_ w_) (shX h_ d_ s_) (shY h_ d_ s_) 4 ≠ 0))) k_) + 1))), (6, .int 1), (0, .ref (gK G 4 0)), (1, .int (nI (w_))), (2, .int (nI (d_))), (3, .int (bI (fl)))] rfl (nI_1 _) (by decide) rfl dX12_marksOf_86 ?_
              refine m_goto 6 dX12_marksOf_89 (by decide) ?_
              refine m_lv [(0, .ref (gK G 4 0)), (1, .int (nI (w_))), (2, .int (nI (d_))), (3, .int (bI (fl))), (4, .int (nI ((cntB (fun s_ => decide (nI (ansA a_ w_ (shX h_ d_ s_) (shY h_ d_ s_)) = nI (shX h_ d_ s_) - nI (shY h_ d_ s_)) && (!fl || decide (stkI (aK a_ w_) (aF a_ w_) (shX h_ d_ s_) (shY h_ d_ s_) 4 ≠ 0))) k_) + 1))), (5, .int (nI (k_ + 1)))] [3, 4, 5, 6, 1, 0] rfl ?_
              rw [show (cntB (fun s_ => decide (nI (ansA a_ w_ (shX h_ d_ s_) (shY h_ d_ s_)) = nI (shX h_ d_ s_) - nI (shY h_ d_ s_)) && (!fl || decide (stkI (aK a_ w_) (aF a_ w_) (shX h_ d_ s_) (shY h_ d_ s_) 4 ≠ 0))) k_) + 1 = cntB (fun s_ => decide (nI (ansA a_ w_ (shX h_ d_ s_) (shY h_ d_ s_)) = nI (shX h_ d_ s_) - nI (shY h_ d_ s_)) && (!fl || decide (stkI (aK a_ w_) (aF a_ w_) (shX h_ d_ s_) (shY h_ d_ s_) 4 ≠ 0))) (k_ + 1) from cntB_t (p := (fun s_ => decide (nI (ansA a_ w_ (shX h_ d_ s_) (shY h_ d_ s_)) = nI (shX h_ d_ s_) - nI (shY h_ d_ s_)) && (!fl || decide (stkI (aK a_ w_) (aF a_ w_) (shX h_ d_ s_) (shY h_ d_ s_) 4 ≠ 0)))) (by simp [*])]
              exact ih6 (k_ + 1) V2 (by omega) (by omega)
  refine m_lv [(0, .ref (gK G 4 0)), (1, .int (nI (w_))), (2, .int (nI (d_))), (3, .int (bI (fl))), (4, .int 0), (5, .int 0)] [2, 3, 4, 5, 1, 0] rfl ?_
  exact lp6 ((shN h_ d_ - 0) + 1) 0 V (Nat.zero_le _) (Nat.lt_succ_self _)
set_option maxRecDepth 100000 in
set_option maxHeartbeats 4000000 in
theorem k_m_luck (l : Launch) (G : owG) {A S Z B T V : owF} {J : Nat → Nat → Int64} {Y : Nat → Nat → Nat → Option Nat} {P : Nat → Option owW} (a_ : owK) (ho_ : aOk a_) (im : Option owK) (h_ : owH) (hM : MR B a_ im h_) (v_ x_ p_ : Int32) : Ct l G yX12_luck cX12_luck 5 ((some .int)) 5 0 0 [.ref (gK G 4 0), .int v_, .int x_, .int p_] (A, S, Z, B, T, V, J, Y, P) (qI (fun r_ σ => r_ = luckI a_ h_ v_ x_ p_ ∧ ∃ (T2 V2 : owF), σ = (A, S, Z, B, T2, V2, J, Y, P))) := by
  refine ct_of (by decide +kernel) (Nat.le_of_ble_eq_true rfl) ?_
  have h10 := ho_.1
  have h8_ := ho_.2.1
  have hX := hM.1
  show Wm l G cX12_luck 5 RX12 ((some .int)) (rmk 5 0 0) (fun _ => True) (QfM G (qI (fun r_ σ => r_ = luckI a_ h_ v_ x_ p_ ∧ ∃ (T2 V2 : owF), σ = (A, S, Z, B, T2, V2, J, Y, P))) 0 0) 0 [(0, .ref (gK G 4 0)), (1, .int v_), (2, .int x_), (3, .int p_)] [] (A, S, Z, B, T, V, J, Y, P) 0 0
  refine m_aload_n 0 rfl rfl dX12_luck_0 ?_
  refine m_iload_n 1 rfl rfl dX12_luck_1 ?_
  refine m_callVi cv_X12_114 [.int v_] [] (k_m_isWay l G a_ ho_ im h_ hM v_) (by decide) (ce_4 G _ _ _ _ _ _ _ _ _ _) rfl rfl rfl ⟨Nat.le_of_ble_eq_true rfl, Nat.le_of_ble_eq_true rfl⟩ (Nat.le_of_ble_eq_true rfl) ⟨Nat.zero_le _, Nat.zero_le _⟩ dX12_luck_2 (fun xx σ2 hq => ?_)
  obtain ⟨rfl, rfl⟩ := hq
  refine m_ifeq_b 25 dX12_luck_5 (by decide) (fun c1_ => ?_) (fun c1_ => ?_)
  ·
    refine m_iconst (-1) dX12_luck_25 rfl ?_
    exact m_iret dX12_luck_26 (Nat.le_refl _) (Nat.le_refl _) (⟨by first | (simp [luckI, c1_]; done) | (simp_all [luckI, rN, rX, rQ, rV]; done) | grind [luckI], _, _, rfl⟩)
  ·
    have hwc := c1_
    obtain ⟨wq, hwq, rfl⟩ := isW_nat ho_ c1_
    have hclwq : (nI wq).toNatClampNeg = wq := nI_clamp (by omega)
    refine m_iload_n 2 rfl rfl dX12_luck_8 ?_
    refine m_callSi cs_X12_101 [.int x_] [] (k_m_isShelf l G x_) rfl rfl ⟨Nat.le_of_ble_eq_true rfl, Nat.le_of_ble_eq_true rfl⟩ (Nat.le_of_ble_eq_true rfl) ⟨Nat.zero_le _, Nat.zero_le _⟩ dX12_luck_9 (fun xx σ2 hq => ?_)
    obtain ⟨rfl, rfl⟩ := hq
    refine m_ifeq_b 25 dX12_luck_12 (by decide) (fun c2_ => ?_) (fun c2_ => ?_)
    ·
      refine m_iconst (-1) dX12_luck_25 rfl ?_
      exact m_iret dX12_luck_26 (Nat.le_refl _) (Nat.le_refl _) (⟨by have hz := shRefI_n (h := h_) c2_; unfold luckI; rw [hz]; split <;> rfl, _, _, rfl⟩)
    ·
      refine m_iload_n 3 rfl rfl dX12_luck_15 ?_
      refine m_i2l dX12_luck_16 ?_
      refine m_lconst 0 dX12_luck_17 rfl ?_
      refine m_topl (show (0 : Int64) = (0 : Int32).toInt64 by decide) ?_
      refine m_lconst 1 dX12_luck_18 rfl ?_
      refine m_topl (show (1 : Int64) = (1 : Int32).toInt64 by decide) ?_
      refine m_callSi cs_X12_62 [.long (p_.toInt64), .long ((0 : Int32).toInt64), .long ((1 : Int32).toInt64)] [] (k_m_isIn l G p_ 0 1) rfl rfl ⟨Nat.le_of_ble_eq_true rfl, Nat.le_of_ble_eq_true rfl⟩ (Nat.le_of_ble_eq_true rfl) ⟨Nat.zero_le _, Nat.zero_le _⟩ dX12_luck_19 (fun xx σ2 hq => ?_)
      obtain ⟨hgx, rfl⟩ := hq
      obtain rfl := hgx.trans (congrArg bI (inB_01))
      refine m_ifne_b 27 dX12_luck_22 (by decide) (fun c3_ => ?_) (fun c3_ => ?_)
      ·
        refine m_aload_n 0 rfl rfl dX12_luck_27 ?_
        refine m_iload_n 2 rfl rfl dX12_luck_28 ?_
        refine m_callVi cv_X12_175 [.int x_] [] (k_m_wrongSheet l G a_ ho_ im h_ hM x_) (by decide) (ce_4 G _ _ _ _ _ _ _ _ _ _) rfl rfl rfl ⟨Nat.le_of_ble_eq_true rfl, Nat.le_of_ble_eq_true rfl⟩ (Nat.le_of_ble_eq_true rfl) ⟨Nat.zero_le _, Nat.zero_le _⟩ dX12_luck_29 (fun xx σ2 hq => ?_)
        obtain ⟨rfl, rfl⟩ := hq
        refine m_istore [(4, .int (shRefI h_ x_)), (0, .ref (gK G 4 0)), (1, .int (nI (wq))), (2, .int x_), (3, .int p_)] (by decide) rfl dX12_luck_32 ?_
        refine m_iload 0 rfl dX12_luck_34 ?_
        refine m_if_eq 44 dX12_luck_36 (by decide) (fun c4_ => ?_) (fun c4_ => ?_)
        ·
          have hb0 := c4_
          obtain ⟨dq, hdq, rfl, hsr, hDd⟩ := shRefI_0 hb0
          have hcldq : (nI dq).toNatClampNeg = dq := nI_clamp (by omega)
          obtain ⟨hk2, hso2, hev, h24, hsm⟩ := shRef_ok hsr
          have hn12 : shN h_ dq ≤ 12 := by unfold shN; omega
          refine m_aload_n 1 rfl rfl dX12_luck_44 ?_
          refine m_iload_n 2 rfl rfl dX12_luck_45 ?_
          refine m_iload_n 3 rfl rfl dX12_luck_46 ?_
          refine m_iload_n 4 rfl rfl dX12_luck_47 ?_
          refine m_if_ne 55 dX12_luck_48 (by decide) (fun c5_ => ?_) (fun c5_ => ?_)
          ·
            refine m_iconst 0 dX12_luck_55 rfl ?_
            refine m_callVi cv_X12_215 [.int (nI (wq)), .int (nI (dq)), .int 0] [] (k_m_marksOf l G a_ ho_ im h_ hM wq hwq dq hdq hsr false) (by decide) (ce_4 G _ _ _ _ _ _ _ _ _ _) rfl rfl rfl ⟨Nat.le_of_ble_eq_true rfl, Nat.le_of_ble_eq_true rfl⟩ (Nat.le_of_ble_eq_true rfl) ⟨Nat.zero_le _, Nat.zero_le _⟩ dX12_luck_56 (fun xx σ2 hq => ?_)
            obtain ⟨rfl, V6, rfl⟩ := hq
            exact m_iret dX12_luck_59 (Nat.le_refl _) (Nat.le_refl _) (⟨by unfold luckI; rw [if_pos ⟨hwc, c3_⟩, if_pos hb0]; simp only [rN, rX, rQ, hclwq, hcldq]; first | rw [decide_eq_true c5_] | rw [decide_eq_false c5_], _, _, rfl⟩)
          ·
            refine m_iconst 1 dX12_luck_51 rfl ?_
            refine m_goto 56 dX12_luck_52 (by decide) ?_
            refine m_callVi cv_X12_215 [.int (nI (wq)), .int (nI (dq)), .int 1] [] (k_m_marksOf l G a_ ho_ im h_ hM wq hwq dq hdq hsr true) (by decide) (ce_4 G _ _ _ _ _ _ _ _ _ _) rfl rfl rfl ⟨Nat.le_of_ble_eq_true rfl, Nat.le_of_ble_eq_true rfl⟩ (Nat.le_of_ble_eq_true rfl) ⟨Nat.zero_le _, Nat.zero_le _⟩ dX12_luck_56 (fun xx σ2 hq => ?_)
            obtain ⟨rfl, V7, rfl⟩ := hq
            exact m_iret dX12_luck_59 (Nat.le_refl _) (Nat.le_refl _) (⟨by unfold luckI; rw [if_pos ⟨hwc, c3_⟩, if_pos hb0]; simp only [rN, rX, rQ, hclwq, hcldq]; first | rw [decide_eq_true c5_] | rw [decide_eq_false c5_], _, _, rfl⟩)
        ·
          refine m_iload 0 rfl dX12_luck_39 ?_
          refine m_goto 59 dX12_luck_41 (by decide) ?_
          exact m_iret dX12_luck_59 (Nat.le_refl _) (Nat.le_refl _) (⟨by first | (simp [luckI, c1_, c2_, c3_, c4_, hclwq]; done) | (simp_all [luckI, rN, rX, rQ, rV]; done) | grind [luckI], _, _, rfl⟩)
      ·
        refine m_iconst (-1) dX12_luck_25 rfl ?_
        exact m_iret dX12_luck_26 (Nat.le_refl _) (Nat.le_refl _) (⟨by first | (simp [luckI, c1_, c2_, c3_, hclwq]; done) | (simp_all [luckI, rN, rX, rQ, rV]; done) | grind [luckI], _, _, rfl⟩)
set_option maxRecDepth 100000 in
set_option maxHeartbeats 4000000 in
theorem k_m_clash (l : Launch) (G : owG) {A S Z B T V : owF} {J : Nat → Nat → Int64} {Y : Nat → Nat → Nat → Option Nat} {P : Nat → Option owW} (a_ : owK) (ho_ : aOk a_) (im : Option owK) (h_ : owH) (hM : MR B a_ im h_) (v_ : Int32) : Ct l G yX12_clash cX12_clash 4 ((some .int)) 4 0 0 [.ref (gK G 4 0), .int v_] (A, S, Z, B, T, V, J, Y, P) (qI (fun r_ σ => r_ = clashI a_ v_ ∧ ∃ (T2 V2 : owF), σ = (A, S, Z, B, T2, V2, J, Y, P))) := by
  refine ct_of (by decide +kernel) (Nat.le_of_ble_eq_true rfl) ?_
  have h10 := ho_.1
  have h8_ := ho_.2.1
  have hX := hM.1
  show Wm l G cX12_clash 4 RX12 ((some .int)) (rmk 4 0 0) (fun _ => True) (QfM G (qI (fun r_ σ => r_ = clashI a_ v_ ∧ ∃ (T2 V2 : owF), σ = (A, S, Z, B, T2, V2, J, Y, P))) 0 0) 0 [(0, .ref (gK G 4 0)), (1, .int v_)] [] (A, S, Z, B, T, V, J, Y, P) 0 0
  refine m_aload_n 0 rfl rfl dX12_clash_0 ?_
  refine m_iload_n 1 rfl rfl dX12_clash_1 ?_
  refine m_callVi cv_X12_114 [.int v_] [] (k_m_isWay l G a_ ho_ im h_ hM v_) (by decide) (ce_4 G _ _ _ _ _ _ _ _ _ _) rfl rfl rfl ⟨Nat.le_of_ble_eq_true rfl, Nat.le_of_ble_eq_true rfl⟩ (Nat.le_of_ble_eq_true rfl) ⟨Nat.zero_le _, Nat.zero_le _⟩ dX12_clash_2 (fun xx σ2 hq => ?_)
  obtain ⟨rfl, rfl⟩ := hq
  refine m_ifne_b 10 dX12_clash_5 (by decide) (fun c1_ => ?_) (fun c1_ => ?_)
  ·
    have hwc := c1_
    obtain ⟨wq, hwq, rfl⟩ := isW_nat ho_ c1_
    have hclwq : (nI wq).toNatClampNeg = wq := nI_clamp (by omega)
    refine m_iconst 0 dX12_clash_10 rfl ?_
    refine m_istore_n [(2, .int 0), (0, .ref (gK G 4 0)), (1, .int (nI (wq)))] rfl (by decide) rfl dX12_clash_11 ?_
    have lp12 : ∀ (dd : Nat) (u_ : Nat) (V9 : owF), u_ ≤ 100 → clS (fun x_ y_ => ansA a_ wq x_ y_) u_ = none → 100 - u_ < dd → Wm l G cX12_clash 4 RX12 ((some .int)) (rmk 4 0 0) (fun _ => True) (QfM G (qI (fun r_ σ => r_ = clashI a_ (nI wq) ∧ ∃ (T2 V2 : owF), σ = (A, S, Z, B, T2, V2, J, Y, P))) 0 0) 12 [(0, .ref (gK G 4 0)), (1, .int (nI (wq))), (2, .int (nI (u_)))] [] (A, S, Z, B, T, V9, J, Y, P) 0 0 := by
      intro dd
      induction dd with
      | zero => intro u_ V9 hu hcs hdd; exact absurd hdd (Nat.not_lt_zero _)
      | succ dd ih12 =>
        intro u_ V9 hu hcs hdd12
        refine m_iload_n 2 rfl rfl dX12_clash_12 ?_
        refine m_bipush (100) dX12_clash_13 rfl ?_
        refine m_icmpn_ge u_ 100 55 (by omega) (by decide) dX12_clash_15 (by decide) (fun c2_ => ?_) (fun c2_ => ?_)
        ·
          refine m_bipush (-4) dX12_clash_55 rfl ?_
          exact m_iret dX12_clash_57 (Nat.le_refl _) (Nat.le_refl _) (⟨by unfold clashI; rw [if_pos hwc, hclwq]; obtain rfl : u_ = 100 := (by omega); exact (congrArg optI hcs).symm, _, _, rfl⟩)
        ·
          refine m_iconst 0 dX12_clash_18 rfl ?_
          refine m_istore_n [(3, .int 0), (0, .ref (gK G 4 0)), (1, .int (nI (wq))), (2, .int (nI (u_)))] rfl (by decide) rfl dX12_clash_19 ?_
          have lp20 : ∀ (dd : Nat) (k_ : Nat) (V8 : owF), k_ ≤ u_ + 1 → clR (fun x_ y_ => ansA a_ wq x_ y_) u_ k_ = none → u_ + 1 - k_ < dd → Wm l G cX12_clash 4 RX12 ((some .int)) (rmk 4 0 0) (fun _ => True) (QfM G (qI (fun r_ σ => r_ = clashI a_ (nI wq) ∧ ∃ (T2 V2 : owF), σ = (A, S, Z, B, T2, V2, J, Y, P))) 0 0) 20 [(0, .ref (gK G 4 0)), (1, .int (nI (wq))), (2, .int (nI (u_))), (3, .int (nI (k_)))] [] (A, S, Z, B, T, V8, J, Y, P) 0 0 := by
            intro dd
            induction dd with
            | zero => intro k_ V8 hk_ hcr hdd; exact absurd hdd (Nat.not_lt_zero _)
            | succ dd ih20 =>
              intro k_ V8 hk_ hcr hdd20
              refine m_iload_n 3 rfl rfl dX12_clash_20 ?_
              refine m_iload_n 2 rfl rfl dX12_clash_21 ?_
              refine m_icmpn_gt k_ u_ 49 (by omega) (by omega) dX12_clash_22 (by decide) (fun c3_ => ?_) (fun c3_ => ?_)
              ·
                refine m_iinc (nI (u_ + 1)) 2 [(2, .int (nI (u_ + 1))), (0, .ref (gK G 4 0)), (1, .int (nI (wq))), (3, .int (nI (k_)))] rfl (nI_1 _) (by decide) rfl dX12_clash_49 ?_
                refine m_goto 12 dX12_clash_52 (by decide) ?_
                refine m_lv [(0, .ref (gK G 4 0)), (1, .int (nI (wq))), (2, .int (nI (u_ + 1)))] [1, 2, 0] rfl ?_
                exact ih12 (u_ + 1) V8 (by omega) (clS_n hcs (by obtain rfl : k_ = u_ + 1 := (by omega); exact hcr)) (by omega)
              ·
                refine m_aload_n 0 rfl rfl dX12_clash_25 ?_
                refine m_iload_n 1 rfl rfl dX12_clash_26 ?_
                refine m_iload_n 2 rfl rfl dX12_clash_27 ?_
                refine m_iload_n 3 rfl rfl dX12_clash_28 ?_
                refine m_callVi cv_X12_157 [.int (nI (wq)), .int (nI (u_)), .int (nI (k_))] [] (k_m_answerOf l G a_ ho_ im h_ hM wq hwq u_ k_ (by omega) (by omega)) (by decide) (ce_4 G _ _ _ _ _ _ _ _ _ _) rfl rfl rfl ⟨Nat.le_of_ble_eq_true rfl, Nat.le_of_ble_eq_true rfl⟩ (Nat.le_of_ble_eq_true rfl) ⟨Nat.zero_le _, Nat.zero_le _⟩ dX12_clash_29 (fun xx σ2 hq => ?_)
                obtain ⟨rfl, V4, rfl, hwV4⟩ := hq
                have hab := ansA_lt a_ wq u_ k_
                refine m_iload_n 2 rfl rfl dX12_clash_32 ?_
                refine m_icmpn_le (ansA a_ wq u_ k_) u_ 43 (by omega) (by omega) dX12_clash_33 (by decide) (fun c5_ => ?_) (fun c5_ => ?_)
                ·
                  have hgt := c5_
                  refine m_iinc (nI (k_ + 1)) 3 [(3, .int (nI (k_ + 1))), (0, .ref (gK G 4 0)), (1, .int (nI (wq))), (2, .int (nI (u_)))] rfl (nI_1 _) (by decide) rfl dX12_clash_43 ?_
                  refine m_goto 20 dX12_clash_46 (by decide) ?_
                  refine m_lv [(0, .ref (gK G 4 0)), (1, .int (nI (wq))), (2, .int (nI (u_))), (3, .int (nI (k_ + 1)))] [1, 2, 3, 0] rfl ?_
                  exact ih20 (k_ + 1) V4 (by omega) (clR_n hcr (by omega)) (by omega)
                ·
                  have hgt := c5_
                  refine m_bipush (100) dX12_clash_36 rfl ?_
                  refine m_iload_n 2 rfl rfl dX12_clash_38 ?_
                  refine m_imul dX12_clash_39 ?_
                  refine m_topi (show 100 * (nI (u_)) = nI (100 * u_) from pk_mul _ _) ?_
                  refine m_iload_n 3 rfl rfl dX12_clash_40 ?_
                  refine m_iadd dX12_clash_41 ?_
                  refine m_topi (show (nI (100 * u_)) + (nI (k_)) = nI ((100 * u_) + k_) from nI_add _ _) ?_
                  exact m_iret dX12_clash_42 (Nat.le_refl _) (Nat.le_refl _) (⟨by unfold clashI; rw [if_pos hwc, hclwq]; exact (congrArg optI (clS_y hcs (clR_y hcr hgt _ (by omega)) 100 (by omega))).symm, _, _, rfl⟩)
          refine m_lv [(0, .ref (gK G 4 0)), (1, .int (nI (wq))), (2, .int (nI (u_))), (3, .int 0)] [1, 2, 3, 0] rfl ?_
          exact lp20 ((u_ + 1 - 0) + 1) 0 V9 (by omega) rfl (Nat.lt_succ_self _)
    refine m_lv [(0, .ref (gK G 4 0)), (1, .int (nI (wq))), (2, .int 0)] [1, 2, 0] rfl ?_
    exact lp12 ((100 - 0) + 1) 0 V (by omega) rfl (Nat.lt_succ_self _)
  ·
    refine m_iconst (-1) dX12_clash_8 rfl ?_
    exact m_iret dX12_clash_9 (Nat.le_refl _) (Nat.le_refl _) (⟨by simp [clashI, c1_], _, _, rfl⟩)
set_option maxRecDepth 100000 in
set_option maxHeartbeats 4000000 in
theorem k_m_comes (l : Launch) (G : owG) {A S Z B T V : owF} {J : Nat → Nat → Int64} {Y : Nat → Nat → Nat → Option Nat} {P : Nat → Option owW} (a_ : owK) (ho_ : aOk a_) (im : Option owK) (h_ : owH) (hM : MR B a_ im h_) (v_ n_ : Int32) : Ct l G yX12_comes cX12_comes 6 ((some .int)) 4 0 0 [.ref (gK G 4 0), .int v_, .int n_] (A, S, Z, B, T, V, J, Y, P) (qI (fun r_ σ => r_ = comesI a_ v_ n_ ∧ ∃ (T2 V2 : owF), σ = (A, S, Z, B, T2, V2, J, Y, P))) := by
  refine ct_of (by decide +kernel) (Nat.le_of_ble_eq_true rfl) ?_
  have h10 := ho_.1
  have h8_ := ho_.2.1
  have hX := hM.1
  show Wm l G cX12_comes 6 RX12 ((some .int)) (rmk 4 0 0) (fun _ => True) (QfM G (qI (fun r_ σ => r_ = comesI a_ v_ n_ ∧ ∃ (T2 V2 : owF), σ = (A, S, Z, B, T2, V2, J, Y, P))) 0 0) 0 [(0, .ref (gK G 4 0)), (1, .int v_), (2, .int n_)] [] (A, S, Z, B, T, V, J, Y, P) 0 0
  refine m_aload_n 0 rfl rfl dX12_comes_0 ?_
  refine m_iload_n 1 rfl rfl dX12_comes_1 ?_
  refine m_callVi cv_X12_114 [.int v_] [] (k_m_isWay l G a_ ho_ im h_ hM v_) (by decide) (ce_4 G _ _ _ _ _ _ _ _ _ _) rfl rfl rfl ⟨Nat.le_of_ble_eq_true rfl, Nat.le_of_ble_eq_true rfl⟩ (Nat.le_of_ble_eq_true rfl) ⟨Nat.zero_le _, Nat.zero_le _⟩ dX12_comes_2 (fun xx σ2 hq => ?_)
  obtain ⟨rfl, rfl⟩ := hq
  refine m_ifeq_b 20 dX12_comes_5 (by decide) (fun c1_ => ?_) (fun c1_ => ?_)
  ·
    refine m_iconst (-1) dX12_comes_20 rfl ?_
    exact m_iret dX12_comes_21 (Nat.le_refl _) (Nat.le_refl _) (⟨by have hz := c1_; unfold comesI; rw [if_neg (fun q_ => by first | (rw [q_.1] at hz; exact absurd hz (by decide)) | exact of_decide_eq_false hz ⟨q_.2.1, q_.2.2⟩)], _, _, rfl⟩)
  ·
    have hwc := c1_
    obtain ⟨wq, hwq, rfl⟩ := isW_nat ho_ c1_
    have hclwq : (nI wq).toNatClampNeg = wq := nI_clamp (by omega)
    refine m_iload_n 2 rfl rfl dX12_comes_8 ?_
    refine m_i2l dX12_comes_9 ?_
    refine m_lconst 1 dX12_comes_10 rfl ?_
    refine m_topl (show (1 : Int64) = (1 : Int32).toInt64 by decide) ?_
    refine m_ldc2 40 tw_1346 dX12_comes_11 ?_
    refine m_topl (show (40 : Int64) = (40 : Int32).toInt64 by decide) ?_
    refine m_callSi cs_X12_62 [.long (n_.toInt64), .long ((1 : Int32).toInt64), .long ((40 : Int32).toInt64)] [] (k_m_isIn l G n_ 1 40) rfl rfl ⟨Nat.le_of_ble_eq_true rfl, Nat.le_of_ble_eq_true rfl⟩ (Nat.le_of_ble_eq_true rfl) ⟨Nat.zero_le _, Nat.zero_le _⟩ dX12_comes_14 (fun xx σ2 hq => ?_)
    obtain ⟨rfl, rfl⟩ := hq
    refine m_ifne_b 22 dX12_comes_17 (by decide) (fun c2_ => ?_) (fun c2_ => ?_)
    ·
      have hin40 := of_decide_eq_true c2_
      obtain ⟨nq, hnq, rfl⟩ := nI_of2 (M := 40) (n := 40) (x := n_) (by decide) (by grind) hin40.2
      have hclnq : (nI nq).toNatClampNeg = nq := nI_clamp (by omega)
      refine m_iconst 0 dX12_comes_22 rfl ?_
      refine m_istore_n [(3, .int 0), (0, .ref (gK G 4 0)), (1, .int (nI (wq))), (2, .int (nI (nq)))] rfl (by decide) rfl dX12_comes_23 ?_
      refine m_iconst 0 dX12_comes_24 rfl ?_
      refine m_istore [(4, .int 0), (3, .int 0), (0, .ref (gK G 4 0)), (1, .int (nI (wq))), (2, .int (nI (nq)))] (by decide) rfl dX12_comes_25 ?_
      have lp27 : ∀ (dd : Nat) (u_ : Nat) (V9 : owF), u_ ≤ nq → nq - u_ < dd → Wm l G cX12_comes 6 RX12 ((some .int)) (rmk 4 0 0) (fun _ => True) (QfM G (qI (fun r_ σ => r_ = comesI a_ (nI wq) (nI nq) ∧ ∃ (T2 V2 : owF), σ = (A, S, Z, B, T2, V2, J, Y, P))) 0 0) 27 [(0, .ref (gK G 4 0)), (1, .int (nI (wq))), (2, .int (nI (nq))), (3, .int (nI (smN (fun x_ => cmW a_ wq x_ (x_ + 1)) u_))), (4, .int (nI (u_)))] [] (A, S, Z, B, T, V9, J, Y, P) 0 0 := by
        intro dd
        induction dd with
        | zero => intro u_ V9 hu hdd; exact absurd hdd (Nat.not_lt_zero _)
        | succ dd ih27 =>
          intro u_ V9 hu hdd27
          have hsb := smN_bound (f := (fun x_ => cmW a_ wq x_ (x_ + 1))) (n := u_) (c := 41) (fun j_ hj => Nat.le_trans (cntB_le _ _) (by omega))
          refine m_iload 4 rfl dX12_comes_27 ?_
          refine m_iload_n 2 rfl rfl dX12_comes_29 ?_
          refine m_icmpn_ge u_ nq 80 (by omega) (by omega) dX12_comes_30 (by decide) (fun c3_ => ?_) (fun c3_ => ?_)
          ·
            refine m_iload_n 3 rfl rfl dX12_comes_80 ?_
            exact m_iret dX12_comes_81 (Nat.le_refl _) (Nat.le_refl _) ((by obtain rfl : u_ = nq := (by omega); exact ⟨by unfold comesI; rw [if_pos ⟨hwc, hin40.1, hin40.2⟩, hclwq, hclnq], _, _, rfl⟩))
          ·
            refine m_iconst 0 dX12_comes_33 rfl ?_
            refine m_istore [(5, .int 0), (0, .ref (gK G 4 0)), (1, .int (nI (wq))), (2, .int (nI (nq))), (3, .int (nI (smN (fun x_ => cmW a_ wq x_ (x_ + 1)) u_))), (4, .int (nI (u_)))] (by decide) rfl dX12_comes_34 ?_
            have lp36 : ∀ (dd : Nat) (k_ : Nat) (V8 : owF), k_ ≤ u_ + 1 → u_ + 1 - k_ < dd → Wm l G cX12_comes 6 RX12 ((some .int)) (rmk 4 0 0) (fun _ => True) (QfM G (qI (fun r_ σ => r_ = comesI a_ (nI wq) (nI nq) ∧ ∃ (T2 V2 : owF), σ = (A, S, Z, B, T2, V2, J, Y, P))) 0 0) 36 [(0, .ref (gK G 4 0)), (1, .int (nI (wq))), (2, .int (nI (nq))), (3, .int (nI (smN (fun x_ => cmW a_ wq x_ (x_ + 1)) u_ + cntB (fun y_ => decide (nI (ansA a_ wq u_ y_) ≠ nI u_ - nI y_)) k_))), (4, .int (nI (u_))), (5, .int (nI (k_)))] [] (A, S, Z, B, T, V8, J, Y, P) 0 0 := by
              intro dd
              induction dd with
              | zero => intro k_ V8 hk_ hdd; exact absurd hdd (Nat.not_lt_zero _)
              | succ dd ih36 =>
                intro k_ V8 hk_ hdd36
                have hcc := cntB_le (fun y_ => decide (nI (ansA a_ wq u_ y_) ≠ nI u_ - nI y_)) k_
                refine m_iload 5 rfl dX12_comes_36 ?_
                refine m_iload 4 rfl dX12_comes_38 ?_
                refine m_icmpn_gt k_ u_ 74 (by omega) (by omega) dX12_comes_40 (by decide) (fun c4_ => ?_) (fun c4_ => ?_)
                ·
                  refine m_iinc (nI (u_ + 1)) 4 [(4, .int (nI (u_ + 1))), (0, .ref (gK G 4 0)), (1, .int (nI (wq))), (2, .int (nI (nq))), (3, .int (nI (smN (fun x_ => cmW a_ wq x_ (x_ + 1)) u_ + cntB (fun y_ => decide (nI (ansA a_ wq u_ y_) ≠ nI u_ - nI y_)) k_))), (5, .int (nI (k_)))] rfl (nI_1 _) (by decide) rfl dX12_comes_74 ?_
                  refine m_goto 27 dX12_comes_77 (by decide) ?_
                  refine m_lv [(0, .ref (gK G 4 0)), (1, .int (nI (wq))), (2, .int (nI (nq))), (3, .int (nI (smN (fun x_ => cmW a_ wq x_ (x_ + 1)) u_ + cntB (fun y_ => decide (nI (ansA a_ wq u_ y_) ≠ nI u_ - nI y_)) k_))), (4, .int (nI (u_ + 1)))] [1, 2, 3, 4, 0] rfl ?_
                  rw [show smN (fun x_ => cmW a_ wq x_ (x_ + 1)) u_ + cntB (fun y_ => decide (nI (ansA a_ wq u_ y_) ≠ nI u_ - nI y_)) k_ = smN (fun x_ => cmW a_ wq x_ (x_ + 1)) (u_ + 1) from by obtain rfl : k_ = u_ + 1 := (by omega); rfl]
                  exact ih27 (u_ + 1) V8 (by omega) (by omega)
                ·
                  refine m_iload_n 3 rfl rfl dX12_comes_43 ?_
                  refine m_aload_n 0 rfl rfl dX12_comes_44 ?_
                  refine m_iload_n 1 rfl rfl dX12_comes_45 ?_
                  refine m_iload 4 rfl dX12_comes_46 ?_
                  refine m_iload 5 rfl dX12_comes_48 ?_
                  refine m_callVi cv_X12_157 [.int (nI (wq)), .int (nI (u_)), .int (nI (k_))] [.int (nI (smN (fun x_ => cmW a_ wq x_ (x_ + 1)) u_ + cntB (fun y_ => decide (nI (ansA a_ wq u_ y_) ≠ nI u_ - nI y_)) k_))] (k_m_answerOf l G a_ ho_ im h_ hM wq hwq u_ k_ (by omega) (by omega)) (by decide) (ce_4 G _ _ _ _ _ _ _ _ _ _) rfl rfl rfl ⟨Nat.le_of_ble_eq_true rfl, Nat.le_of_ble_eq_true rfl⟩ (Nat.le_of_ble_eq_true rfl) ⟨Nat.zero_le _, Nat.zero_le _⟩ dX12_comes_50 (fun xx σ2 hq => ?_)
                  obtain ⟨rfl, V5, rfl, hwV5⟩ := hq
                  refine m_iload 4 rfl dX12_comes_53 ?_
                  refine m_iload 5 rfl dX12_comes_55 ?_
                  refine m_isub dX12_comes_57 ?_
                  refine m_icmp_eq 65 dX12_comes_58 (by decide) (fun c6_ => ?_) (fun c6_ => ?_)
                  ·
                    have heq := c6_
                    refine m_iconst 0 dX12_comes_65 rfl ?_
                    refine m_iadd dX12_comes_66 ?_
                    refine m_topi (show (nI (smN (fun x_ => cmW a_ wq x_ (x_ + 1)) u_ + cntB (fun y_ => decide (nI (ansA a_ wq u_ y_) ≠ nI u_ - nI y_)) k_)) + 0 = nI ((smN (fun x_ => cmW a_ wq x_ (x_ + 1)) u_ + cntB (fun y_ => decide (nI (ansA a_ wq u_ y_) ≠ nI u_ - nI y_)) k_) + 0) from nI_add _ _) ?_
                    refine m_istore_n [(3, .int (nI ((smN (fun x_ => cmW a_ wq x_ (x_ + 1)) u_ + cntB (fun y_ => decide (nI (ansA a_ wq u_ y_) ≠ nI u_ - nI y_)) k_) + 0))), (0, .ref (gK G 4 0)), (1, .int (nI (wq))), (2, .int (nI (nq))), (4, .int (nI (u_))), (5, .int (nI (k_)))] rfl (by decide) rfl dX12_comes_67 ?_
                    refine m_iinc (nI (k_ + 1)) 5 [(5, .int (nI (k_ + 1))), (3, .int (nI ((smN (fun x_ => cmW a_ wq x_ (x_ + 1)) u_ + cntB (fun y_ => decide (nI (ansA a_ wq u_ y_) ≠ nI u_ - nI y_)) k_) + 0))), (0, .ref (gK G 4 0)), (1, .int (nI (wq))), (2, .int (nI (nq))), (4, .int (nI (u_)))] rfl (nI_1 _) (by decide) rfl dX12_comes_68 ?_
                    refine m_goto 36 dX12_comes_71 (by decide) ?_
                    refine m_lv [(0, .ref (gK G 4 0)), (1, .int (nI (wq))), (2, .int (nI (nq))), (3, .int (nI ((smN (fun x_ => cmW a_ wq x_ (x_ + 1)) u_ + cntB (fun y_ => decide (nI (ansA a_ wq u_ y_) ≠ nI u_ - nI y_)) k_) + 0))), (4, .int (nI (u_))), (5, .int (nI (k_ + 1)))] [2, 3, 4, 1, 5, 0] rfl ?_
                    rw [show smN (fun x_ => cmW a_ wq x_ (x_ + 1)) u_ + cntB (fun y_ => decide (nI (ansA a_ wq u_ y_) ≠ nI u_ - nI y_)) k_ = smN (fun x_ => cmW a_ wq x_ (x_ + 1)) u_ + cntB (fun y_ => decide (nI (ansA a_ wq u_ y_) ≠ nI u_ - nI y_)) (k_ + 1) from by rw [← cntB_f (p := (fun y_ => decide (nI (ansA a_ wq u_ y_) ≠ nI u_ - nI y_))) (decide_eq_false (fun q_ => q_ heq))]]
                    exact ih36 (k_ + 1) V5 (by omega) (by omega)
                  ·
                    have hne := c6_
                    refine m_iconst 1 dX12_comes_61 rfl ?_
                    refine m_goto 66 dX12_comes_62 (by decide) ?_
                    refine m_iadd dX12_comes_66 ?_
                    refine m_topi (show (nI (smN (fun x_ => cmW a_ wq x_ (x_ + 1)) u_ + cntB (fun y_ => decide (nI (ansA a_ wq u_ y_) ≠ nI u_ - nI y_)) k_)) + 1 = nI ((smN (fun x_ => cmW a_ wq x_ (x_ + 1)) u_ + cntB (fun y_ => decide (nI (ansA a_ wq u_ y_) ≠ nI u_ - nI y_)) k_) + 1) from nI_add _ _) ?_
                    refine m_istore_n [(3, .int (nI ((smN (fun x_ => cmW a_ wq x_ (x_ + 1)) u_ + cntB (fun y_ => decide (nI (ansA a_ wq u_ y_) ≠ nI u_ - nI y_)) k_) + 1))), (0, .ref (gK G 4 0)), (1, .int (nI (wq))), (2, .int (nI (nq))), (4, .int (nI (u_))), (5, .int (nI (k_)))] rfl (by decide) rfl dX12_comes_67 ?_
                    refine m_iinc (nI (k_ + 1)) 5 [(5, .int (nI (k_ + 1))), (3, .int (nI ((smN (fun x_ => cmW a_ wq x_ (x_ + 1)) u_ + cntB (fun y_ => decide (nI (ansA a_ wq u_ y_) ≠ nI u_ - nI y_)) k_) + 1))), (0, .ref (gK G 4 0)), (1, .int (nI (wq))), (2, .int (nI (nq))), (4, .int (nI (u_)))] rfl (nI_1 _) (by decide) rfl dX12_comes_68 ?_
                    refine m_goto 36 dX12_comes_71 (by decide) ?_
                    refine m_lv [(0, .ref (gK G 4 0)), (1, .int (nI (wq))), (2, .int (nI (nq))), (3, .int (nI ((smN (fun x_ => cmW a_ wq x_ (x_ + 1)) u_ + cntB (fun y_ => decide (nI (ansA a_ wq u_ y_) ≠ nI u_ - nI y_)) k_) + 1))), (4, .int (nI (u_))), (5, .int (nI (k_ + 1)))] [2, 3, 4, 1, 5, 0] rfl ?_
                    rw [show (smN (fun x_ => cmW a_ wq x_ (x_ + 1)) u_ + cntB (fun y_ => decide (nI (ansA a_ wq u_ y_) ≠ nI u_ - nI y_)) k_) + 1 = smN (fun x_ => cmW a_ wq x_ (x_ + 1)) u_ + cntB (fun y_ => decide (nI (ansA a_ wq u_ y_) ≠ nI u_ - nI y_)) (k_ + 1) from by rw [← cntB_t (p := (fun y_ => decide (nI (ansA a_ wq u_ y_) ≠ nI u_ - nI y_))) (decide_eq_true hne)]; rfl]
                    exact ih36 (k_ + 1) V5 (by omega) (by omega)
            refine m_lv [(0, .ref (gK G 4 0)), (1, .int (nI (wq))), (2, .int (nI (nq))), (3, .int (nI (smN (fun x_ => cmW a_ wq x_ (x_ + 1)) u_))), (4, .int (nI (u_))), (5, .int 0)] [1, 2, 3, 4, 5, 0] rfl ?_
            exact lp36 ((u_ + 1 - 0) + 1) 0 V9 (by omega) (Nat.lt_succ_self _)
      refine m_lv [(0, .ref (gK G 4 0)), (1, .int (nI (wq))), (2, .int (nI (nq))), (3, .int 0), (4, .int 0)] [2, 3, 4, 1, 0] rfl ?_
      exact lp27 ((nq - 0) + 1) 0 V (by omega) (Nat.lt_succ_self _)
    ·
      refine m_iconst (-1) dX12_comes_20 rfl ?_
      exact m_iret dX12_comes_21 (Nat.le_refl _) (Nat.le_refl _) (⟨by have hz := c2_; unfold comesI; rw [if_neg (fun q_ => by first | (rw [q_.1] at hz; exact absurd hz (by decide)) | exact of_decide_eq_false hz ⟨q_.2.1, q_.2.2⟩)], _, _, rfl⟩)
