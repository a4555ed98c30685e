theorem bI_h0 {h2 : owH} {h : owH} {d : Nat} {t : Nat × Nat × Nat × (Nat → Int32) × Nat × Nat × Nat} (e : h2 = updH h d t) : h2 d = t := by rw [e]; exact if_pos rfl
def cpB (h : owH) (d i e j n : Int32) : Bool := isD d && (isD e && (decide (hK h d.toNatClampNeg = 2 ∧ hK h e.toNatClampNeg = 2 ∧ hSo h d.toNatClampNeg = hSo h e.toNatClampNeg) && (placesB h d.toNatClampNeg i n && placesB h e.toNatClampNeg j n)))
def cpI (h : owH) (d i e j n : Int32) : Int32 := if isD d = true ∧ isD e = true then (if hK h d.toNatClampNeg = 0 ∨ hK h e.toNatClampNeg = 0 then -11 else if hK h d.toNatClampNeg = 2 ∧ hK h e.toNatClampNeg = 2 ∧ hSo h d.toNatClampNeg = hSo h e.toNatClampNeg then (if placesB h d.toNatClampNeg i n = true ∧ placesB h e.toNatClampNeg j n = true then n else -13) else -12) else -1
def cpF (f g : Nat → Int32) (i j n : Nat) : Nat → Int32 := fun q => if j ≤ q ∧ q < j + n then f (i + (q - j)) else g q
def cpH (h : owH) (d i e j n : Int32) : owH := if cpB h d i e j n = true then updH h e.toNatClampNeg (2, hSo h e.toNatClampNeg, hN h e.toNatClampNeg, cpF (hE h d.toNatClampNeg) (hE h e.toNatClampNeg) i.toNatClampNeg j.toNatClampNeg n.toNatClampNeg, 0, 0, 0) else h
/-- how far the copying has come: up, or down -/
def cpK (f g : Nat → Int32) (i j n k : Nat) : Nat → Int32 := if j < i then cpF f g i j k else fun q => if j + n - k ≤ q ∧ q < j + n then f (i + (q - j)) else g q
theorem cpK_0 {f g : Nat → Int32} {i j n : Nat} : cpK f g i j n 0 = g := by
  funext q
  unfold cpK cpF
  split
  · exact if_neg (by omega)
  · exact if_neg (by omega)
theorem cpK_n {f g : Nat → Int32} {i j n : Nat} : cpK f g i j n n = cpF f g i j n := by
  funext q
  unfold cpK cpF
  split
  · rfl
  · show (if _ then _ else _) = _
    by_cases h : j ≤ q ∧ q < j + n
    · rw [if_pos h, if_pos (by omega)]
    · rw [if_neg h, if_neg (by omega)]
theorem cpK_up {f g : Nat → Int32} {i j n k q : Nat} (h : j < i) : cpK f g i j n (k + 1) q = if q = j + k then f (i + k) else cpK f g i j n k q := by
  unfold cpK cpF
  rw [if_pos h, if_pos h]
  by_cases h1 : q = j + k
  · rw [if_pos h1, if_pos (by omega), show i + (q - j) = i + k by omega]
  · rw [if_neg h1]
    by_cases h2 : j ≤ q ∧ q < j + k
    · rw [if_pos h2, if_pos (by omega)]
    · rw [if_neg h2, if_neg (by omega)]
theorem cpK_dn {f g : Nat → Int32} {i j n k q : Nat} (h : ¬ j < i) (hk : k < n) : cpK f g i j n (k + 1) q = if q = j + (n - 1 - k) then f (i + (n - 1 - k)) else cpK f g i j n k q := by
  unfold cpK
  rw [if_neg h, if_neg h]
  show (if _ then _ else _) = _
  by_cases h1 : q = j + (n - 1 - k)
  · rw [if_pos h1, if_pos (by omega), show i + (q - j) = i + (n - 1 - k) by omega]
  · rw [if_neg h1]
    show _ = (if _ then _ else _)
    by_cases h2 : j + n - k ≤ q ∧ q < j + n
    · rw [if_pos h2, if_pos (by omega)]
    · rw [if_neg h2, if_neg (by omega)]
/-- where it reads, nothing is written yet -/
theorem cpK_rd {f : Nat → Int32} {i j n k p : Nat} (hp : (j < i ∧ p = k) ∨ (¬ j < i ∧ p = n - 1 - k)) (hk : k < n) : cpK f f i j n k (i + p) = f (i + p) := by
  unfold cpK cpF
  rcases hp with ⟨h, e⟩ | ⟨h, e⟩
  · rw [if_pos h]
    exact if_neg (by omega)
  · rw [if_neg h]
    show (if _ then _ else _) = _
    exact if_neg (by omega)
set_option maxRecDepth 100000 in
set_option maxHeartbeats 4000000 in
theorem k_m_row (l : Launch) (G : owG) {A S Z B T V : owF} {J : Nat → Nat → Int64} {Y : Nat → Nat → Nat → Option Nat} {P : Nat → Option owW} (a_ : owK) (ho_ : aOk a_) (im : Option owK) (h_ : owH) (hM : MR B a_ im h_) (x_ so n_ : Int32) : Ct l G yX12_row cX12_row 5 ((some .int)) 2 0 0 [.ref (gK G 4 0), .int x_, .int so, .int n_] (A, S, Z, B, T, V, J, Y, P) (qI (fun r_ σ => r_ = rowI x_ so n_ ∧ ∃ B2 : owF, σ = (A, S, Z, B2, T, V, J, Y, P) ∧ MR B2 (a_) (im) (rowH h_ x_ so n_))) := by
  refine ct_of (by decide +kernel) (Nat.le_of_ble_eq_true rfl) ?_
  have h10 := ho_.1
  have h8_ := ho_.2.1
  have hX := hM.1
  show Wm l G cX12_row 5 RX12 ((some .int)) (rmk 2 0 0) (fun _ => True) (QfM G (qI (fun r_ σ => r_ = rowI x_ so n_ ∧ ∃ B2 : owF, σ = (A, S, Z, B2, T, V, J, Y, P) ∧ MR B2 (a_) (im) (rowH h_ x_ so n_))) 0 0) 0 [(0, .ref (gK G 4 0)), (1, .int x_), (2, .int so), (3, .int n_)] [] (A, S, Z, B, T, V, J, Y, P) 0 0
  refine m_iload_n 1 rfl rfl dX12_row_0 ?_
  refine m_callSi cs_X12_101 [.int x_] [] (k_m_isShelf l G x_) rfl rfl ⟨Nat.le_of_ble_eq_true rfl, Nat.le_of_ble_eq_true rfl⟩ (Nat.le_of_ble_eq_true rfl) ⟨Nat.zero_le _, Nat.zero_le _⟩ dX12_row_1 (fun xx σ2 hq => ?_)
  obtain ⟨rfl, rfl⟩ := hq
  refine m_ifeq_b 25 dX12_row_4 (by decide) (fun c1_ => ?_) (fun c1_ => ?_)
  ·
    refine m_iconst (-1) dX12_row_25 rfl ?_
    exact m_iret dX12_row_26 (Nat.le_refl _) (Nat.le_refl _) (⟨by unfold rowI; rw [(show rowB x_ so n_ = false from by unfold rowB; rw [c1_]; rfl)]; rfl, _, rfl, by unfold rowH; rw [(show rowB x_ so n_ = false from by unfold rowB; rw [c1_]; rfl)]; exact hM⟩)
  ·
    have hDdq := c1_
    obtain ⟨dq, hdq, rfl⟩ := isD_nat c1_
    have hcldq : (nI dq).toNatClampNeg = dq := nI_clamp (by omega)
    have hmsdq := hM.2.2.2 dq hdq
    have hk3dq := hmsdq.1
    refine m_iload_n 2 rfl rfl dX12_row_7 ?_
    refine m_i2l dX12_row_8 ?_
    refine m_lconst 0 dX12_row_9 rfl ?_
    refine m_topl (show (0 : Int64) = (0 : Int32).toInt64 by decide) ?_
    refine m_ldc2 2 tw_1160 dX12_row_10 ?_
    refine m_topl (show (2 : Int64) = (2 : Int32).toInt64 by decide) ?_
    refine m_callSi cs_X12_62 [.long (so.toInt64), .long ((0 : Int32).toInt64), .long ((2 : Int32).toInt64)] [] (k_m_isIn l G so 0 2) rfl rfl ⟨Nat.le_of_ble_eq_true rfl, Nat.le_of_ble_eq_true rfl⟩ (Nat.le_of_ble_eq_true rfl) ⟨Nat.zero_le _, Nat.zero_le _⟩ dX12_row_13 (fun xx σ2 hq => ?_)
    obtain ⟨rfl, rfl⟩ := hq
    refine m_ifeq_b 25 dX12_row_16 (by decide) (fun c2_ => ?_) (fun c2_ => ?_)
    ·
      refine m_iconst (-1) dX12_row_25 rfl ?_
      exact m_iret dX12_row_26 (Nat.le_refl _) (Nat.le_refl _) (⟨by unfold rowI; rw [(show rowB (nI (dq)) so n_ = false from by unfold rowB; have hz := of_decide_eq_false c2_; rw [decide_eq_false (fun q_ => hz ⟨q_.1, q_.2.1⟩), Bool.and_false])]; rfl, _, rfl, by unfold rowH; rw [(show rowB (nI (dq)) so n_ = false from by unfold rowB; have hz := of_decide_eq_false c2_; rw [decide_eq_false (fun q_ => hz ⟨q_.1, q_.2.1⟩), Bool.and_false])]; exact hM⟩)
    ·
      obtain ⟨sq, hsq, rfl⟩ := in02 c2_
      have hclsq : (nI sq).toNatClampNeg = sq := nI_clamp (by omega)
      have hs0 : (0 : Int32) ≤ nI sq := nI_pos' (by omega)
      have hs22 : nI sq ≤ 2 := nI_le (b := 2) hsq (by decide)
      refine m_iload_n 3 rfl rfl dX12_row_19 ?_
      refine m_bipush (100) dX12_row_20 rfl ?_
      refine m_icmp_le 27 dX12_row_22 (by decide) (fun c3_ => ?_) (fun c3_ => ?_)
      ·
        have hb : rowB (nI dq) (nI sq) n_ = true := by unfold rowB; rw [hDdq, Bool.true_and]; exact decide_eq_true ⟨hs0, hs22, c3_⟩
        refine m_iload_n 3 rfl rfl dX12_row_27 ?_
        refine m_if_ge 34 dX12_row_28 (by decide) (fun c4_ => ?_) (fun c4_ => ?_)
        ·
          obtain ⟨nq, hnq, rfl⟩ := nI_of2 (M := 100) (n := 100) (x := n_) (by decide) (Int32.not_lt.mpr c4_) c3_
          have hclnq : (nI nq).toNatClampNeg = nq := nI_clamp (by omega)
          refine m_aload_n 0 rfl rfl dX12_row_34 ?_
          refine gf_X12_19 dX12_row_35 ?_
          refine m_iload_n 1 rfl rfl dX12_row_38 ?_
          refine m_iconst 2 dX12_row_39 rfl ?_
          refine as_43 dq rfl (by omega) dX12_row_40 (fun B5 hB5 => ?_)
          refine m_aload_n 0 rfl rfl dX12_row_41 ?_
          refine gf_X12_22 dX12_row_42 ?_
          refine m_iload_n 1 rfl rfl dX12_row_45 ?_
          refine m_iload_n 2 rfl rfl dX12_row_46 ?_
          refine as_44 dq rfl (by omega) dX12_row_47 (fun B6 hB6 => ?_)
          refine m_aload_n 0 rfl rfl dX12_row_48 ?_
          refine gf_X12_25 dX12_row_49 ?_
          refine m_iload_n 1 rfl rfl dX12_row_52 ?_
          refine m_iload_n 3 rfl rfl dX12_row_53 ?_
          refine as_45 dq rfl (by omega) dX12_row_54 (fun B7 hB7 => ?_)
          refine m_iconst 0 dX12_row_55 rfl ?_
          refine m_istore [(4, .int 0), (0, .ref (gK G 4 0)), (1, .int (nI (dq))), (2, .int (nI (sq))), (3, .int (nI (nq)))] (by decide) rfl dX12_row_56 ?_
          have lp58 : ∀ (dd : Nat) (k_ : Nat) (B9 : owF), k_ ≤ 100 → bsh dq B B9 → B9 43 0 dq = 2 → B9 44 0 dq = nI sq → B9 45 0 dq = nI nq → (∀ j_, j_ < k_ → B9 46 0 (100 * dq + j_) = 0) → 100 - k_ < dd → Wm l G cX12_row 5 RX12 ((some .int)) (rmk 2 0 0) (fun _ => True) (QfM G (qI (fun r_ σ => r_ = rowI (nI dq) (nI sq) (nI nq) ∧ ∃ B2 : owF, σ = (A, S, Z, B2, T, V, J, Y, P) ∧ MR B2 (a_) (im) (rowH h_ (nI dq) (nI sq) (nI nq)))) 0 0) 58 [(0, .ref (gK G 4 0)), (1, .int (nI (dq))), (2, .int (nI (sq))), (3, .int (nI (nq))), (4, .int (nI (k_)))] [] (A, S, Z, B9, T, V, J, Y, P) 0 0 := by
            intro dd
            induction dd with
            | zero => intro k_ B9 hk_ hbs h43 h44 h45 hz hdd; exact absurd hdd (Nat.not_lt_zero _)
            | succ dd ih58 =>
              intro k_ B9 hk_ hbs h43 h44 h45 hz hdd58
              refine m_iload 4 rfl dX12_row_58 ?_
              refine m_bipush (100) dX12_row_60 rfl ?_
              refine m_icmpn_ge k_ 100 84 (by omega) (by decide) dX12_row_62 (by decide) (fun c8_ => ?_) (fun c8_ => ?_)
              ·
                refine m_iconst 0 dX12_row_84 rfl ?_
                exact m_iret dX12_row_85 (Nat.le_refl _) (Nat.le_refl _) ((by obtain rfl : k_ = 100 := (by omega); exact ⟨by unfold rowI; rw [hb, if_pos rfl, if_neg (nI_pos (by omega))], _, rfl, by unfold rowH; rw [hb, if_pos rfl, if_neg (nI_pos (by omega)), hcldq, hclsq, hclnq]; exact hM.shelf hbs (MS.roww (if_pos rfl) hsq hnq h43 h44 h45 hz) (fun k_ hk_ => updH_o hk_)⟩))
              ·
                refine m_aload_n 0 rfl rfl dX12_row_65 ?_
                refine gf_X12_28 dX12_row_66 ?_
                refine m_bipush (100) dX12_row_69 rfl ?_
                refine m_iload_n 1 rfl rfl dX12_row_71 ?_
                refine m_imul dX12_row_72 ?_
                refine m_topi (show 100 * (nI (dq)) = nI (100 * dq) from pk_mul _ _) ?_
                refine m_iload 4 rfl dX12_row_73 ?_
                refine m_iadd dX12_row_75 ?_
                refine m_topi (show (nI (100 * dq)) + (nI (k_)) = nI ((100 * dq) + k_) from nI_add _ _) ?_
                refine m_iconst 0 dX12_row_76 rfl ?_
                refine as_46 ((100 * dq) + k_) rfl (by omega) dX12_row_77 (fun B9 hB9 => ?_)
                refine m_iinc (nI (k_ + 1)) 4 [(4, .int (nI (k_ + 1))), (0, .ref (gK G 4 0)), (1, .int (nI (dq))), (2, .int (nI (sq))), (3, .int (nI (nq)))] rfl (nI_1 _) (by decide) rfl dX12_row_78 ?_
                refine m_goto 58 dX12_row_81 (by decide) ?_
                refine m_lv [(0, .ref (gK G 4 0)), (1, .int (nI (dq))), (2, .int (nI (sq))), (3, .int (nI (nq))), (4, .int (nI (k_ + 1)))] [1, 2, 3, 4, 0] rfl ?_
                exact ih58 (k_ + 1) B9 (by omega) (bsh_up hbs hB9 (Or.inr ⟨rfl, by omega, by omega⟩)) (up3_t hB9 (by decide) h43) (up3_t hB9 (by decide) h44) (up3_t hB9 (by decide) h45) (fun j_ hj => by rcases Nat.lt_or_ge j_ k_ with q_ | q_; exact up3_j hB9 (by omega) (hz j_ q_); obtain rfl : k_ = j_ := (by omega); exact up3_e hB9) (by omega)
          refine m_lv [(0, .ref (gK G 4 0)), (1, .int (nI (dq))), (2, .int (nI (sq))), (3, .int (nI (nq))), (4, .int 0)] [1, 2, 3, 4, 0] rfl ?_
          exact lp58 ((100 - 0) + 1) 0 B7 (Nat.zero_le _) (bsh_up (bsh_up (bsh_up bsh_rf hB5 (Or.inl ⟨by decide, rfl⟩)) hB6 (Or.inl ⟨by decide, rfl⟩)) hB7 (Or.inl ⟨by decide, rfl⟩)) (up3_t hB7 (by decide) (up3_t hB6 (by decide) (up3_e hB5))) (up3_t hB7 (by decide) (up3_e hB6)) (up3_e hB7) (fun j_ hj => absurd hj (Nat.not_lt_zero j_)) (Nat.lt_succ_self _)
        ·
          refine m_bipush (-14) dX12_row_31 rfl ?_
          exact m_iret dX12_row_33 (Nat.le_refl _) (Nat.le_refl _) (⟨by unfold rowI; rw [hb, if_pos rfl, if_pos (Int32.not_le.mp c4_)], _, rfl, by unfold rowH; rw [hb, if_pos rfl, if_pos (Int32.not_le.mp c4_)]; exact hM⟩)
      ·
        refine m_iconst (-1) dX12_row_25 rfl ?_
        exact m_iret dX12_row_26 (Nat.le_refl _) (Nat.le_refl _) (⟨by unfold rowI; rw [(show rowB (nI (dq)) (nI (sq)) n_ = false from by unfold rowB; rw [decide_eq_false (fun q_ => absurd q_.2.2 c3_), Bool.and_false])]; rfl, _, rfl, by unfold rowH; rw [(show rowB (nI (dq)) (nI (sq)) n_ = false from by unfold rowB; rw [decide_eq_false (fun q_ => absurd q_.2.2 c3_), Bool.and_false])]; exact hM⟩)
set_option maxRecDepth 100000 in
set_option maxHeartbeats 4000000 in
theorem k_m_put (l : Launch) (G : owG) {A S Z B T V : owF} {J : Nat → Nat → Int64} {Y : Nat → Nat → Nat → Option Nat} {P : Nat → Option owW} (a_ : owK) (ho_ : aOk a_) (im : Option owK) (h_ : owH) (hM : MR B a_ im h_) (x_ i8 v_ : Int32) : Ct l G yX12_put cX12_put 5 ((some .int)) 3 0 0 [.ref (gK G 4 0), .int x_, .int i8, .int v_] (A, S, Z, B, T, V, J, Y, P) (qI (fun r_ σ => r_ = putI h_ x_ i8 ∧ ∃ (B2 T2 V2 : owF), σ = (A, S, Z, B2, T2, V2, J, Y, P) ∧ MR B2 (a_) (im) (putH h_ x_ i8 v_))) := by
  refine ct_of (by decide +kernel) (Nat.le_of_ble_eq_true rfl) ?_
  have h10 := ho_.1
  have h8_ := ho_.2.1
  have hX := hM.1
  show Wm l G cX12_put 5 RX12 ((some .int)) (rmk 3 0 0) (fun _ => True) (QfM G (qI (fun r_ σ => r_ = putI h_ x_ i8 ∧ ∃ (B2 T2 V2 : owF), σ = (A, S, Z, B2, T2, V2, J, Y, P) ∧ MR B2 (a_) (im) (putH h_ x_ i8 v_))) 0 0) 0 [(0, .ref (gK G 4 0)), (1, .int x_), (2, .int i8), (3, .int v_)] [] (A, S, Z, B, T, V, J, Y, P) 0 0
  refine m_aload_n 0 rfl rfl dX12_put_0 ?_
  refine m_iload_n 1 rfl rfl dX12_put_1 ?_
  refine m_iconst (-1) dX12_put_2 rfl ?_
  refine m_callVi cv_X12_104 [.int x_, .int (-1)] [] (k_m_wrongRowN l G a_ ho_ im h_ hM x_) (by decide) (ce_4 G _ _ _ _ _ _ _ _ _ _) rfl rfl rfl ⟨Nat.le_of_ble_eq_true rfl, Nat.le_of_ble_eq_true rfl⟩ (Nat.le_of_ble_eq_true rfl) ⟨Nat.zero_le _, Nat.zero_le _⟩ dX12_put_3 (fun xx σ2 hq => ?_)
  obtain ⟨rfl, rfl⟩ := hq
  refine m_istore [(4, .int (wnI h_ x_)), (0, .ref (gK G 4 0)), (1, .int x_), (2, .int i8), (3, .int v_)] (by decide) rfl dX12_put_6 ?_
  refine m_iload 0 rfl dX12_put_8 ?_
  refine m_if_eq 16 dX12_put_10 (by decide) (fun c1_ => ?_) (fun c1_ => ?_)
  ·
    have hr0 := c1_
    obtain ⟨dq, hdq, rfl, hk2, hDd⟩ := wnI_0 c1_
    have hcldq : (nI dq).toNatClampNeg = dq := nI_clamp (by omega)
    have hms := hM.2.2.2 dq hdq
    have hm2 := hms.2.2.1 hk2
    have hn100 := hm2.2.2.2.1
    have hs2 := hm2.2.1
    have hr1 : rowRef h_ dq = 0 := by unfold rowRef; rw [if_neg (by omega), if_pos hk2]
    refine m_iload_n 3 rfl rfl dX12_put_16 ?_
    refine m_i2l dX12_put_17 ?_
    refine m_lconst 0 dX12_put_18 rfl ?_
    refine m_topl (show (0 : Int64) = (0 : Int32).toInt64 by decide) ?_
    refine m_aload_n 1 rfl rfl dX12_put_19 ?_
    refine gf_X12_25 dX12_put_20 ?_
    refine m_iload_n 2 rfl rfl dX12_put_23 ?_
    refine al_45 dq rfl (by omega) dX12_put_24 ?_
    refine m_topi hm2.2.2.1 ?_
    refine m_iconst 1 dX12_put_25 rfl ?_
    refine m_isub dX12_put_26 ?_
    refine m_i2l dX12_put_27 ?_
    refine m_callSi cs_X12_62 [.long (i8.toInt64), .long ((0 : Int32).toInt64), .long (((nI (hN h_ dq)) - 1).toInt64)] [] (k_m_isIn l G i8 0 ((nI (hN h_ dq)) - 1)) rfl rfl ⟨Nat.le_of_ble_eq_true rfl, Nat.le_of_ble_eq_true rfl⟩ (Nat.le_of_ble_eq_true rfl) ⟨Nat.zero_le _, Nat.zero_le _⟩ dX12_put_28 (fun xx σ2 hq => ?_)
    obtain ⟨rfl, rfl⟩ := hq
    refine m_ifne_b 37 dX12_put_31 (by decide) (fun c2_ => ?_) (fun c2_ => ?_)
    ·
      have hpl := (inB_P (h := h_) (d := dq) (x := i8) hn100).symm.trans c2_
      obtain ⟨kq, hkk, rfl⟩ := natOf2 (n := hN h_ dq) (of_decide_eq_true hpl).1 (of_decide_eq_true hpl).2 (by omega)
      have hclkq : (nI kq).toNatClampNeg = kq := nI_clamp (by omega)
      have hp0 : putI h_ (nI dq) (nI kq) = 0 := by unfold putI; rw [hDd, if_pos rfl, hcldq, if_pos hr1, hpl]; rfl
      refine m_aload_n 1 rfl rfl dX12_put_37 ?_
      refine gf_X12_28 dX12_put_38 ?_
      refine m_bipush (100) dX12_put_41 rfl ?_
      refine m_iload_n 2 rfl rfl dX12_put_43 ?_
      refine m_imul dX12_put_44 ?_
      refine m_topi (show 100 * (nI (dq)) = nI (100 * dq) from pk_mul _ _) ?_
      refine m_iload_n 3 rfl rfl dX12_put_45 ?_
      refine m_iadd dX12_put_46 ?_
      refine m_topi (show (nI (100 * dq)) + (nI (kq)) = nI ((100 * dq) + kq) from nI_add _ _) ?_
      refine m_aload_n 1 rfl rfl dX12_put_47 ?_
      refine gf_X12_22 dX12_put_48 ?_
      refine m_iload_n 2 rfl rfl dX12_put_51 ?_
      refine al_44 dq rfl (by omega) dX12_put_52 ?_
      refine m_topi hm2.1 ?_
      refine m_ifn_ne (hSo h_ dq) 61 (by omega) dX12_put_53 (by decide) (fun c3_ => ?_) (fun c3_ => ?_)
      ·
        refine m_aload_n 1 rfl rfl dX12_put_61 ?_
        refine gf_X12_22 dX12_put_62 ?_
        refine m_iload_n 2 rfl rfl dX12_put_65 ?_
        refine al_44 dq rfl (by omega) dX12_put_66 ?_
        refine m_topi hm2.1 ?_
        refine m_iconst 1 dX12_put_67 rfl ?_
        refine m_icmpn_ne (hSo h_ dq) 1 76 (by omega) (by decide) dX12_put_68 (by decide) (fun c4_ => ?_) (fun c4_ => ?_)
        ·
          refine m_iload_n 4 rfl rfl dX12_put_76 ?_
          refine as_46 ((100 * dq) + kq) rfl (by omega) dX12_put_77 (fun B5 hB5 => ?_)
          refine m_iconst 0 dX12_put_78 rfl ?_
          exact m_iret dX12_put_79 (Nat.le_refl _) (Nat.le_refl _) (⟨hp0.symm, _, _, _, rfl, by unfold putH; rw [if_pos hp0, hcldq, hclkq]; exact hM.shelf (bsh_up bsh_rf hB5 (Or.inr ⟨rfl, by omega, by omega⟩)) (MS.roww (if_pos rfl) hs2 hn100 (up3_t hB5 (by decide) (by rw [hms.2.1, hk2]; rfl)) (up3_t hB5 (by decide) hm2.1) (up3_t hB5 (by decide) hm2.2.2.1) (fun j_ hj => if qe : j_ = kq then (by rw [if_pos qe, qe]; exact (up3_e hB5).trans (by unfold narI; grind)) else (by rw [if_neg qe]; exact up3_j hB5 (by omega) (hm2.2.2.2.2 j_ hj)))) (fun k_ hk_ => updH_o hk_)⟩)
        ·
          refine m_iload_n 4 rfl rfl dX12_put_71 ?_
          refine m_i2s dX12_put_72 ?_
          refine m_goto 77 dX12_put_73 (by decide) ?_
          refine as_46 ((100 * dq) + kq) rfl (by omega) dX12_put_77 (fun B6 hB6 => ?_)
          refine m_iconst 0 dX12_put_78 rfl ?_
          exact m_iret dX12_put_79 (Nat.le_refl _) (Nat.le_refl _) (⟨hp0.symm, _, _, _, rfl, by unfold putH; rw [if_pos hp0, hcldq, hclkq]; exact hM.shelf (bsh_up bsh_rf hB6 (Or.inr ⟨rfl, by omega, by omega⟩)) (MS.roww (if_pos rfl) hs2 hn100 (up3_t hB6 (by decide) (by rw [hms.2.1, hk2]; rfl)) (up3_t hB6 (by decide) hm2.1) (up3_t hB6 (by decide) hm2.2.2.1) (fun j_ hj => if qe : j_ = kq then (by rw [if_pos qe, qe]; exact (up3_e hB6).trans (by unfold narI; grind)) else (by rw [if_neg qe]; exact up3_j hB6 (by omega) (hm2.2.2.2.2 j_ hj)))) (fun k_ hk_ => updH_o hk_)⟩)
      ·
        refine m_iload_n 4 rfl rfl dX12_put_56 ?_
        refine m_i2b dX12_put_57 ?_
        refine m_goto 77 dX12_put_58 (by decide) ?_
        refine as_46 ((100 * dq) + kq) rfl (by omega) dX12_put_77 (fun B7 hB7 => ?_)
        refine m_iconst 0 dX12_put_78 rfl ?_
        exact m_iret dX12_put_79 (Nat.le_refl _) (Nat.le_refl _) (⟨hp0.symm, _, _, _, rfl, by unfold putH; rw [if_pos hp0, hcldq, hclkq]; exact hM.shelf (bsh_up bsh_rf hB7 (Or.inr ⟨rfl, by omega, by omega⟩)) (MS.roww (if_pos rfl) hs2 hn100 (up3_t hB7 (by decide) (by rw [hms.2.1, hk2]; rfl)) (up3_t hB7 (by decide) hm2.1) (up3_t hB7 (by decide) hm2.2.2.1) (fun j_ hj => if qe : j_ = kq then (by rw [if_pos qe, qe]; exact (up3_e hB7).trans (by unfold narI; grind)) else (by rw [if_neg qe]; exact up3_j hB7 (by omega) (hm2.2.2.2.2 j_ hj)))) (fun k_ hk_ => updH_o hk_)⟩)
    ·
      have hpl := (inB_P (h := h_) (d := dq) (x := i8) hn100).symm.trans c2_
      refine m_bipush (-13) dX12_put_34 rfl ?_
      exact m_iret dX12_put_36 (Nat.le_refl _) (Nat.le_refl _) (⟨by unfold putI; rw [hDd, if_pos rfl, hcldq, if_pos hr1, hpl]; rfl, _, _, _, rfl, by unfold putH; rw [if_neg (by unfold putI; rw [hDd, if_pos rfl, hcldq, if_pos hr1, hpl]; decide)]; exact hM⟩)
  ·
    refine m_iload 0 rfl dX12_put_13 ?_
    exact m_iret dX12_put_15 (Nat.le_refl _) (Nat.le_refl _) (⟨by unfold putI wnI; have hz := c1_; unfold wnI at hz; split <;> simp_all, _, _, _, rfl, by unfold putH; rw [if_neg (by have hz := c1_; unfold wnI at hz; unfold putI; split <;> simp_all)]; exact hM⟩)
set_option maxRecDepth 100000 in
set_option maxHeartbeats 4000000 in
theorem k_m_getX (l : Launch) (G : owG) {A S Z B T V : owF} {J : Nat → Nat → Int64} {Y : Nat → Nat → Nat → Option Nat} {P : Nat → Option owW} (a_ : owK) (ho_ : aOk a_) (hX : MX (B 40 0) a_) (w_ : Nat) (hw_ : w_ < aN a_) (k_ : Nat) (hk_ : k_ < 3) : Ct l G yX12_get cX12_get 3 ((some .int)) 0 0 0 [.ref (gK G 4 0), .int (nI (w_)), .int (nI (k_))] (A, S, Z, B, T, V, J, Y, P) (qI (fun r_ σ => r_ = nI (mG a_ w_ k_) ∧ σ = (A, S, Z, B, T, V, J, Y, P))) := by
  refine ct_of (by decide +kernel) (Nat.le_of_ble_eq_true rfl) ?_
  have h10 := ho_.1
  show Wm l G cX12_get 3 RX12 ((some .int)) (rmk 0 0 0) (fun _ => True) (QfM G (qI (fun r_ σ => r_ = nI (mG a_ w_ k_) ∧ σ = (A, S, Z, B, T, V, J, Y, P))) 0 0) 0 [(0, .ref (gK G 4 0)), (1, .int (nI (w_))), (2, .int (nI (k_)))] [] (A, S, Z, B, T, V, J, Y, P) 0 0
  refine m_aload_n 0 rfl rfl dX12_get_0 ?_
  refine gf_X12_9 dX12_get_1 ?_
  refine m_iconst 2 dX12_get_4 rfl ?_
  refine m_iconst 3 dX12_get_5 rfl ?_
  refine m_iload_n 1 rfl rfl dX12_get_6 ?_
  refine m_imul dX12_get_7 ?_
  refine m_topi (show 3 * (nI (w_)) = nI (3 * w_) from pk_mul _ _) ?_
  refine m_iadd dX12_get_8 ?_
  refine m_topi (show 2 + (nI (3 * w_)) = nI (2 + (3 * w_)) from nI_add _ _) ?_
  refine m_iload_n 2 rfl rfl dX12_get_9 ?_
  refine m_iadd dX12_get_10 ?_
  refine m_topi (show (nI (2 + (3 * w_))) + (nI (k_)) = nI ((2 + (3 * w_)) + k_) from nI_add _ _) ?_
  refine al_40 ((2 + (3 * w_)) + k_) rfl (by omega) dX12_get_11 ?_
  refine m_topi (hX.2.2.1 w_ hw_ k_ hk_) ?_
  exact m_iret dX12_get_12 (Nat.le_refl _) (Nat.le_refl _) (⟨rfl, rfl⟩)
set_option maxRecDepth 100000 in
set_option maxHeartbeats 4000000 in
theorem k_m_keep (l : Launch) (G : owG) {A S Z B T V : owF} {J : Nat → Nat → Int64} {Y : Nat → Nat → Nat → Option Nat} {P : Nat → Option owW} (a_ : owK) (ho_ : aOk a_) (im : Option owK) (h_ : owH) (hM : MR B a_ im h_) (x_ p_ k8 : Int32) : Ct l G yX12_keep cX12_keep 5 ((some .int)) 2 0 0 [.ref (gK G 4 0), .int x_, .int p_, .int k8] (A, S, Z, B, T, V, J, Y, P) (qI (fun r_ σ => r_ = kpI a_ x_ p_ k8 ∧ ∃ (B2 T2 V2 : owF), σ = (A, S, Z, B2, T2, V2, J, Y, P) ∧ MR B2 (a_) (im) (kpH a_ h_ x_ p_ k8))) := by
  refine ct_of (by decide +kernel) (Nat.le_of_ble_eq_true rfl) ?_
  have h10 := ho_.1
  have h8_ := ho_.2.1
  have hX := hM.1
  show Wm l G cX12_keep 5 RX12 ((some .int)) (rmk 2 0 0) (fun _ => True) (QfM G (qI (fun r_ σ => r_ = kpI a_ x_ p_ k8 ∧ ∃ (B2 T2 V2 : owF), σ = (A, S, Z, B2, T2, V2, J, Y, P) ∧ MR B2 (a_) (im) (kpH a_ h_ x_ p_ k8))) 0 0) 0 [(0, .ref (gK G 4 0)), (1, .int x_), (2, .int p_), (3, .int k8)] [] (A, S, Z, B, T, V, J, Y, P) 0 0
  refine m_iload_n 1 rfl rfl dX12_keep_0 ?_
  refine m_callSi cs_X12_101 [.int x_] [] (k_m_isShelf l G x_) rfl rfl ⟨Nat.le_of_ble_eq_true rfl, Nat.le_of_ble_eq_true rfl⟩ (Nat.le_of_ble_eq_true rfl) ⟨Nat.zero_le _, Nat.zero_le _⟩ dX12_keep_1 (fun xx σ2 hq => ?_)
  obtain ⟨rfl, rfl⟩ := hq
  refine m_ifeq_b 30 dX12_keep_4 (by decide) (fun c1_ => ?_) (fun c1_ => ?_)
  ·
    refine m_iconst (-1) dX12_keep_30 rfl ?_
    exact m_iret dX12_keep_31 (Nat.le_refl _) (Nat.le_refl _) (⟨by unfold kpI; rw [(show kpB a_ x_ p_ k8 = false from by unfold kpB; first | (simp [c1_]; done) | grind)]; rfl, _, _, _, rfl, by unfold kpH; rw [(show kpB a_ x_ p_ k8 = false from by unfold kpB; first | (simp [c1_]; done) | grind)]; exact hM⟩)
  ·
    have hDdq := c1_
    obtain ⟨dq, hdq, rfl⟩ := isD_nat c1_
    have hcldq : (nI dq).toNatClampNeg = dq := nI_clamp (by omega)
    have hmsdq := hM.2.2.2 dq hdq
    have hk3dq := hmsdq.1
    refine m_iload_n 2 rfl rfl dX12_keep_7 ?_
    refine m_i2l dX12_keep_8 ?_
    refine m_lconst 0 dX12_keep_9 rfl ?_
    refine m_topl (show (0 : Int64) = (0 : Int32).toInt64 by decide) ?_
    refine m_lconst 1 dX12_keep_10 rfl ?_
    refine m_topl (show (1 : Int64) = (1 : Int32).toInt64 by decide) ?_
    refine m_callSi cs_X12_62 [.long (p_.toInt64), .long ((0 : Int32).toInt64), .long ((1 : Int32).toInt64)] [] (k_m_isIn l G p_ 0 1) rfl rfl ⟨Nat.le_of_ble_eq_true rfl, Nat.le_of_ble_eq_true rfl⟩ (Nat.le_of_ble_eq_true rfl) ⟨Nat.zero_le _, Nat.zero_le _⟩ dX12_keep_11 (fun xx σ2 hq => ?_)
    obtain ⟨hgx, rfl⟩ := hq
    obtain rfl := hgx.trans (congrArg bI (inB_01))
    refine m_ifeq_b 30 dX12_keep_14 (by decide) (fun c2_ => ?_) (fun c2_ => ?_)
    ·
      refine m_iconst (-1) dX12_keep_30 rfl ?_
      exact m_iret dX12_keep_31 (Nat.le_refl _) (Nat.le_refl _) (⟨by unfold kpI; rw [(show kpB a_ (nI (dq)) p_ k8 = false from by unfold kpB; first | (simp [c1_, c2_]; done) | grind)]; rfl, _, _, _, rfl, by unfold kpH; rw [(show kpB a_ (nI (dq)) p_ k8 = false from by unfold kpB; first | (simp [c1_, c2_]; done) | grind)]; exact hM⟩)
    ·
      have h01 := c2_
      refine m_iload_n 2 rfl rfl dX12_keep_17 ?_
      refine m_iconst 1 dX12_keep_18 rfl ?_
      refine m_icmp_ne 32 dX12_keep_19 (by decide) (fun c3_ => ?_) (fun c3_ => ?_)
      ·
        obtain rfl : p_ = 0 := (of_decide_eq_true h01).resolve_right c3_
        have hb : kpB a_ (nI dq) 0 k8 = true := by unfold kpB; rw [hDdq]; rfl
        refine m_aload_n 0 rfl rfl dX12_keep_32 ?_
        refine gf_X12_19 dX12_keep_33 ?_
        refine m_iload_n 1 rfl rfl dX12_keep_36 ?_
        refine m_iload_n 2 rfl rfl dX12_keep_37 ?_
        refine as_43 dq rfl (by omega) dX12_keep_38 (fun B4 hB4 => ?_)
        refine m_iload_n 2 rfl rfl dX12_keep_39 ?_
        refine m_if_ne 45 dX12_keep_40 (by decide) (fun c5_ => absurd c5_ (by decide)) (fun _ => ?_)
        refine m_iconst 0 dX12_keep_43 rfl ?_
        exact m_iret dX12_keep_44 (Nat.le_refl _) (Nat.le_refl _) (⟨by unfold kpI; rw [hb]; rfl, _, _, _, rfl, by unfold kpH; rw [hb, if_pos rfl, if_neg (by decide), hcldq]; exact hM.shelf (bsh_up bsh_rf hB4 (Or.inl ⟨by decide, rfl⟩)) (MS.emp (if_pos rfl) rfl ((up3_e hB4))) (fun k_ hk_ => updH_o hk_)⟩)
      ·
        obtain rfl := c3_
        refine m_aload_n 0 rfl rfl dX12_keep_22 ?_
        refine m_iload_n 3 rfl rfl dX12_keep_23 ?_
        refine m_callVi cv_X12_114 [.int k8] [] (k_m_isWay l G a_ ho_ im h_ hM k8) (by decide) (ce_4 G _ _ _ _ _ _ _ _ _ _) rfl rfl rfl ⟨Nat.le_of_ble_eq_true rfl, Nat.le_of_ble_eq_true rfl⟩ (Nat.le_of_ble_eq_true rfl) ⟨Nat.zero_le _, Nat.zero_le _⟩ dX12_keep_24 (fun xx σ2 hq => ?_)
        obtain ⟨rfl, rfl⟩ := hq
        refine m_ifne_b 32 dX12_keep_27 (by decide) (fun c6_ => ?_) (fun c6_ => ?_)
        ·
          have hwc := c6_
          obtain ⟨wq, hwq, rfl⟩ := isW_nat ho_ c6_
          have hclwq : (nI wq).toNatClampNeg = wq := nI_clamp (by omega)
          have hb : kpB a_ (nI dq) 1 (nI wq) = true := by unfold kpB; rw [hDdq, hwc]; rfl
          have hk8 := aK_lt ho_ hwq
          have hf9 := aF_le ho_ hwq
          refine m_aload_n 0 rfl rfl dX12_keep_32 ?_
          refine gf_X12_19 dX12_keep_33 ?_
          refine m_iload_n 1 rfl rfl dX12_keep_36 ?_
          refine m_iload_n 2 rfl rfl dX12_keep_37 ?_
          refine as_43 dq rfl (by omega) dX12_keep_38 (fun B7 hB7 => ?_)
          refine m_iload_n 2 rfl rfl dX12_keep_39 ?_
          refine m_if_ne 45 dX12_keep_40 (by decide) (fun _ => ?_) (fun c8_ => absurd c8_ (by decide))
          refine m_aload_n 0 rfl rfl dX12_keep_45 ?_
          refine m_iload_n 3 rfl rfl dX12_keep_46 ?_
          refine m_iconst 0 dX12_keep_47 rfl ?_
          refine m_callVi cv_X12_119 [.int (nI (wq)), .int 0] [] (k_m_getX l G a_ ho_ (MX.cong ho_ hX (fun j_ _ => (up3_t hB7 (by decide) rfl))) wq hwq 0 (by decide)) (by decide) (ce_4 G _ _ _ _ _ _ _ _ _ _) rfl rfl rfl ⟨Nat.le_of_ble_eq_true rfl, Nat.le_of_ble_eq_true rfl⟩ (Nat.le_of_ble_eq_true rfl) ⟨Nat.zero_le _, Nat.zero_le _⟩ dX12_keep_48 (fun xx σ2 hq => ?_)
          obtain ⟨hgx, rfl⟩ := hq
          obtain rfl : xx = nI (aK a_ wq) := hgx
          refine m_istore [(4, .int (nI (aK a_ wq))), (0, .ref (gK G 4 0)), (1, .int (nI (dq))), (2, .int 1), (3, .int (nI (wq)))] (by decide) rfl dX12_keep_51 ?_
          refine m_aload_n 1 rfl rfl dX12_keep_53 ?_
          refine gf_X12_31 dX12_keep_54 ?_
          refine m_iload_n 2 rfl rfl dX12_keep_57 ?_
          refine m_iload 0 rfl dX12_keep_58 ?_
          refine m_aload_n 1 rfl rfl dX12_keep_60 ?_
          refine m_iload_n 4 rfl rfl dX12_keep_61 ?_
          refine m_iconst 1 dX12_keep_62 rfl ?_
          refine m_callVi cv_X12_119 [.int (nI (wq)), .int 1] [.int (nI (aK a_ wq)), .int (nI (dq)), .ref (gK G 47 0)] (k_m_getX l G a_ ho_ (MX.cong ho_ hX (fun j_ _ => (up3_t hB7 (by decide) rfl))) wq hwq 1 (by decide)) (by decide) (ce_4 G _ _ _ _ _ _ _ _ _ _) rfl rfl rfl ⟨Nat.le_of_ble_eq_true rfl, Nat.le_of_ble_eq_true rfl⟩ (Nat.le_of_ble_eq_true rfl) ⟨Nat.zero_le _, Nat.zero_le _⟩ dX12_keep_63 (fun xx σ2 hq => ?_)
          obtain ⟨hgx, rfl⟩ := hq
          obtain rfl : xx = nI (aF a_ wq) := hgx
          refine m_callSi cs_X12_122 [.int (nI (aK a_ wq)), .int (nI (aF a_ wq))] [.int (nI (dq)), .ref (gK G 47 0)] (k_m_costBy l G (aK a_ wq) (aF a_ wq) (by omega) (by omega)) rfl rfl ⟨Nat.le_of_ble_eq_true rfl, Nat.le_of_ble_eq_true rfl⟩ (Nat.le_of_ble_eq_true rfl) ⟨Nat.zero_le _, Nat.zero_le _⟩ dX12_keep_66 (fun xx σ2 hq => ?_)
          obtain ⟨rfl, rfl⟩ := hq
          refine as_47 dq rfl (by omega) dX12_keep_69 (fun B9 hB9 => ?_)
          refine m_aload_n 1 rfl rfl dX12_keep_70 ?_
          refine gf_X12_34 dX12_keep_71 ?_
          refine m_iload_n 2 rfl rfl dX12_keep_74 ?_
          refine m_iload 0 rfl dX12_keep_75 ?_
          refine m_iconst 5 dX12_keep_77 rfl ?_
          refine m_icmpn_eq (aK a_ wq) 5 90 (by omega) (by decide) dX12_keep_78 (by decide) (fun c10_ => ?_) (fun c10_ => ?_)
          ·
            refine m_bipush (-15) dX12_keep_90 rfl ?_
            refine m_goto 130 dX12_keep_92 (by decide) ?_
            refine as_48 dq rfl (by omega) dX12_keep_130 (fun B11 hB11 => ?_)
            refine m_iconst 0 dX12_keep_131 rfl ?_
            exact m_iret dX12_keep_132 (Nat.le_refl _) (Nat.le_refl _) (⟨by unfold kpI; rw [hb]; rfl, _, _, _, rfl, by unfold kpH; rw [hb, if_pos rfl, if_pos rfl, hcldq, hclwq]; exact hM.shelf (bsh_up (bsh_up (bsh_up bsh_rf hB7 (Or.inl ⟨by decide, rfl⟩)) hB9 (Or.inl ⟨by decide, rfl⟩)) hB11 (Or.inl ⟨by decide, rfl⟩)) (MS.wayy (if_pos rfl) ((up3_t hB11 (by decide) (up3_t hB9 (by decide) (up3_e hB7)))) ((up3_t hB11 (by decide) (up3_e hB9))) (((up3_e hB11)).trans (by unfold tossI failW; first | (simp_all; done) | (simp_all; intro hz9; exact absurd hz9 (by omega))))) (fun k_ hk_ => updH_o hk_)⟩)
          ·
            refine m_aload_n 1 rfl rfl dX12_keep_81 ?_
            refine m_iload_n 4 rfl rfl dX12_keep_82 ?_
            refine m_iconst 1 dX12_keep_83 rfl ?_
            refine m_callVi cv_X12_119 [.int (nI (wq)), .int 1] [.int (nI (dq)), .ref (gK G 48 0)] (k_m_getX l G a_ ho_ (MX.cong ho_ hX (fun j_ _ => (up3_t hB9 (by decide) (up3_t hB7 (by decide) rfl)))) wq hwq 1 (by decide)) (by decide) (ce_4 G _ _ _ _ _ _ _ _ _ _) rfl rfl rfl ⟨Nat.le_of_ble_eq_true rfl, Nat.le_of_ble_eq_true rfl⟩ (Nat.le_of_ble_eq_true rfl) ⟨Nat.zero_le _, Nat.zero_le _⟩ dX12_keep_84 (fun xx σ2 hq => ?_)
            obtain ⟨hgx, rfl⟩ := hq
            obtain rfl : xx = nI (aF a_ wq) := hgx
            refine m_ifn_ne (aF a_ wq) 95 (by omega) dX12_keep_87 (by decide) (fun c12_ => ?_) (fun c12_ => ?_)
            ·
              refine m_iload 0 rfl dX12_keep_95 ?_
              refine m_bipush (6) dX12_keep_97 rfl ?_
              refine m_icmpn_ne (aK a_ wq) 6 109 (by omega) (by decide) dX12_keep_99 (by decide) (fun c13_ => ?_) (fun c13_ => ?_)
              ·
                refine m_iload 0 rfl dX12_keep_109 ?_
                refine m_bipush (7) dX12_keep_111 rfl ?_
                refine m_icmpn_ne (aK a_ wq) 7 129 (by omega) (by decide) dX12_keep_113 (by decide) (fun c14_ => ?_) (fun c14_ => ?_)
                ·
                  refine m_iload_n 4 rfl rfl dX12_keep_129 ?_
                  refine as_48 dq rfl (by omega) dX12_keep_130 (fun B15 hB15 => ?_)
                  refine m_iconst 0 dX12_keep_131 rfl ?_
                  exact m_iret dX12_keep_132 (Nat.le_refl _) (Nat.le_refl _) (⟨by unfold kpI; rw [hb]; rfl, _, _, _, rfl, by unfold kpH; rw [hb, if_pos rfl, if_pos rfl, hcldq, hclwq]; exact hM.shelf (bsh_up (bsh_up (bsh_up bsh_rf hB7 (Or.inl ⟨by decide, rfl⟩)) hB9 (Or.inl ⟨by decide, rfl⟩)) hB15 (Or.inl ⟨by decide, rfl⟩)) (MS.wayy (if_pos rfl) ((up3_t hB15 (by decide) (up3_t hB9 (by decide) (up3_e hB7)))) ((up3_t hB15 (by decide) (up3_e hB9))) (((up3_e hB15)).trans (by unfold tossI failW; first | (simp_all; done) | (simp_all; intro hz9; exact absurd hz9 (by omega))))) (fun k_ hk_ => updH_o hk_)⟩)
                ·
                  refine m_sipush (200) dX12_keep_116 rfl ?_
                  refine m_aload_n 1 rfl rfl dX12_keep_119 ?_
                  refine gf_X12_31 dX12_keep_120 ?_
                  refine m_iload_n 2 rfl rfl dX12_keep_123 ?_
                  refine al_47 dq rfl (by omega) dX12_keep_124 ?_
                  refine m_topi (up3_e hB9) ?_
                  refine m_iadd dX12_keep_125 ?_
                  refine m_topi (show 200 + (nI (costW (aK a_ wq) (aF a_ wq))) = nI (200 + (costW (aK a_ wq) (aF a_ wq))) from nI_add _ _) ?_
                  refine m_goto 130 dX12_keep_126 (by decide) ?_
                  refine as_48 dq rfl (by omega) dX12_keep_130 (fun B16 hB16 => ?_)
                  refine m_iconst 0 dX12_keep_131 rfl ?_
                  exact m_iret dX12_keep_132 (Nat.le_refl _) (Nat.le_refl _) (⟨by unfold kpI; rw [hb]; rfl, _, _, _, rfl, by unfold kpH; rw [hb, if_pos rfl, if_pos rfl, hcldq, hclwq]; exact hM.shelf (bsh_up (bsh_up (bsh_up bsh_rf hB7 (Or.inl ⟨by decide, rfl⟩)) hB9 (Or.inl ⟨by decide, rfl⟩)) hB16 (Or.inl ⟨by decide, rfl⟩)) (MS.wayy (if_pos rfl) ((up3_t hB16 (by decide) (up3_t hB9 (by decide) (up3_e hB7)))) ((up3_t hB16 (by decide) (up3_e hB9))) (((up3_e hB16)).trans (by unfold tossI failW; first | (simp_all; done) | (simp_all; intro hz9; exact absurd hz9 (by omega))))) (fun k_ hk_ => updH_o hk_)⟩)
              ·
                refine m_bipush (100) dX12_keep_102 rfl ?_
                refine m_iload_n 4 rfl rfl dX12_keep_104 ?_
                refine m_iadd dX12_keep_105 ?_
                refine m_topi (show 100 + (nI (wq)) = nI (100 + wq) from nI_add _ _) ?_
                refine m_goto 130 dX12_keep_106 (by decide) ?_
                refine as_48 dq rfl (by omega) dX12_keep_130 (fun B17 hB17 => ?_)
                refine m_iconst 0 dX12_keep_131 rfl ?_
                exact m_iret dX12_keep_132 (Nat.le_refl _) (Nat.le_refl _) (⟨by unfold kpI; rw [hb]; rfl, _, _, _, rfl, by unfold kpH; rw [hb, if_pos rfl, if_pos rfl, hcldq, hclwq]; exact hM.shelf (bsh_up (bsh_up (bsh_up bsh_rf hB7 (Or.inl ⟨by decide, rfl⟩)) hB9 (Or.inl ⟨by decide, rfl⟩)) hB17 (Or.inl ⟨by decide, rfl⟩)) (MS.wayy (if_pos rfl) ((up3_t hB17 (by decide) (up3_t hB9 (by decide) (up3_e hB7)))) ((up3_t hB17 (by decide) (up3_e hB9))) (((up3_e hB17)).trans (by unfold tossI failW; first | (simp_all; done) | (simp_all; intro hz9; exact absurd hz9 (by omega))))) (fun k_ hk_ => updH_o hk_)⟩)
            ·
              refine m_bipush (-15) dX12_keep_90 rfl ?_
              refine m_goto 130 dX12_keep_92 (by decide) ?_
              refine as_48 dq rfl (by omega) dX12_keep_130 (fun B18 hB18 => ?_)
              refine m_iconst 0 dX12_keep_131 rfl ?_
              exact m_iret dX12_keep_132 (Nat.le_refl _) (Nat.le_refl _) (⟨by unfold kpI; rw [hb]; rfl, _, _, _, rfl, by unfold kpH; rw [hb, if_pos rfl, if_pos rfl, hcldq, hclwq]; exact hM.shelf (bsh_up (bsh_up (bsh_up bsh_rf hB7 (Or.inl ⟨by decide, rfl⟩)) hB9 (Or.inl ⟨by decide, rfl⟩)) hB18 (Or.inl ⟨by decide, rfl⟩)) (MS.wayy (if_pos rfl) ((up3_t hB18 (by decide) (up3_t hB9 (by decide) (up3_e hB7)))) ((up3_t hB18 (by decide) (up3_e hB9))) (((up3_e hB18)).trans (by unfold tossI failW; first | (simp_all; done) | (simp_all; intro hz9; exact absurd hz9 (by omega))))) (fun k_ hk_ => updH_o hk_)⟩)
        ·
          refine m_iconst (-1) dX12_keep_30 rfl ?_
          exact m_iret dX12_keep_31 (Nat.le_refl _) (Nat.le_refl _) (⟨by unfold kpI; rw [(show kpB a_ (nI (dq)) 1 k8 = false from by unfold kpB; first | (simp [c1_, c2_, c3_, c6_]; done) | grind)]; rfl, _, _, _, rfl, by unfold kpH; rw [(show kpB a_ (nI (dq)) 1 k8 = false from by unfold kpB; first | (simp [c1_, c2_, c3_, c6_]; done) | grind)]; exact hM⟩)
def wkI (h_ : owH) (x_ : Int32) : Int32 := if isD x_ = true then (if hK h_ x_.toNatClampNeg = 1 then 0 else wayRef h_ x_.toNatClampNeg) else -1
set_option maxRecDepth 100000 in
set_option maxHeartbeats 4000000 in
theorem k_m_wrongKept (l : Launch) (G : owG) {A S Z B T V : owF} {J : Nat → Nat → Int64} {Y : Nat → Nat → Nat → Option Nat} {P : Nat → Option owW} (a_ : owK) (ho_ : aOk a_) (im : Option owK) (h_ : owH) (hM : MR B a_ im h_) (x_ : Int32) : Ct l G yX12_wrongKept cX12_wrongKept 2 ((some .int)) 2 0 0 [.ref (gK G 4 0), .int x_] (A, S, Z, B, T, V, J, Y, P) (qI (fun r_ σ => r_ = wkI h_ x_ ∧ σ = (A, S, Z, B, T, V, J, Y, P))) := by
  refine ct_of (by decide +kernel) (Nat.le_of_ble_eq_true rfl) ?_
  have h10 := ho_.1
  have h8_ := ho_.2.1
  have hX := hM.1
  show Wm l G cX12_wrongKept 2 RX12 ((some .int)) (rmk 2 0 0) (fun _ => True) (QfM G (qI (fun r_ σ => r_ = wkI h_ x_ ∧ σ = (A, S, Z, B, T, V, J, Y, P))) 0 0) 0 [(0, .ref (gK G 4 0)), (1, .int x_)] [] (A, S, Z, B, T, V, J, Y, P) 0 0
  refine m_iload_n 1 rfl rfl dX12_wrongKept_0 ?_
  refine m_callSi cs_X12_101 [.int x_] [] (k_m_isShelf l G x_) rfl rfl ⟨Nat.le_of_ble_eq_true rfl, Nat.le_of_ble_eq_true rfl⟩ (Nat.le_of_ble_eq_true rfl) ⟨Nat.zero_le _, Nat.zero_le _⟩ dX12_wrongKept_1 (fun xx σ2 hq => ?_)
  obtain ⟨rfl, rfl⟩ := hq
  refine m_ifne_b 11 dX12_wrongKept_4 (by decide) (fun c1_ => ?_) (fun c1_ => ?_)
  ·
    have hDdq := c1_
    obtain ⟨dq, hdq, rfl⟩ := isD_nat c1_
    have hcldq : (nI dq).toNatClampNeg = dq := nI_clamp (by omega)
    have hmsdq := hM.2.2.2 dq hdq
    have hk3dq := hmsdq.1
    refine m_aload_n 0 rfl rfl dX12_wrongKept_11 ?_
    refine gf_X12_19 dX12_wrongKept_12 ?_
    refine m_iload_n 1 rfl rfl dX12_wrongKept_15 ?_
    refine al_43 dq rfl (by omega) dX12_wrongKept_16 ?_
    refine m_topi hmsdq.2.1 ?_
    refine m_ifn_ne (hK h_ dq) 25 (by omega) dX12_wrongKept_17 (by decide) (fun c2_ => ?_) (fun c2_ => ?_)
    ·
      refine m_aload_n 0 rfl rfl dX12_wrongKept_25 ?_
      refine gf_X12_19 dX12_wrongKept_26 ?_
      refine m_iload_n 1 rfl rfl dX12_wrongKept_29 ?_
      refine al_43 dq rfl (by omega) dX12_wrongKept_30 ?_
      refine m_topi hmsdq.2.1 ?_
      refine m_iconst 1 dX12_wrongKept_31 rfl ?_
      refine m_icmpn_ne (hK h_ dq) 1 39 (by omega) (by decide) dX12_wrongKept_32 (by decide) (fun c3_ => ?_) (fun c3_ => ?_)
      ·
        refine m_bipush (-12) dX12_wrongKept_39 rfl ?_
        exact m_iret dX12_wrongKept_41 (Nat.le_refl _) (Nat.le_refl _) (⟨by unfold wkI; rw [if_pos hDdq, hcldq]; unfold wayRef; grind, rfl⟩)
      ·
        refine m_iconst 0 dX12_wrongKept_35 rfl ?_
        refine m_goto 41 dX12_wrongKept_36 (by decide) ?_
        exact m_iret dX12_wrongKept_41 (Nat.le_refl _) (Nat.le_refl _) (⟨by unfold wkI; rw [if_pos hDdq, hcldq]; unfold wayRef; grind, rfl⟩)
    ·
      refine m_bipush (-11) dX12_wrongKept_20 rfl ?_
      refine m_goto 41 dX12_wrongKept_22 (by decide) ?_
      exact m_iret dX12_wrongKept_41 (Nat.le_refl _) (Nat.le_refl _) (⟨by unfold wkI; rw [if_pos hDdq, hcldq]; unfold wayRef; grind, rfl⟩)
  ·
    refine m_iconst (-1) dX12_wrongKept_7 rfl ?_
    refine m_goto 41 dX12_wrongKept_8 (by decide) ?_
    exact m_iret dX12_wrongKept_41 (Nat.le_refl _) (Nat.le_refl _) (⟨by unfold wkI; rw [if_neg (by rw [c1_]; decide)], rfl⟩)
theorem wkI_0 {h_ : owH} {x_ : Int32} (q_ : wkI h_ x_ = 0) : ∃ d_, d_ < 8 ∧ x_ = nI d_ ∧ hK h_ d_ = 1 ∧ isD x_ = true := by
  cases hD : isD x_ with
  | false => unfold wkI at q_; rw [hD, if_neg (by decide)] at q_; exact absurd q_ (by decide)
  | true =>
    obtain ⟨d_, hd_, rfl⟩ := isD_nat hD
    unfold wkI at q_
    rw [hD, if_pos rfl, nI_clamp (by omega)] at q_
    by_cases h0_ : hK h_ d_ = 1
    · exact ⟨d_, hd_, rfl, h0_, rfl⟩
    · rw [if_neg h0_] at q_; unfold wayRef at q_; split at q_ <;> exact absurd q_ (by decide)
set_option maxRecDepth 100000 in
set_option maxHeartbeats 4000000 in
theorem k_m_cost (l : Launch) (G : owG) {A S Z B T V : owF} {J : Nat → Nat → Int64} {Y : Nat → Nat → Nat → Option Nat} {P : Nat → Option owW} (a_ : owK) (ho_ : aOk a_) (im : Option owK) (h_ : owH) (hM : MR B a_ im h_) (x_ : Int32) : Ct l G yX12_cost cX12_cost 3 ((some .int)) 3 0 0 [.ref (gK G 4 0), .int x_] (A, S, Z, B, T, V, J, Y, P) (qI (fun r_ σ => r_ = costI h_ x_ ∧ ∃ (T2 V2 : owF), σ = (A, S, Z, B, T2, V2, J, Y, P))) := by
  refine ct_of (by decide +kernel) (Nat.le_of_ble_eq_true rfl) ?_
  have h10 := ho_.1
  have h8_ := ho_.2.1
  have hX := hM.1
  show Wm l G cX12_cost 3 RX12 ((some .int)) (rmk 3 0 0) (fun _ => True) (QfM G (qI (fun r_ σ => r_ = costI h_ x_ ∧ ∃ (T2 V2 : owF), σ = (A, S, Z, B, T2, V2, J, Y, P))) 0 0) 0 [(0, .ref (gK G 4 0)), (1, .int x_)] [] (A, S, Z, B, T, V, J, Y, P) 0 0
  refine m_aload_n 0 rfl rfl dX12_cost_0 ?_
  refine m_iload_n 1 rfl rfl dX12_cost_1 ?_
  refine m_callVi cv_X12_257 [.int x_] [] (k_m_wrongKept l G a_ ho_ im h_ hM x_) (by decide) (ce_4 G _ _ _ _ _ _ _ _ _ _) rfl rfl rfl ⟨Nat.le_of_ble_eq_true rfl, Nat.le_of_ble_eq_true rfl⟩ (Nat.le_of_ble_eq_true rfl) ⟨Nat.zero_le _, Nat.zero_le _⟩ dX12_cost_2 (fun xx σ2 hq => ?_)
  obtain ⟨rfl, rfl⟩ := hq
  refine m_istore_n [(2, .int (wkI h_ x_)), (0, .ref (gK G 4 0)), (1, .int x_)] rfl (by decide) rfl dX12_cost_5 ?_
  refine m_iload_n 0 rfl rfl dX12_cost_6 ?_
  refine m_if_eq 14 dX12_cost_7 (by decide) (fun c1_ => ?_) (fun c1_ => ?_)
  ·
    obtain ⟨dq, hdq, rfl, hk1, hDd⟩ := wkI_0 c1_
    have hcldq : (nI dq).toNatClampNeg = dq := nI_clamp (by omega)
    have hm1 := (hM.2.2.2 dq hdq).2.2.2 hk1
    refine m_aload_n 1 rfl rfl dX12_cost_14 ?_
    refine gf_X12_31 dX12_cost_15 ?_
    refine m_iload_n 2 rfl rfl dX12_cost_18 ?_
    refine al_47 dq rfl (by omega) dX12_cost_19 ?_
    refine m_topi hm1.1 ?_
    exact m_iret dX12_cost_20 (Nat.le_refl _) (Nat.le_refl _) (⟨by unfold costI; rw [if_pos hDd, hcldq, if_pos hk1], _, _, rfl⟩)
  ·
    refine m_iload_n 0 rfl rfl dX12_cost_10 ?_
    refine m_goto 20 dX12_cost_11 (by decide) ?_
    exact m_iret dX12_cost_20 (Nat.le_refl _) (Nat.le_refl _) (⟨by have hz := c1_; unfold costI; unfold wkI at hz ⊢; split <;> simp_all, _, _, rfl⟩)
set_option maxRecDepth 100000 in
set_option maxHeartbeats 4000000 in
theorem k_m_toss (l : Launch) (G : owG) {A S Z B T V : owF} {J : Nat → Nat → Int64} {Y : Nat → Nat → Nat → Option Nat} {P : Nat → Option owW} (a_ : owK) (ho_ : aOk a_) (im : Option owK) (h_ : owH) (hM : MR B a_ im h_) (x_ : Int32) : Ct l G yX12_toss cX12_toss 3 ((some .int)) 3 0 0 [.ref (gK G 4 0), .int x_] (A, S, Z, B, T, V, J, Y, P) (qI (fun r_ σ => r_ = tossP h_ x_ ∧ ∃ (T2 V2 : owF), σ = (A, S, Z, B, T2, V2, J, Y, P))) := by
  refine ct_of (by decide +kernel) (Nat.le_of_ble_eq_true rfl) ?_
  have h10 := ho_.1
  have h8_ := ho_.2.1
  have hX := hM.1
  show Wm l G cX12_toss 3 RX12 ((some .int)) (rmk 3 0 0) (fun _ => True) (QfM G (qI (fun r_ σ => r_ = tossP h_ x_ ∧ ∃ (T2 V2 : owF), σ = (A, S, Z, B, T2, V2, J, Y, P))) 0 0) 0 [(0, .ref (gK G 4 0)), (1, .int x_)] [] (A, S, Z, B, T, V, J, Y, P) 0 0
  refine m_aload_n 0 rfl rfl dX12_toss_0 ?_
  refine m_iload_n 1 rfl rfl dX12_toss_1 ?_
  refine m_callVi cv_X12_257 [.int x_] [] (k_m_wrongKept l G a_ ho_ im h_ hM x_) (by decide) (ce_4 G _ _ _ _ _ _ _ _ _ _) rfl rfl rfl ⟨Nat.le_of_ble_eq_true rfl, Nat.le_of_ble_eq_true rfl⟩ (Nat.le_of_ble_eq_true rfl) ⟨Nat.zero_le _, Nat.zero_le _⟩ dX12_toss_2 (fun xx σ2 hq => ?_)
  obtain ⟨rfl, rfl⟩ := hq
  refine m_istore_n [(2, .int (wkI h_ x_)), (0, .ref (gK G 4 0)), (1, .int x_)] rfl (by decide) rfl dX12_toss_5 ?_
  refine m_iload_n 0 rfl rfl dX12_toss_6 ?_
  refine m_if_eq 14 dX12_toss_7 (by decide) (fun c1_ => ?_) (fun c1_ => ?_)
  ·
    obtain ⟨dq, hdq, rfl, hk1, hDd⟩ := wkI_0 c1_
    have hcldq : (nI dq).toNatClampNeg = dq := nI_clamp (by omega)
    have hm1 := (hM.2.2.2 dq hdq).2.2.2 hk1
    refine m_aload_n 1 rfl rfl dX12_toss_14 ?_
    refine gf_X12_34 dX12_toss_15 ?_
    refine m_iload_n 2 rfl rfl dX12_toss_18 ?_
    refine al_48 dq rfl (by omega) dX12_toss_19 ?_
    refine m_topi hm1.2 ?_
    exact m_iret dX12_toss_20 (Nat.le_refl _) (Nat.le_refl _) (⟨by unfold tossP; rw [if_pos hDd, hcldq, if_pos hk1], _, _, rfl⟩)
  ·
    refine m_iload_n 0 rfl rfl dX12_toss_10 ?_
    refine m_goto 20 dX12_toss_11 (by decide) ?_
    exact m_iret dX12_toss_20 (Nat.le_refl _) (Nat.le_refl _) (⟨by have hz := c1_; unfold tossP; unfold wkI at hz ⊢; split <;> simp_all, _, _, rfl⟩)
set_option maxRecDepth 100000 in
set_option maxHeartbeats 4000000 in
theorem k_m_element (l : Launch) (G : owG) {A S Z B T V : owF} {J : Nat → Nat → Int64} {Y : Nat → Nat → Nat → Option Nat} {P : Nat → Option owW} (a_ : owK) (ho_ : aOk a_) (im : Option owK) (h_ : owH) (hM : MR B a_ im h_) (x_ i8 : Int32) : Ct l G yX12_element cX12_element 3 ((some .long)) 2 0 0 [.ref (gK G 4 0), .int x_, .int i8] (A, S, Z, B, T, V, J, Y, P) (qL (fun r_ σ => r_ = elV h_ x_ i8 ∧ ∃ T2 : owF, σ = (A, S, Z, B, T2, V, J, Y, P) ∧ T2 4 0 10 = elT h_ x_ i8)) := by
  refine ct_of (by decide +kernel) (Nat.le_of_ble_eq_true rfl) ?_
  have h10 := ho_.1
  have h8_ := ho_.2.1
  have hX := hM.1
  show Wm l G cX12_element 3 RX12 ((some .long)) (rmk 2 0 0) (fun _ => True) (QfM G (qL (fun r_ σ => r_ = elV h_ x_ i8 ∧ ∃ T2 : owF, σ = (A, S, Z, B, T2, V, J, Y, P) ∧ T2 4 0 10 = elT h_ x_ i8)) 0 0) 0 [(0, .ref (gK G 4 0)), (1, .int x_), (2, .int i8)] [] (A, S, Z, B, T, V, J, Y, P) 0 0
  refine m_aload_n 0 rfl rfl dX12_element_0 ?_
  refine m_iload_n 1 rfl rfl dX12_element_1 ?_
  refine m_callSi cs_X12_101 [.int x_] [.ref (gK G 4 0)] (k_m_isShelf l G x_) rfl rfl ⟨Nat.le_of_ble_eq_true rfl, Nat.le_of_ble_eq_true rfl⟩ (Nat.le_of_ble_eq_true rfl) ⟨Nat.zero_le _, Nat.zero_le _⟩ dX12_element_2 (fun xx σ2 hq => ?_)
  obtain ⟨rfl, rfl⟩ := hq
  refine m_ifne_b 12 dX12_element_5 (by decide) (fun c1_ => ?_) (fun c1_ => ?_)
  ·
    have hDdq := c1_
    obtain ⟨dq, hdq, rfl⟩ := isD_nat c1_
    have hcldq : (nI dq).toNatClampNeg = dq := nI_clamp (by omega)
    have hmsdq := hM.2.2.2 dq hdq
    have hk3dq := hmsdq.1
    refine m_aload_n 0 rfl rfl dX12_element_12 ?_
    refine gf_X12_19 dX12_element_13 ?_
    refine m_iload_n 1 rfl rfl dX12_element_16 ?_
    refine al_43 dq rfl (by omega) dX12_element_17 ?_
    refine m_topi hmsdq.2.1 ?_
    refine m_iconst 2 dX12_element_18 rfl ?_
    refine m_icmpn_ne (hK h_ dq) 2 40 (by omega) (by decide) dX12_element_19 (by decide) (fun c2_ => ?_) (fun c2_ => ?_)
    ·
      have hr1 : ¬ rowRef h_ dq = 0 := by unfold rowRef; split <;> (first | decide | (rw [if_neg c2_]; decide))
      refine m_iconst 2 dX12_element_40 rfl ?_
      refine m_goto 45 dX12_element_41 (by decide) ?_
      refine pf_X12_58 dX12_element_45 (fun T3 hT3 => ?_)
      refine m_aload_n 0 rfl rfl dX12_element_48 ?_
      refine gf_X12_58 dX12_element_49 ?_
      refine m_topi (up3_e hT3) ?_
      refine m_if_ne 70 dX12_element_52 (by decide) (fun _ => ?_) (fun c4_ => absurd c4_ (by decide))
      refine m_lconst 0 dX12_element_70 rfl ?_
      refine m_topl (show (0 : Int64) = (0 : Int32).toInt64 by decide) ?_
      exact m_lret dX12_element_71 (Nat.le_refl _) (Nat.le_refl _) (⟨by have he_ := (show elT h_ (nI (dq)) i8 = 2 from by unfold elT; rw [if_pos hDdq, hcldq, if_neg (fun q_ => by first | exact hr1 q_.1 | (rw [q_.2] at hpl; exact absurd hpl (by decide)))]); unfold elV; rw [he_, if_neg (by decide)]; rfl, _, rfl, (up3_e hT3).trans (show elT h_ (nI (dq)) i8 = 2 from by unfold elT; rw [if_pos hDdq, hcldq, if_neg (fun q_ => by first | exact hr1 q_.1 | (rw [q_.2] at hpl; exact absurd hpl (by decide)))]).symm⟩)
    ·
      have hm2 := hmsdq.2.2.1 c2_
      have hn100 := hm2.2.2.2.1
      have hr1 : rowRef h_ dq = 0 := by unfold rowRef; rw [if_neg (by omega), if_pos c2_]
      refine m_iload_n 2 rfl rfl dX12_element_22 ?_
      refine m_i2l dX12_element_23 ?_
      refine m_lconst 0 dX12_element_24 rfl ?_
      refine m_topl (show (0 : Int64) = (0 : Int32).toInt64 by decide) ?_
      refine m_aload_n 0 rfl rfl dX12_element_25 ?_
      refine gf_X12_25 dX12_element_26 ?_
      refine m_iload_n 1 rfl rfl dX12_element_29 ?_
      refine al_45 dq rfl (by omega) dX12_element_30 ?_
      refine m_topi hm2.2.2.1 ?_
      refine m_iconst 1 dX12_element_31 rfl ?_
      refine m_isub dX12_element_32 ?_
      refine m_i2l dX12_element_33 ?_
      refine m_callSi cs_X12_62 [.long (i8.toInt64), .long ((0 : Int32).toInt64), .long (((nI (hN h_ dq)) - 1).toInt64)] [.ref (gK G 4 0)] (k_m_isIn l G i8 0 ((nI (hN h_ dq)) - 1)) rfl rfl ⟨Nat.le_of_ble_eq_true rfl, Nat.le_of_ble_eq_true rfl⟩ (Nat.le_of_ble_eq_true rfl) ⟨Nat.zero_le _, Nat.zero_le _⟩ dX12_element_34 (fun xx σ2 hq => ?_)
      obtain ⟨rfl, rfl⟩ := hq
      refine m_ifne_b 44 dX12_element_37 (by decide) (fun c5_ => ?_) (fun c5_ => ?_)
      ·
        have hpl := (inB_P (h := h_) (d := dq) (x := i8) hn100).symm.trans c5_
        obtain ⟨kq, hkk, rfl⟩ := natOf2 (n := hN h_ dq) (of_decide_eq_true hpl).1 (of_decide_eq_true hpl).2 (by omega)
        have hclkq : (nI kq).toNatClampNeg = kq := nI_clamp (by omega)
        refine m_iconst 0 dX12_element_44 rfl ?_
        refine pf_X12_58 dX12_element_45 (fun T6 hT6 => ?_)
        refine m_aload_n 0 rfl rfl dX12_element_48 ?_
        refine gf_X12_58 dX12_element_49 ?_
        refine m_topi (up3_e hT6) ?_
        refine m_if_ne 70 dX12_element_52 (by decide) (fun c7_ => absurd c7_ (by decide)) (fun _ => ?_)
        refine m_aload_n 0 rfl rfl dX12_element_55 ?_
        refine gf_X12_28 dX12_element_56 ?_
        refine m_bipush (100) dX12_element_59 rfl ?_
        refine m_iload_n 1 rfl rfl dX12_element_61 ?_
        refine m_imul dX12_element_62 ?_
        refine m_topi (show 100 * (nI (dq)) = nI (100 * dq) from pk_mul _ _) ?_
        refine m_iload_n 2 rfl rfl dX12_element_63 ?_
        refine m_iadd dX12_element_64 ?_
        refine m_topi (show (nI (100 * dq)) + (nI (kq)) = nI ((100 * dq) + kq) from nI_add _ _) ?_
        refine al_46 ((100 * dq) + kq) rfl (by omega) dX12_element_65 ?_
        refine m_topi (hm2.2.2.2.2 kq (by omega)) ?_
        refine m_i2l dX12_element_66 ?_
        refine m_goto 71 dX12_element_67 (by decide) ?_
        exact m_lret dX12_element_71 (Nat.le_refl _) (Nat.le_refl _) (⟨by have he_ := (show elT h_ (nI (dq)) (nI (kq)) = 0 from by unfold elT; rw [if_pos hDdq, hcldq, if_pos ⟨hr1, hpl⟩]); unfold elV; rw [he_, if_pos rfl, hcldq, hclkq], _, rfl, (up3_e hT6).trans (show elT h_ (nI (dq)) (nI (kq)) = 0 from by unfold elT; rw [if_pos hDdq, hcldq, if_pos ⟨hr1, hpl⟩]).symm⟩)
      ·
        have hpl := (inB_P (h := h_) (d := dq) (x := i8) hn100).symm.trans c5_
        refine m_iconst 2 dX12_element_40 rfl ?_
        refine m_goto 45 dX12_element_41 (by decide) ?_
        refine pf_X12_58 dX12_element_45 (fun T8 hT8 => ?_)
        refine m_aload_n 0 rfl rfl dX12_element_48 ?_
        refine gf_X12_58 dX12_element_49 ?_
        refine m_topi (up3_e hT8) ?_
        refine m_if_ne 70 dX12_element_52 (by decide) (fun _ => ?_) (fun c9_ => absurd c9_ (by decide))
        refine m_lconst 0 dX12_element_70 rfl ?_
        refine m_topl (show (0 : Int64) = (0 : Int32).toInt64 by decide) ?_
        exact m_lret dX12_element_71 (Nat.le_refl _) (Nat.le_refl _) (⟨by have he_ := (show elT h_ (nI (dq)) i8 = 2 from by unfold elT; rw [if_pos hDdq, hcldq, if_neg (fun q_ => by first | exact hr1 q_.1 | (rw [q_.2] at hpl; exact absurd hpl (by decide)))]); unfold elV; rw [he_, if_neg (by decide)]; rfl, _, rfl, (up3_e hT8).trans (show elT h_ (nI (dq)) i8 = 2 from by unfold elT; rw [if_pos hDdq, hcldq, if_neg (fun q_ => by first | exact hr1 q_.1 | (rw [q_.2] at hpl; exact absurd hpl (by decide)))]).symm⟩)
  ·
    refine m_iconst 1 dX12_element_8 rfl ?_
    refine m_goto 45 dX12_element_9 (by decide) ?_
    refine pf_X12_58 dX12_element_45 (fun T10 hT10 => ?_)
    refine m_aload_n 0 rfl rfl dX12_element_48 ?_
    refine gf_X12_58 dX12_element_49 ?_
    refine m_topi (up3_e hT10) ?_
    refine m_if_ne 70 dX12_element_52 (by decide) (fun _ => ?_) (fun c11_ => absurd c11_ (by decide))
    refine m_lconst 0 dX12_element_70 rfl ?_
    refine m_topl (show (0 : Int64) = (0 : Int32).toInt64 by decide) ?_
    exact m_lret dX12_element_71 (Nat.le_refl _) (Nat.le_refl _) (⟨by have he_ := (show elT h_ x_ i8 = 1 from by unfold elT; rw [if_neg (by rw [c1_]; decide)]); unfold elV; rw [he_, if_neg (by decide)]; rfl, _, rfl, (up3_e hT10).trans (show elT h_ x_ i8 = 1 from by unfold elT; rw [if_neg (by rw [c1_]; decide)]).symm⟩)
