/-! lemmas on bits and counts, for the model's answers -/
theorem nI_andN (a b : Nat) : nI a &&& nI b = nI (a &&& b) := by
  apply Int32.toBitVec_inj.mp
  show (BitVec.ofNat 32 a &&& BitVec.ofNat 32 b) = BitVec.ofNat 32 (a &&& b)
  rw [BitVec.ofNat_and]
theorem among_tb {m k : Nat} (hm : m < 2 ^ 31) (hk : k ≤ 12) : amongB (nI m) (nI k) = m.testBit k := by
  rw [among_nat hm hk, Nat.testBit_eq_decide_div_mod_eq]
theorem orN_tb (p : Nat → Bool) (k n : Nat) : (orN p n).testBit k = (decide (k < n) && p k) := by
  rw [Nat.testBit_eq_decide_div_mod_eq, Bool.eq_iff_iff, decide_eq_true_iff, orN_bit, Bool.and_eq_true, decide_eq_true_iff]
theorem orN_lt31 (p : Nat → Bool) {n : Nat} (h : n ≤ 12) : orN p n < 2 ^ 31 := Nat.lt_of_lt_of_le (orN_lt p n) (Nat.pow_le_pow_right (by decide) (by omega))
theorem among_and2 {p q : Nat → Bool} {n k : Nat} (hn : n ≤ 12) (hk : k ≤ 12) : amongB (orI p n &&& orI q n) (nI k) = ((decide (k < n) && p k) && (decide (k < n) && q k)) := by
  have h1 := orN_lt31 p hn
  rw [orI_nat p n hn, orI_nat q n hn, nI_andN, among_tb (Nat.lt_of_le_of_lt Nat.and_le_left h1) hk, Nat.testBit_and, orN_tb, orN_tb]
theorem am_ne {w i : Int32} (h : ¬ w >>> (i &&& 31) &&& 1 = 0) : amongB w i = true := by
  obtain ⟨j, hj, e⟩ := pk_andE (w >>> (i &&& 31)) (m := 1) 1 (by decide)
  unfold amongB
  rw [e] at h ⊢
  rcases (show j = 0 ∨ j = 1 by omega) with q | q
  · subst q; exact absurd rfl h
  · subst q; rfl
theorem am_eq {w i : Int32} (h : w >>> (i &&& 31) &&& 1 = 0) : amongB w i = false := by
  unfold amongB
  rw [h]; rfl
theorem gcd_step (x y : Nat) : Nat.gcd y (x % y) = Nat.gcd x y := by rw [Nat.gcd_comm y, ← Nat.gcd_rec, Nat.gcd_comm]
/-- the parts told by the ways ahead, as bits -/
theorem parN_bit {a : owK} {x y m k : Nat} (ho : aOk a) (hk : k < aN a) (hm : m < 2 ^ aN a) : (whoA a x y (nI (ansA a k x y)) &&& (nI (2 ^ k - 1) &&& nI m) = 0) ↔ allB (fun v => !(amongB (nI m) (nI v) && decide (nI (ansA a v x y) = nI (ansA a k x y)))) k = true := by
  have h10 := ho.1
  have hp : 2 ^ aN a ≤ 2 ^ 10 := Nat.pow_le_pow_right (by decide) h10
  have hl := orN_lt31 (fun w => decide (nI (ansA a w x y) = nI (ansA a k x y))) (n := aN a) (by omega)
  unfold whoA
  rw [orI_nat _ _ (by omega), nI_andN, nI_andN, show (0 : Int32) = nI 0 from rfl, nI_eq (Nat.lt_of_le_of_lt Nat.and_le_left hl) (by decide), allB_iff]
  constructor
  · intro h v hv
    have h2 := congrArg (fun z => Nat.testBit z v) h
    simp only [Nat.testBit_and, orN_tb, Nat.testBit_two_pow_sub_one, Nat.zero_testBit] at h2
    rw [among_tb (by omega) (by omega)]
    rw [decide_eq_true (show v < aN a by omega), decide_eq_true hv, Bool.true_and, Bool.true_and] at h2
    rw [Bool.and_comm, h2]; rfl
  · intro h
    apply Nat.eq_of_testBit_eq
    intro v
    simp only [Nat.testBit_and, orN_tb, Nat.testBit_two_pow_sub_one, Nat.zero_testBit]
    by_cases hv : v < k
    · have h2 := h v hv
      rw [among_tb (by omega) (by omega)] at h2
      rw [decide_eq_true (show v < aN a by omega), decide_eq_true hv, Bool.true_and, Bool.true_and, Bool.and_comm]
      cases h3 : (m.testBit v && decide (nI (ansA a v x y) = nI (ansA a k x y))) with
      | false => rfl
      | true => rw [h3] at h2; exact absurd h2 (by decide)
    · rw [decide_eq_false hv, Bool.false_and, Bool.and_false]
def lesF (sl : Nat → Nat) : Option Nat → Int32
  | none => 0
  | some b => nI (sl b)
theorem m1_shl {k : Nat} (hk : k ≤ 12) : ((1 : Int32) <<< (nI k &&& 31)) - 1 = nI (2 ^ k - 1) := by
  rw [shl1 hk]
  exact pk_sub (b := 1) Nat.one_le_two_pow
set_option maxRecDepth 100000 in
set_option maxHeartbeats 4000000 in
theorem k_m_whoseOf (l : Launch) (G : owG) {A S Z B T V : owF} {J : Nat → Nat → Int64} {Y : Nat → Nat → Nat → Option Nat} {P : Nat → Option owW} (a_ : owK) (ho_ : aOk a_) (im : Option owK) (h_ : owH) (hM : MR B a_ im h_) (x_ y_ : Nat) (hx_ : x_ ≤ 9999) (hy_ : y_ ≤ x_) (v_ : Int32) : Ct l G yX12_whoseOf cX12_whoseOf 6 ((some .int)) 4 0 0 [.ref (gK G 4 0), .int (nI (x_)), .int (nI (y_)), .int v_] (A, S, Z, B, T, V, J, Y, P) (qI (fun r_ σ => r_ = whoA a_ x_ y_ v_ ∧ ∃ V2 : owF, σ = (A, S, Z, B, T, V2, J, Y, P))) := by
  refine ct_of (by decide +kernel) (Nat.le_of_ble_eq_true rfl) ?_
  have h10 := ho_.1
  have h8_ := ho_.2.1
  have hX := hM.1
  show Wm l G cX12_whoseOf 6 RX12 ((some .int)) (rmk 4 0 0) (fun _ => True) (QfM G (qI (fun r_ σ => r_ = whoA a_ x_ y_ v_ ∧ ∃ V2 : owF, σ = (A, S, Z, B, T, V2, J, Y, P))) 0 0) 0 [(0, .ref (gK G 4 0)), (1, .int (nI (x_))), (2, .int (nI (y_))), (3, .int v_)] [] (A, S, Z, B, T, V, J, Y, P) 0 0
  refine m_iconst 0 dX12_whoseOf_0 rfl ?_
  refine m_istore [(4, .int 0), (0, .ref (gK G 4 0)), (1, .int (nI (x_))), (2, .int (nI (y_))), (3, .int v_)] (by decide) rfl dX12_whoseOf_1 ?_
  refine m_iconst 0 dX12_whoseOf_3 rfl ?_
  refine m_istore [(5, .int 0), (4, .int 0), (0, .ref (gK G 4 0)), (1, .int (nI (x_))), (2, .int (nI (y_))), (3, .int v_)] (by decide) rfl dX12_whoseOf_4 ?_
  have lp6 : ∀ (dd : Nat) (k_ : Nat) (V9 : owF), k_ ≤ aN a_ → aN a_ - k_ < dd → Wm l G cX12_whoseOf 6 RX12 ((some .int)) (rmk 4 0 0) (fun _ => True) (QfM G (qI (fun r_ σ => r_ = whoA a_ x_ y_ v_ ∧ ∃ V2 : owF, σ = (A, S, Z, B, T, V2, J, Y, P))) 0 0) 6 [(0, .ref (gK G 4 0)), (1, .int (nI (x_))), (2, .int (nI (y_))), (3, .int v_), (4, .int (orI (fun w_ => decide (nI (ansA a_ w_ x_ y_) = v_)) k_)), (5, .int (nI (k_)))] [] (A, S, Z, B, T, V9, J, Y, P) 0 0 := by
    intro dd
    induction dd with
    | zero => intro k_ V9 hk_ hdd; exact absurd hdd (Nat.not_lt_zero _)
    | succ dd ih6 =>
      intro k_ V9 hk_ hdd6
      refine m_iload 5 rfl dX12_whoseOf_6 ?_
      refine m_aload_n 0 rfl rfl dX12_whoseOf_8 ?_
      refine gf_X12_9 dX12_whoseOf_9 ?_
      refine m_iconst 0 dX12_whoseOf_12 rfl ?_
      refine al_40 0 rfl (by omega) dX12_whoseOf_13 ?_
      refine m_topi hX.1 ?_
      refine m_icmpn_ge k_ (aN a_) 48 (by omega) (by omega) dX12_whoseOf_14 (by decide) (fun c1_ => ?_) (fun c1_ => ?_)
      ·
        refine m_iload 4 rfl dX12_whoseOf_48 ?_
        exact m_iret dX12_whoseOf_50 (Nat.le_refl _) (Nat.le_refl _) ((by obtain rfl : k_ = aN a_ := (by omega); exact ⟨rfl, _, rfl⟩))
      ·
        refine m_iload 4 rfl dX12_whoseOf_17 ?_
        refine m_aload_n 0 rfl rfl dX12_whoseOf_19 ?_
        refine m_iload 5 rfl dX12_whoseOf_20 ?_
        refine m_iload_n 1 rfl rfl dX12_whoseOf_22 ?_
        refine m_iload_n 2 rfl rfl dX12_whoseOf_23 ?_
        refine m_callVi cv_X12_157 [.int (nI (k_)), .int (nI (x_)), .int (nI (y_))] [.int (orI (fun w_ => decide (nI (ansA a_ w_ x_ y_) = v_)) k_)] (k_m_answerOf l G a_ ho_ im h_ hM k_ (by omega) x_ y_ (by omega) (by omega)) (by decide) (ce_4 G _ _ _ _ _ _ _ _ _ _) rfl rfl rfl ⟨Nat.le_of_ble_eq_true rfl, Nat.le_of_ble_eq_true rfl⟩ (Nat.le_of_ble_eq_true rfl) ⟨Nat.zero_le _, Nat.zero_le _⟩ dX12_whoseOf_24 (fun xx σ2 hq => ?_)
        obtain ⟨rfl, V2, rfl, hwV2⟩ := hq
        refine m_iload_n 3 rfl rfl dX12_whoseOf_27 ?_
        refine m_icmp_ne 38 dX12_whoseOf_28 (by decide) (fun c3_ => ?_) (fun c3_ => ?_)
        ·
          have hq := c3_
          refine m_iconst 0 dX12_whoseOf_38 rfl ?_
          refine m_ior dX12_whoseOf_39 ?_
          refine m_topi ((show (orI (fun w_ => decide (nI (ansA a_ w_ x_ y_) = v_)) k_) ||| 0 = orI (fun w_ => decide (nI (ansA a_ w_ x_ y_) = v_)) (k_ + 1) from Int32.or_zero.trans (orI_f (p := (fun w_ => decide (nI (ansA a_ w_ x_ y_) = v_))) (decide_eq_false hq)))) ?_
          refine m_istore [(4, .int (orI (fun w_ => decide (nI (ansA a_ w_ x_ y_) = v_)) (k_ + 1))), (0, .ref (gK G 4 0)), (1, .int (nI (x_))), (2, .int (nI (y_))), (3, .int v_), (5, .int (nI (k_)))] (by decide) rfl dX12_whoseOf_40 ?_
          refine m_iinc (nI (k_ + 1)) 5 [(5, .int (nI (k_ + 1))), (4, .int (orI (fun w_ => decide (nI (ansA a_ w_ x_ y_) = v_)) (k_ + 1))), (0, .ref (gK G 4 0)), (1, .int (nI (x_))), (2, .int (nI (y_))), (3, .int v_)] rfl (nI_1 _) (by decide) rfl dX12_whoseOf_42 ?_
          refine m_goto 6 dX12_whoseOf_45 (by decide) ?_
          refine m_lv [(0, .ref (gK G 4 0)), (1, .int (nI (x_))), (2, .int (nI (y_))), (3, .int v_), (4, .int (orI (fun w_ => decide (nI (ansA a_ w_ x_ y_) = v_)) (k_ + 1))), (5, .int (nI (k_ + 1)))] [2, 3, 4, 5, 1, 0] rfl ?_
          exact ih6 (k_ + 1) V2 (by omega) (by omega)
        ·
          have hq := c3_
          refine m_iconst 1 dX12_whoseOf_31 rfl ?_
          refine m_iload 5 rfl dX12_whoseOf_32 ?_
          refine m_ishl dX12_whoseOf_34 ?_
          refine m_goto 39 dX12_whoseOf_35 (by decide) ?_
          refine m_ior dX12_whoseOf_39 ?_
          refine m_topi ((show (orI (fun w_ => decide (nI (ansA a_ w_ x_ y_) = v_)) k_) ||| (1 <<< ((nI (k_)) &&& 31)) = orI (fun w_ => decide (nI (ansA a_ w_ x_ y_) = v_)) (k_ + 1) from orI_t (p := (fun w_ => decide (nI (ansA a_ w_ x_ y_) = v_))) (decide_eq_true hq))) ?_
          refine m_istore [(4, .int (orI (fun w_ => decide (nI (ansA a_ w_ x_ y_) = v_)) (k_ + 1))), (0, .ref (gK G 4 0)), (1, .int (nI (x_))), (2, .int (nI (y_))), (3, .int v_), (5, .int (nI (k_)))] (by decide) rfl dX12_whoseOf_40 ?_
          refine m_iinc (nI (k_ + 1)) 5 [(5, .int (nI (k_ + 1))), (4, .int (orI (fun w_ => decide (nI (ansA a_ w_ x_ y_) = v_)) (k_ + 1))), (0, .ref (gK G 4 0)), (1, .int (nI (x_))), (2, .int (nI (y_))), (3, .int v_)] rfl (nI_1 _) (by decide) rfl dX12_whoseOf_42 ?_
          refine m_goto 6 dX12_whoseOf_45 (by decide) ?_
          refine m_lv [(0, .ref (gK G 4 0)), (1, .int (nI (x_))), (2, .int (nI (y_))), (3, .int v_), (4, .int (orI (fun w_ => decide (nI (ansA a_ w_ x_ y_) = v_)) (k_ + 1))), (5, .int (nI (k_ + 1)))] [2, 3, 4, 5, 1, 0] rfl ?_
          exact ih6 (k_ + 1) V2 (by omega) (by omega)
  refine m_lv [(0, .ref (gK G 4 0)), (1, .int (nI (x_))), (2, .int (nI (y_))), (3, .int v_), (4, .int 0), (5, .int 0)] [2, 3, 4, 5, 1, 0] rfl ?_
  exact lp6 ((aN a_ - 0) + 1) 0 V (Nat.zero_le _) (Nat.lt_succ_self _)
set_option maxRecDepth 100000 in
set_option maxHeartbeats 4000000 in
theorem k_m_partsOf (l : Launch) (G : owG) {A S Z B T V : owF} {J : Nat → Nat → Int64} {Y : Nat → Nat → Nat → Option Nat} {P : Nat → Option owW} (a_ : owK) (ho_ : aOk a_) (im : Option owK) (h_ : owH) (hM : MR B a_ im h_) (x_ y_ : Nat) (hx_ : x_ ≤ 9999) (hy_ : y_ ≤ x_) (m_ : Nat) (hm_ : m_ < 2 ^ aN a_) : Ct l G yX12_partsOf cX12_partsOf 7 ((some .int)) 5 0 0 [.ref (gK G 4 0), .int (nI (x_)), .int (nI (y_)), .int ((nI m_))] (A, S, Z, B, T, V, J, Y, P) (qI (fun r_ σ => r_ = nI (parN a_ x_ y_ (nI m_)) ∧ ∃ V2 : owF, σ = (A, S, Z, B, T, V2, J, Y, P))) := by
  refine ct_of (by decide +kernel) (Nat.le_of_ble_eq_true rfl) ?_
  have h10 := ho_.1
  have h8_ := ho_.2.1
  have hX := hM.1
  show Wm l G cX12_partsOf 7 RX12 ((some .int)) (rmk 5 0 0) (fun _ => True) (QfM G (qI (fun r_ σ => r_ = nI (parN a_ x_ y_ (nI m_)) ∧ ∃ V2 : owF, σ = (A, S, Z, B, T, V2, J, Y, P))) 0 0) 0 [(0, .ref (gK G 4 0)), (1, .int (nI (x_))), (2, .int (nI (y_))), (3, .int ((nI m_)))] [] (A, S, Z, B, T, V, J, Y, P) 0 0
  refine m_iconst 0 dX12_partsOf_0 rfl ?_
  refine m_istore [(4, .int 0), (0, .ref (gK G 4 0)), (1, .int (nI (x_))), (2, .int (nI (y_))), (3, .int ((nI m_)))] (by decide) rfl dX12_partsOf_1 ?_
  refine m_iconst 0 dX12_partsOf_3 rfl ?_
  refine m_istore [(5, .int 0), (4, .int 0), (0, .ref (gK G 4 0)), (1, .int (nI (x_))), (2, .int (nI (y_))), (3, .int ((nI m_)))] (by decide) rfl dX12_partsOf_4 ?_
  have lp6 : ∀ (dd : Nat) (k_ : Nat) (V9 : owF), k_ ≤ aN a_ → aN a_ - k_ < dd → Wm l G cX12_partsOf 7 RX12 ((some .int)) (rmk 5 0 0) (fun _ => True) (QfM G (qI (fun r_ σ => r_ = nI (parN a_ x_ y_ (nI m_)) ∧ ∃ V2 : owF, σ = (A, S, Z, B, T, V2, J, Y, P))) 0 0) 6 [(0, .ref (gK G 4 0)), (1, .int (nI (x_))), (2, .int (nI (y_))), (3, .int ((nI m_))), (4, .int (nI (cntB (fun w_ => amongB (nI m_) (nI w_) && allB (fun v_ => !(amongB (nI m_) (nI v_) && decide (nI (ansA a_ v_ x_ y_) = nI (ansA a_ w_ x_ y_)))) w_) k_))), (5, .int (nI (k_)))] [] (A, S, Z, B, T, V9, J, Y, P) 0 0 := by
    intro dd
    induction dd with
    | zero => intro k_ V9 hk_ hdd; exact absurd hdd (Nat.not_lt_zero _)
    | succ dd ih6 =>
      intro k_ V9 hk_ hdd6
      have hcc := cntB_le (fun w_ => amongB (nI m_) (nI w_) && allB (fun v_ => !(amongB (nI m_) (nI v_) && decide (nI (ansA a_ v_ x_ y_) = nI (ansA a_ w_ x_ y_)))) w_) k_
      refine m_iload 5 rfl dX12_partsOf_6 ?_
      refine m_aload_n 0 rfl rfl dX12_partsOf_8 ?_
      refine gf_X12_9 dX12_partsOf_9 ?_
      refine m_iconst 0 dX12_partsOf_12 rfl ?_
      refine al_40 0 rfl (by omega) dX12_partsOf_13 ?_
      refine m_topi hX.1 ?_
      refine m_icmpn_ge k_ (aN a_) 75 (by omega) (by omega) dX12_partsOf_14 (by decide) (fun c1_ => ?_) (fun c1_ => ?_)
      ·
        refine m_iload 4 rfl dX12_partsOf_75 ?_
        exact m_iret dX12_partsOf_77 (Nat.le_refl _) (Nat.le_refl _) ((by obtain rfl : k_ = aN a_ := (by omega); exact ⟨rfl, _, rfl⟩))
      ·
        refine m_iload_n 3 rfl rfl dX12_partsOf_17 ?_
        refine m_iload 5 rfl dX12_partsOf_18 ?_
        refine m_ishr dX12_partsOf_20 ?_
        refine m_iconst 1 dX12_partsOf_21 rfl ?_
        refine m_iand dX12_partsOf_22 ?_
        refine m_if_ne 29 dX12_partsOf_23 (by decide) (fun c2_ => ?_) (fun c2_ => ?_)
        ·
          have hin := am_ne c2_
          refine m_iconst 1 dX12_partsOf_29 rfl ?_
          refine m_iload 5 rfl dX12_partsOf_30 ?_
          refine m_ishl dX12_partsOf_32 ?_
          refine m_iconst 1 dX12_partsOf_33 rfl ?_
          refine m_isub dX12_partsOf_34 ?_
          refine m_iload_n 3 rfl rfl dX12_partsOf_35 ?_
          refine m_iand dX12_partsOf_36 ?_
          refine m_istore [(6, .int (((1 <<< ((nI (k_)) &&& 31)) - 1) &&& (nI m_))), (0, .ref (gK G 4 0)), (1, .int (nI (x_))), (2, .int (nI (y_))), (3, .int ((nI m_))), (4, .int (nI (cntB (fun w_ => amongB (nI m_) (nI w_) && allB (fun v_ => !(amongB (nI m_) (nI v_) && decide (nI (ansA a_ v_ x_ y_) = nI (ansA a_ w_ x_ y_)))) w_) k_))), (5, .int (nI (k_)))] (by decide) rfl dX12_partsOf_37 ?_
          refine m_iload 5 rfl dX12_partsOf_39 ?_
          refine m_aload_n 1 rfl rfl dX12_partsOf_41 ?_
          refine m_iload_n 2 rfl rfl dX12_partsOf_42 ?_
          refine m_iload_n 3 rfl rfl dX12_partsOf_43 ?_
          refine m_aload_n 1 rfl rfl dX12_partsOf_44 ?_
          refine m_iload 6 rfl dX12_partsOf_45 ?_
          refine m_iload_n 2 rfl rfl dX12_partsOf_47 ?_
          refine m_iload_n 3 rfl rfl dX12_partsOf_48 ?_
          refine m_callVi cv_X12_157 [.int (nI (k_)), .int (nI (x_)), .int (nI (y_))] [.int (nI (y_)), .int (nI (x_)), .ref (gK G 4 0), .int (nI (cntB (fun w_ => amongB (nI m_) (nI w_) && allB (fun v_ => !(amongB (nI m_) (nI v_) && decide (nI (ansA a_ v_ x_ y_) = nI (ansA a_ w_ x_ y_)))) w_) k_))] (k_m_answerOf l G a_ ho_ im h_ hM k_ (by omega) x_ y_ (by omega) (by omega)) (by decide) (ce_4 G _ _ _ _ _ _ _ _ _ _) rfl rfl rfl ⟨Nat.le_of_ble_eq_true rfl, Nat.le_of_ble_eq_true rfl⟩ (Nat.le_of_ble_eq_true rfl) ⟨Nat.zero_le _, Nat.zero_le _⟩ dX12_partsOf_49 (fun xx σ2 hq => ?_)
          obtain ⟨rfl, V3, rfl, hwV3⟩ := hq
          refine m_callVi cv_X12_162 [.int (nI (x_)), .int (nI (y_)), .int (nI (ansA a_ k_ x_ y_))] [.int (nI (cntB (fun w_ => amongB (nI m_) (nI w_) && allB (fun v_ => !(amongB (nI m_) (nI v_) && decide (nI (ansA a_ v_ x_ y_) = nI (ansA a_ w_ x_ y_)))) w_) k_))] (k_m_whoseOf l G a_ ho_ im h_ hM x_ y_ (by omega) (by omega) (nI (ansA a_ k_ x_ y_))) (by decide) (ce_4 G _ _ _ _ _ _ _ _ _ _) rfl rfl rfl ⟨Nat.le_of_ble_eq_true rfl, Nat.le_of_ble_eq_true rfl⟩ (Nat.le_of_ble_eq_true rfl) ⟨Nat.zero_le _, Nat.zero_le _⟩ dX12_partsOf_52 (fun xx σ2 hq => ?_)
          obtain ⟨rfl, V4, rfl⟩ := hq
          refine m_iload 0 rfl dX12_partsOf_55 ?_
          refine m_iand dX12_partsOf_57 ?_
          refine m_if_ne 65 dX12_partsOf_58 (by decide) (fun c5_ => ?_) (fun c5_ => ?_)
          ·
            have hpb := mt (parN_bit ho_ (by omega) hm_).mpr (by rw [← m1_shl (k := k_) (by omega)]; exact c5_)
            refine m_iconst 0 dX12_partsOf_65 rfl ?_
            refine m_iadd dX12_partsOf_66 ?_
            refine m_topi (show (nI (cntB (fun w_ => amongB (nI m_) (nI w_) && allB (fun v_ => !(amongB (nI m_) (nI v_) && decide (nI (ansA a_ v_ x_ y_) = nI (ansA a_ w_ x_ y_)))) w_) k_)) + 0 = nI ((cntB (fun w_ => amongB (nI m_) (nI w_) && allB (fun v_ => !(amongB (nI m_) (nI v_) && decide (nI (ansA a_ v_ x_ y_) = nI (ansA a_ w_ x_ y_)))) w_) k_) + 0) from nI_add _ _) ?_
            refine m_istore [(4, .int (nI ((cntB (fun w_ => amongB (nI m_) (nI w_) && allB (fun v_ => !(amongB (nI m_) (nI v_) && decide (nI (ansA a_ v_ x_ y_) = nI (ansA a_ w_ x_ y_)))) w_) k_) + 0))), (6, .int (((1 <<< ((nI (k_)) &&& 31)) - 1) &&& (nI m_))), (0, .ref (gK G 4 0)), (1, .int (nI (x_))), (2, .int (nI (y_))), (3, .int ((nI m_))), (5, .int (nI (k_)))] (by decide) rfl dX12_partsOf_67 ?_
            refine m_iinc (nI (k_ + 1)) 6 [(5, .int (nI (k_ + 1))), (4, .int (nI ((cntB (fun w_ => amongB (nI m_) (nI w_) && allB (fun v_ => !(amongB (nI m_) (nI v_) && decide (nI (ansA a_ v_ x_ y_) = nI (ansA a_ w_ x_ y_)))) w_) k_) + 0))), (6, .int (((1 <<< ((nI (k_)) &&& 31)) - 1) &&& (nI m_))), (0, .ref (gK G 4 0)), (1, .int (nI (x_))), (2, .int (nI (y_))), (3, .int ((nI m_)))] rfl (nI_1 _) (by decide) rfl dX12_partsOf_69 ?_
            refine m_goto 6 dX12_partsOf_72 (by decide) ?_
            refine m_lv [(0, .ref (gK G 4 0)), (1, .int (nI (x_))), (2, .int (nI (y_))), (3, .int ((nI m_))), (4, .int (nI ((cntB (fun w_ => amongB (nI m_) (nI w_) && allB (fun v_ => !(amongB (nI m_) (nI v_) && decide (nI (ansA a_ v_ x_ y_) = nI (ansA a_ w_ x_ y_)))) w_) k_) + 0))), (5, .int (nI (k_ + 1)))] [3, 4, 5, 6, 1, 0] rfl ?_
            rw [show cntB (fun w_ => amongB (nI m_) (nI w_) && allB (fun v_ => !(amongB (nI m_) (nI v_) && decide (nI (ansA a_ v_ x_ y_) = nI (ansA a_ w_ x_ y_)))) w_) k_ = cntB (fun w_ => amongB (nI m_) (nI w_) && allB (fun v_ => !(amongB (nI m_) (nI v_) && decide (nI (ansA a_ v_ x_ y_) = nI (ansA a_ w_ x_ y_)))) w_) (k_ + 1) from cntB_f (p := (fun w_ => amongB (nI m_) (nI w_) && allB (fun v_ => !(amongB (nI m_) (nI v_) && decide (nI (ansA a_ v_ x_ y_) = nI (ansA a_ w_ x_ y_)))) w_)) (by show (_ && _) = false; rw [hin, Bool.true_and]; exact Bool.eq_false_iff.mpr hpb)]
            exact ih6 (k_ + 1) V4 (by omega) (by omega)
          ·
            have hpb := (parN_bit ho_ (by omega) hm_).mp (by rw [← m1_shl (k := k_) (by omega)]; exact c5_)
            refine m_iconst 1 dX12_partsOf_61 rfl ?_
            refine m_goto 66 dX12_partsOf_62 (by decide) ?_
            refine m_iadd dX12_partsOf_66 ?_
            refine m_topi (show (nI (cntB (fun w_ => amongB (nI m_) (nI w_) && allB (fun v_ => !(amongB (nI m_) (nI v_) && decide (nI (ansA a_ v_ x_ y_) = nI (ansA a_ w_ x_ y_)))) w_) k_)) + 1 = nI ((cntB (fun w_ => amongB (nI m_) (nI w_) && allB (fun v_ => !(amongB (nI m_) (nI v_) && decide (nI (ansA a_ v_ x_ y_) = nI (ansA a_ w_ x_ y_)))) w_) k_) + 1) from nI_add _ _) ?_
            refine m_istore [(4, .int (nI ((cntB (fun w_ => amongB (nI m_) (nI w_) && allB (fun v_ => !(amongB (nI m_) (nI v_) && decide (nI (ansA a_ v_ x_ y_) = nI (ansA a_ w_ x_ y_)))) w_) k_) + 1))), (6, .int (((1 <<< ((nI (k_)) &&& 31)) - 1) &&& (nI m_))), (0, .ref (gK G 4 0)), (1, .int (nI (x_))), (2, .int (nI (y_))), (3, .int ((nI m_))), (5, .int (nI (k_)))] (by decide) rfl dX12_partsOf_67 ?_
            refine m_iinc (nI (k_ + 1)) 6 [(5, .int (nI (k_ + 1))), (4, .int (nI ((cntB (fun w_ => amongB (nI m_) (nI w_) && allB (fun v_ => !(amongB (nI m_) (nI v_) && decide (nI (ansA a_ v_ x_ y_) = nI (ansA a_ w_ x_ y_)))) w_) k_) + 1))), (6, .int (((1 <<< ((nI (k_)) &&& 31)) - 1) &&& (nI m_))), (0, .ref (gK G 4 0)), (1, .int (nI (x_))), (2, .int (nI (y_))), (3, .int ((nI m_)))] rfl (nI_1 _) (by decide) rfl dX12_partsOf_69 ?_
            refine m_goto 6 dX12_partsOf_72 (by decide) ?_
            refine m_lv [(0, .ref (gK G 4 0)), (1, .int (nI (x_))), (2, .int (nI (y_))), (3, .int ((nI m_))), (4, .int (nI ((cntB (fun w_ => amongB (nI m_) (nI w_) && allB (fun v_ => !(amongB (nI m_) (nI v_) && decide (nI (ansA a_ v_ x_ y_) = nI (ansA a_ w_ x_ y_)))) w_) k_) + 1))), (5, .int (nI (k_ + 1)))] [3, 4, 5, 6, 1, 0] rfl ?_
            rw [show cntB (fun w_ => amongB (nI m_) (nI w_) && allB (fun v_ => !(amongB (nI m_) (nI v_) && decide (nI (ansA a_ v_ x_ y_) = nI (ansA a_ w_ x_ y_)))) w_) k_ + 1 = cntB (fun w_ => amongB (nI m_) (nI w_) && allB (fun v_ => !(amongB (nI m_) (nI v_) && decide (nI (ansA a_ v_ x_ y_) = nI (ansA a_ w_ x_ y_)))) w_) (k_ + 1) from cntB_t (p := (fun w_ => amongB (nI m_) (nI w_) && allB (fun v_ => !(amongB (nI m_) (nI v_) && decide (nI (ansA a_ v_ x_ y_) = nI (ansA a_ w_ x_ y_)))) w_)) (by show (_ && _) = true; rw [hin, hpb]; rfl)]
            exact ih6 (k_ + 1) V4 (by omega) (by omega)
        ·
          have hin := am_eq c2_
          refine m_goto 69 dX12_partsOf_26 (by decide) ?_
          refine m_iinc (nI (k_ + 1)) 5 [(5, .int (nI (k_ + 1))), (0, .ref (gK G 4 0)), (1, .int (nI (x_))), (2, .int (nI (y_))), (3, .int ((nI m_))), (4, .int (nI (cntB (fun w_ => amongB (nI m_) (nI w_) && allB (fun v_ => !(amongB (nI m_) (nI v_) && decide (nI (ansA a_ v_ x_ y_) = nI (ansA a_ w_ x_ y_)))) w_) k_)))] rfl (nI_1 _) (by decide) rfl dX12_partsOf_69 ?_
          refine m_goto 6 dX12_partsOf_72 (by decide) ?_
          refine m_lv [(0, .ref (gK G 4 0)), (1, .int (nI (x_))), (2, .int (nI (y_))), (3, .int ((nI m_))), (4, .int (nI (cntB (fun w_ => amongB (nI m_) (nI w_) && allB (fun v_ => !(amongB (nI m_) (nI v_) && decide (nI (ansA a_ v_ x_ y_) = nI (ansA a_ w_ x_ y_)))) w_) k_))), (5, .int (nI (k_ + 1)))] [1, 2, 3, 4, 5, 0] rfl ?_
          rw [show cntB (fun w_ => amongB (nI m_) (nI w_) && allB (fun v_ => !(amongB (nI m_) (nI v_) && decide (nI (ansA a_ v_ x_ y_) = nI (ansA a_ w_ x_ y_)))) w_) k_ = cntB (fun w_ => amongB (nI m_) (nI w_) && allB (fun v_ => !(amongB (nI m_) (nI v_) && decide (nI (ansA a_ v_ x_ y_) = nI (ansA a_ w_ x_ y_)))) w_) (k_ + 1) from cntB_f (p := (fun w_ => amongB (nI m_) (nI w_) && allB (fun v_ => !(amongB (nI m_) (nI v_) && decide (nI (ansA a_ v_ x_ y_) = nI (ansA a_ w_ x_ y_)))) w_)) (by show (_ && _) = false; rw [hin]; rfl)]
          exact ih6 (k_ + 1) V9 (by omega) (by omega)
  refine m_lv [(0, .ref (gK G 4 0)), (1, .int (nI (x_))), (2, .int (nI (y_))), (3, .int ((nI m_))), (4, .int 0), (5, .int 0)] [2, 3, 4, 5, 1, 0] rfl ?_
  exact lp6 ((aN a_ - 0) + 1) 0 V (Nat.zero_le _) (Nat.lt_succ_self _)
set_option maxRecDepth 100000 in
set_option maxHeartbeats 4000000 in
theorem k_m_slipsOf (l : Launch) (G : owG) {A S Z B T V : owF} {J : Nat → Nat → Int64} {Y : Nat → Nat → Nat → Option Nat} {P : Nat → Option owW} (a_ : owK) (ho_ : aOk a_) (im : Option owK) (h_ : owH) (hM : MR B a_ im h_) (w_ : Nat) (hw_ : w_ < aN a_) (d_ : Nat) (hd_ : d_ < 8) (hsr : shRef h_ d_ = 0) (e_ : Nat) (he_ : e_ < 8) (hke : hK h_ e_ = 2) (hne : hN h_ e_ = shN h_ d_)  : Ct l G yX12_slipsOf cX12_slipsOf 7 ((some .int)) 4 0 0 [.ref (gK G 4 0), .int (nI (w_)), .int (nI (d_)), .int (nI (e_))] (A, S, Z, B, T, V, J, Y, P) (qI (fun r_ σ => r_ = nI (slN a_ (shN h_ d_) (shX h_ d_) (shY h_ d_) (hE h_ e_) w_) ∧ ∃ V2 : owF, σ = (A, S, Z, B, T, V2, J, Y, P))) := by
  refine ct_of (by decide +kernel) (Nat.le_of_ble_eq_true rfl) ?_
  have h10 := ho_.1
  have h8_ := ho_.2.1
  have hX := hM.1
  obtain ⟨hk2, hso2, hev, h24, hsm⟩ := shRef_ok hsr
  have hms := hM.2.2.2 d_ hd_
  have hm2 := hms.2.2.1 hk2
  have hs2 := hm2.2.1
  have hn100 := hm2.2.2.2.1
  have hsn : shN h_ d_ = hN h_ d_ / 2 := rfl
  have hn12 : shN h_ d_ ≤ 12 := (by omega)
  have hme := (hM.2.2.2 e_ he_).2.2.1 hke
  show Wm l G cX12_slipsOf 7 RX12 ((some .int)) (rmk 4 0 0) (fun _ => True) (QfM G (qI (fun r_ σ => r_ = nI (slN a_ (shN h_ d_) (shX h_ d_) (shY h_ d_) (hE h_ e_) w_) ∧ ∃ V2 : owF, σ = (A, S, Z, B, T, V2, J, Y, P))) 0 0) 0 [(0, .ref (gK G 4 0)), (1, .int (nI (w_))), (2, .int (nI (d_))), (3, .int (nI (e_)))] [] (A, S, Z, B, T, V, J, Y, P) 0 0
  refine m_iconst 0 dX12_slipsOf_0 rfl ?_
  refine m_istore [(4, .int 0), (0, .ref (gK G 4 0)), (1, .int (nI (w_))), (2, .int (nI (d_))), (3, .int (nI (e_)))] (by decide) rfl dX12_slipsOf_1 ?_
  refine m_iconst 0 dX12_slipsOf_3 rfl ?_
  refine m_istore [(5, .int 0), (4, .int 0), (0, .ref (gK G 4 0)), (1, .int (nI (w_))), (2, .int (nI (d_))), (3, .int (nI (e_)))] (by decide) rfl dX12_slipsOf_4 ?_
  have lp6 : ∀ (dd : Nat) (k_ : Nat) (V9 : owF), k_ ≤ shN h_ d_ → shN h_ d_ - k_ < dd → Wm l G cX12_slipsOf 7 RX12 ((some .int)) (rmk 4 0 0) (fun _ => True) (QfM G (qI (fun r_ σ => r_ = nI (slN a_ (shN h_ d_) (shX h_ d_) (shY h_ d_) (hE h_ e_) w_) ∧ ∃ V2 : owF, σ = (A, S, Z, B, T, V2, J, Y, P))) 0 0) 6 [(0, .ref (gK G 4 0)), (1, .int (nI (w_))), (2, .int (nI (d_))), (3, .int (nI (e_))), (4, .int (nI (cntB (fun s_ => decide (hE h_ e_ s_ ≠ -1 ∧ hE h_ e_ s_ ≠ nI (ansA a_ w_ (shX h_ d_ s_) (shY h_ d_ s_)))) k_))), (5, .int (nI (k_)))] [] (A, S, Z, B, T, V9, J, Y, P) 0 0 := by
    intro dd
    induction dd with
    | zero => intro k_ V9 hk_ hdd; exact absurd hdd (Nat.not_lt_zero _)
    | succ dd ih6 =>
      intro k_ V9 hk_ hdd6
      have hcc := cntB_le (fun s_ => decide (hE h_ e_ s_ ≠ -1 ∧ hE h_ e_ s_ ≠ nI (ansA a_ w_ (shX h_ d_ s_) (shY h_ d_ s_)))) k_
      refine m_iload 5 rfl dX12_slipsOf_6 ?_
      refine m_aload_n 0 rfl rfl dX12_slipsOf_8 ?_
      refine m_iload_n 2 rfl rfl dX12_slipsOf_9 ?_
      refine m_callVi cv_X12_171 [.int (nI (d_))] [.int (nI (k_))] (k_m_sums l G a_ ho_ im h_ hM d_ (by omega) hk2) (by decide) (ce_4 G _ _ _ _ _ _ _ _ _ _) rfl rfl rfl ⟨Nat.le_of_ble_eq_true rfl, Nat.le_of_ble_eq_true rfl⟩ (Nat.le_of_ble_eq_true rfl) ⟨Nat.zero_le _, Nat.zero_le _⟩ dX12_slipsOf_10 (fun xx σ2 hq => ?_)
      obtain ⟨rfl, rfl⟩ := hq
      refine m_icmpn_ge k_ (shN h_ d_) 76 (by omega) (by omega) dX12_slipsOf_13 (by decide) (fun c1_ => ?_) (fun c1_ => ?_)
      ·
        refine m_iload 4 rfl dX12_slipsOf_76 ?_
        exact m_iret dX12_slipsOf_78 (Nat.le_refl _) (Nat.le_refl _) ((by obtain rfl : k_ = shN h_ d_ := (by omega); exact ⟨rfl, _, rfl⟩))
      ·
        refine m_aload_n 0 rfl rfl dX12_slipsOf_16 ?_
        refine gf_X12_28 dX12_slipsOf_17 ?_
        refine m_bipush (100) dX12_slipsOf_20 rfl ?_
        refine m_iload_n 3 rfl rfl dX12_slipsOf_22 ?_
        refine m_imul dX12_slipsOf_23 ?_
        refine m_topi (show 100 * (nI (e_)) = nI (100 * e_) from pk_mul _ _) ?_
        refine m_iload 5 rfl dX12_slipsOf_24 ?_
        refine m_iadd dX12_slipsOf_26 ?_
        refine m_topi (show (nI (100 * e_)) + (nI (k_)) = nI ((100 * e_) + k_) from nI_add _ _) ?_
        refine al_46 ((100 * e_) + k_) rfl (by omega) dX12_slipsOf_27 ?_
        refine m_topi (hme.2.2.2.2 k_ (by omega)) ?_
        refine m_istore [(6, .int (hE h_ e_ k_)), (0, .ref (gK G 4 0)), (1, .int (nI (w_))), (2, .int (nI (d_))), (3, .int (nI (e_))), (4, .int (nI (cntB (fun s_ => decide (hE h_ e_ s_ ≠ -1 ∧ hE h_ e_ s_ ≠ nI (ansA a_ w_ (shX h_ d_ s_) (shY h_ d_ s_)))) k_))), (5, .int (nI (k_)))] (by decide) rfl dX12_slipsOf_28 ?_
        refine m_iload 5 rfl dX12_slipsOf_30 ?_
        refine m_iload 0 rfl dX12_slipsOf_32 ?_
        refine m_iconst (-1) dX12_slipsOf_34 rfl ?_
        refine m_icmp_eq 66 dX12_slipsOf_35 (by decide) (fun c2_ => ?_) (fun c2_ => ?_)
        ·
          have hv1 := c2_
          refine m_iconst 0 dX12_slipsOf_66 rfl ?_
          refine m_iadd dX12_slipsOf_67 ?_
          refine m_topi (show (nI (cntB (fun s_ => decide (hE h_ e_ s_ ≠ -1 ∧ hE h_ e_ s_ ≠ nI (ansA a_ w_ (shX h_ d_ s_) (shY h_ d_ s_)))) k_)) + 0 = nI ((cntB (fun s_ => decide (hE h_ e_ s_ ≠ -1 ∧ hE h_ e_ s_ ≠ nI (ansA a_ w_ (shX h_ d_ s_) (shY h_ d_ s_)))) k_) + 0) from nI_add _ _) ?_
          refine m_istore [(4, .int (nI ((cntB (fun s_ => decide (hE h_ e_ s_ ≠ -1 ∧ hE h_ e_ s_ ≠ nI (ansA a_ w_ (shX h_ d_ s_) (shY h_ d_ s_)))) k_) + 0))), (6, .int (hE h_ e_ k_)), (0, .ref (gK G 4 0)), (1, .int (nI (w_))), (2, .int (nI (d_))), (3, .int (nI (e_))), (5, .int (nI (k_)))] (by decide) rfl dX12_slipsOf_68 ?_
          refine m_iinc (nI (k_ + 1)) 6 [(5, .int (nI (k_ + 1))), (4, .int (nI ((cntB (fun s_ => decide (hE h_ e_ s_ ≠ -1 ∧ hE h_ e_ s_ ≠ nI (ansA a_ w_ (shX h_ d_ s_) (shY h_ d_ s_)))) k_) + 0))), (6, .int (hE h_ e_ k_)), (0, .ref (gK G 4 0)), (1, .int (nI (w_))), (2, .int (nI (d_))), (3, .int (nI (e_)))] rfl (nI_1 _) (by decide) rfl dX12_slipsOf_70 ?_
          refine m_goto 6 dX12_slipsOf_73 (by decide) ?_
          refine m_lv [(0, .ref (gK G 4 0)), (1, .int (nI (w_))), (2, .int (nI (d_))), (3, .int (nI (e_))), (4, .int (nI ((cntB (fun s_ => decide (hE h_ e_ s_ ≠ -1 ∧ hE h_ e_ s_ ≠ nI (ansA a_ w_ (shX h_ d_ s_) (shY h_ d_ s_)))) k_) + 0))), (5, .int (nI (k_ + 1)))] [3, 4, 5, 6, 1, 0] rfl ?_
          rw [show cntB (fun s_ => decide (hE h_ e_ s_ ≠ -1 ∧ hE h_ e_ s_ ≠ nI (ansA a_ w_ (shX h_ d_ s_) (shY h_ d_ s_)))) k_ = cntB (fun s_ => decide (hE h_ e_ s_ ≠ -1 ∧ hE h_ e_ s_ ≠ nI (ansA a_ w_ (shX h_ d_ s_) (shY h_ d_ s_)))) (k_ + 1) from cntB_f (p := (fun s_ => decide (hE h_ e_ s_ ≠ -1 ∧ hE h_ e_ s_ ≠ nI (ansA a_ w_ (shX h_ d_ s_) (shY h_ d_ s_))))) (by grind)]
          exact ih6 (k_ + 1) V9 (by omega) (by omega)
        ·
          have hv1 := c2_
          refine m_iload 0 rfl dX12_slipsOf_38 ?_
          refine m_aload_n 1 rfl rfl dX12_slipsOf_40 ?_
          refine m_iload_n 2 rfl rfl dX12_slipsOf_41 ?_
          refine m_aload_n 1 rfl rfl dX12_slipsOf_42 ?_
          refine m_iload_n 3 rfl rfl dX12_slipsOf_43 ?_
          refine m_iload 6 rfl dX12_slipsOf_44 ?_
          refine m_callVi cv_X12_181 [.int (nI (d_)), .int (nI (k_))] [.int (nI (w_)), .ref (gK G 4 0), .int (hE h_ e_ k_), .int (nI (cntB (fun s_ => decide (hE h_ e_ s_ ≠ -1 ∧ hE h_ e_ s_ ≠ nI (ansA a_ w_ (shX h_ d_ s_) (shY h_ d_ s_)))) k_))] (k_m_upperOf l G a_ ho_ im h_ hM d_ (by omega) hsr k_ (by omega)) (by decide) (ce_4 G _ _ _ _ _ _ _ _ _ _) rfl rfl rfl ⟨Nat.le_of_ble_eq_true rfl, Nat.le_of_ble_eq_true rfl⟩ (Nat.le_of_ble_eq_true rfl) ⟨Nat.zero_le _, Nat.zero_le _⟩ dX12_slipsOf_46 (fun xx σ2 hq => ?_)
          obtain ⟨rfl, rfl⟩ := hq
          refine m_aload_n 1 rfl rfl dX12_slipsOf_49 ?_
          refine m_iload_n 3 rfl rfl dX12_slipsOf_50 ?_
          refine m_iload 6 rfl dX12_slipsOf_51 ?_
          refine m_callVi cv_X12_184 [.int (nI (d_)), .int (nI (k_))] [.int (nI (shX h_ d_ k_)), .int (nI (w_)), .ref (gK G 4 0), .int (hE h_ e_ k_), .int (nI (cntB (fun s_ => decide (hE h_ e_ s_ ≠ -1 ∧ hE h_ e_ s_ ≠ nI (ansA a_ w_ (shX h_ d_ s_) (shY h_ d_ s_)))) k_))] (k_m_lowerOf l G a_ ho_ im h_ hM d_ (by omega) hsr k_ (by omega)) (by decide) (ce_4 G _ _ _ _ _ _ _ _ _ _) rfl rfl rfl ⟨Nat.le_of_ble_eq_true rfl, Nat.le_of_ble_eq_true rfl⟩ (Nat.le_of_ble_eq_true rfl) ⟨Nat.zero_le _, Nat.zero_le _⟩ dX12_slipsOf_53 (fun xx σ2 hq => ?_)
          obtain ⟨rfl, rfl⟩ := hq
          refine m_callVi cv_X12_157 [.int (nI (w_)), .int (nI (shX h_ d_ k_)), .int (nI (shY h_ d_ k_))] [.int (hE h_ e_ k_), .int (nI (cntB (fun s_ => decide (hE h_ e_ s_ ≠ -1 ∧ hE h_ e_ s_ ≠ nI (ansA a_ w_ (shX h_ d_ s_) (shY h_ d_ s_)))) k_))] (k_m_answerOf l G a_ ho_ im h_ hM w_ (by omega) (shX h_ d_ k_) (shY h_ d_ k_) (hsm k_ (by omega)).2.2.2 (hsm k_ (by omega)).2.2.1) (by decide) (ce_4 G _ _ _ _ _ _ _ _ _ _) rfl rfl rfl ⟨Nat.le_of_ble_eq_true rfl, Nat.le_of_ble_eq_true rfl⟩ (Nat.le_of_ble_eq_true rfl) ⟨Nat.zero_le _, Nat.zero_le _⟩ dX12_slipsOf_56 (fun xx σ2 hq => ?_)
          obtain ⟨rfl, V3, rfl, hwV3⟩ := hq
          refine m_icmp_eq 66 dX12_slipsOf_59 (by decide) (fun c4_ => ?_) (fun c4_ => ?_)
          ·
            have hv2 := c4_
            refine m_iconst 0 dX12_slipsOf_66 rfl ?_
            refine m_iadd dX12_slipsOf_67 ?_
            refine m_topi (show (nI (cntB (fun s_ => decide (hE h_ e_ s_ ≠ -1 ∧ hE h_ e_ s_ ≠ nI (ansA a_ w_ (shX h_ d_ s_) (shY h_ d_ s_)))) k_)) + 0 = nI ((cntB (fun s_ => decide (hE h_ e_ s_ ≠ -1 ∧ hE h_ e_ s_ ≠ nI (ansA a_ w_ (shX h_ d_ s_) (shY h_ d_ s_)))) k_) + 0) from nI_add _ _) ?_
            refine m_istore [(4, .int (nI ((cntB (fun s_ => decide (hE h_ e_ s_ ≠ -1 ∧ hE h_ e_ s_ ≠ nI (ansA a_ w_ (shX h_ d_ s_) (shY h_ d_ s_)))) k_) + 0))), (6, .int (hE h_ e_ k_)), (0, .ref (gK G 4 0)), (1, .int (nI (w_))), (2, .int (nI (d_))), (3, .int (nI (e_))), (5, .int (nI (k_)))] (by decide) rfl dX12_slipsOf_68 ?_
            refine m_iinc (nI (k_ + 1)) 6 [(5, .int (nI (k_ + 1))), (4, .int (nI ((cntB (fun s_ => decide (hE h_ e_ s_ ≠ -1 ∧ hE h_ e_ s_ ≠ nI (ansA a_ w_ (shX h_ d_ s_) (shY h_ d_ s_)))) k_) + 0))), (6, .int (hE h_ e_ k_)), (0, .ref (gK G 4 0)), (1, .int (nI (w_))), (2, .int (nI (d_))), (3, .int (nI (e_)))] rfl (nI_1 _) (by decide) rfl dX12_slipsOf_70 ?_
            refine m_goto 6 dX12_slipsOf_73 (by decide) ?_
            refine m_lv [(0, .ref (gK G 4 0)), (1, .int (nI (w_))), (2, .int (nI (d_))), (3, .int (nI (e_))), (4, .int (nI ((cntB (fun s_ => decide (hE h_ e_ s_ ≠ -1 ∧ hE h_ e_ s_ ≠ nI (ansA a_ w_ (shX h_ d_ s_) (shY h_ d_ s_)))) k_) + 0))), (5, .int (nI (k_ + 1)))] [3, 4, 5, 6, 1, 0] rfl ?_
            rw [show cntB (fun s_ => decide (hE h_ e_ s_ ≠ -1 ∧ hE h_ e_ s_ ≠ nI (ansA a_ w_ (shX h_ d_ s_) (shY h_ d_ s_)))) k_ = cntB (fun s_ => decide (hE h_ e_ s_ ≠ -1 ∧ hE h_ e_ s_ ≠ nI (ansA a_ w_ (shX h_ d_ s_) (shY h_ d_ s_)))) (k_ + 1) from cntB_f (p := (fun s_ => decide (hE h_ e_ s_ ≠ -1 ∧ hE h_ e_ s_ ≠ nI (ansA a_ w_ (shX h_ d_ s_) (shY h_ d_ s_))))) (by grind)]
            exact ih6 (k_ + 1) V3 (by omega) (by omega)
          ·
            have hv2 := c4_
            refine m_iconst 1 dX12_slipsOf_62 rfl ?_
            refine m_goto 67 dX12_slipsOf_63 (by decide) ?_
            refine m_iadd dX12_slipsOf_67 ?_
            refine m_topi (show (nI (cntB (fun s_ => decide (hE h_ e_ s_ ≠ -1 ∧ hE h_ e_ s_ ≠ nI (ansA a_ w_ (shX h_ d_ s_) (shY h_ d_ s_)))) k_)) + 1 = nI ((cntB (fun s_ => decide (hE h_ e_ s_ ≠ -1 ∧ hE h_ e_ s_ ≠ nI (ansA a_ w_ (shX h_ d_ s_) (shY h_ d_ s_)))) k_) + 1) from nI_add _ _) ?_
            refine m_istore [(4, .int (nI ((cntB (fun s_ => decide (hE h_ e_ s_ ≠ -1 ∧ hE h_ e_ s_ ≠ nI (ansA a_ w_ (shX h_ d_ s_) (shY h_ d_ s_)))) k_) + 1))), (6, .int (hE h_ e_ k_)), (0, .ref (gK G 4 0)), (1, .int (nI (w_))), (2, .int (nI (d_))), (3, .int (nI (e_))), (5, .int (nI (k_)))] (by decide) rfl dX12_slipsOf_68 ?_
            refine m_iinc (nI (k_ + 1)) 6 [(5, .int (nI (k_ + 1))), (4, .int (nI ((cntB (fun s_ => decide (hE h_ e_ s_ ≠ -1 ∧ hE h_ e_ s_ ≠ nI (ansA a_ w_ (shX h_ d_ s_) (shY h_ d_ s_)))) k_) + 1))), (6, .int (hE h_ e_ k_)), (0, .ref (gK G 4 0)), (1, .int (nI (w_))), (2, .int (nI (d_))), (3, .int (nI (e_)))] rfl (nI_1 _) (by decide) rfl dX12_slipsOf_70 ?_
            refine m_goto 6 dX12_slipsOf_73 (by decide) ?_
            refine m_lv [(0, .ref (gK G 4 0)), (1, .int (nI (w_))), (2, .int (nI (d_))), (3, .int (nI (e_))), (4, .int (nI ((cntB (fun s_ => decide (hE h_ e_ s_ ≠ -1 ∧ hE h_ e_ s_ ≠ nI (ansA a_ w_ (shX h_ d_ s_) (shY h_ d_ s_)))) k_) + 1))), (5, .int (nI (k_ + 1)))] [3, 4, 5, 6, 1, 0] rfl ?_
            rw [show (cntB (fun s_ => decide (hE h_ e_ s_ ≠ -1 ∧ hE h_ e_ s_ ≠ nI (ansA a_ w_ (shX h_ d_ s_) (shY h_ d_ s_)))) k_) + 1 = cntB (fun s_ => decide (hE h_ e_ s_ ≠ -1 ∧ hE h_ e_ s_ ≠ nI (ansA a_ w_ (shX h_ d_ s_) (shY h_ d_ s_)))) (k_ + 1) from cntB_t (p := (fun s_ => decide (hE h_ e_ s_ ≠ -1 ∧ hE h_ e_ s_ ≠ nI (ansA a_ w_ (shX h_ d_ s_) (shY h_ d_ s_))))) (by grind)]
            exact ih6 (k_ + 1) V3 (by omega) (by omega)
  refine m_lv [(0, .ref (gK G 4 0)), (1, .int (nI (w_))), (2, .int (nI (d_))), (3, .int (nI (e_))), (4, .int 0), (5, .int 0)] [2, 3, 4, 5, 1, 0] rfl ?_
  exact lp6 ((shN h_ d_ - 0) + 1) 0 V (Nat.zero_le _) (Nat.lt_succ_self _)
set_option maxRecDepth 100000 in
set_option maxHeartbeats 4000000 in
theorem k_m_fitting (l : Launch) (G : owG) {A S Z B T V : owF} {J : Nat → Nat → Int64} {Y : Nat → Nat → Nat → Option Nat} {P : Nat → Option owW} (a_ : owK) (ho_ : aOk a_) (im : Option owK) (h_ : owH) (hM : MR B a_ im h_) (d_ : Nat) (hd_ : d_ < 8) (hsr : shRef h_ d_ = 0) (e_ : Nat) (he_ : e_ < 8) (hke : hK h_ e_ = 2) (hne : hN h_ e_ = shN h_ d_) (m_ : Nat) (hmm : m_ ≤ 12) : Ct l G yX12_fitting cX12_fitting 6 ((some .int)) 5 0 0 [.ref (gK G 4 0), .int (nI (d_)), .int (nI (e_)), .int (nI (m_))] (A, S, Z, B, T, V, J, Y, P) (qI (fun r_ σ => r_ = fitA a_ (shN h_ d_) (shX h_ d_) (shY h_ d_) (hE h_ e_) m_ ∧ ∃ V2 : owF, σ = (A, S, Z, B, T, V2, J, Y, P))) := by
  refine ct_of (by decide +kernel) (Nat.le_of_ble_eq_true rfl) ?_
  have h10 := ho_.1
  have h8_ := ho_.2.1
  have hX := hM.1
  obtain ⟨hk2, hso2, hev, h24, hsm⟩ := shRef_ok hsr
  have hms := hM.2.2.2 d_ hd_
  have hm2 := hms.2.2.1 hk2
  have hs2 := hm2.2.1
  have hn100 := hm2.2.2.2.1
  have hsn : shN h_ d_ = hN h_ d_ / 2 := rfl
  have hn12 : shN h_ d_ ≤ 12 := (by omega)
  have hme := (hM.2.2.2 e_ he_).2.2.1 hke
  show Wm l G cX12_fitting 6 RX12 ((some .int)) (rmk 5 0 0) (fun _ => True) (QfM G (qI (fun r_ σ => r_ = fitA a_ (shN h_ d_) (shX h_ d_) (shY h_ d_) (hE h_ e_) m_ ∧ ∃ V2 : owF, σ = (A, S, Z, B, T, V2, J, Y, P))) 0 0) 0 [(0, .ref (gK G 4 0)), (1, .int (nI (d_))), (2, .int (nI (e_))), (3, .int (nI (m_)))] [] (A, S, Z, B, T, V, J, Y, P) 0 0
  refine m_iconst 0 dX12_fitting_0 rfl ?_
  refine m_istore [(4, .int 0), (0, .ref (gK G 4 0)), (1, .int (nI (d_))), (2, .int (nI (e_))), (3, .int (nI (m_)))] (by decide) rfl dX12_fitting_1 ?_
  refine m_iconst 0 dX12_fitting_3 rfl ?_
  refine m_istore [(5, .int 0), (4, .int 0), (0, .ref (gK G 4 0)), (1, .int (nI (d_))), (2, .int (nI (e_))), (3, .int (nI (m_)))] (by decide) rfl dX12_fitting_4 ?_
  have lp6 : ∀ (dd : Nat) (k_ : Nat) (V9 : owF), k_ ≤ aN a_ → aN a_ - k_ < dd → Wm l G cX12_fitting 6 RX12 ((some .int)) (rmk 5 0 0) (fun _ => True) (QfM G (qI (fun r_ σ => r_ = fitA a_ (shN h_ d_) (shX h_ d_) (shY h_ d_) (hE h_ e_) m_ ∧ ∃ V2 : owF, σ = (A, S, Z, B, T, V2, J, Y, P))) 0 0) 6 [(0, .ref (gK G 4 0)), (1, .int (nI (d_))), (2, .int (nI (e_))), (3, .int (nI (m_))), (4, .int (orI (fun w_ => decide (slN a_ (shN h_ d_) (shX h_ d_) (shY h_ d_) (hE h_ e_) w_ ≤ m_)) k_)), (5, .int (nI (k_)))] [] (A, S, Z, B, T, V9, J, Y, P) 0 0 := by
    intro dd
    induction dd with
    | zero => intro k_ V9 hk_ hdd; exact absurd hdd (Nat.not_lt_zero _)
    | succ dd ih6 =>
      intro k_ V9 hk_ hdd6
      refine m_iload 5 rfl dX12_fitting_6 ?_
      refine m_aload_n 0 rfl rfl dX12_fitting_8 ?_
      refine gf_X12_9 dX12_fitting_9 ?_
      refine m_iconst 0 dX12_fitting_12 rfl ?_
      refine al_40 0 rfl (by omega) dX12_fitting_13 ?_
      refine m_topi hX.1 ?_
      refine m_icmpn_ge k_ (aN a_) 48 (by omega) (by omega) dX12_fitting_14 (by decide) (fun c1_ => ?_) (fun c1_ => ?_)
      ·
        refine m_iload 4 rfl dX12_fitting_48 ?_
        exact m_iret dX12_fitting_50 (Nat.le_refl _) (Nat.le_refl _) ((by obtain rfl : k_ = aN a_ := (by omega); exact ⟨rfl, _, rfl⟩))
      ·
        refine m_iload 4 rfl dX12_fitting_17 ?_
        refine m_aload_n 0 rfl rfl dX12_fitting_19 ?_
        refine m_iload 5 rfl dX12_fitting_20 ?_
        refine m_iload_n 1 rfl rfl dX12_fitting_22 ?_
        refine m_iload_n 2 rfl rfl dX12_fitting_23 ?_
        refine m_callVi cv_X12_190 [.int (nI (k_)), .int (nI (d_)), .int (nI (e_))] [.int (orI (fun w_ => decide (slN a_ (shN h_ d_) (shX h_ d_) (shY h_ d_) (hE h_ e_) w_ ≤ m_)) k_)] (k_m_slipsOf l G a_ ho_ im h_ hM k_ (by omega) d_ hd_ hsr e_ he_ hke hne) (by decide) (ce_4 G _ _ _ _ _ _ _ _ _ _) rfl rfl rfl ⟨Nat.le_of_ble_eq_true rfl, Nat.le_of_ble_eq_true rfl⟩ (Nat.le_of_ble_eq_true rfl) ⟨Nat.zero_le _, Nat.zero_le _⟩ dX12_fitting_24 (fun xx σ2 hq => ?_)
        obtain ⟨rfl, V2, rfl⟩ := hq
        have hsl := slN_le (a := a_) (X := shX h_ d_) (Q := shY h_ d_) (V := hE h_ e_) (w := k_) (n := shN h_ d_) hn12
        refine m_iload_n 3 rfl rfl dX12_fitting_27 ?_
        refine m_icmpn_gt (slN a_ (shN h_ d_) (shX h_ d_) (shY h_ d_) (hE h_ e_) k_) m_ 38 (by omega) (by omega) dX12_fitting_28 (by decide) (fun c3_ => ?_) (fun c3_ => ?_)
        ·
          have hq := c3_
          refine m_iconst 0 dX12_fitting_38 rfl ?_
          refine m_ior dX12_fitting_39 ?_
          refine m_topi ((show (orI (fun w_ => decide (slN a_ (shN h_ d_) (shX h_ d_) (shY h_ d_) (hE h_ e_) w_ ≤ m_)) k_) ||| 0 = orI (fun w_ => decide (slN a_ (shN h_ d_) (shX h_ d_) (shY h_ d_) (hE h_ e_) w_ ≤ m_)) (k_ + 1) from Int32.or_zero.trans (orI_f (p := (fun w_ => decide (slN a_ (shN h_ d_) (shX h_ d_) (shY h_ d_) (hE h_ e_) w_ ≤ m_))) (decide_eq_false (Nat.not_le.mpr hq))))) ?_
          refine m_istore [(4, .int (orI (fun w_ => decide (slN a_ (shN h_ d_) (shX h_ d_) (shY h_ d_) (hE h_ e_) w_ ≤ m_)) (k_ + 1))), (0, .ref (gK G 4 0)), (1, .int (nI (d_))), (2, .int (nI (e_))), (3, .int (nI (m_))), (5, .int (nI (k_)))] (by decide) rfl dX12_fitting_40 ?_
          refine m_iinc (nI (k_ + 1)) 5 [(5, .int (nI (k_ + 1))), (4, .int (orI (fun w_ => decide (slN a_ (shN h_ d_) (shX h_ d_) (shY h_ d_) (hE h_ e_) w_ ≤ m_)) (k_ + 1))), (0, .ref (gK G 4 0)), (1, .int (nI (d_))), (2, .int (nI (e_))), (3, .int (nI (m_)))] rfl (nI_1 _) (by decide) rfl dX12_fitting_42 ?_
          refine m_goto 6 dX12_fitting_45 (by decide) ?_
          refine m_lv [(0, .ref (gK G 4 0)), (1, .int (nI (d_))), (2, .int (nI (e_))), (3, .int (nI (m_))), (4, .int (orI (fun w_ => decide (slN a_ (shN h_ d_) (shX h_ d_) (shY h_ d_) (hE h_ e_) w_ ≤ m_)) (k_ + 1))), (5, .int (nI (k_ + 1)))] [2, 3, 4, 5, 1, 0] rfl ?_
          exact ih6 (k_ + 1) V2 (by omega) (by omega)
        ·
          have hq := c3_
          refine m_iconst 1 dX12_fitting_31 rfl ?_
          refine m_iload 5 rfl dX12_fitting_32 ?_
          refine m_ishl dX12_fitting_34 ?_
          refine m_goto 39 dX12_fitting_35 (by decide) ?_
          refine m_ior dX12_fitting_39 ?_
          refine m_topi ((show (orI (fun w_ => decide (slN a_ (shN h_ d_) (shX h_ d_) (shY h_ d_) (hE h_ e_) w_ ≤ m_)) k_) ||| (1 <<< ((nI (k_)) &&& 31)) = orI (fun w_ => decide (slN a_ (shN h_ d_) (shX h_ d_) (shY h_ d_) (hE h_ e_) w_ ≤ m_)) (k_ + 1) from orI_t (p := (fun w_ => decide (slN a_ (shN h_ d_) (shX h_ d_) (shY h_ d_) (hE h_ e_) w_ ≤ m_))) (decide_eq_true hq))) ?_
          refine m_istore [(4, .int (orI (fun w_ => decide (slN a_ (shN h_ d_) (shX h_ d_) (shY h_ d_) (hE h_ e_) w_ ≤ m_)) (k_ + 1))), (0, .ref (gK G 4 0)), (1, .int (nI (d_))), (2, .int (nI (e_))), (3, .int (nI (m_))), (5, .int (nI (k_)))] (by decide) rfl dX12_fitting_40 ?_
          refine m_iinc (nI (k_ + 1)) 5 [(5, .int (nI (k_ + 1))), (4, .int (orI (fun w_ => decide (slN a_ (shN h_ d_) (shX h_ d_) (shY h_ d_) (hE h_ e_) w_ ≤ m_)) (k_ + 1))), (0, .ref (gK G 4 0)), (1, .int (nI (d_))), (2, .int (nI (e_))), (3, .int (nI (m_)))] rfl (nI_1 _) (by decide) rfl dX12_fitting_42 ?_
          refine m_goto 6 dX12_fitting_45 (by decide) ?_
          refine m_lv [(0, .ref (gK G 4 0)), (1, .int (nI (d_))), (2, .int (nI (e_))), (3, .int (nI (m_))), (4, .int (orI (fun w_ => decide (slN a_ (shN h_ d_) (shX h_ d_) (shY h_ d_) (hE h_ e_) w_ ≤ m_)) (k_ + 1))), (5, .int (nI (k_ + 1)))] [2, 3, 4, 5, 1, 0] rfl ?_
          exact ih6 (k_ + 1) V2 (by omega) (by omega)
  refine m_lv [(0, .ref (gK G 4 0)), (1, .int (nI (d_))), (2, .int (nI (e_))), (3, .int (nI (m_))), (4, .int 0), (5, .int 0)] [2, 3, 4, 5, 1, 0] rfl ?_
  exact lp6 ((aN a_ - 0) + 1) 0 V (Nat.zero_le _) (Nat.lt_succ_self _)
set_option maxRecDepth 100000 in
set_option maxHeartbeats 4000000 in
theorem k_m_common_step (l : Launch) (G : owG) {A S Z B T V : owF} {J : Nat → Nat → Int64} {Y : Nat → Nat → Nat → Option Nat} {P : Nat → Option owW} (L x_ y_ : Nat) (hx_ : x_ < 2 ^ 31) (hy_ : y_ < 2 ^ 31) (hC : 0 < y_ → Ct l G yX12_common cX12_common 2 (some .int) L 0 0 [.int (nI y_), .int (nI (x_ % y_))] (A, S, Z, B, T, V, J, Y, P) (qI (fun r_ σ => r_ = nI (Nat.gcd y_ (x_ % y_)) ∧ σ = (A, S, Z, B, T, V, J, Y, P)))) : Ct l G yX12_common cX12_common 2 (some .int) (L + 1) 0 0 [.int (nI x_), .int (nI y_)] (A, S, Z, B, T, V, J, Y, P) (qI (fun r_ σ => r_ = nI (Nat.gcd x_ y_) ∧ σ = (A, S, Z, B, T, V, J, Y, P))) := by
  refine ct_of (by decide +kernel) (Nat.le_of_ble_eq_true rfl) ?_
  show Wm l G cX12_common 2 RX12 (some .int) (rmk (L + 1) 0 0) (fun _ => True) (QfM G (qI (fun r_ σ => r_ = nI (Nat.gcd x_ y_) ∧ σ = (A, S, Z, B, T, V, J, Y, P))) 0 0) 0 [(0, .int (nI x_)), (1, .int (nI y_))] [] (A, S, Z, B, T, V, J, Y, P) 0 0
  refine m_iload_n 1 rfl rfl dX12_common_0 ?_
  refine m_ifn_ne y_ 8 hy_ dX12_common_1 (by decide) (fun c1_ => ?_) (fun c1_ => ?_)
  ·
    refine m_iload_n 1 rfl rfl dX12_common_8 ?_
    refine m_iload_n 0 rfl rfl dX12_common_9 ?_
    refine m_iload_n 1 rfl rfl dX12_common_10 ?_
    refine m_irem (nI_ne0 c1_ hy_) dX12_common_11 ?_
    refine m_topi (show nI x_ - nI x_ / nI y_ * nI y_ = nI (x_ % y_) from pk_rem hx_ c1_ hy_) ?_
    refine m_callSi cs_X12_198 [.int (nI y_), .int (nI (x_ % y_))] [] (hC c1_) rfl rfl ⟨by show L + 1 ≤ L + 1; omega, by show 8 + (2 + 11) + 40 * L ≤ 40 * (L + 1); omega⟩ (Nat.le_of_ble_eq_true rfl) ⟨Nat.zero_le _, Nat.zero_le _⟩ dX12_common_12 (fun xx σ2 hq => ?_)
    obtain ⟨rfl, rfl⟩ := hq
    exact m_iret dX12_common_15 (Nat.le_refl _) (Nat.le_refl _) ⟨by rw [gcd_step], rfl⟩
  ·
    refine m_iload_n 0 rfl rfl dX12_common_4 ?_
    refine m_goto 15 dX12_common_5 (by decide) ?_
    exact m_iret dX12_common_15 (Nat.le_refl _) (Nat.le_refl _) ⟨by subst c1_; rw [Nat.gcd_zero_right], rfl⟩
theorem k_m_common_n (l : Launch) (G : owG) {A S Z B T V : owF} {J : Nat → Nat → Int64} {Y : Nat → Nat → Nat → Option Nat} {P : Nat → Option owW} : ∀ (n_ x_ y_ : Nat), n_ ≤ 31 → x_ < 2 ^ 31 → y_ < 2 ^ n_ → Ct l G yX12_common cX12_common 2 (some .int) (2 * n_ + 1) 0 0 [.int (nI x_), .int (nI y_)] (A, S, Z, B, T, V, J, Y, P) (qI (fun r_ σ => r_ = nI (Nat.gcd x_ y_) ∧ σ = (A, S, Z, B, T, V, J, Y, P)))
  | 0, x_, y_, _, hx_, hy_ => k_m_common_step l G 0 x_ y_ hx_ (by omega) (fun c_ => by omega)
  | n_ + 1, x_, y_, hn, hx_, hy_ => by
    have h31 : 2 ^ (n_ + 1) ≤ 2 ^ 31 := Nat.pow_le_pow_right (by decide) hn
    have e2 : 2 ^ (n_ + 1) = 2 * 2 ^ n_ := Nat.pow_succ'
    refine k_m_common_step l G (2 * n_ + 2) x_ y_ hx_ (by omega) (fun c_ => ?_)
    have hr := Nat.mod_lt x_ c_
    refine k_m_common_step l G (2 * n_ + 1) y_ (x_ % y_) (by omega) (by omega) (fun c2_ => ?_)
    have hh_ := gd_half hr c2_
    exact k_m_common_n l G n_ (x_ % y_) (y_ % (x_ % y_)) (by omega) (by omega) (by omega)

