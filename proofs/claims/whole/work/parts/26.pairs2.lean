theorem up2_e {f g : Nat → Nat → Int64} {t j : Nat} {x : Int64} (e : g = up2 f t j x) : g t j = x := by
  rw [e]
  unfold up2
  exact if_pos ⟨rfl, rfl⟩
theorem up2_j {f g : Nat → Nat → Int64} {t j k : Nat} {x y : Int64} (e : g = up2 f t j x) (h : k ≠ j) (q : f t k = y) : g t k = y := by
  rw [e]
  unfold up2
  rw [if_neg (fun z => h z.2)]
  exact q
def exB (p : Nat → Bool) : Nat → Bool
  | 0 => false
  | n + 1 => exB p n || p n
def anF (a : owK) (x y w : Nat) : Int32 := if w < aN a then nI (ansA a w x y) else -1
theorem isW_out {a : owK} {w : Nat} (h : aN a ≤ w) (hw : w < 2 ^ 31) : isW a (nI w) = false := decide_eq_false (fun q => absurd ((nI_ltI hw (by omega)).mp q.2) (by omega))
/-- pairs that a sum parts -/
def ptP (a : owK) (X Q : Nat → Nat) (b : Int32) (s : Nat) : Nat → Bool := prP (unB b (anF a (X s) (Q s)))
def ptA (a : owK) (X Q : Nat → Nat) (b : Int32) (n j : Nat) : Bool := exB (fun s => ptP a X Q b s j) n
def exS (R : Nat → Nat → Bool) (b : Int32) (k j : Nat) : Bool := exB (fun s => amongB b (nI s) && R s j) k
theorem exS_t {R : Nat → Nat → Bool} {b : Int32} {k : Nat} (h : amongB b (nI k) = true) : orL (exS R b k) 45 ||| orL (R k) 45 = orL (exS R b (k + 1)) 45 := by
  rw [orL_or (by decide), orL_eq (by decide)]
  intro j _
  show (exS R b k j || R k j) = (exS R b k j || (amongB b (nI k) && R k j))
  rw [h, Bool.true_and]
theorem exS_f {R : Nat → Nat → Bool} {b : Int32} {k : Nat} (h : amongB b (nI k) = false) : orL (exS R b k) 45 = orL (exS R b (k + 1)) 45 := by
  rw [orL_eq (by decide)]
  intro j _
  show exS R b k j = (exS R b k j || (amongB b (nI k) && R k j))
  rw [h, Bool.false_and, Bool.or_false]
set_option maxRecDepth 100000 in
set_option maxHeartbeats 4000000 in
theorem k_partPairs (l : Launch) (G : owG) {A S Z B T V : owF} {J : Nat → Nat → Int64} {Y : Nat → Nat → Nat → Option Nat} {P : Nat → Option owW} (a_ : owK) (ho_ : aOk a_) (hR : RX A Y P 0 a_) (n_ : Nat) (X Q : Nat → Nat) (hs_ : shS S n_ X Q) (b_ : Int32) : Ct l G yX11_partPairs cX11_partPairs 6 ((some .long)) 6 0 0 [.ref (gK G 0 0), .int b_] (A, S, Z, B, T, V, J, Y, P) (qL (fun r_ σ => r_ = orL (ptA a_ X Q b_ n_) 45 ∧ ∃ (S2 Z2 : owF) (J2 : Nat → Nat → Int64), σ = (A, S2, Z2, B, T, V, J2, Y, P) ∧ shS S2 n_ X Q ∧ ∀ s_, s_ < n_ → J2 36 s_ = orL (ptP a_ X Q b_ s_) 45)) := by
  refine ct_of (by decide +kernel) (Nat.le_of_ble_eq_true rfl) ?_
  have h10 := ho_.1
  have h8_ := ho_.2.1
  have hn12 := hs_.2.1
  show Wm l G cX11_partPairs 6 RX11 ((some .long)) (rmk 6 0 0) (fun _ => True) (QfM G (qL (fun r_ σ => r_ = orL (ptA a_ X Q b_ n_) 45 ∧ ∃ (S2 Z2 : owF) (J2 : Nat → Nat → Int64), σ = (A, S2, Z2, B, T, V, J2, Y, P) ∧ shS S2 n_ X Q ∧ ∀ s_, s_ < n_ → J2 36 s_ = orL (ptP a_ X Q b_ s_) 45)) 0 0) 0 [(0, .ref (gK G 0 0)), (1, .int b_)] [] (A, S, Z, B, T, V, J, Y, P) 0 0
  refine m_lconst 0 dX11_partPairs_0 rfl ?_
  refine m_lstore_n [(2, .long (0)), (0, .ref (gK G 0 0)), (1, .int b_)] rfl (by decide) rfl dX11_partPairs_1 ?_
  rw [show (0 : Int64) = orL (ptA a_ X Q b_ 0) 45 from (orL_00 45).symm]
  refine m_iconst 0 dX11_partPairs_2 rfl ?_
  refine m_istore [(4, .int 0), (2, .long (orL (ptA a_ X Q b_ 0) 45)), (0, .ref (gK G 0 0)), (1, .int b_)] (by decide) rfl dX11_partPairs_3 ?_
  have lp5 : ∀ (dd : Nat) (k_ : Nat) (S9 : owF) (Z9 : owF) (J9 : Nat → Nat → Int64), k_ ≤ n_ → shS S9 n_ X Q → (∀ s_, s_ < k_ → J9 36 s_ = orL (ptP a_ X Q b_ s_) 45) → n_ - k_ < dd → Wm l G cX11_partPairs 6 RX11 ((some .long)) (rmk 6 0 0) (fun _ => True) (QfM G (qL (fun r_ σ => r_ = orL (ptA a_ X Q b_ n_) 45 ∧ ∃ (S2 Z2 : owF) (J2 : Nat → Nat → Int64), σ = (A, S2, Z2, B, T, V, J2, Y, P) ∧ shS S2 n_ X Q ∧ ∀ s_, s_ < n_ → J2 36 s_ = orL (ptP a_ X Q b_ s_) 45)) 0 0) 5 [(0, .ref (gK G 0 0)), (1, .int b_), (2, .long (orL (ptA a_ X Q b_ k_) 45)), (4, .int (nI (k_)))] [] (A, S9, Z9, B, T, V, J9, Y, P) 0 0 := by
    intro dd
    induction dd with
    | zero => intro k_ S9 Z9 J9 hk_ hs9 hJ hdd; exact absurd hdd (Nat.not_lt_zero _)
    | succ dd ih5 =>
      intro k_ S9 Z9 J9 hk_ hs9 hJ hdd5
      refine m_iload 3 rfl dX11_partPairs_5 ?_
      refine m_aload_n 0 rfl rfl dX11_partPairs_7 ?_
      refine gf_X11_179 dX11_partPairs_8 ?_
      refine m_topi hs9.1 ?_
      refine m_icmpn_ge k_ n_ 82 (by omega) (by omega) dX11_partPairs_11 (by decide) (fun c1_ => ?_) (fun c1_ => ?_)
      ·
        refine m_lload_n 2 rfl rfl dX11_partPairs_82 ?_
        exact m_lret dX11_partPairs_83 (Nat.le_refl _) (Nat.le_refl _) ((by obtain rfl : k_ = n_ := (by omega); exact ⟨rfl, _, _, _, rfl, hs9, hJ⟩))
      ·
        refine m_iload 3 rfl dX11_partPairs_14 ?_
        refine m_bipush (12) dX11_partPairs_16 rfl ?_
        refine m_icmpn_ge k_ 12 82 (by omega) (by decide) dX11_partPairs_18 (by decide) (fun c2_ => ?_) (fun c2_ => ?_)
        ·
          refine m_lload_n 2 rfl rfl dX11_partPairs_82 ?_
          exact m_lret dX11_partPairs_83 (Nat.le_refl _) (Nat.le_refl _) ((by obtain rfl : k_ = n_ := (by omega); exact ⟨rfl, _, _, _, rfl, hs9, hJ⟩))
        ·
          refine m_iconst 0 dX11_partPairs_21 rfl ?_
          refine m_istore [(5, .int 0), (0, .ref (gK G 0 0)), (1, .int b_), (2, .long (orL (ptA a_ X Q b_ k_) 45)), (4, .int (nI (k_)))] (by decide) rfl dX11_partPairs_22 ?_
          have lp24 : ∀ (dd : Nat) (t_ : Nat) (S8 : owF) (Z8 : owF), t_ ≤ 10 → shS S8 n_ X Q → (∀ w_, w_ < t_ → S8 34 0 w_ = anF a_ (X k_) (Q k_) w_) → 10 - t_ < dd → Wm l G cX11_partPairs 6 RX11 ((some .long)) (rmk 6 0 0) (fun _ => True) (QfM G (qL (fun r_ σ => r_ = orL (ptA a_ X Q b_ n_) 45 ∧ ∃ (S2 Z2 : owF) (J2 : Nat → Nat → Int64), σ = (A, S2, Z2, B, T, V, J2, Y, P) ∧ shS S2 n_ X Q ∧ ∀ s_, s_ < n_ → J2 36 s_ = orL (ptP a_ X Q b_ s_) 45)) 0 0) 24 [(0, .ref (gK G 0 0)), (1, .int b_), (2, .long (orL (ptA a_ X Q b_ k_) 45)), (4, .int (nI (k_))), (5, .int (nI (t_)))] [] (A, S8, Z8, B, T, V, J9, Y, P) 0 0 := by
            intro dd
            induction dd with
            | zero => intro t_ S8 Z8 ht hs8 hby hdd; exact absurd hdd (Nat.not_lt_zero _)
            | succ dd ih24 =>
              intro t_ S8 Z8 ht hs8 hby hdd24
              refine m_iload 4 rfl dX11_partPairs_24 ?_
              refine m_bipush (10) dX11_partPairs_26 rfl ?_
              refine m_icmpn_ge t_ 10 54 (by omega) (by decide) dX11_partPairs_28 (by decide) (fun c3_ => ?_) (fun c3_ => ?_)
              ·
                refine m_aload_n 0 rfl rfl dX11_partPairs_54 ?_
                refine gf_X11_51 dX11_partPairs_55 ?_
                refine m_iload 3 rfl dX11_partPairs_58 ?_
                refine m_aload_n 0 rfl rfl dX11_partPairs_60 ?_
                refine m_iload_n 1 rfl rfl dX11_partPairs_61 ?_
                refine m_callVl cv_X11_343 [.int b_] [.int (nI (k_)), .ref (gK G 36 0)] (k_unlikeP l G b_ (anF a_ (X k_) (Q k_)) (fun w_ hw_ => hby w_ (by omega))) (by decide) (ce_0 G _ _ _ _ _ _ _ _ _ _) rfl rfl rfl ⟨Nat.le_of_ble_eq_true rfl, Nat.le_of_ble_eq_true rfl⟩ (Nat.le_of_ble_eq_true rfl) ⟨Nat.zero_le _, Nat.zero_le _⟩ dX11_partPairs_62 (fun xx σ2 hq => ?_)
                obtain ⟨rfl, rfl⟩ := hq
                refine as_36 k_ rfl (by omega) dX11_partPairs_65 (fun J4 hJ4 => ?_)
                refine m_lload_n 2 rfl rfl dX11_partPairs_66 ?_
                refine m_aload_n 0 rfl rfl dX11_partPairs_67 ?_
                refine gf_X11_51 dX11_partPairs_68 ?_
                refine m_iload 3 rfl dX11_partPairs_71 ?_
                refine al_36 k_ rfl (by omega) dX11_partPairs_73 ?_
                refine m_topl (up2_e hJ4) ?_
                refine m_lor dX11_partPairs_74 ?_
                refine m_lstore_n [(2, .long ((orL (ptA a_ X Q b_ k_) 45) ||| (orL (prP (unB b_ (anF a_ (X k_) (Q k_)))) 45))), (0, .ref (gK G 0 0)), (1, .int b_), (4, .int (nI (k_))), (5, .int (nI (t_)))] rfl (by decide) rfl dX11_partPairs_75 ?_
                refine m_iinc (nI (k_ + 1)) 3 [(4, .int (nI (k_ + 1))), (2, .long ((orL (ptA a_ X Q b_ k_) 45) ||| (orL (prP (unB b_ (anF a_ (X k_) (Q k_)))) 45))), (0, .ref (gK G 0 0)), (1, .int b_), (5, .int (nI (t_)))] rfl (nI_1 _) (by decide) rfl dX11_partPairs_76 ?_
                refine m_goto 5 dX11_partPairs_79 (by decide) ?_
                refine m_lv [(0, .ref (gK G 0 0)), (1, .int b_), (2, .long ((orL (ptA a_ X Q b_ k_) 45) ||| (orL (prP (unB b_ (anF a_ (X k_) (Q k_)))) 45))), (4, .int (nI (k_ + 1)))] [2, 3, 1, 0] rfl ?_
                rw [show orL (ptA a_ X Q b_ k_) 45 ||| orL (prP (unB b_ (anF a_ (X k_) (Q k_)))) 45 = orL (ptA a_ X Q b_ (k_ + 1)) 45 from orL_or (by decide)]
                exact ih5 (k_ + 1) S8 Z8 J4 (by omega) hs8 (fun s_ hs_ => by rcases Nat.lt_or_ge s_ k_ with q_ | q_; exact up2_j hJ4 (by omega) (hJ s_ q_); obtain rfl : k_ = s_ := (by omega); exact up2_e hJ4) (by omega)
              ·
                rcases Nat.lt_or_ge t_ (aN a_) with htn | htn
                ·
                  refine m_aload_n 0 rfl rfl dX11_partPairs_31 ?_
                  refine gf_X11_48 dX11_partPairs_32 ?_
                  refine m_iload 4 rfl dX11_partPairs_35 ?_
                  refine m_aload_n 0 rfl rfl dX11_partPairs_37 ?_
                  refine m_iload 4 rfl dX11_partPairs_38 ?_
                  refine m_iload 3 rfl dX11_partPairs_40 ?_
                  refine m_callVi cv_X11_210 [.int (nI (t_)), .int (nI (k_))] [.int (nI (t_)), .ref (gK G 34 0)] (k_answerToSum l G a_ ho_ hR n_ X Q hs8 t_ (by omega) k_ (by omega)) (by decide) (ce_0 G _ _ _ _ _ _ _ _ _ _) rfl rfl rfl ⟨Nat.le_of_ble_eq_true rfl, Nat.le_of_ble_eq_true rfl⟩ (Nat.le_of_ble_eq_true rfl) ⟨Nat.zero_le _, Nat.zero_le _⟩ dX11_partPairs_42 (fun xx σ2 hq => ?_)
                  obtain ⟨rfl, Z5, rfl, hwZ5⟩ := hq
                  refine m_callSv cs_X11_116 [.ref (gK G 34 0), .int (nI (t_)), .int (nI (ansA a_ t_ (X k_) (Q k_)))] [] (k_set_34 l G t_ (by omega) (nI (ansA a_ t_ (X k_) (Q k_)))) rfl rfl ⟨Nat.le_of_ble_eq_true rfl, Nat.le_of_ble_eq_true rfl⟩ (Nat.le_of_ble_eq_true rfl) ⟨Nat.zero_le _, Nat.zero_le _⟩ dX11_partPairs_45 (fun σ2 hq => ?_)
                  obtain rfl := hq
                  obtain ⟨S6, hS6⟩ : ∃ q_ : owF, q_ = up3 S8 34 0 t_ (nI (ansA a_ t_ (X k_) (Q k_))) := ⟨_, rfl⟩
                  rw [← hS6]
                  refine m_iinc (nI (t_ + 1)) 4 [(5, .int (nI (t_ + 1))), (0, .ref (gK G 0 0)), (1, .int b_), (2, .long (orL (ptA a_ X Q b_ k_) 45)), (4, .int (nI (k_)))] rfl (nI_1 _) (by decide) rfl dX11_partPairs_48 ?_
                  refine m_goto 24 dX11_partPairs_51 (by decide) ?_
                  refine m_lv [(0, .ref (gK G 0 0)), (1, .int b_), (2, .long (orL (ptA a_ X Q b_ k_) 45)), (4, .int (nI (k_))), (5, .int (nI (t_ + 1)))] [1, 2, 3, 4, 0] rfl ?_
                  exact ih24 (t_ + 1) S6 Z5 (by omega) (hs8.keep (sfrT_up sfrT_rf hS6) (by decide)) (fun w_ hw_ => by rcases Nat.lt_or_ge w_ t_ with q_ | q_; exact up3_j hS6 (by omega) (hby w_ q_); obtain rfl : t_ = w_ := (by omega); exact (up3_e hS6).trans (show nI (ansA a_ t_ (X k_) (Q k_)) = anF a_ (X k_) (Q k_) t_ from (if_pos htn).symm)) (by omega)
                ·
                  have hout := isW_out htn (by omega)
                  refine m_aload_n 0 rfl rfl dX11_partPairs_31 ?_
                  refine gf_X11_48 dX11_partPairs_32 ?_
                  refine m_iload 4 rfl dX11_partPairs_35 ?_
                  refine m_aload_n 0 rfl rfl dX11_partPairs_37 ?_
                  refine m_iload 4 rfl dX11_partPairs_38 ?_
                  refine m_iload 3 rfl dX11_partPairs_40 ?_
                  refine m_callVi cv_X11_210 [.int (nI (t_)), .int (nI (k_))] [.int (nI (t_)), .ref (gK G 34 0)] (k_answerToSumN l G a_ ho_ hR n_ X Q hs8 (nI t_) hout k_ (by omega)) (by decide) (ce_0 G _ _ _ _ _ _ _ _ _ _) rfl rfl rfl ⟨Nat.le_of_ble_eq_true rfl, Nat.le_of_ble_eq_true rfl⟩ (Nat.le_of_ble_eq_true rfl) ⟨Nat.zero_le _, Nat.zero_le _⟩ dX11_partPairs_42 (fun xx σ2 hq => ?_)
                  obtain ⟨rfl, rfl⟩ := hq
                  refine m_callSv cs_X11_116 [.ref (gK G 34 0), .int (nI (t_)), .int (-1)] [] (k_set_34 l G t_ (by omega) (-1)) rfl rfl ⟨Nat.le_of_ble_eq_true rfl, Nat.le_of_ble_eq_true rfl⟩ (Nat.le_of_ble_eq_true rfl) ⟨Nat.zero_le _, Nat.zero_le _⟩ dX11_partPairs_45 (fun σ2 hq => ?_)
                  obtain rfl := hq
                  obtain ⟨S7, hS7⟩ : ∃ q_ : owF, q_ = up3 S8 34 0 t_ (-1) := ⟨_, rfl⟩
                  rw [← hS7]
                  refine m_iinc (nI (t_ + 1)) 4 [(5, .int (nI (t_ + 1))), (0, .ref (gK G 0 0)), (1, .int b_), (2, .long (orL (ptA a_ X Q b_ k_) 45)), (4, .int (nI (k_)))] rfl (nI_1 _) (by decide) rfl dX11_partPairs_48 ?_
                  refine m_goto 24 dX11_partPairs_51 (by decide) ?_
                  refine m_lv [(0, .ref (gK G 0 0)), (1, .int b_), (2, .long (orL (ptA a_ X Q b_ k_) 45)), (4, .int (nI (k_))), (5, .int (nI (t_ + 1)))] [1, 2, 3, 4, 0] rfl ?_
                  exact ih24 (t_ + 1) S7 Z8 (by omega) (hs8.keep (sfrT_up sfrT_rf hS7) (by decide)) (fun w_ hw_ => by rcases Nat.lt_or_ge w_ t_ with q_ | q_; exact up3_j hS7 (by omega) (hby w_ q_); obtain rfl : t_ = w_ := (by omega); exact (up3_e hS7).trans (show (-1 : Int32) = anF a_ (X k_) (Q k_) t_ from (if_neg (Nat.not_lt.mpr htn)).symm)) (by omega)
          refine m_lv [(0, .ref (gK G 0 0)), (1, .int b_), (2, .long (orL (ptA a_ X Q b_ k_) 45)), (4, .int (nI (k_))), (5, .int 0)] [1, 2, 3, 4, 0] rfl ?_
          exact lp24 ((10 - 0) + 1) 0 S9 Z9 (by omega) hs9 (fun w_ hw_ => absurd hw_ (Nat.not_lt_zero w_)) (Nat.lt_succ_self _)
  refine m_lv [(0, .ref (gK G 0 0)), (1, .int b_), (2, .long (orL (ptA a_ X Q b_ 0) 45)), (4, .int 0)] [2, 3, 1, 0] rfl ?_
  exact lp5 ((n_ - 0) + 1) 0 S Z J (Nat.zero_le _) hs_ (fun s_ hs_ => absurd hs_ (Nat.not_lt_zero s_)) (Nat.lt_succ_self _)
set_option maxRecDepth 100000 in
set_option maxHeartbeats 4000000 in
theorem k_partedBy (l : Launch) (G : owG) {A S Z B T V : owF} {J : Nat → Nat → Int64} {Y : Nat → Nat → Nat → Option Nat} {P : Nat → Option owW} (b_ : Int32) (R : Nat → Nat → Bool) (hJ : ∀ s_, s_ < 12 → amongB b_ (nI s_) = true → J 36 s_ = orL (R s_) 45) : Ct l G yX11_pairsPartedBy cX11_pairsPartedBy 5 ((some .long)) 1 0 0 [.ref (gK G 0 0), .int b_] (A, S, Z, B, T, V, J, Y, P) (qL (fun r_ σ => r_ = orL (exS R b_ 12) 45 ∧ σ = (A, S, Z, B, T, V, J, Y, P))) := by
  refine ct_of (by decide +kernel) (Nat.le_of_ble_eq_true rfl) ?_
  show Wm l G cX11_pairsPartedBy 5 RX11 ((some .long)) (rmk 1 0 0) (fun _ => True) (QfM G (qL (fun r_ σ => r_ = orL (exS R b_ 12) 45 ∧ σ = (A, S, Z, B, T, V, J, Y, P))) 0 0) 0 [(0, .ref (gK G 0 0)), (1, .int b_)] [] (A, S, Z, B, T, V, J, Y, P) 0 0
  refine m_lconst 0 dX11_pairsPartedBy_0 rfl ?_
  refine m_lstore_n [(2, .long (0)), (0, .ref (gK G 0 0)), (1, .int b_)] rfl (by decide) rfl dX11_pairsPartedBy_1 ?_
  rw [show (0 : Int64) = orL (exS R b_ 0) 45 from (orL_00 45).symm]
  refine m_iconst 0 dX11_pairsPartedBy_2 rfl ?_
  refine m_istore [(4, .int 0), (2, .long (orL (exS R b_ 0) 45)), (0, .ref (gK G 0 0)), (1, .int b_)] (by decide) rfl dX11_pairsPartedBy_3 ?_
  have lp5 : ∀ (dd : Nat) (k_ : Nat) , k_ ≤ 12 → 12 - k_ < dd → Wm l G cX11_pairsPartedBy 5 RX11 ((some .long)) (rmk 1 0 0) (fun _ => True) (QfM G (qL (fun r_ σ => r_ = orL (exS R b_ 12) 45 ∧ σ = (A, S, Z, B, T, V, J, Y, P))) 0 0) 5 [(0, .ref (gK G 0 0)), (1, .int b_), (2, .long (orL (exS R b_ k_) 45)), (4, .int (nI (k_)))] [] (A, S, Z, B, T, V, J, Y, P) 0 0 := by
    intro dd
    induction dd with
    | zero => intro k_  hk_ hdd; exact absurd hdd (Nat.not_lt_zero _)
    | succ dd ih5 =>
      intro k_  hk_ hdd5
      refine m_iload 3 rfl dX11_pairsPartedBy_5 ?_
      refine m_bipush (12) dX11_pairsPartedBy_7 rfl ?_
      refine m_icmpn_ge k_ 12 37 (by omega) (by decide) dX11_pairsPartedBy_9 (by decide) (fun c1_ => ?_) (fun c1_ => ?_)
      ·
        refine m_lload_n 2 rfl rfl dX11_pairsPartedBy_37 ?_
        exact m_lret dX11_pairsPartedBy_38 (Nat.le_refl _) (Nat.le_refl _) ((by obtain rfl : k_ = 12 := (by omega); exact ⟨rfl, rfl⟩))
      ·
        refine m_iload_n 1 rfl rfl dX11_pairsPartedBy_12 ?_
        refine m_iload 3 rfl dX11_pairsPartedBy_13 ?_
        refine m_callSi cs_X11_331 [.int b_, .int (nI (k_))] [] (k_among l G b_ (nI (k_))) rfl rfl ⟨Nat.le_of_ble_eq_true rfl, Nat.le_of_ble_eq_true rfl⟩ (Nat.le_of_ble_eq_true rfl) ⟨Nat.zero_le _, Nat.zero_le _⟩ dX11_pairsPartedBy_15 (fun xx σ2 hq => ?_)
        obtain ⟨rfl, rfl⟩ := hq
        refine m_ifeq_b 31 dX11_pairsPartedBy_18 (by decide) (fun c2_ => ?_) (fun c2_ => ?_)
        ·
          refine m_iinc (nI (k_ + 1)) 3 [(4, .int (nI (k_ + 1))), (0, .ref (gK G 0 0)), (1, .int b_), (2, .long (orL (exS R b_ k_) 45))] rfl (nI_1 _) (by decide) rfl dX11_pairsPartedBy_31 ?_
          refine m_goto 5 dX11_pairsPartedBy_34 (by decide) ?_
          refine m_lv [(0, .ref (gK G 0 0)), (1, .int b_), (2, .long (orL (exS R b_ k_) 45)), (4, .int (nI (k_ + 1)))] [1, 2, 3, 0] rfl ?_
          rw [show orL (exS R b_ k_) 45 = orL (exS R b_ (k_ + 1)) 45 from exS_f c2_]
          exact ih5 (k_ + 1)  (by omega) (by omega)
        ·
          refine m_lload_n 2 rfl rfl dX11_pairsPartedBy_21 ?_
          refine m_aload_n 0 rfl rfl dX11_pairsPartedBy_22 ?_
          refine gf_X11_51 dX11_pairsPartedBy_23 ?_
          refine m_iload 3 rfl dX11_pairsPartedBy_26 ?_
          refine al_36 k_ rfl (by omega) dX11_pairsPartedBy_28 ?_
          refine m_topl (hJ k_ (by omega) c2_) ?_
          refine m_lor dX11_pairsPartedBy_29 ?_
          refine m_lstore_n [(2, .long ((orL (exS R b_ k_) 45) ||| (orL (R k_) 45))), (0, .ref (gK G 0 0)), (1, .int b_), (4, .int (nI (k_)))] rfl (by decide) rfl dX11_pairsPartedBy_30 ?_
          refine m_iinc (nI (k_ + 1)) 3 [(4, .int (nI (k_ + 1))), (2, .long ((orL (exS R b_ k_) 45) ||| (orL (R k_) 45))), (0, .ref (gK G 0 0)), (1, .int b_)] rfl (nI_1 _) (by decide) rfl dX11_pairsPartedBy_31 ?_
          refine m_goto 5 dX11_pairsPartedBy_34 (by decide) ?_
          refine m_lv [(0, .ref (gK G 0 0)), (1, .int b_), (2, .long ((orL (exS R b_ k_) 45) ||| (orL (R k_) 45))), (4, .int (nI (k_ + 1)))] [2, 3, 1, 0] rfl ?_
          rw [show orL (exS R b_ k_) 45 ||| orL (R k_) 45 = orL (exS R b_ (k_ + 1)) 45 from exS_t c2_]
          exact ih5 (k_ + 1)  (by omega) (by omega)
  refine m_lv [(0, .ref (gK G 0 0)), (1, .int b_), (2, .long (orL (exS R b_ 0) 45)), (4, .int 0)] [2, 3, 1, 0] rfl ?_
  exact lp5 ((12 - 0) + 1) 0  (by omega) (Nat.lt_succ_self _)
