/-- the first subset of the fewest sums of which it holds -/
def feS (g : Nat → Bool) : Nat → Nat × Nat
  | 0 => (0, 13)
  | k + 1 => if bcN k < (feS g k).2 ∧ g k = true then (k, bcN k) else feS g k
theorem feS_y {g : Nat → Bool} {k : Nat} (h1 : bcN k < (feS g k).2) (h2 : g k = true) : feS g (k + 1) = (k, bcN k) := if_pos ⟨h1, h2⟩
theorem feS_n {g : Nat → Bool} {k : Nat} (h : ¬ (bcN k < (feS g k).2 ∧ g k = true)) : feS g (k + 1) = feS g k := if_neg h
theorem bcN_le (n : Nat) : bcN n ≤ 10 := Nat.le_trans (smN_bound (c := 1) (fun k _ => by omega)) (by decide)
theorem feS_le (g : Nat → Bool) : ∀ k, (feS g k).2 ≤ 13 ∧ (feS g k).1 ≤ k
  | 0 => ⟨Nat.le_refl _, Nat.le_refl _⟩
  | k + 1 => by
    have h := feS_le g k
    have h2 := bcN_le k
    show (if _ then _ else _ : Nat × Nat).2 ≤ 13 ∧ (if _ then _ else _ : Nat × Nat).1 ≤ k + 1
    split
    · exact ⟨by show bcN k ≤ 13; omega, by show k ≤ k + 1; omega⟩
    · exact ⟨h.1, by omega⟩
/-- a subset parts all that any does -/
def paB (R : Nat → Nat → Bool) (p : Nat → Bool) (k : Nat) : Bool := decide (orL (exS R (nI k) 12) 45 = orL p 45)
theorem bit_lt {k n s : Nat} (hk : k < 2 ^ n) (hn : n ≤ 12) (hs : s ≤ 12) (h : amongB (nI k) (nI s) = true) : s < n := by
  have h2 : 2 ^ n ≤ 2 ^ 12 := Nat.pow_le_pow_right (by decide) hn
  have h3 : (2 : Nat) ^ 12 = 4096 := by decide
  rw [among_nat (by omega) hs, decide_eq_true_iff] at h
  rcases Nat.lt_or_ge s n with q | q
  · exact q
  · have h4 : k < 2 ^ s := Nat.lt_of_lt_of_le hk (Nat.pow_le_pow_right (by decide) q)
    rw [Nat.div_eq_of_lt h4] at h
    cases h
theorem cmp0 {x y : Int64} : lg_cmp x y = 0 ↔ x = y := by
  unfold lg_cmp
  constructor
  · intro h
    split at h
    · cases h
    · split at h
      · assumption
      · cases h
  · intro h
    subst h
    simp
set_option maxRecDepth 100000 in
set_option maxHeartbeats 4000000 in
theorem k_fewest (l : Launch) (G : owG) {A S Z B T V : owF} {J : Nat → Nat → Int64} {Y : Nat → Nat → Nat → Option Nat} {P : Nat → Option owW} (n_ : Nat) (hn10 : n_ ≤ 10) (hs8 : S 0 0 8 = nI n_) (R : Nat → Nat → Bool) (p_ : Nat → Bool) (hjp : ∀ s_, s_ < n_ → J 36 s_ = orL (R s_) 45) : Ct l G yX11_fewestParting cX11_fewestParting 6 ((some .int)) 2 0 0 [.ref (gK G 0 0), .long (orL p_ 45)] (A, S, Z, B, T, V, J, Y, P) (qI (fun r_ σ => r_ = nI (feS (paB R p_) (2 ^ n_)).1 ∧ σ = (A, S, Z, B, T, V, J, Y, P))) := by
  refine ct_of (by decide +kernel) (Nat.le_of_ble_eq_true rfl) ?_
  have h2n : 2 ^ n_ ≤ 2 ^ 10 := Nat.pow_le_pow_right (by decide) hn10
  have h1k : (2 : Nat) ^ 10 = 1024 := by decide
  show Wm l G cX11_fewestParting 6 RX11 ((some .int)) (rmk 2 0 0) (fun _ => True) (QfM G (qI (fun r_ σ => r_ = nI (feS (paB R p_) (2 ^ n_)).1 ∧ σ = (A, S, Z, B, T, V, J, Y, P))) 0 0) 0 [(0, .ref (gK G 0 0)), (1, .long (orL p_ 45))] [] (A, S, Z, B, T, V, J, Y, P) 0 0
  refine m_iconst 0 dX11_fewestParting_0 rfl ?_
  refine m_istore_n [(3, .int 0), (0, .ref (gK G 0 0)), (1, .long (orL p_ 45))] rfl (by decide) rfl dX11_fewestParting_1 ?_
  refine m_bipush (13) dX11_fewestParting_2 rfl ?_
  refine m_istore [(4, .int 13), (3, .int 0), (0, .ref (gK G 0 0)), (1, .long (orL p_ 45))] (by decide) rfl dX11_fewestParting_4 ?_
  refine m_iconst 0 dX11_fewestParting_6 rfl ?_
  refine m_istore [(5, .int 0), (4, .int 13), (3, .int 0), (0, .ref (gK G 0 0)), (1, .long (orL p_ 45))] (by decide) rfl dX11_fewestParting_7 ?_
  have lp9 : ∀ (dd : Nat) (k_ : Nat) , k_ ≤ 2 ^ n_ → 2 ^ n_ - k_ < dd → Wm l G cX11_fewestParting 6 RX11 ((some .int)) (rmk 2 0 0) (fun _ => True) (QfM G (qI (fun r_ σ => r_ = nI (feS (paB R p_) (2 ^ n_)).1 ∧ σ = (A, S, Z, B, T, V, J, Y, P))) 0 0) 9 [(0, .ref (gK G 0 0)), (1, .long (orL p_ 45)), (3, .int (nI ((feS (paB R p_) k_).1))), (4, .int (nI ((feS (paB R p_) k_).2))), (5, .int (nI (k_)))] [] (A, S, Z, B, T, V, J, Y, P) 0 0 := by
    intro dd
    induction dd with
    | zero => intro k_  hk_ hdd; exact absurd hdd (Nat.not_lt_zero _)
    | succ dd ih9 =>
      intro k_  hk_ hdd9
      have hfe := feS_le (paB R p_) k_
      have hbc := bcN_le k_
      have hkd : k_ / 2 ^ n_ ≤ k_ := Nat.div_le_self _ _
      refine m_iload 4 rfl dX11_fewestParting_9 ?_
      refine m_sipush (1024) dX11_fewestParting_11 rfl ?_
      refine m_icmpn_ge k_ 1024 64 (by omega) (by decide) dX11_fewestParting_14 (by decide) (fun c1_ => ?_) (fun c1_ => ?_)
      ·
        refine m_iload_n 2 rfl rfl dX11_fewestParting_64 ?_
        exact m_iret dX11_fewestParting_65 (Nat.le_refl _) (Nat.le_refl _) ((by obtain rfl : k_ = 2 ^ n_ := (by omega); exact ⟨rfl, rfl⟩))
      ·
        refine m_iload 4 rfl dX11_fewestParting_17 ?_
        refine m_aload_n 0 rfl rfl dX11_fewestParting_19 ?_
        refine gf_X11_179 dX11_fewestParting_20 ?_
        refine m_topi hs8 ?_
        refine m_ishr dX11_fewestParting_23 ?_
        refine m_topi ((shr_nat (by omega) (by omega))) ?_
        refine m_ifn_ne (k_ / 2 ^ n_) 64 (by omega) dX11_fewestParting_24 (by decide) (fun c2_ => ?_) (fun c2_ => ?_)
        ·
          have hkn : 2 ^ n_ ≤ k_ := by rcases Nat.lt_or_ge k_ (2 ^ n_) with q_ | q_; exact absurd (Nat.div_eq_of_lt q_) (by omega); exact q_
          refine m_iload_n 2 rfl rfl dX11_fewestParting_64 ?_
          exact m_iret dX11_fewestParting_65 (Nat.le_refl _) (Nat.le_refl _) ((by obtain rfl : k_ = 2 ^ n_ := (by omega); exact ⟨rfl, rfl⟩))
        ·
          have hkn : k_ < 2 ^ n_ := by rcases Nat.lt_or_ge k_ (2 ^ n_) with q_ | q_; exact q_; exact absurd (Nat.div_pos q_ (Nat.two_pow_pos n_)) (by omega)
          refine m_iload 4 rfl dX11_fewestParting_27 ?_
          refine m_callSi cs_X11_190 [.int (nI (k_))] [] (k_bitI l G k_ (by omega)) rfl rfl ⟨Nat.le_of_ble_eq_true rfl, Nat.le_of_ble_eq_true rfl⟩ (Nat.le_of_ble_eq_true rfl) ⟨Nat.zero_le _, Nat.zero_le _⟩ dX11_fewestParting_29 (fun xx σ2 hq => ?_)
          obtain ⟨rfl, rfl⟩ := hq
          refine m_iload 3 rfl dX11_fewestParting_32 ?_
          refine m_icmpn_ge (bcN k_) ((feS (paB R p_) k_).2) 58 (by omega) (by omega) dX11_fewestParting_34 (by decide) (fun c3_ => ?_) (fun c3_ => ?_)
          ·
            refine m_iinc (nI (k_ + 1)) 4 [(5, .int (nI (k_ + 1))), (0, .ref (gK G 0 0)), (1, .long (orL p_ 45)), (3, .int (nI ((feS (paB R p_) k_).1))), (4, .int (nI ((feS (paB R p_) k_).2)))] rfl (nI_1 _) (by decide) rfl dX11_fewestParting_58 ?_
            refine m_goto 9 dX11_fewestParting_61 (by decide) ?_
            refine m_lv [(0, .ref (gK G 0 0)), (1, .long (orL p_ 45)), (3, .int (nI ((feS (paB R p_) k_).1))), (4, .int (nI ((feS (paB R p_) k_).2))), (5, .int (nI (k_ + 1)))] [1, 2, 3, 4, 0] rfl ?_
            have ihx := ih9 (k_ + 1)  (by omega) (by omega)
            rw [feS_n (fun q_ => absurd q_.1 (by omega))] at ihx
            exact ihx
          ·
            refine m_aload_n 0 rfl rfl dX11_fewestParting_37 ?_
            refine m_iload 4 rfl dX11_fewestParting_38 ?_
            refine m_callVl cv_X11_346 [.int (nI (k_))] [] (k_partedBy l G (nI (k_)) R (fun s_ hs_ hb => hjp s_ (bit_lt hkn (by omega) (by omega) hb))) (by decide) (ce_0 G _ _ _ _ _ _ _ _ _ _) rfl rfl rfl ⟨Nat.le_of_ble_eq_true rfl, Nat.le_of_ble_eq_true rfl⟩ (Nat.le_of_ble_eq_true rfl) ⟨Nat.zero_le _, Nat.zero_le _⟩ dX11_fewestParting_40 (fun xx σ2 hq => ?_)
            obtain ⟨rfl, rfl⟩ := hq
            refine m_lload_n 1 rfl rfl dX11_fewestParting_43 ?_
            refine m_lcmp dX11_fewestParting_44 ?_
            refine m_if_ne 58 dX11_fewestParting_45 (by decide) (fun c4_ => ?_) (fun c4_ => ?_)
            ·
              refine m_iinc (nI (k_ + 1)) 4 [(5, .int (nI (k_ + 1))), (0, .ref (gK G 0 0)), (1, .long (orL p_ 45)), (3, .int (nI ((feS (paB R p_) k_).1))), (4, .int (nI ((feS (paB R p_) k_).2)))] rfl (nI_1 _) (by decide) rfl dX11_fewestParting_58 ?_
              refine m_goto 9 dX11_fewestParting_61 (by decide) ?_
              refine m_lv [(0, .ref (gK G 0 0)), (1, .long (orL p_ 45)), (3, .int (nI ((feS (paB R p_) k_).1))), (4, .int (nI ((feS (paB R p_) k_).2))), (5, .int (nI (k_ + 1)))] [1, 2, 3, 4, 0] rfl ?_
              have ihx := ih9 (k_ + 1)  (by omega) (by omega)
              rw [feS_n (fun q_ => c4_ (cmp0.mpr (of_decide_eq_true q_.2)))] at ihx
              exact ihx
            ·
              refine m_iload 4 rfl dX11_fewestParting_48 ?_
              refine m_callSi cs_X11_190 [.int (nI (k_))] [] (k_bitI l G k_ (by omega)) rfl rfl ⟨Nat.le_of_ble_eq_true rfl, Nat.le_of_ble_eq_true rfl⟩ (Nat.le_of_ble_eq_true rfl) ⟨Nat.zero_le _, Nat.zero_le _⟩ dX11_fewestParting_50 (fun xx σ2 hq => ?_)
              obtain ⟨rfl, rfl⟩ := hq
              refine m_istore [(4, .int (nI (bcN k_))), (0, .ref (gK G 0 0)), (1, .long (orL p_ 45)), (3, .int (nI ((feS (paB R p_) k_).1))), (5, .int (nI (k_)))] (by decide) rfl dX11_fewestParting_53 ?_
              refine m_iload 4 rfl dX11_fewestParting_55 ?_
              refine m_istore_n [(3, .int (nI (k_))), (4, .int (nI (bcN k_))), (0, .ref (gK G 0 0)), (1, .long (orL p_ 45)), (5, .int (nI (k_)))] rfl (by decide) rfl dX11_fewestParting_57 ?_
              refine m_iinc (nI (k_ + 1)) 4 [(5, .int (nI (k_ + 1))), (3, .int (nI (k_))), (4, .int (nI (bcN k_))), (0, .ref (gK G 0 0)), (1, .long (orL p_ 45))] rfl (nI_1 _) (by decide) rfl dX11_fewestParting_58 ?_
              refine m_goto 9 dX11_fewestParting_61 (by decide) ?_
              refine m_lv [(0, .ref (gK G 0 0)), (1, .long (orL p_ 45)), (3, .int (nI (k_))), (4, .int (nI (bcN k_))), (5, .int (nI (k_ + 1)))] [3, 4, 1, 2, 0] rfl ?_
              have ihx := ih9 (k_ + 1)  (by omega) (by omega)
              rw [feS_y (by omega) (decide_eq_true (cmp0.mp c4_))] at ihx
              exact ihx
  refine m_lv [(0, .ref (gK G 0 0)), (1, .long (orL p_ 45)), (3, .int 0), (4, .int 13), (5, .int 0)] [3, 4, 2, 1, 0] rfl ?_
  exact lp9 ((2 ^ n_ - 0) + 1) 0  (Nat.zero_le _) (Nat.lt_succ_self _)
