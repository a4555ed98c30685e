/-! pairs of ways, a bit a pair -/
def orL (p : Nat → Bool) : Nat → Int64
  | 0 => 0
  | n + 1 => if p n then orL p n ||| ((1 : Int64) <<< ((nI n).toInt64 &&& 63)) else orL p n
theorem orL_t {p : Nat → Bool} {n : Nat} (h : p n = true) : orL p n ||| ((1 : Int64) <<< ((nI n).toInt64 &&& 63)) = orL p (n + 1) := by
  show _ = if p n then _ else _
  rw [if_pos h]
theorem orL_f {p : Nat → Bool} {n : Nat} (h : p n = false) : orL p n = orL p (n + 1) := by
  show _ = if p n then _ else _
  rw [if_neg (by rw [h]; decide)]
theorem shlL : ∀ n, n < 46 → (1 : Int64) <<< ((nI n).toInt64 &&& 63) = Int64.ofNat (2 ^ n) := by decide +kernel
theorem orL_bit (p : Nat → Bool) (i : Nat) : ∀ n, n ≤ 45 → (orL p n).toBitVec.getLsbD i = (decide (i < n) && p i)
  | 0, _ => by
    show (0#64).getLsbD i = _
    rw [BitVec.getLsbD_zero, decide_eq_false (Nat.not_lt_zero i), Bool.false_and]
  | n + 1, h => by
    have ih := orL_bit p i n (by omega)
    show (if p n then orL p n ||| ((1 : Int64) <<< ((nI n).toInt64 &&& 63)) else orL p n).toBitVec.getLsbD i = _
    cases hp : p n with
    | false =>
      rw [if_neg (by decide), ih]
      rcases Nat.lt_trichotomy i n with q | q | q
      · rw [decide_eq_true q, decide_eq_true (show i < n + 1 by omega)]
      · rw [q, hp, Bool.and_false, Bool.and_false]
      · rw [decide_eq_false (show ¬ i < n by omega), decide_eq_false (show ¬ i < n + 1 by omega)]
    | true =>
      rw [if_pos rfl, shlL n (by omega)]
      show ((orL p n).toBitVec ||| BitVec.ofNat 64 (2 ^ n)).getLsbD i = _
      rw [BitVec.getLsbD_or, ih, BitVec.getLsbD_ofNat, Nat.testBit_two_pow]
      rcases Nat.lt_trichotomy i n with q | q | q
      · rw [decide_eq_true q, decide_eq_true (show i < n + 1 by omega), decide_eq_false (show ¬ n = i by omega), Bool.and_false, Bool.or_false]
      · rw [q, hp, decide_eq_true (show n < 64 by omega), decide_eq_true (show n < n + 1 by omega), decide_eq_true (rfl : n = n), Bool.and_true, Bool.and_true, Bool.or_true]
      · rw [decide_eq_false (show ¬ i < n by omega), decide_eq_false (show ¬ i < n + 1 by omega), decide_eq_false (show ¬ n = i by omega), Bool.and_false, Bool.or_false, Bool.false_and]
theorem orL_eq {p q : Nat → Bool} {n : Nat} (h : n ≤ 45) : orL p n = orL q n ↔ ∀ j, j < n → p j = q j := by
  constructor
  · intro e j hj
    have h1 := orL_bit p j n h
    rw [e, orL_bit q j n h, decide_eq_true hj, Bool.true_and, Bool.true_and] at h1
    exact h1.symm
  · intro e
    apply Int64.toBitVec_inj.mp
    apply BitVec.eq_of_getLsbD_eq
    intro i _
    rw [orL_bit p i n h, orL_bit q i n h]
    rcases Nat.lt_or_ge i n with z | z
    · rw [e i z]
    · rw [decide_eq_false (show ¬ i < n by omega), Bool.false_and, Bool.false_and]
theorem orL_or {p q : Nat → Bool} {n : Nat} (h : n ≤ 45) : orL p n ||| orL q n = orL (fun j => p j || q j) n := by
  apply Int64.toBitVec_inj.mp
  apply BitVec.eq_of_getLsbD_eq
  intro i _
  show ((orL p n).toBitVec ||| (orL q n).toBitVec).getLsbD i = _
  rw [BitVec.getLsbD_or, orL_bit p i n h, orL_bit q i n h, orL_bit _ i n h]
  cases decide (i < n) <;> rfl
theorem orL_00 : ∀ n, orL (fun _ => false) n = 0
  | 0 => rfl
  | n + 1 => by
    show (if false = true then _ else orL (fun _ => false) n) = 0
    rw [if_neg (by decide), orL_00 n]
def ofs (u : Nat) : Nat := u * (19 - u) / 2
def prV (j : Nat) : Nat := if j < 9 then 0 else if j < 17 then 1 else if j < 24 then 2 else if j < 30 then 3 else if j < 35 then 4 else if j < 39 then 5 else if j < 42 then 6 else if j < 44 then 7 else 8
def prW (j : Nat) : Nat := prV j + 1 + (j - ofs (prV j))
theorem prVW : ∀ u, u < 9 → ∀ t, t < 9 → u + t < 9 → prV (ofs u + t) = u ∧ prW (ofs u + t) = u + 1 + t := by decide +kernel
theorem ofs_s0 : ∀ u, u < 10 → ofs u + (9 - u) = ofs (u + 1) := by decide +kernel
theorem ofs_s {u t : Nat} (h : u + t = 9) : ofs u + t = ofs (u + 1) := by
  rw [show t = 9 - u by omega]
  exact ofs_s0 u (by omega)
theorem prjj : ∀ j, j < 45 → prV j < prW j ∧ prW j < 10 ∧ ofs (prV j) + (prW j - prV j - 1) = j := by decide +kernel
def prP (q : Nat → Nat → Bool) (j : Nat) : Bool := q (prV j) (prW j)
theorem prP_e {q : Nat → Nat → Bool} {u t : Nat} (h : u + t < 9) : prP q (ofs u + t) = q u (u + 1 + t) := by
  have h2 := prVW u (by omega) t (by omega) h
  unfold prP
  rw [h2.1, h2.2]
theorem ofs_le : ∀ u, u < 11 → ofs u ≤ 45 := by decide +kernel
/-- unlike, of two told ways -/
def unB (b : Int32) (f : Nat → Int32) (v w : Nat) : Bool := amongB b (nI v) && (amongB b (nI w) && decide (f v ≠ f w))
set_option maxRecDepth 100000 in
set_option maxHeartbeats 4000000 in
theorem k_unlikeP (l : Launch) (G : owG) {A S Z B T V : owF} {J : Nat → Nat → Int64} {Y : Nat → Nat → Nat → Option Nat} {P : Nat → Option owW} (b_ : Int32) (f_ : Nat → Int32) (hby : ∀ w_, w_ < 10 → S 34 0 w_ = f_ w_) : Ct l G yX11_pairsUnlike cX11_pairsUnlike 7 ((some .long)) 1 0 0 [.ref (gK G 0 0), .int b_] (A, S, Z, B, T, V, J, Y, P) (qL (fun r_ σ => r_ = orL (prP (unB b_ f_)) 45 ∧ σ = (A, S, Z, B, T, V, J, Y, P))) := by
  refine ct_of (by decide +kernel) (Nat.le_of_ble_eq_true rfl) ?_
  show Wm l G cX11_pairsUnlike 7 RX11 ((some .long)) (rmk 1 0 0) (fun _ => True) (QfM G (qL (fun r_ σ => r_ = orL (prP (unB b_ f_)) 45 ∧ σ = (A, S, Z, B, T, V, J, Y, P))) 0 0) 0 [(0, .ref (gK G 0 0)), (1, .int b_)] [] (A, S, Z, B, T, V, J, Y, P) 0 0
  refine m_lconst 0 dX11_pairsUnlike_0 rfl ?_
  refine m_lstore_n [(2, .long (0)), (0, .ref (gK G 0 0)), (1, .int b_)] rfl (by decide) rfl dX11_pairsUnlike_1 ?_
  refine m_iconst 0 dX11_pairsUnlike_2 rfl ?_
  refine m_istore [(4, .int 0), (2, .long (0)), (0, .ref (gK G 0 0)), (1, .int b_)] (by decide) rfl dX11_pairsUnlike_3 ?_
  refine m_iconst 0 dX11_pairsUnlike_5 rfl ?_
  refine m_istore [(5, .int 0), (4, .int 0), (2, .long (0)), (0, .ref (gK G 0 0)), (1, .int b_)] (by decide) rfl dX11_pairsUnlike_6 ?_
  have lp8 : ∀ (dd : Nat) (u_ : Nat) , u_ ≤ 10 → 10 - u_ < dd → Wm l G cX11_pairsUnlike 7 RX11 ((some .long)) (rmk 1 0 0) (fun _ => True) (QfM G (qL (fun r_ σ => r_ = orL (prP (unB b_ f_)) 45 ∧ σ = (A, S, Z, B, T, V, J, Y, P))) 0 0) 8 [(0, .ref (gK G 0 0)), (1, .int b_), (2, .long (orL (prP (unB b_ f_)) (ofs u_))), (4, .int (nI (ofs u_))), (5, .int (nI (u_)))] [] (A, S, Z, B, T, V, J, Y, P) 0 0 := by
    intro dd
    induction dd with
    | zero => intro u_  hu hdd; exact absurd hdd (Nat.not_lt_zero _)
    | succ dd ih8 =>
      intro u_  hu hdd8
      have hof := ofs_le u_ (by omega)
      refine m_iload 4 rfl dX11_pairsUnlike_8 ?_
      refine m_bipush (10) dX11_pairsUnlike_10 rfl ?_
      refine m_icmpn_ge u_ 10 89 (by omega) (by decide) dX11_pairsUnlike_12 (by decide) (fun c1_ => ?_) (fun c1_ => ?_)
      ·
        refine m_lload_n 2 rfl rfl dX11_pairsUnlike_89 ?_
        exact m_lret dX11_pairsUnlike_90 (Nat.le_refl _) (Nat.le_refl _) ((by obtain rfl : u_ = 10 := (by omega); exact ⟨rfl, rfl⟩))
      ·
        refine m_iload 4 rfl dX11_pairsUnlike_15 ?_
        refine m_iconst 1 dX11_pairsUnlike_17 rfl ?_
        refine m_iadd dX11_pairsUnlike_18 ?_
        refine m_topi (show (nI (u_)) + 1 = nI (u_ + 1) from nI_add _ _) ?_
        refine m_istore [(6, .int (nI (u_ + 1))), (0, .ref (gK G 0 0)), (1, .int b_), (2, .long (orL (prP (unB b_ f_)) (ofs u_))), (4, .int (nI (ofs u_))), (5, .int (nI (u_)))] (by decide) rfl dX11_pairsUnlike_19 ?_
        have lp21 : ∀ (dd : Nat) (t_ : Nat) , u_ + t_ ≤ 9 → 10 - t_ < dd → Wm l G cX11_pairsUnlike 7 RX11 ((some .long)) (rmk 1 0 0) (fun _ => True) (QfM G (qL (fun r_ σ => r_ = orL (prP (unB b_ f_)) 45 ∧ σ = (A, S, Z, B, T, V, J, Y, P))) 0 0) 21 [(0, .ref (gK G 0 0)), (1, .int b_), (2, .long (orL (prP (unB b_ f_)) (ofs u_ + t_))), (4, .int (nI (ofs u_ + t_))), (5, .int (nI (u_))), (6, .int (nI (u_ + 1 + t_)))] [] (A, S, Z, B, T, V, J, Y, P) 0 0 := by
          intro dd
          induction dd with
          | zero => intro t_  ht hdd; exact absurd hdd (Nat.not_lt_zero _)
          | succ dd ih21 =>
            intro t_  ht hdd21
            refine m_iload 5 rfl dX11_pairsUnlike_21 ?_
            refine m_bipush (10) dX11_pairsUnlike_23 rfl ?_
            refine m_icmpn_ge (u_ + 1 + t_) 10 83 (by omega) (by decide) dX11_pairsUnlike_25 (by decide) (fun c2_ => ?_) (fun c2_ => ?_)
            ·
              refine m_iinc (nI (u_ + 1)) 4 [(5, .int (nI (u_ + 1))), (0, .ref (gK G 0 0)), (1, .int b_), (2, .long (orL (prP (unB b_ f_)) (ofs u_ + t_))), (4, .int (nI (ofs u_ + t_))), (6, .int (nI (u_ + 1 + t_)))] rfl (nI_1 _) (by decide) rfl dX11_pairsUnlike_83 ?_
              refine m_goto 8 dX11_pairsUnlike_86 (by decide) ?_
              refine m_lv [(0, .ref (gK G 0 0)), (1, .int b_), (2, .long (orL (prP (unB b_ f_)) (ofs u_ + t_))), (4, .int (nI (ofs u_ + t_))), (5, .int (nI (u_ + 1)))] [1, 2, 3, 4, 0] rfl ?_
              rw [ofs_s (u := u_) (t := t_) (by omega)]
              exact ih8 (u_ + 1)  (by omega) (by omega)
            ·
              refine m_iload_n 1 rfl rfl dX11_pairsUnlike_28 ?_
              refine m_iload 4 rfl dX11_pairsUnlike_29 ?_
              refine m_callSi cs_X11_331 [.int b_, .int (nI (u_))] [] (k_among l G b_ (nI (u_))) rfl rfl ⟨Nat.le_of_ble_eq_true rfl, Nat.le_of_ble_eq_true rfl⟩ (Nat.le_of_ble_eq_true rfl) ⟨Nat.zero_le _, Nat.zero_le _⟩ dX11_pairsUnlike_31 (fun xx σ2 hq => ?_)
              obtain ⟨rfl, rfl⟩ := hq
              refine m_ifeq_b 74 dX11_pairsUnlike_34 (by decide) (fun c3_ => ?_) (fun c3_ => ?_)
              ·
                refine m_iinc (nI (ofs u_ + t_ + 1)) 3 [(4, .int (nI (ofs u_ + t_ + 1))), (0, .ref (gK G 0 0)), (1, .int b_), (2, .long (orL (prP (unB b_ f_)) (ofs u_ + t_))), (5, .int (nI (u_))), (6, .int (nI (u_ + 1 + t_)))] rfl (nI_1 _) (by decide) rfl dX11_pairsUnlike_74 ?_
                refine m_iinc (nI (u_ + 1 + t_ + 1)) 5 [(6, .int (nI (u_ + 1 + t_ + 1))), (4, .int (nI (ofs u_ + t_ + 1))), (0, .ref (gK G 0 0)), (1, .int b_), (2, .long (orL (prP (unB b_ f_)) (ofs u_ + t_))), (5, .int (nI (u_)))] rfl (nI_1 _) (by decide) rfl dX11_pairsUnlike_77 ?_
                refine m_goto 21 dX11_pairsUnlike_80 (by decide) ?_
                refine m_lv [(0, .ref (gK G 0 0)), (1, .int b_), (2, .long (orL (prP (unB b_ f_)) (ofs u_ + t_))), (4, .int (nI (ofs u_ + t_ + 1))), (5, .int (nI (u_))), (6, .int (nI (u_ + 1 + t_ + 1)))] [2, 3, 4, 1, 5, 0] rfl ?_
                rw [orL_f (p := (prP (unB b_ f_))) (n := ofs u_ + t_) (by rw [prP_e (by omega)]; simp [unB, c3_])]
                exact ih21 (t_ + 1)  (by omega) (by omega)
              ·
                refine m_iload_n 1 rfl rfl dX11_pairsUnlike_37 ?_
                refine m_iload 5 rfl dX11_pairsUnlike_38 ?_
                refine m_callSi cs_X11_331 [.int b_, .int (nI (u_ + 1 + t_))] [] (k_among l G b_ (nI (u_ + 1 + t_))) rfl rfl ⟨Nat.le_of_ble_eq_true rfl, Nat.le_of_ble_eq_true rfl⟩ (Nat.le_of_ble_eq_true rfl) ⟨Nat.zero_le _, Nat.zero_le _⟩ dX11_pairsUnlike_40 (fun xx σ2 hq => ?_)
                obtain ⟨rfl, rfl⟩ := hq
                refine m_ifeq_b 74 dX11_pairsUnlike_43 (by decide) (fun c4_ => ?_) (fun c4_ => ?_)
                ·
                  refine m_iinc (nI (ofs u_ + t_ + 1)) 3 [(4, .int (nI (ofs u_ + t_ + 1))), (0, .ref (gK G 0 0)), (1, .int b_), (2, .long (orL (prP (unB b_ f_)) (ofs u_ + t_))), (5, .int (nI (u_))), (6, .int (nI (u_ + 1 + t_)))] rfl (nI_1 _) (by decide) rfl dX11_pairsUnlike_74 ?_
                  refine m_iinc (nI (u_ + 1 + t_ + 1)) 5 [(6, .int (nI (u_ + 1 + t_ + 1))), (4, .int (nI (ofs u_ + t_ + 1))), (0, .ref (gK G 0 0)), (1, .int b_), (2, .long (orL (prP (unB b_ f_)) (ofs u_ + t_))), (5, .int (nI (u_)))] rfl (nI_1 _) (by decide) rfl dX11_pairsUnlike_77 ?_
                  refine m_goto 21 dX11_pairsUnlike_80 (by decide) ?_
                  refine m_lv [(0, .ref (gK G 0 0)), (1, .int b_), (2, .long (orL (prP (unB b_ f_)) (ofs u_ + t_))), (4, .int (nI (ofs u_ + t_ + 1))), (5, .int (nI (u_))), (6, .int (nI (u_ + 1 + t_ + 1)))] [2, 3, 4, 1, 5, 0] rfl ?_
                  rw [orL_f (p := (prP (unB b_ f_))) (n := ofs u_ + t_) (by rw [prP_e (by omega)]; simp [unB, c4_])]
                  exact ih21 (t_ + 1)  (by omega) (by omega)
                ·
                  refine m_aload_n 0 rfl rfl dX11_pairsUnlike_46 ?_
                  refine gf_X11_48 dX11_pairsUnlike_47 ?_
                  refine m_iload 4 rfl dX11_pairsUnlike_50 ?_
                  refine m_callSi cs_X11_102 [.ref (gK G 34 0), .int (nI (u_))] [] (k_at (t := 34) (n := 10) l G (by decide) (ce_34 G _ _ _ _ _ _ _ _ _ 0) (by decide) (nI (u_))) rfl rfl ⟨Nat.le_of_ble_eq_true rfl, Nat.le_of_ble_eq_true rfl⟩ (Nat.le_of_ble_eq_true rfl) ⟨Nat.zero_le _, Nat.zero_le _⟩ dX11_pairsUnlike_52 (fun xx σ2 hq => ?_)
                  obtain rfl : xx = S 34 0 u_ := hq.1.trans (atV_in (by omega) (by decide))
                  obtain rfl := hq.2
                  refine m_topi (hby u_ (by omega)) ?_
                  refine m_aload_n 0 rfl rfl dX11_pairsUnlike_55 ?_
                  refine gf_X11_48 dX11_pairsUnlike_56 ?_
                  refine m_iload 5 rfl dX11_pairsUnlike_59 ?_
                  refine m_callSi cs_X11_102 [.ref (gK G 34 0), .int (nI (u_ + 1 + t_))] [.int (f_ u_)] (k_at (t := 34) (n := 10) l G (by decide) (ce_34 G _ _ _ _ _ _ _ _ _ 0) (by decide) (nI (u_ + 1 + t_))) rfl rfl ⟨Nat.le_of_ble_eq_true rfl, Nat.le_of_ble_eq_true rfl⟩ (Nat.le_of_ble_eq_true rfl) ⟨Nat.zero_le _, Nat.zero_le _⟩ dX11_pairsUnlike_61 (fun xx σ2 hq => ?_)
                  obtain rfl : xx = S 34 0 (u_ + 1 + t_) := hq.1.trans (atV_in (by omega) (by decide))
                  obtain rfl := hq.2
                  refine m_topi (hby (u_ + 1 + t_) (by omega)) ?_
                  refine m_icmp_eq 74 dX11_pairsUnlike_64 (by decide) (fun c7_ => ?_) (fun c7_ => ?_)
                  ·
                    refine m_iinc (nI (ofs u_ + t_ + 1)) 3 [(4, .int (nI (ofs u_ + t_ + 1))), (0, .ref (gK G 0 0)), (1, .int b_), (2, .long (orL (prP (unB b_ f_)) (ofs u_ + t_))), (5, .int (nI (u_))), (6, .int (nI (u_ + 1 + t_)))] rfl (nI_1 _) (by decide) rfl dX11_pairsUnlike_74 ?_
                    refine m_iinc (nI (u_ + 1 + t_ + 1)) 5 [(6, .int (nI (u_ + 1 + t_ + 1))), (4, .int (nI (ofs u_ + t_ + 1))), (0, .ref (gK G 0 0)), (1, .int b_), (2, .long (orL (prP (unB b_ f_)) (ofs u_ + t_))), (5, .int (nI (u_)))] rfl (nI_1 _) (by decide) rfl dX11_pairsUnlike_77 ?_
                    refine m_goto 21 dX11_pairsUnlike_80 (by decide) ?_
                    refine m_lv [(0, .ref (gK G 0 0)), (1, .int b_), (2, .long (orL (prP (unB b_ f_)) (ofs u_ + t_))), (4, .int (nI (ofs u_ + t_ + 1))), (5, .int (nI (u_))), (6, .int (nI (u_ + 1 + t_ + 1)))] [2, 3, 4, 1, 5, 0] rfl ?_
                    rw [orL_f (p := (prP (unB b_ f_))) (n := ofs u_ + t_) (by rw [prP_e (by omega)]; simp [unB, c7_])]
                    exact ih21 (t_ + 1)  (by omega) (by omega)
                  ·
                    refine m_lload_n 2 rfl rfl dX11_pairsUnlike_67 ?_
                    refine m_lconst 1 dX11_pairsUnlike_68 rfl ?_
                    refine m_iload 3 rfl dX11_pairsUnlike_69 ?_
                    refine m_lshl dX11_pairsUnlike_71 ?_
                    refine m_lor dX11_pairsUnlike_72 ?_
                    refine m_lstore_n [(2, .long ((orL (prP (unB b_ f_)) (ofs u_ + t_)) ||| (1 <<< ((nI (ofs u_ + t_)).toInt64 &&& 63)))), (0, .ref (gK G 0 0)), (1, .int b_), (4, .int (nI (ofs u_ + t_))), (5, .int (nI (u_))), (6, .int (nI (u_ + 1 + t_)))] rfl (by decide) rfl dX11_pairsUnlike_73 ?_
                    refine m_iinc (nI (ofs u_ + t_ + 1)) 3 [(4, .int (nI (ofs u_ + t_ + 1))), (2, .long ((orL (prP (unB b_ f_)) (ofs u_ + t_)) ||| (1 <<< ((nI (ofs u_ + t_)).toInt64 &&& 63)))), (0, .ref (gK G 0 0)), (1, .int b_), (5, .int (nI (u_))), (6, .int (nI (u_ + 1 + t_)))] rfl (nI_1 _) (by decide) rfl dX11_pairsUnlike_74 ?_
                    refine m_iinc (nI (u_ + 1 + t_ + 1)) 5 [(6, .int (nI (u_ + 1 + t_ + 1))), (4, .int (nI (ofs u_ + t_ + 1))), (2, .long ((orL (prP (unB b_ f_)) (ofs u_ + t_)) ||| (1 <<< ((nI (ofs u_ + t_)).toInt64 &&& 63)))), (0, .ref (gK G 0 0)), (1, .int b_), (5, .int (nI (u_)))] rfl (nI_1 _) (by decide) rfl dX11_pairsUnlike_77 ?_
                    refine m_goto 21 dX11_pairsUnlike_80 (by decide) ?_
                    refine m_lv [(0, .ref (gK G 0 0)), (1, .int b_), (2, .long ((orL (prP (unB b_ f_)) (ofs u_ + t_)) ||| (1 <<< ((nI (ofs u_ + t_)).toInt64 &&& 63)))), (4, .int (nI (ofs u_ + t_ + 1))), (5, .int (nI (u_))), (6, .int (nI (u_ + 1 + t_ + 1)))] [3, 4, 2, 1, 5, 0] rfl ?_
                    rw [orL_t (p := (prP (unB b_ f_))) (n := ofs u_ + t_) (by rw [prP_e (by omega)]; simp [unB, c3_, c4_, c7_])]
                    exact ih21 (t_ + 1)  (by omega) (by omega)
        refine m_lv [(0, .ref (gK G 0 0)), (1, .int b_), (2, .long (orL (prP (unB b_ f_)) (ofs u_))), (4, .int (nI (ofs u_))), (5, .int (nI (u_))), (6, .int (nI (u_ + 1)))] [1, 2, 3, 4, 5, 0] rfl ?_
        exact lp21 ((10 - 0) + 1) 0  (by omega) (Nat.lt_succ_self _)
  refine m_lv [(0, .ref (gK G 0 0)), (1, .int b_), (2, .long (0)), (4, .int 0), (5, .int 0)] [3, 4, 2, 1, 0] rfl ?_
  exact lp8 ((10 - 0) + 1) 0  (by omega) (Nat.lt_succ_self _)
