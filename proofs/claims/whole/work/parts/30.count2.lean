theorem orL_nat (p : Nat → Bool) : ∀ n, n ≤ 45 → orL p n = lN (orN p n)
  | 0, _ => rfl
  | n + 1, h => by
    have hl := orN_lt p n
    show (if p n then orL p n ||| ((1 : Int64) <<< ((nI n).toInt64 &&& 63)) else orL p n) = lN (orN p n + (if p n then 2 ^ n else 0))
    rw [orL_nat p n (by omega)]
    split
    · rw [shlL n (by omega), Nat.add_comm]
      have h1 := Nat.two_pow_add_eq_or_of_lt hl 1
      rw [Nat.mul_one] at h1
      rw [h1, Nat.or_comm]
      apply Int64.toBitVec_inj.mp
      show BitVec.ofNat 64 (orN p n) ||| BitVec.ofNat 64 (2 ^ n) = BitVec.ofNat 64 (orN p n ||| 2 ^ n)
      apply BitVec.eq_of_toNat_eq
      rw [BitVec.toNat_or, BitVec.toNat_ofNat, BitVec.toNat_ofNat, BitVec.toNat_ofNat, Nat.or_mod_two_pow]
    · rfl
theorem orN_if (p : Nat → Bool) (n i : Nat) : orN p n / 2 ^ i % 2 = if i < n ∧ p i = true then 1 else 0 := by
  have h := orN_bit p i n
  split
  · next q => exact h.mpr q
  · next q =>
    have h2 : ¬ orN p n / 2 ^ i % 2 = 1 := fun z => q (h.mp z)
    omega
theorem smN_0 : ∀ n, smN (fun _ => 0) n = 0
  | 0 => rfl
  | n + 1 => smN_0 n
theorem psm_cnt (p : Nat → Bool) : psm 8 (orN p 45) = cntB p 45 := by
  rw [← psm_bits 8, show 8 * 8 = 45 + 19 from rfl, smN_add, cntB_sm (f := fun i => orN p 45 / 2 ^ i % 2) 45 (fun i hi => by rw [orN_if]; cases p i <;> simp [hi])]
  rw [smN_ext (g := fun _ => 0) 19 (fun i _ => by rw [orN_if, if_neg (fun q => absurd q.1 (by omega))]), smN_0, Nat.add_zero]
def ush (x y : Int32) : Int32 := (x.toUInt32 >>> (y.toUInt32 &&& Int32.toUInt32 31)).toInt32
def bi1 (x : Int32) : Int32 := x - (ush x 1 &&& 1431655765)
def bi2 (x : Int32) : Int32 := (x &&& 858993459) + (ush x 2 &&& 858993459)
def bi3 (x : Int32) : Int32 := (x + ush x 4) &&& 252645135
def bi4 (x : Int32) : Int32 := x + ush x 8
def bi5 (x : Int32) : Int32 := x + ush x 16
def bcN (n : Nat) : Nat := smN (fun i => n / 2 ^ i % 2) 10
theorem bi_ok : ∀ n, n < 1024 → bi5 (bi4 (bi3 (bi2 (bi1 (nI n))))) &&& 63 = nI (bcN n) := by decide +kernel
set_option maxRecDepth 100000 in
set_option maxHeartbeats 4000000 in
theorem k_bitI (l : Launch) (G : owG) {A S Z B T V : owF} {J : Nat → Nat → Int64} {Y : Nat → Nat → Nat → Option Nat} {P : Nat → Option owW} (n_ : Nat) (hn : n_ < 1024) : Ct l G yJ6_bitCount_0f7a4 cJ6_bitCount_0f7a4 1 ((some .int)) 0 0 0 [.int (nI (n_))] (A, S, Z, B, T, V, J, Y, P) (qI (fun r_ σ => r_ = nI (bcN n_) ∧ σ = (A, S, Z, B, T, V, J, Y, P))) := by
  refine ct_of (by decide +kernel) (Nat.le_of_ble_eq_true rfl) ?_
  show Wm l G cJ6_bitCount_0f7a4 1 RJ6 ((some .int)) (rmk 0 0 0) (fun _ => True) (QfM G (qI (fun r_ σ => r_ = nI (bcN n_) ∧ σ = (A, S, Z, B, T, V, J, Y, P))) 0 0) 0 [(0, .int (nI (n_)))] [] (A, S, Z, B, T, V, J, Y, P) 0 0
  refine m_iload_n 0 rfl rfl dJ6_bitCount_0f7a4_0 ?_
  refine m_iload_n 0 rfl rfl dJ6_bitCount_0f7a4_1 ?_
  refine m_iconst 1 dJ6_bitCount_0f7a4_2 rfl ?_
  refine m_iushr (v := ush (nI n_) 1) (rfl) dJ6_bitCount_0f7a4_3 ?_
  refine m_ldcw 1431655765 tw_690 dJ6_bitCount_0f7a4_4 ?_
  refine m_iand dJ6_bitCount_0f7a4_7 ?_
  refine m_isub dJ6_bitCount_0f7a4_8 ?_
  refine m_topi (rfl) ?_
  refine m_istore_n [(0, .int (bi1 (nI n_)))] rfl (by decide) rfl dJ6_bitCount_0f7a4_9 ?_
  refine m_iload_n 0 rfl rfl dJ6_bitCount_0f7a4_10 ?_
  refine m_ldcw 858993459 tw_691 dJ6_bitCount_0f7a4_11 ?_
  refine m_iand dJ6_bitCount_0f7a4_14 ?_
  refine m_iload_n 0 rfl rfl dJ6_bitCount_0f7a4_15 ?_
  refine m_iconst 2 dJ6_bitCount_0f7a4_16 rfl ?_
  refine m_iushr (v := ush (bi1 (nI n_)) 2) (rfl) dJ6_bitCount_0f7a4_17 ?_
  refine m_ldcw 858993459 tw_691 dJ6_bitCount_0f7a4_18 ?_
  refine m_iand dJ6_bitCount_0f7a4_21 ?_
  refine m_iadd dJ6_bitCount_0f7a4_22 ?_
  refine m_topi (rfl) ?_
  refine m_istore_n [(0, .int (bi2 (bi1 (nI n_))))] rfl (by decide) rfl dJ6_bitCount_0f7a4_23 ?_
  refine m_iload_n 0 rfl rfl dJ6_bitCount_0f7a4_24 ?_
  refine m_iload_n 0 rfl rfl dJ6_bitCount_0f7a4_25 ?_
  refine m_iconst 4 dJ6_bitCount_0f7a4_26 rfl ?_
  refine m_iushr (v := ush (bi2 (bi1 (nI n_))) 4) (rfl) dJ6_bitCount_0f7a4_27 ?_
  refine m_iadd dJ6_bitCount_0f7a4_28 ?_
  refine m_ldcw 252645135 tw_692 dJ6_bitCount_0f7a4_29 ?_
  refine m_iand dJ6_bitCount_0f7a4_32 ?_
  refine m_topi (rfl) ?_
  refine m_istore_n [(0, .int (bi3 (bi2 (bi1 (nI n_)))))] rfl (by decide) rfl dJ6_bitCount_0f7a4_33 ?_
  refine m_iload_n 0 rfl rfl dJ6_bitCount_0f7a4_34 ?_
  refine m_iload_n 0 rfl rfl dJ6_bitCount_0f7a4_35 ?_
  refine m_bipush (8) dJ6_bitCount_0f7a4_36 rfl ?_
  refine m_iushr (v := ush (bi3 (bi2 (bi1 (nI n_)))) 8) (rfl) dJ6_bitCount_0f7a4_38 ?_
  refine m_iadd dJ6_bitCount_0f7a4_39 ?_
  refine m_topi (rfl) ?_
  refine m_istore_n [(0, .int (bi4 (bi3 (bi2 (bi1 (nI n_))))))] rfl (by decide) rfl dJ6_bitCount_0f7a4_40 ?_
  refine m_iload_n 0 rfl rfl dJ6_bitCount_0f7a4_41 ?_
  refine m_iload_n 0 rfl rfl dJ6_bitCount_0f7a4_42 ?_
  refine m_bipush (16) dJ6_bitCount_0f7a4_43 rfl ?_
  refine m_iushr (v := ush (bi4 (bi3 (bi2 (bi1 (nI n_))))) 16) (rfl) dJ6_bitCount_0f7a4_45 ?_
  refine m_iadd dJ6_bitCount_0f7a4_46 ?_
  refine m_topi (rfl) ?_
  refine m_istore_n [(0, .int (bi5 (bi4 (bi3 (bi2 (bi1 (nI n_)))))))] rfl (by decide) rfl dJ6_bitCount_0f7a4_47 ?_
  refine m_iload_n 0 rfl rfl dJ6_bitCount_0f7a4_48 ?_
  refine m_bipush (63) dJ6_bitCount_0f7a4_49 rfl ?_
  refine m_iand dJ6_bitCount_0f7a4_51 ?_
  exact m_iret dJ6_bitCount_0f7a4_52 (Nat.le_refl _) (Nat.le_refl _) (⟨bi_ok n_ hn, rfl⟩)
