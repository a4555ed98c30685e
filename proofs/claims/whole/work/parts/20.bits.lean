/-! bits -/
def orN (p : Nat → Bool) : Nat → Nat
  | 0 => 0
  | n + 1 => orN p n + (if p n then 2 ^ n else 0)
theorem orN_lt (p : Nat → Bool) : ∀ n, orN p n < 2 ^ n
  | 0 => Nat.zero_lt_one
  | n + 1 => by
    have h1 := orN_lt p n
    show orN p n + (if p n then 2 ^ n else 0) < 2 ^ (n + 1)
    rw [Nat.pow_succ]
    split <;> omega
theorem shl1 {n : Nat} (h : n ≤ 12) : (1 : Int32) <<< (nI n &&& 31) = nI (2 ^ n) := by
  have h2 : n = 0 ∨ n = 1 ∨ n = 2 ∨ n = 3 ∨ n = 4 ∨ n = 5 ∨ n = 6 ∨ n = 7 ∨ n = 8 ∨ n = 9 ∨ n = 10 ∨ n = 11 ∨ n = 12 := by omega
  rcases h2 with rfl | rfl | rfl | rfl | rfl | rfl | rfl | rfl | rfl | rfl | rfl | rfl | rfl <;> decide
theorem or_add {m n : Nat} (h : m < 2 ^ n) (hn : n ≤ 12) : nI m ||| (1 : Int32) <<< (nI n &&& 31) = nI (m + 2 ^ n) := by
  rw [shl1 hn, Nat.add_comm]
  have h1 := Nat.two_pow_add_eq_or_of_lt h 1
  rw [Nat.mul_one] at h1
  rw [h1, Nat.or_comm]
  show Int32.ofNat m ||| Int32.ofNat (2 ^ n) = Int32.ofNat (m ||| 2 ^ n)
  apply Int32.toBitVec_inj.mp
  show BitVec.ofNat 32 m ||| BitVec.ofNat 32 (2 ^ n) = BitVec.ofNat 32 (m ||| 2 ^ n)
  apply BitVec.eq_of_toNat_eq
  rw [BitVec.toNat_or, BitVec.toNat_ofNat, BitVec.toNat_ofNat, BitVec.toNat_ofNat, Nat.or_mod_two_pow]
theorem orI_nat (p : Nat → Bool) : ∀ n, n ≤ 12 → orI p n = nI (orN p n)
  | 0, _ => rfl
  | n + 1, h => by
    show (if p n then orI p n ||| ((1 : Int32) <<< (nI n &&& 31)) else orI p n) = nI (orN p n + (if p n then 2 ^ n else 0))
    rw [orI_nat p n (by omega)]
    split
    · exact or_add (orN_lt p n) (by omega)
    · rfl
theorem shr_nat {m k : Nat} (hm : m < 2 ^ 31) (hk : k ≤ 12) : nI m >>> (nI k &&& 31) = nI (m / 2 ^ k) := by
  have h2 : k = 0 ∨ k = 1 ∨ k = 2 ∨ k = 3 ∨ k = 4 ∨ k = 5 ∨ k = 6 ∨ k = 7 ∨ k = 8 ∨ k = 9 ∨ k = 10 ∨ k = 11 ∨ k = 12 := by omega
  rcases h2 with rfl | rfl | rfl | rfl | rfl | rfl | rfl | rfl | rfl | rfl | rfl | rfl | rfl <;> exact pk_shrN hm _ _ (by decide)
theorem among_nat {m k : Nat} (hm : m < 2 ^ 31) (hk : k ≤ 12) : amongB (nI m) (nI k) = decide (m / 2 ^ k % 2 = 1) := by
  have h0 : m / 2 ^ k < 2 ^ 31 := Nat.lt_of_le_of_lt (Nat.div_le_self _ _) hm
  unfold amongB
  rw [shr_nat hm hk, pk_andN (m := 1) (by omega) 1 (by decide), Nat.pow_one, decide_eq_decide]
  exact nI_eq (a := m / 2 ^ k % 2) (b := 1) (by omega) (by decide)
theorem orN_bit (p : Nat → Bool) (k : Nat) : ∀ n, orN p n / 2 ^ k % 2 = 1 ↔ k < n ∧ p k = true
  | 0 => by
    show 0 / 2 ^ k % 2 = 1 ↔ _
    rw [Nat.zero_div]
    constructor
    · intro h; cases h
    · intro h; exact absurd h.1 (Nat.not_lt_zero k)
  | n + 1 => by
    have ih := orN_bit p k n
    have hl := orN_lt p n
    show (orN p n + (if p n then 2 ^ n else 0)) / 2 ^ k % 2 = 1 ↔ _
    rcases Nat.lt_trichotomy k n with q | q | q
    · obtain ⟨j, rfl⟩ : ∃ j, n = k + (j + 1) := ⟨n - k - 1, by omega⟩
      have e : (orN p (k + (j + 1)) + (if p (k + (j + 1)) then 2 ^ (k + (j + 1)) else 0)) / 2 ^ k % 2 = orN p (k + (j + 1)) / 2 ^ k % 2 := by
        split
        · rw [Nat.pow_add, Nat.add_mul_div_left _ _ (Nat.two_pow_pos k), Nat.pow_succ]
          omega
        · rfl
      rw [e, ih]
      constructor
      · intro h; exact ⟨by omega, h.2⟩
      · intro h; exact ⟨by omega, h.2⟩
    · subst q
      cases hp : p k with
      | true =>
        rw [if_pos rfl, Nat.add_div_right _ (Nat.two_pow_pos k), Nat.div_eq_of_lt hl]
        exact ⟨fun _ => ⟨by omega, rfl⟩, fun _ => rfl⟩
      | false =>
        rw [if_neg (by decide), Nat.add_zero, Nat.div_eq_of_lt hl]
        exact ⟨fun h => absurd h (by decide), fun h => absurd h.2 (by decide)⟩
    · have h2 : orN p n + (if p n then 2 ^ n else 0) < 2 ^ k := by
        have h3 : 2 ^ (n + 1) ≤ 2 ^ k := Nat.pow_le_pow_right (by decide) (by omega)
        rw [Nat.pow_succ] at h3
        split <;> omega
      rw [Nat.div_eq_of_lt h2]
      exact ⟨fun h => absurd h (by decide), fun h => absurd h.1 (by omega)⟩
theorem among_orI {p : Nat → Bool} {n k : Nat} (hn : n ≤ 12) (hk : k ≤ 12) : amongB (orI p n) (nI k) = (decide (k < n) && p k) := by
  have h1 := orN_lt p n
  have h2 : 2 ^ n ≤ 2 ^ 12 := Nat.pow_le_pow_right (by decide) hn
  have h3 : (2 : Nat) ^ 12 = 4096 := by decide
  rw [orI_nat p n hn, among_nat (by omega) hk, Bool.eq_iff_iff, decide_eq_true_iff, orN_bit, Bool.and_eq_true, decide_eq_true_iff]
theorem orN_0 {p : Nat → Bool} : ∀ {n}, orN p n = 0 ↔ ∀ k, k < n → p k = false
  | 0 => ⟨fun _ k h => absurd h (Nat.not_lt_zero k), fun _ => rfl⟩
  | n + 1 => by
    have hp := Nat.two_pow_pos n
    show orN p n + (if p n then 2 ^ n else 0) = 0 ↔ _
    constructor
    · intro h k hk
      cases hpn : p n with
      | true => rw [hpn, if_pos rfl] at h; omega
      | false =>
        rcases Nat.lt_or_ge k n with q | q
        · exact (orN_0.mp (by omega)) k q
        · obtain rfl : n = k := by omega
          exact hpn
    · intro h
      rw [h n (by omega), orN_0.mpr (fun k hk => h k (by omega))]
      rfl
theorem orI_0 {p : Nat → Bool} {n : Nat} (hn : n ≤ 12) : orI p n = 0 ↔ ∀ k, k < n → p k = false := by
  have h1 := orN_lt p n
  have h2 : 2 ^ n ≤ 2 ^ 12 := Nat.pow_le_pow_right (by decide) hn
  have h3 : (2 : Nat) ^ 12 = 4096 := by decide
  rw [orI_nat p n hn, ← orN_0]
  exact nI_eq (a := orN p n) (b := 0) (by omega) (by decide)
/-- bits of ways, as a number -/
theorem areW_nat {a : owK} {b : Int32} (ho : aOk a) : areW a b = true ↔ ∃ m : Nat, m < 2 ^ aN a ∧ b = nI m := by
  have h10 := ho.1
  have hp := Nat.two_pow_pos (aN a)
  have h2 : 2 ^ aN a ≤ 2 ^ 10 := Nat.pow_le_pow_right (by decide) h10
  have h3 : (2 : Nat) ^ 10 = 1024 := by decide
  have hm : (allI a).toBitVec.toNat = 2 ^ aN a - 1 := by
    unfold allI
    have h : aN a = 0 ∨ aN a = 1 ∨ aN a = 2 ∨ aN a = 3 ∨ aN a = 4 ∨ aN a = 5 ∨ aN a = 6 ∨ aN a = 7 ∨ aN a = 8 ∨ aN a = 9 ∨ aN a = 10 := by omega
    rcases h with h | h | h | h | h | h | h | h | h | h | h <;> rw [h] <;> decide
  have hk := pk_and b (aN a) hm
  unfold areW
  rw [decide_eq_true_iff]
  have hn : allI a ^^^ -1 = ~~~ allI a := by
    apply Int32.toBitVec_inj.mp
    show (allI a).toBitVec ^^^ BitVec.allOnes 32 = ~~~ (allI a).toBitVec
    exact BitVec.xor_allOnes
  rw [hn]
  have hsplit : b = (b &&& allI a) ||| (b &&& ~~~ allI a) := by
    apply Int32.toBitVec_inj.mp
    apply BitVec.eq_of_getLsbD_eq
    intro i _
    show b.toBitVec.getLsbD i = ((b.toBitVec &&& (allI a).toBitVec) ||| (b.toBitVec &&& ~~~ (allI a).toBitVec)).getLsbD i
    simp only [BitVec.getLsbD_or, BitVec.getLsbD_and, BitVec.getLsbD_not]
    cases b.toBitVec.getLsbD i <;> cases (allI a).toBitVec.getLsbD i <;> simp_all
  constructor
  · intro h
    refine ⟨b.toBitVec.toNat % 2 ^ aN a, Nat.mod_lt _ hp, ?_⟩
    rw [h] at hsplit
    rw [← hk]
    refine hsplit.trans ?_
    apply Int32.toBitVec_inj.mp
    show _ ||| (0 : BitVec 32) = _
    exact BitVec.or_zero
  · rintro ⟨m, h, rfl⟩
    have he : nI m &&& allI a = nI m := by rw [pk_andN (by omega) (aN a) hm, Nat.mod_eq_of_lt h]
    rw [← he]
    apply Int32.toBitVec_inj.mp
    apply BitVec.eq_of_getLsbD_eq
    intro i _
    show ((nI m).toBitVec &&& (allI a).toBitVec &&& ~~~ (allI a).toBitVec).getLsbD i = (0 : BitVec 32).getLsbD i
    simp only [BitVec.getLsbD_and, BitVec.getLsbD_not, BitVec.getLsbD_zero]
    cases (nI m).toBitVec.getLsbD i <;> cases (allI a).toBitVec.getLsbD i <;> simp
