def isSumB (a b : Int32) : Bool := decide (0 ≤ b ∧ b ≤ a ∧ a ≤ 9999)
def is01 (a : Int32) : Bool := decide (a = 0 ∨ a = 1)
def isAnsB (a : Int32) : Bool := decide (0 ≤ a ∧ a ≤ 9999)
def amongB (w : Int32) (i : Int32) : Bool := decide (w >>> (i &&& 31) &&& 1 = 1)
theorem sumNat {a b : Int32} (h : isSumB a b = true) : ∃ x y : Nat, a = nI x ∧ b = nI y ∧ y ≤ x ∧ x ≤ 9999 := by
  have h0 := of_decide_eq_true h
  obtain ⟨x, hx, rfl⟩ := natOf (x := a) (by grind)
  obtain ⟨y, hy, rfl⟩ := natOf (x := b) (by grind)
  refine ⟨x, y, rfl, rfl, (nI_leI hy hx).mp h0.2.1, (nI_leI hx (by decide)).mp h0.2.2⟩
/-! one sum worked by a way: digits as natural numbers -/
def dg (n c : Nat) : Nat := n / 10 ^ c % 10
/-- the next column with an upper digit above nought; 4: none -/
def fbW (U : Nat → Nat) (c : Nat) : Nat := if c + 1 < 4 ∧ 0 < U (c + 1) then c + 1 else if c + 2 < 4 ∧ 0 < U (c + 2) then c + 2 else if c + 3 < 4 ∧ 0 < U (c + 3) then c + 3 else 4
def tkW (nines : Bool) (U : Nat → Nat) (c : Nat) : Nat → Nat := fun j => if j = fbW U c then U j - 1 else if nines = true ∧ c < j ∧ j < fbW U c then 9 else U j
/-- by borrowing: the digit written, the upper digits then -/
def byB (nines : Bool) (U L : Nat → Nat) (c : Nat) : Nat × (Nat → Nat) := if fbW U c = 4 then (0, U) else (U c + 10 - L c, tkW nines U c)
def stuckW (kd fg : Nat) (U L : Nat → Nat) (c : Nat) : Nat × (Nat → Nat) :=
  if kd = 0 then byB true U L c else if kd = 1 then (L c - U c, U) else if kd = 2 then (0, U) else if kd = 3 then (U c + 10 - L c, U) else if kd = 4 then byB false U L c
  else if kd = 5 then (if U c = 0 then (L c - U c, U) else byB true U L c)
  else if kd = 6 then (if c + 1 < 4 ∧ 0 < U (c + 1) then byB false U L c else if fg % 4 = 0 then (0, U) else if fg % 4 = 1 then (L c - U c, U) else if fg % 4 = 2 then (U c + 10 - L c, U) else (L c, U))
  else (if c = 3 then (0, U) else (U c + 10 - L c, U))
def stepW (kd fg : Nat) (U L : Nat → Nat) (c : Nat) : Nat × (Nat → Nat) := if U c < L c then stuckW kd fg U L c else (U c - L c, U)
def runU (kd fg x y : Nat) : Nat → Nat → Nat
  | 0 => dg x
  | n + 1 => (stepW kd fg (runU kd fg x y n) (dg y) n).2
def wrW (kd fg x y c : Nat) : Nat := (stepW kd fg (runU kd fg x y c) (dg y) c).1
def stkB (kd fg x y c : Nat) : Bool := decide (runU kd fg x y c c < dg y c)
def stkI (kd fg x y : Nat) : Nat → Int32
  | 0 => 0
  | n + 1 => if stkB kd fg x y n then stkI kd fg x y n ||| ((1 : Int32) <<< (nI n &&& 31)) else stkI kd fg x y n
def ansN (kd fg x y : Nat) : Nat → Nat
  | 0 => 0
  | n + 1 => ansN kd fg x y n + wrW kd fg x y n * 10 ^ n
/-- the answer of a way to a sum -/
def ansW (kd fg x y : Nat) : Nat := ansN kd fg x y 4
theorem dg_le (n c : Nat) : dg n c ≤ 9 := by unfold dg; omega
theorem tkW_le {nines : Bool} {U : Nat → Nat} {c : Nat} (h : ∀ j, j < 4 → U j ≤ 9) : ∀ j, j < 4 → tkW nines U c j ≤ 9 := by
  intro j hj
  have := h j hj
  unfold tkW
  split
  · omega
  · split <;> omega
theorem byB_le {nines : Bool} {U L : Nat → Nat} {c : Nat} (h : ∀ j, j < 4 → U j ≤ 9) : ∀ j, j < 4 → (byB nines U L c).2 j ≤ 9 := by
  intro j hj
  unfold byB
  split
  · exact h j hj
  · exact tkW_le h j hj
theorem stuckW_le {kd fg : Nat} {U L : Nat → Nat} {c : Nat} (h : ∀ j, j < 4 → U j ≤ 9) : ∀ j, j < 4 → (stuckW kd fg U L c).2 j ≤ 9 := by
  intro j hj
  unfold stuckW
  repeat' split
  all_goals first | exact h j hj | exact byB_le h j hj
theorem runU_le (kd fg x y : Nat) : ∀ n j, j < 4 → runU kd fg x y n j ≤ 9
  | 0, j, _ => dg_le x j
  | n + 1, j, hj => by
    show (stepW kd fg (runU kd fg x y n) (dg y) n).2 j ≤ 9
    unfold stepW
    split
    · exact stuckW_le (fun a ha => runU_le kd fg x y n a ha) j hj
    · exact runU_le kd fg x y n j hj
/-- the paper: the upper digits as they are then, the lower -/
def pap (Z : owF) (U L : Nat → Nat) : Prop := (∀ j, j < 4 → Z 20 0 j = nI (U j)) ∧ (∀ j, j < 4 → Z 21 0 j = nI (L j)) ∧ (∀ j, j < 4 → U j ≤ 9) ∧ ∀ j, j < 4 → L j ≤ 9
def zfr (t : Nat) (Z Z2 : owF) : Prop := ∀ a b c, a ≠ t → Z2 a b c = Z a b c
theorem zfr_up {t j : Nat} {v : Int32} {Z Z2 Z3 : owF} (h : zfr t Z Z2) (e : Z3 = up3 Z2 t 0 j v) : zfr t Z Z3 := fun a b c ha => by rw [e, ← h a b c ha]; simp [up3, ha]
theorem zfr_rf {t : Nat} {Z : owF} : zfr t Z Z := fun _ _ _ _ => rfl
theorem lt4 {p : Nat → Prop} (h0 : p 0) (h1 : p 1) (h2 : p 2) (h3 : p 3) : ∀ j, j < 4 → p j := fun j hj => by
  match j, hj with
  | 0, _ => exact h0
  | 1, _ => exact h1
  | 2, _ => exact h2
  | 3, _ => exact h3
def costW (kd fg : Nat) : Nat := if kd = 0 then 0 else if kd = 1 then 8 else if kd = 2 then 5 else if kd = 3 then fg else if kd = 4 then 12 else if kd = 5 then 4 else if kd = 6 then 12 + fg else 2 * fg + 1
def failW (kd fg : Nat) : Bool := decide (kd ≠ 5 ∧ fg ≠ 0)
def atV (f : Nat → Int32) (n : Nat) (j : Int32) : Int32 := if 0 ≤ j ∧ j < nI n then f j.toNatClampNeg else 0
theorem atV_in {f : Nat → Int32} {n k : Nat} (h : k < n) (hn : n < 2 ^ 31) : atV f n (nI k) = f k := by
  unfold atV
  rw [if_pos ⟨nI_pos' (by omega), nI_lt h hn⟩, nI_clamp (by omega)]
theorem atV_out {f : Nat → Int32} {n k : Nat} (h : n ≤ k) (hn : k < 2 ^ 31) : atV f n (nI k) = 0 := by
  unfold atV
  rw [if_neg (fun q => nI_nlt h hn q.2)]
theorem k_at (l : Launch) (G : owG) {σ : owSt} {t i n : Nat} {f : Nat → Int32} (hi : i < owN t) (he : owC G σ t i = .inl (gI G, n, .inl f)) (hn : n < 2 ^ 31) (j : Int32) : Ct l G yX11_at cX11_at 2 (some .int) 0 0 0 [.ref (gK G t i), .int j] σ (qI fun x σ2 => x = atV f n j ∧ σ2 = σ) := by
  refine ct_of (by decide +kernel) (Nat.le_of_ble_eq_true rfl) ?_
  show Wm l G cX11_at 2 RX11 (some .int) (rmk 0 0 0) (fun _ => True) (QfM G (qI fun x σ2 => x = atV f n j ∧ σ2 = σ) 0 0) 0 [(0, .ref (gK G t i)), (1, .int j)] [] σ 0 0
  refine m_iload_n 1 rfl rfl dX11_at_0 ?_
  refine m_if_lt 16 dX11_at_1 (by decide) (fun c => ?_) (fun c => ?_)
  · refine m_iconst 0 dX11_at_16 rfl ?_
    exact m_iret dX11_at_17 (Nat.le_refl _) (Nat.le_refl _) ⟨by unfold atV; rw [if_neg (fun q => by grind)], rfl⟩
  refine m_iload_n 1 rfl rfl dX11_at_4 ?_
  refine m_aload_n 0 rfl rfl dX11_at_5 ?_
  refine m_alenI hi he dX11_at_6 ?_
  refine m_icmp_ge 16 dX11_at_7 (by decide) (fun c2 => ?_) (fun c2 => ?_)
  · refine m_iconst 0 dX11_at_16 rfl ?_
    exact m_iret dX11_at_17 (Nat.le_refl _) (Nat.le_refl _) ⟨by unfold atV; rw [if_neg (fun q => by grind)], rfl⟩
  refine m_aload_n 0 rfl rfl dX11_at_10 ?_
  refine m_iload_n 1 rfl rfl dX11_at_11 ?_
  obtain ⟨k, hk, rfl⟩ := natOf2 (x := j) (n := n) (by grind) (by grind) hn
  refine m_iald hi he (vp_in_nI hk hn) dX11_at_12 ?_
  refine m_goto 17 dX11_at_13 (by decide) ?_
  exact m_iret dX11_at_17 (Nat.le_refl _) (Nat.le_refl _) ⟨by rw [atV_in hk hn, nI_clamp (by omega)], rfl⟩
theorem k_set (l : Launch) (G : owG) {σ : owSt} {t i n : Nat} {f : Nat → Int32} (σ2 : owSt) (hi : i < owN t) (he : owC G σ t i = .inl (gI G, n, .inl f)) (hn : n < 2 ^ 31) (k : Nat) (hk : k < n) (v : Int32) (he2 : owC G σ2 t i = .inl (gI G, n, .inl (upd f k v))) (hfr : ∀ t2 i2, i2 < owN t2 → ¬ (t2 = t ∧ i2 = i) → owC G σ2 t2 i2 = owC G σ t2 i2) (hP2 : σ2.2.2.2.2.2.2.2.2 = σ.2.2.2.2.2.2.2.2) : Ct l G yX11_set cX11_set 3 none 0 0 0 [.ref (gK G t i), .int (nI k), .int v] σ (qV fun σ3 => σ3 = σ2) := by
  refine ct_of (by decide +kernel) (Nat.le_of_ble_eq_true rfl) ?_
  show Wm l G cX11_set 3 RX11 none (rmk 0 0 0) (fun _ => True) (QfM G (qV fun σ3 => σ3 = σ2) 0 0) 0 [(0, .ref (gK G t i)), (1, .int (nI k)), (2, .int v)] [] σ 0 0
  refine m_iload_n 1 rfl rfl dX11_set_0 ?_
  refine m_if_lt 14 dX11_set_1 (by decide) (fun c => absurd c (nI_pos (by omega))) (fun c => ?_)
  refine m_iload_n 1 rfl rfl dX11_set_4 ?_
  refine m_aload_n 0 rfl rfl dX11_set_5 ?_
  refine m_alenI hi he dX11_set_6 ?_
  refine m_icmp_ge 14 dX11_set_7 (by decide) (fun c2 => absurd c2 (nI_ge hk hn)) (fun c2 => ?_)
  refine m_aload_n 0 rfl rfl dX11_set_10 ?_
  refine m_iload_n 1 rfl rfl dX11_set_11 ?_
  refine m_iload_n 2 rfl rfl dX11_set_12 ?_
  refine m_iast σ2 hi he (vp_in_nI hk hn) (by rw [nI_clamp (by omega)]; exact he2) hfr hP2 dX11_set_13 ?_
  exact m_vret dX11_set_14 (Nat.le_refl _) (Nat.le_refl _) rfl
theorem wrW_st {kd fg x y k : Nat} (h : runU kd fg x y k k < dg y k) : (stuckW kd fg (runU kd fg x y k) (dg y) k).1 = wrW kd fg x y k := by
  unfold wrW stepW
  rw [if_pos h]
theorem wrW_ns {kd fg x y k : Nat} (h : dg y k ≤ runU kd fg x y k k) : runU kd fg x y k k - dg y k = wrW kd fg x y k := by
  unfold wrW stepW
  rw [if_neg (Nat.not_lt.mpr h)]
theorem runU_st {kd fg x y k : Nat} (h : runU kd fg x y k k < dg y k) : (stuckW kd fg (runU kd fg x y k) (dg y) k).2 = runU kd fg x y (k + 1) := by
  show _ = (stepW kd fg (runU kd fg x y k) (dg y) k).2
  unfold stepW
  rw [if_pos h]
theorem runU_ns {kd fg x y k : Nat} (h : dg y k ≤ runU kd fg x y k k) : runU kd fg x y k = runU kd fg x y (k + 1) := by
  show _ = (stepW kd fg (runU kd fg x y k) (dg y) k).2
  unfold stepW
  rw [if_neg (Nat.not_lt.mpr h)]
theorem stkI_st {kd fg x y k : Nat} (h : runU kd fg x y k k < dg y k) : stkI kd fg x y k ||| ((1 : Int32) <<< (nI k &&& 31)) = stkI kd fg x y (k + 1) := by
  show _ = if stkB kd fg x y k then _ else _
  rw [if_pos (show stkB kd fg x y k = true from decide_eq_true h)]
theorem stkI_ns {kd fg x y k : Nat} (h : dg y k ≤ runU kd fg x y k k) : stkI kd fg x y k = stkI kd fg x y (k + 1) := by
  show _ = if stkB kd fg x y k then _ else _
  rw [if_neg (by unfold stkB; simp; omega)]
theorem pap_up {Z Z2 : owF} {U L : Nat → Nat} {t j : Nat} {v : Int32} (h : pap Z U L) (h1 : 20 ≠ t) (h2 : 21 ≠ t) (e : Z2 = up3 Z t 0 j v) : pap Z2 U L :=
  ⟨fun k hk => up3_t e h1 (h.1 k hk), fun k hk => up3_t e h2 (h.2.1 k hk), h.2.2.1, h.2.2.2⟩
/-- what the paper holds when a sum is worked -/
def worked (Z : owF) (kd fg x y : Nat) : Prop := (∀ j, j < 4 → Z 22 0 j = nI (wrW kd fg x y j)) ∧ Z 2 0 3 = stkI kd fg x y 4
theorem k_set_10 (l : Launch) (G : owG) {A S Z B T V : owF} {J : Nat → Nat → Int64} {Y : Nat → Nat → Nat → Option Nat} {P : Nat → Option owW} {i : Nat} (hi : i < owN 10) (k : Nat) (hk : k < 8) (v : Int32) : Ct l G yX11_set cX11_set 3 none 0 0 0 [.ref (gK G 10 i), .int (nI k), .int v] (A, S, Z, B, T, V, J, Y, P) (qV fun σ3 => σ3 = (up3 A 10 i k v, S, Z, B, T, V, J, Y, P)) :=
  k_set l G (up3 A 10 i k v, S, Z, B, T, V, J, Y, P) hi (ce_10 G A S Z B T V J Y P i) (by decide) k hk v (by rw [ce_10]; exact congrArg (fun f => Sum.inl (gI G, 8, Sum.inl f)) (funext fun q => by simp [up3, upd])) (fun t2 i2 _ h => fr_A A S Z B T V J Y P k v h) rfl
theorem k_set_11 (l : Launch) (G : owG) {A S Z B T V : owF} {J : Nat → Nat → Int64} {Y : Nat → Nat → Nat → Option Nat} {P : Nat → Option owW} {i : Nat} (hi : i < owN 11) (k : Nat) (hk : k < 8) (v : Int32) : Ct l G yX11_set cX11_set 3 none 0 0 0 [.ref (gK G 11 i), .int (nI k), .int v] (A, S, Z, B, T, V, J, Y, P) (qV fun σ3 => σ3 = (up3 A 11 i k v, S, Z, B, T, V, J, Y, P)) :=
  k_set l G (up3 A 11 i k v, S, Z, B, T, V, J, Y, P) hi (ce_11 G A S Z B T V J Y P i) (by decide) k hk v (by rw [ce_11]; exact congrArg (fun f => Sum.inl (gI G, 8, Sum.inl f)) (funext fun q => by simp [up3, upd])) (fun t2 i2 _ h => fr_A A S Z B T V J Y P k v h) rfl
theorem k_set_12 (l : Launch) (G : owG) {A S Z B T V : owF} {J : Nat → Nat → Int64} {Y : Nat → Nat → Nat → Option Nat} {P : Nat → Option owW} {i : Nat} (hi : i < owN 12) (k : Nat) (hk : k < 8) (v : Int32) : Ct l G yX11_set cX11_set 3 none 0 0 0 [.ref (gK G 12 i), .int (nI k), .int v] (A, S, Z, B, T, V, J, Y, P) (qV fun σ3 => σ3 = (up3 A 12 i k v, S, Z, B, T, V, J, Y, P)) :=
  k_set l G (up3 A 12 i k v, S, Z, B, T, V, J, Y, P) hi (ce_12 G A S Z B T V J Y P i) (by decide) k hk v (by rw [ce_12]; exact congrArg (fun f => Sum.inl (gI G, 8, Sum.inl f)) (funext fun q => by simp [up3, upd])) (fun t2 i2 _ h => fr_A A S Z B T V J Y P k v h) rfl
theorem k_set_13 (l : Launch) (G : owG) {A S Z B T V : owF} {J : Nat → Nat → Int64} {Y : Nat → Nat → Nat → Option Nat} {P : Nat → Option owW} {i : Nat} (hi : i < owN 13) (k : Nat) (hk : k < 100) (v : Int32) : Ct l G yX11_set cX11_set 3 none 0 0 0 [.ref (gK G 13 i), .int (nI k), .int v] (A, S, Z, B, T, V, J, Y, P) (qV fun σ3 => σ3 = (up3 A 13 i k v, S, Z, B, T, V, J, Y, P)) :=
  k_set l G (up3 A 13 i k v, S, Z, B, T, V, J, Y, P) hi (ce_13 G A S Z B T V J Y P i) (by decide) k hk v (by rw [ce_13]; exact congrArg (fun f => Sum.inl (gI G, 100, Sum.inl f)) (funext fun q => by simp [up3, upd])) (fun t2 i2 _ h => fr_A A S Z B T V J Y P k v h) rfl
theorem k_set_14 (l : Launch) (G : owG) {A S Z B T V : owF} {J : Nat → Nat → Int64} {Y : Nat → Nat → Nat → Option Nat} {P : Nat → Option owW} {i : Nat} (hi : i < owN 14) (k : Nat) (hk : k < 3) (v : Int32) : Ct l G yX11_set cX11_set 3 none 0 0 0 [.ref (gK G 14 i), .int (nI k), .int v] (A, S, Z, B, T, V, J, Y, P) (qV fun σ3 => σ3 = (A, up3 S 14 i k v, Z, B, T, V, J, Y, P)) :=
  k_set l G (A, up3 S 14 i k v, Z, B, T, V, J, Y, P) hi (ce_14 G A S Z B T V J Y P i) (by decide) k hk v (by rw [ce_14]; exact congrArg (fun f => Sum.inl (gI G, 3, Sum.inl f)) (funext fun q => by simp [up3, upd])) (fun t2 i2 _ h => fr_S A S Z B T V J Y P k v h) rfl
theorem k_set_16 (l : Launch) (G : owG) {A S Z B T V : owF} {J : Nat → Nat → Int64} {Y : Nat → Nat → Nat → Option Nat} {P : Nat → Option owW} {i : Nat} (hi : i < owN 16) (k : Nat) (hk : k < 100) (v : Int32) : Ct l G yX11_set cX11_set 3 none 0 0 0 [.ref (gK G 16 i), .int (nI k), .int v] (A, S, Z, B, T, V, J, Y, P) (qV fun σ3 => σ3 = (up3 A 16 i k v, S, Z, B, T, V, J, Y, P)) :=
  k_set l G (up3 A 16 i k v, S, Z, B, T, V, J, Y, P) hi (ce_16 G A S Z B T V J Y P i) (by decide) k hk v (by rw [ce_16]; exact congrArg (fun f => Sum.inl (gI G, 100, Sum.inl f)) (funext fun q => by simp [up3, upd])) (fun t2 i2 _ h => fr_A A S Z B T V J Y P k v h) rfl
theorem k_set_20 (l : Launch) (G : owG) {A S Z B T V : owF} {J : Nat → Nat → Int64} {Y : Nat → Nat → Nat → Option Nat} {P : Nat → Option owW} (k : Nat) (hk : k < 4) (v : Int32) : Ct l G yX11_set cX11_set 3 none 0 0 0 [.ref (gK G 20 0), .int (nI k), .int v] (A, S, Z, B, T, V, J, Y, P) (qV fun σ3 => σ3 = (A, S, up3 Z 20 0 k v, B, T, V, J, Y, P)) :=
  k_set l G (A, S, up3 Z 20 0 k v, B, T, V, J, Y, P) (by decide) (ce_20 G A S Z B T V J Y P 0) (by decide) k hk v (by rw [ce_20]; exact congrArg (fun f => Sum.inl (gI G, 4, Sum.inl f)) (funext fun q => by simp [up3, upd])) (fun t2 i2 _ h => fr_Z A S Z B T V J Y P k v h) rfl
theorem k_set_21 (l : Launch) (G : owG) {A S Z B T V : owF} {J : Nat → Nat → Int64} {Y : Nat → Nat → Nat → Option Nat} {P : Nat → Option owW} (k : Nat) (hk : k < 4) (v : Int32) : Ct l G yX11_set cX11_set 3 none 0 0 0 [.ref (gK G 21 0), .int (nI k), .int v] (A, S, Z, B, T, V, J, Y, P) (qV fun σ3 => σ3 = (A, S, up3 Z 21 0 k v, B, T, V, J, Y, P)) :=
  k_set l G (A, S, up3 Z 21 0 k v, B, T, V, J, Y, P) (by decide) (ce_21 G A S Z B T V J Y P 0) (by decide) k hk v (by rw [ce_21]; exact congrArg (fun f => Sum.inl (gI G, 4, Sum.inl f)) (funext fun q => by simp [up3, upd])) (fun t2 i2 _ h => fr_Z A S Z B T V J Y P k v h) rfl
theorem k_set_22 (l : Launch) (G : owG) {A S Z B T V : owF} {J : Nat → Nat → Int64} {Y : Nat → Nat → Nat → Option Nat} {P : Nat → Option owW} (k : Nat) (hk : k < 4) (v : Int32) : Ct l G yX11_set cX11_set 3 none 0 0 0 [.ref (gK G 22 0), .int (nI k), .int v] (A, S, Z, B, T, V, J, Y, P) (qV fun σ3 => σ3 = (A, S, up3 Z 22 0 k v, B, T, V, J, Y, P)) :=
  k_set l G (A, S, up3 Z 22 0 k v, B, T, V, J, Y, P) (by decide) (ce_22 G A S Z B T V J Y P 0) (by decide) k hk v (by rw [ce_22]; exact congrArg (fun f => Sum.inl (gI G, 4, Sum.inl f)) (funext fun q => by simp [up3, upd])) (fun t2 i2 _ h => fr_Z A S Z B T V J Y P k v h) rfl
theorem k_set_30 (l : Launch) (G : owG) {A S Z B T V : owF} {J : Nat → Nat → Int64} {Y : Nat → Nat → Nat → Option Nat} {P : Nat → Option owW} (k : Nat) (hk : k < 12) (v : Int32) : Ct l G yX11_set cX11_set 3 none 0 0 0 [.ref (gK G 30 0), .int (nI k), .int v] (A, S, Z, B, T, V, J, Y, P) (qV fun σ3 => σ3 = (A, up3 S 30 0 k v, Z, B, T, V, J, Y, P)) :=
  k_set l G (A, up3 S 30 0 k v, Z, B, T, V, J, Y, P) (by decide) (ce_30 G A S Z B T V J Y P 0) (by decide) k hk v (by rw [ce_30]; exact congrArg (fun f => Sum.inl (gI G, 12, Sum.inl f)) (funext fun q => by simp [up3, upd])) (fun t2 i2 _ h => fr_S A S Z B T V J Y P k v h) rfl
theorem k_set_31 (l : Launch) (G : owG) {A S Z B T V : owF} {J : Nat → Nat → Int64} {Y : Nat → Nat → Nat → Option Nat} {P : Nat → Option owW} (k : Nat) (hk : k < 12) (v : Int32) : Ct l G yX11_set cX11_set 3 none 0 0 0 [.ref (gK G 31 0), .int (nI k), .int v] (A, S, Z, B, T, V, J, Y, P) (qV fun σ3 => σ3 = (A, up3 S 31 0 k v, Z, B, T, V, J, Y, P)) :=
  k_set l G (A, up3 S 31 0 k v, Z, B, T, V, J, Y, P) (by decide) (ce_31 G A S Z B T V J Y P 0) (by decide) k hk v (by rw [ce_31]; exact congrArg (fun f => Sum.inl (gI G, 12, Sum.inl f)) (funext fun q => by simp [up3, upd])) (fun t2 i2 _ h => fr_S A S Z B T V J Y P k v h) rfl
theorem k_set_32 (l : Launch) (G : owG) {A S Z B T V : owF} {J : Nat → Nat → Int64} {Y : Nat → Nat → Nat → Option Nat} {P : Nat → Option owW} (k : Nat) (hk : k < 12) (v : Int32) : Ct l G yX11_set cX11_set 3 none 0 0 0 [.ref (gK G 32 0), .int (nI k), .int v] (A, S, Z, B, T, V, J, Y, P) (qV fun σ3 => σ3 = (A, up3 S 32 0 k v, Z, B, T, V, J, Y, P)) :=
  k_set l G (A, up3 S 32 0 k v, Z, B, T, V, J, Y, P) (by decide) (ce_32 G A S Z B T V J Y P 0) (by decide) k hk v (by rw [ce_32]; exact congrArg (fun f => Sum.inl (gI G, 12, Sum.inl f)) (funext fun q => by simp [up3, upd])) (fun t2 i2 _ h => fr_S A S Z B T V J Y P k v h) rfl
theorem k_set_33 (l : Launch) (G : owG) {A S Z B T V : owF} {J : Nat → Nat → Int64} {Y : Nat → Nat → Nat → Option Nat} {P : Nat → Option owW} (k : Nat) (hk : k < 12) (v : Int32) : Ct l G yX11_set cX11_set 3 none 0 0 0 [.ref (gK G 33 0), .int (nI k), .int v] (A, S, Z, B, T, V, J, Y, P) (qV fun σ3 => σ3 = (A, up3 S 33 0 k v, Z, B, T, V, J, Y, P)) :=
  k_set l G (A, up3 S 33 0 k v, Z, B, T, V, J, Y, P) (by decide) (ce_33 G A S Z B T V J Y P 0) (by decide) k hk v (by rw [ce_33]; exact congrArg (fun f => Sum.inl (gI G, 12, Sum.inl f)) (funext fun q => by simp [up3, upd])) (fun t2 i2 _ h => fr_S A S Z B T V J Y P k v h) rfl
theorem k_set_34 (l : Launch) (G : owG) {A S Z B T V : owF} {J : Nat → Nat → Int64} {Y : Nat → Nat → Nat → Option Nat} {P : Nat → Option owW} (k : Nat) (hk : k < 10) (v : Int32) : Ct l G yX11_set cX11_set 3 none 0 0 0 [.ref (gK G 34 0), .int (nI k), .int v] (A, S, Z, B, T, V, J, Y, P) (qV fun σ3 => σ3 = (A, up3 S 34 0 k v, Z, B, T, V, J, Y, P)) :=
  k_set l G (A, up3 S 34 0 k v, Z, B, T, V, J, Y, P) (by decide) (ce_34 G A S Z B T V J Y P 0) (by decide) k hk v (by rw [ce_34]; exact congrArg (fun f => Sum.inl (gI G, 10, Sum.inl f)) (funext fun q => by simp [up3, upd])) (fun t2 i2 _ h => fr_S A S Z B T V J Y P k v h) rfl
theorem k_set_35 (l : Launch) (G : owG) {A S Z B T V : owF} {J : Nat → Nat → Int64} {Y : Nat → Nat → Nat → Option Nat} {P : Nat → Option owW} (k : Nat) (hk : k < 8) (v : Int32) : Ct l G yX11_set cX11_set 3 none 0 0 0 [.ref (gK G 35 0), .int (nI k), .int v] (A, S, Z, B, T, V, J, Y, P) (qV fun σ3 => σ3 = (A, up3 S 35 0 k v, Z, B, T, V, J, Y, P)) :=
  k_set l G (A, up3 S 35 0 k v, Z, B, T, V, J, Y, P) (by decide) (ce_35 G A S Z B T V J Y P 0) (by decide) k hk v (by rw [ce_35]; exact congrArg (fun f => Sum.inl (gI G, 8, Sum.inl f)) (funext fun q => by simp [up3, upd])) (fun t2 i2 _ h => fr_S A S Z B T V J Y P k v h) rfl
