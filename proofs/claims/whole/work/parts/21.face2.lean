def oddsI (a : owK) (h : owH) (v d e p : Int32) : Int32 := if isW a v = true ∧ is01 p = true then (if boRefI h d e = 0 then ltI (chN a (rN h d) (rX h d) (rQ h d) (rV h e) v.toNatClampNeg) (smN (chN a (rN h d) (rX h d) (rQ h d) (rV h e)) (aN a)) p else boRefI h d e) else -1
def heldI (a : owK) (h : owH) (d e ab v p : Int32) : Int32 :=
  if 0 ≤ ab ∧ isSumB (ab / 10000) (ab - ab / 10000 * 10000) = true ∧ isAnsB v = true ∧ is01 p = true then
    (if boRefI h d e = 0 then
      (if fitA a (rN h d) (rX h d) (rQ h d) (rV h e) 0 = 0 then -4 else ltI (wgN a (fitA a (rN h d) (rX h d) (rQ h d) (rV h e) 0 &&& whoA a (ab / 10000).toNatClampNeg (ab - ab / 10000 * 10000).toNatClampNeg v) (aN a)) (wgN a (fitA a (rN h d) (rX h d) (rQ h d) (rV h e) 0) (aN a)) p)
    else boRefI h d e) else -1
/-- the first of the greatest -/
def mstS (f : Nat → Nat) : Nat → Option Nat
  | 0 => none
  | k + 1 => match mstS f k with
    | none => some k
    | some b => if f b < f k then some k else some b
theorem mstS_none {f : Nat → Nat} : ∀ {k}, mstS f k = none → k = 0
  | 0, _ => rfl
  | k + 1, h => by
    simp only [mstS] at h
    split at h
    · cases h
    · split at h <;> cases h
theorem mstS_lt {f : Nat → Nat} : ∀ {k b}, mstS f k = some b → b < k
  | 0, _, h => by cases h
  | k + 1, b, h => by
    simp only [mstS] at h
    split at h
    · cases h; omega
    · next c hc =>
      have := mstS_lt hc
      split at h <;> cases h <;> omega
theorem mstS_0 {f : Nat → Nat} {k : Nat} (h : mstS f k = none) : mstS f (k + 1) = some k := by simp only [mstS, h]
theorem mstS_y {f : Nat → Nat} {k b : Nat} (h : mstS f k = some b) (hc : f b < f k) : mstS f (k + 1) = some k := by simp only [mstS, h, if_pos hc]
theorem mstS_n {f : Nat → Nat} {k b : Nat} (h : mstS f k = some b) (hc : ¬ f b < f k) : mstS f (k + 1) = some b := by simp only [mstS, h, if_neg hc]
def mostF (f : Nat → Nat) : Option Nat → Int32
  | none => -1
  | some b => nI (f b)
def mostI (a : owK) (h : owH) (d ws : Int32) : Int32 := if areW a ws = true then (if shRefI h d = 0 then optI (mstS (fun s => parN a (rX h d s) (rQ h d s) ws) (rN h d)) else shRefI h d) else -1
/-- the first a, b below a hundred whose answer is more than a -/
def clR (f : Nat → Nat → Nat) (x : Nat) : Nat → Option Nat
  | 0 => none
  | k + 1 => match clR f x k with
    | some v => some v
    | none => if x < f x k then some (100 * x + k) else none
def clS (f : Nat → Nat → Nat) : Nat → Option Nat
  | 0 => none
  | k + 1 => match clS f k with
    | some v => some v
    | none => clR f k (k + 1)
theorem clR_y {f : Nat → Nat → Nat} {x k : Nat} (h : clR f x k = none) (hc : x < f x k) : ∀ n, k < n → clR f x n = some (100 * x + k)
  | 0, hn => absurd hn (Nat.not_lt_zero k)
  | n + 1, hn => by
    rcases Nat.lt_or_ge k n with q | q
    · simp only [clR, clR_y h hc n q]
    · obtain rfl : k = n := by omega
      simp only [clR, h, if_pos hc]
theorem clR_n {f : Nat → Nat → Nat} {x k : Nat} (h : clR f x k = none) (hc : ¬ x < f x k) : clR f x (k + 1) = none := by simp only [clR, h, if_neg hc]
theorem clS_y {f : Nat → Nat → Nat} {k v : Nat} (h : clS f k = none) (hc : clR f k (k + 1) = some v) : ∀ n, k < n → clS f n = some v
  | 0, hn => absurd hn (Nat.not_lt_zero k)
  | n + 1, hn => by
    rcases Nat.lt_or_ge k n with q | q
    · simp only [clS, clS_y h hc n q]
    · obtain rfl : k = n := by omega
      simp only [clS, h, hc]
theorem clS_n {f : Nat → Nat → Nat} {k : Nat} (h : clS f k = none) (hc : clR f k (k + 1) = none) : clS f (k + 1) = none := by simp only [clS, h, hc]
def clashI (a : owK) (v : Int32) : Int32 := if isW a v = true then optI (clS (fun x y => ansA a v.toNatClampNeg x y) 100) else -1
/-- wrong answers among the sums below n -/
def cmW (a : owK) (w x n : Nat) : Nat := cntB (fun y => decide (nI (ansA a w x y) ≠ nI x - nI y)) n
def comesI (a : owK) (v n : Int32) : Int32 := if isW a v = true ∧ 1 ≤ n ∧ n ≤ 40 then nI (smN (fun x => cmW a v.toNatClampNeg x (x + 1)) n.toNatClampNeg) else -1
def copiedI (a : owK) (h : owH) (d e g p : Int32) : Int32 :=
  if is01 p = true then
    (if boRefI h d e = 0 then (if anRefI h g (rN h d) = 0 then nI (cntB (fun s => copB (rX h d) (rQ h d) (rV h e) (rV h g) s && (decide (p = 0) || decide (whoA a (rX h d s) (rQ h d s) (rV h e s) = 0))) (rN h d)) else anRefI h g (rN h d)) else boRefI h d e)
  else -1
def lsS (a : owK) : Nat → Int32 × Nat
  | 0 => (0, 0)
  | k + 1 => if (gkS a (lsS a k).1 7).1 = 0 then lsS a k else ((lsS a k).1 ||| (1 : Int32) <<< (nI (gkS a (lsS a k).1 7).1 &&& 31), (lsS a k).2 + chK a (nI (gkS a (lsS a k).1 7).1))
def lessonI (a : owK) (m : Int32) : Int32 := if 1 ≤ m ∧ m ≤ 3 then nI (lsS a m.toNatClampNeg).2 else -1
theorem wgN_pos {a : owK} {p : Nat → Bool} (ho : aOk a) (h : ¬ orI p (aN a) = 0) : 0 < wgN a (orI p (aN a)) (aN a) := by
  have h10 := ho.1
  rcases Nat.eq_zero_or_pos (wgN a (orI p (aN a)) (aN a)) with q | q
  · refine absurd ((orI_0 (by omega)).mpr fun k hk => ?_) h
    cases hp : p k with
    | false => rfl
    | true =>
      have h1 := smN_part (f := fun w => if amongB (orI p (aN a)) (nI w) then aG a w else 0) hk
      have h2 : amongB (orI p (aN a)) (nI k) = true := by rw [among_orI (by omega) (by omega), hp, decide_eq_true hk]; rfl
      have h1 : (if amongB (orI p (aN a)) (nI k) then aG a k else 0) ≤ _ := h1
      rw [if_pos h2] at h1
      have h3 := (ho.2.2.1 k hk).2.2.1
      have h4 : smN (fun w => if amongB (orI p (aN a)) (nI w) then aG a w else 0) (aN a) = 0 := q
      omega
  · exact q
theorem fst_ite {c : Prop} [Decidable c] {x y : Nat × (Nat → Nat)} {n : Nat} (hx : x.1 ≤ n) (hy : y.1 ≤ n) : (if c then x else y).1 ≤ n := by
  split
  · exact hx
  · exact hy
theorem wrW_le (kd fg x y c : Nat) (hc : c < 4) : wrW kd fg x y c ≤ 19 := by
  have h1 := runU_le kd fg x y c
  have h2 := dg_le y
  have h3 : ∀ nb, (byB nb (runU kd fg x y c) (dg y) c).1 ≤ 19 := fun nb => by
    have := h1 c hc
    unfold byB
    split
    · exact Nat.zero_le _
    · show _ + 10 - _ ≤ 19
      omega
  have h4 := h1 c hc
  have h5 := h2 c
  unfold wrW stepW stuckW
  repeat' first | exact h3 _ | apply fst_ite
  all_goals (show _ ≤ 19; omega)
theorem ansA_lt (a : owK) (w x y : Nat) : ansA a w x y < 2 ^ 15 := by
  have h0 := wrW_le (aK a w) (aF a w) x y 0 (by decide)
  have h1 := wrW_le (aK a w) (aF a w) x y 1 (by decide)
  have h2 := wrW_le (aK a w) (aF a w) x y 2 (by decide)
  have h3 := wrW_le (aK a w) (aF a w) x y 3 (by decide)
  show 0 + wrW _ _ x y 0 * 10 ^ 0 + wrW _ _ x y 1 * 10 ^ 1 + wrW _ _ x y 2 * 10 ^ 2 + wrW _ _ x y 3 * 10 ^ 3 < 2 ^ 15
  omega
set_option maxRecDepth 100000 in
set_option maxHeartbeats 4000000 in
theorem k_column (l : Launch) (G : owG) {A S Z B T V : owF} {J : Nat → Nat → Int64} {Y : Nat → Nat → Nat → Option Nat} {P : Nat → Option owW} (a_ : owK) (ho_ : aOk a_) (hR : RX A Y P 0 a_) (v_ x_ y_ c_ p_ : Int32) : Ct l G yX11_column cX11_column 6 ((some .int)) 6 0 0 [.ref (gK G 0 0), .int v_, .int x_, .int y_, .int c_, .int p_] (A, S, Z, B, T, V, J, Y, P) (qI (fun r_ σ => r_ = columnI a_ v_ x_ y_ c_ p_ ∧ ∃ (S2 Z2 : owF) (J2 : Nat → Nat → Int64), σ = (A, S2, Z2, B, T, V, J2, Y, P))) := by
  refine ct_of (by decide +kernel) (Nat.le_of_ble_eq_true rfl) ?_
  have h10 := ho_.1
  have h8_ := ho_.2.1
  show Wm l G cX11_column 6 RX11 ((some .int)) (rmk 6 0 0) (fun _ => True) (QfM G (qI (fun r_ σ => r_ = columnI a_ v_ x_ y_ c_ p_ ∧ ∃ (S2 Z2 : owF) (J2 : Nat → Nat → Int64), σ = (A, S2, Z2, B, T, V, J2, Y, P))) 0 0) 0 [(0, .ref (gK G 0 0)), (1, .int v_), (2, .int x_), (3, .int y_), (4, .int c_), (5, .int p_)] [] (A, S, Z, B, T, V, J, Y, P) 0 0
  refine m_aload_n 0 rfl rfl dX11_column_0 ?_
  refine gf_X11_10 dX11_column_1 ?_
  refine m_iload_n 1 rfl rfl dX11_column_4 ?_
  refine m_callVi cv_X11_128 [.int v_] [] (k_hasWay l G 0 (by decide) a_ ho_ hR v_) (by decide) (ce_1 G _ _ _ _ _ _ _ _ _ _) rfl rfl rfl ⟨Nat.le_of_ble_eq_true rfl, Nat.le_of_ble_eq_true rfl⟩ (Nat.le_of_ble_eq_true rfl) ⟨Nat.zero_le _, Nat.zero_le _⟩ dX11_column_5 (fun xx σ2 hq => ?_)
  obtain ⟨rfl, rfl⟩ := hq
  refine m_ifeq_b 38 dX11_column_8 (by decide) (fun c1_ => ?_) (fun c1_ => ?_)
  ·
    refine m_iconst (-1) dX11_column_38 rfl ?_
    exact m_iret dX11_column_39 (Nat.le_refl _) (Nat.le_refl _) (⟨by first | (simp [columnI, c1_]; done) | grind [columnI], _, _, _, rfl⟩)
  ·
    obtain ⟨wq, hwq, rfl⟩ := isW_nat ho_ c1_
    have hclwq : (nI wq).toNatClampNeg = wq := nI_clamp (by omega)
    refine m_iload_n 2 rfl rfl dX11_column_11 ?_
    refine m_iload_n 3 rfl rfl dX11_column_12 ?_
    refine m_callSi cs_X11_120 [.int x_, .int y_] [] (k_isSum l G x_ y_) rfl rfl ⟨Nat.le_of_ble_eq_true rfl, Nat.le_of_ble_eq_true rfl⟩ (Nat.le_of_ble_eq_true rfl) ⟨Nat.zero_le _, Nat.zero_le _⟩ dX11_column_13 (fun xx σ2 hq => ?_)
    obtain ⟨rfl, rfl⟩ := hq
    refine m_ifeq_b 38 dX11_column_16 (by decide) (fun c2_ => ?_) (fun c2_ => ?_)
    ·
      refine m_iconst (-1) dX11_column_38 rfl ?_
      exact m_iret dX11_column_39 (Nat.le_refl _) (Nat.le_refl _) (⟨by first | (simp [columnI, c1_, c2_, hclwq]; done) | grind [columnI], _, _, _, rfl⟩)
    ·
      obtain ⟨xq, yq, rfl, rfl, hy_, hx_⟩ := sumNat c2_
      have hclxq : (nI xq).toNatClampNeg = xq := nI_clamp (by omega)
      have hclyq : (nI yq).toNatClampNeg = yq := nI_clamp (by omega)
      refine m_iload 4 rfl dX11_column_19 ?_
      refine m_if_lt 38 dX11_column_21 (by decide) (fun c3_ => ?_) (fun c3_ => ?_)
      ·
        refine m_iconst (-1) dX11_column_38 rfl ?_
        exact m_iret dX11_column_39 (Nat.le_refl _) (Nat.le_refl _) (⟨by first | (simp [columnI, c1_, c2_, c3_, hclwq, hclxq, hclyq]; done) | grind [columnI], _, _, _, rfl⟩)
      ·
        refine m_iload 4 rfl dX11_column_24 ?_
        refine m_iconst 4 dX11_column_26 rfl ?_
        refine m_icmp_ge 38 dX11_column_27 (by decide) (fun c4_ => ?_) (fun c4_ => ?_)
        ·
          refine m_iconst (-1) dX11_column_38 rfl ?_
          exact m_iret dX11_column_39 (Nat.le_refl _) (Nat.le_refl _) (⟨by first | (simp [columnI, c1_, c2_, c3_, c4_, hclwq, hclxq, hclyq]; done) | grind [columnI], _, _, _, rfl⟩)
        ·
          obtain ⟨cq, hcq, rfl⟩ := natOf2 (x := c_) (n := 4) (Int32.not_lt.mp c3_) (Int32.not_le.mp c4_) (by decide)
          have hclcq : (nI cq).toNatClampNeg = cq := nI_clamp (by omega)
          have hc0 : (0 : Int32) ≤ nI cq := nI_pos' (by omega)
          have hc4 : nI cq < 4 := nI_lt (b := 4) hcq (by decide)
          refine m_iload 5 rfl dX11_column_30 ?_
          refine m_callSi cs_X11_131 [.int p_] [] (k_is01 l G p_) rfl rfl ⟨Nat.le_of_ble_eq_true rfl, Nat.le_of_ble_eq_true rfl⟩ (Nat.le_of_ble_eq_true rfl) ⟨Nat.zero_le _, Nat.zero_le _⟩ dX11_column_32 (fun xx σ2 hq => ?_)
          obtain ⟨rfl, rfl⟩ := hq
          refine m_ifne_b 40 dX11_column_35 (by decide) (fun c5_ => ?_) (fun c5_ => ?_)
          ·
            refine m_aload_n 0 rfl rfl dX11_column_40 ?_
            refine m_iload_n 1 rfl rfl dX11_column_41 ?_
            refine m_iload_n 2 rfl rfl dX11_column_42 ?_
            refine m_iload_n 3 rfl rfl dX11_column_43 ?_
            refine m_callVi cv_X11_124 [.int (nI (wq)), .int (nI (xq)), .int (nI (yq))] [] (k_answerTo l G a_ ho_ hR wq (by omega) xq yq hx_ hy_) (by decide) (ce_0 G _ _ _ _ _ _ _ _ _ _) rfl rfl rfl ⟨Nat.le_of_ble_eq_true rfl, Nat.le_of_ble_eq_true rfl⟩ (Nat.le_of_ble_eq_true rfl) ⟨Nat.zero_le _, Nat.zero_le _⟩ dX11_column_44 (fun xx σ2 hq => ?_)
            obtain ⟨rfl, Z6, rfl, hwZ6⟩ := hq
            refine m_pop rfl dX11_column_47 ?_
            refine m_iload 5 rfl dX11_column_48 ?_
            refine m_if_ne 68 dX11_column_50 (by decide) (fun c7_ => ?_) (fun c7_ => ?_)
            ·
              refine m_aload_n 0 rfl rfl dX11_column_68 ?_
              refine gf_X11_31 dX11_column_69 ?_
              refine gf_X11_137 dX11_column_72 ?_
              refine m_topi hwZ6.2 ?_
              refine m_iload 4 rfl dX11_column_75 ?_
              refine m_ishr dX11_column_77 ?_
              refine m_iconst 1 dX11_column_78 rfl ?_
              refine m_iand dX11_column_79 ?_
              exact m_iret dX11_column_80 (Nat.le_refl _) (Nat.le_refl _) (⟨by first | (simp [columnI, c1_, c2_, c3_, c4_, c5_, c7_, hclwq, hclxq, hclyq, hclcq, hc0, hc4]; done) | grind [columnI], _, _, _, rfl⟩)
            ·
              refine m_aload_n 0 rfl rfl dX11_column_53 ?_
              refine gf_X11_31 dX11_column_54 ?_
              refine gf_X11_134 dX11_column_57 ?_
              refine m_iload 4 rfl dX11_column_60 ?_
              refine m_callSi cs_X11_102 [.ref (gK G 22 0), .int (nI (cq))] [] (k_at (t := 22) (n := 4) l G (by decide) (ce_22 G _ _ _ _ _ _ _ _ _ 0) (by decide) (nI (cq))) rfl rfl ⟨Nat.le_of_ble_eq_true rfl, Nat.le_of_ble_eq_true rfl⟩ (Nat.le_of_ble_eq_true rfl) ⟨Nat.zero_le _, Nat.zero_le _⟩ dX11_column_62 (fun xx σ2 hq => ?_)
              obtain rfl : xx = Z6 22 0 cq := hq.1.trans (atV_in (by omega) (by decide))
              obtain rfl := hq.2
              refine m_topi (hwZ6.1 cq hcq) ?_
              refine m_goto 80 dX11_column_65 (by decide) ?_
              exact m_iret dX11_column_80 (Nat.le_refl _) (Nat.le_refl _) (⟨by first | (simp [columnI, c1_, c2_, c3_, c4_, c5_, c7_, hclwq, hclxq, hclyq, hclcq, hc0, hc4]; done) | grind [columnI], _, _, _, rfl⟩)
          ·
            refine m_iconst (-1) dX11_column_38 rfl ?_
            exact m_iret dX11_column_39 (Nat.le_refl _) (Nat.le_refl _) (⟨by first | (simp [columnI, c1_, c2_, c3_, c4_, c5_, hclwq, hclxq, hclyq, hclcq, hc0, hc4]; done) | grind [columnI], _, _, _, rfl⟩)
set_option maxRecDepth 100000 in
set_option maxHeartbeats 4000000 in
theorem k_odds (l : Launch) (G : owG) {A S Z B T V : owF} {J : Nat → Nat → Int64} {Y : Nat → Nat → Nat → Option Nat} {P : Nat → Option owW} (a_ : owK) (ho_ : aOk a_) (hR : RX A Y P 0 a_) (h_ : owH) (hRS : allRS A Y P h_) (v_ x_ z_ p_ : Int32) : Ct l G yX11_odds cX11_odds 8 ((some .int)) 8 0 0 [.ref (gK G 0 0), .int v_, .int x_, .int z_, .int p_] (A, S, Z, B, T, V, J, Y, P) (qI (fun r_ σ => r_ = oddsI a_ h_ v_ x_ z_ p_ ∧ ∃ (S2 Z2 : owF) (J2 : Nat → Nat → Int64), σ = (A, S2, Z2, B, T, V, J2, Y, P))) := by
  refine ct_of (by decide +kernel) (Nat.le_of_ble_eq_true rfl) ?_
  have h10 := ho_.1
  have h8_ := ho_.2.1
  show Wm l G cX11_odds 8 RX11 ((some .int)) (rmk 8 0 0) (fun _ => True) (QfM G (qI (fun r_ σ => r_ = oddsI a_ h_ v_ x_ z_ p_ ∧ ∃ (S2 Z2 : owF) (J2 : Nat → Nat → Int64), σ = (A, S2, Z2, B, T, V, J2, Y, P))) 0 0) 0 [(0, .ref (gK G 0 0)), (1, .int v_), (2, .int x_), (3, .int z_), (4, .int p_)] [] (A, S, Z, B, T, V, J, Y, P) 0 0
  refine m_aload_n 0 rfl rfl dX11_odds_0 ?_
  refine gf_X11_10 dX11_odds_1 ?_
  refine m_iload_n 1 rfl rfl dX11_odds_4 ?_
  refine m_callVi cv_X11_128 [.int v_] [] (k_hasWay l G 0 (by decide) a_ ho_ hR v_) (by decide) (ce_1 G _ _ _ _ _ _ _ _ _ _) rfl rfl rfl ⟨Nat.le_of_ble_eq_true rfl, Nat.le_of_ble_eq_true rfl⟩ (Nat.le_of_ble_eq_true rfl) ⟨Nat.zero_le _, Nat.zero_le _⟩ dX11_odds_5 (fun xx σ2 hq => ?_)
  obtain ⟨rfl, rfl⟩ := hq
  refine m_ifeq_b 19 dX11_odds_8 (by decide) (fun c1_ => ?_) (fun c1_ => ?_)
  ·
    refine m_iconst (-1) dX11_odds_19 rfl ?_
    exact m_iret dX11_odds_20 (Nat.le_refl _) (Nat.le_refl _) (⟨by first | (simp [oddsI, c1_]; done) | (simp_all [oddsI, rN, rX, rQ, rV]; done) | grind [oddsI], _, _, _, rfl⟩)
  ·
    obtain ⟨wq, hwq, rfl⟩ := isW_nat ho_ c1_
    have hclwq : (nI wq).toNatClampNeg = wq := nI_clamp (by omega)
    refine m_iload 4 rfl dX11_odds_11 ?_
    refine m_callSi cs_X11_131 [.int p_] [] (k_is01 l G p_) rfl rfl ⟨Nat.le_of_ble_eq_true rfl, Nat.le_of_ble_eq_true rfl⟩ (Nat.le_of_ble_eq_true rfl) ⟨Nat.zero_le _, Nat.zero_le _⟩ dX11_odds_13 (fun xx σ2 hq => ?_)
    obtain ⟨rfl, rfl⟩ := hq
    refine m_ifne_b 21 dX11_odds_16 (by decide) (fun c2_ => ?_) (fun c2_ => ?_)
    ·
      refine m_aload_n 0 rfl rfl dX11_odds_21 ?_
      refine m_iload_n 2 rfl rfl dX11_odds_22 ?_
      refine m_iload_n 3 rfl rfl dX11_odds_23 ?_
      refine m_callVi cv_X11_152 [.int x_, .int z_] [] (k_both l G h_ hRS x_ z_) (by decide) (ce_0 G _ _ _ _ _ _ _ _ _ _) rfl rfl rfl ⟨Nat.le_of_ble_eq_true rfl, Nat.le_of_ble_eq_true rfl⟩ (Nat.le_of_ble_eq_true rfl) ⟨Nat.zero_le _, Nat.zero_le _⟩ dX11_odds_24 (fun xx σ2 hq => ?_)
      obtain ⟨rfl, S3, rfl, hbo⟩ := hq
      refine m_istore [(5, .int (boRefI h_ x_ z_)), (0, .ref (gK G 0 0)), (1, .int (nI (wq))), (2, .int x_), (3, .int z_), (4, .int p_)] (by decide) rfl dX11_odds_27 ?_
      refine m_iload 0 rfl dX11_odds_29 ?_
      refine m_if_eq 37 dX11_odds_31 (by decide) (fun c4_ => ?_) (fun c4_ => ?_)
      ·
        have hb0 := c4_
        obtain ⟨dq, eq, hdq, heq, rfl, rfl, hk2, hs_, hv_⟩ := hbo hb0
        have hcldq : (nI dq).toNatClampNeg = dq := nI_clamp (by omega)
        have hcleq : (nI eq).toNatClampNeg = eq := nI_clamp (by omega)
        refine m_iconst 0 dX11_odds_37 rfl ?_
        refine m_istore [(6, .int 0), (5, .int (boRefI h_ (nI dq) (nI eq))), (0, .ref (gK G 0 0)), (1, .int (nI (wq))), (2, .int (nI (dq))), (3, .int (nI (eq))), (4, .int p_)] (by decide) rfl dX11_odds_38 ?_
        refine m_iconst 0 dX11_odds_40 rfl ?_
        refine m_istore [(7, .int 0), (6, .int 0), (5, .int (boRefI h_ (nI dq) (nI eq))), (0, .ref (gK G 0 0)), (1, .int (nI (wq))), (2, .int (nI (dq))), (3, .int (nI (eq))), (4, .int p_)] (by decide) rfl dX11_odds_41 ?_
        have lp43 : ∀ (dd : Nat) (k_ : Nat) (Z9 : owF), k_ ≤ aN a_ → aN a_ - k_ < dd → Wm l G cX11_odds 8 RX11 ((some .int)) (rmk 8 0 0) (fun _ => True) (QfM G (qI (fun r_ σ => r_ = oddsI a_ h_ (nI wq) (nI dq) (nI eq) p_ ∧ ∃ (S2 Z2 : owF) (J2 : Nat → Nat → Int64), σ = (A, S2, Z2, B, T, V, J2, Y, P))) 0 0) 43 [(0, .ref (gK G 0 0)), (1, .int (nI (wq))), (2, .int (nI (dq))), (3, .int (nI (eq))), (4, .int p_), (5, .int (boRefI h_ (nI dq) (nI eq))), (6, .int (nI (smN (chN a_ (shN h_ dq) (shX h_ dq) (shY h_ dq) (hE h_ eq)) k_))), (7, .int (nI (k_)))] [] (A, S3, Z9, B, T, V, J, Y, P) 0 0 := by
          intro dd
          induction dd with
          | zero => intro k_ Z9 hk_ hdd; exact absurd hdd (Nat.not_lt_zero _)
          | succ dd ih43 =>
            intro k_ Z9 hk_ hdd43
            refine m_iload 7 rfl dX11_odds_43 ?_
            refine m_aload_n 0 rfl rfl dX11_odds_45 ?_
            refine gf_X11_10 dX11_odds_46 ?_
            refine gf_X11_164 (by decide) dX11_odds_49 ?_
            refine m_topi hR.1 ?_
            refine m_icmpn_ge k_ (aN a_) 72 (by omega) (by omega) dX11_odds_52 (by decide) (fun c5_ => ?_) (fun c5_ => ?_)
            ·
              obtain rfl : k_ = aN a_ := (by omega)
              have hsm := smN_bound (f := (chN a_ (shN h_ dq) (shX h_ dq) (shY h_ dq) (hE h_ eq))) (n := aN a_) (c := 405504) (fun j_ hj => chN_le ho_ hj)
              have hck := chN_le (n := shN h_ dq) (X := shX h_ dq) (Q := shY h_ dq) (V := hE h_ eq) ho_ hwq
              have hcp := chN_pos (n := shN h_ dq) (X := shX h_ dq) (Q := shY h_ dq) (V := hE h_ eq) ho_ hwq
              have hpt := smN_part (f := (chN a_ (shN h_ dq) (shX h_ dq) (shY h_ dq) (hE h_ eq))) hwq
              refine m_aload_n 0 rfl rfl dX11_odds_72 ?_
              refine m_iload_n 1 rfl rfl dX11_odds_73 ?_
              refine m_callVi cv_X11_167 [.int (nI (wq))] [] (k_chance l G a_ ho_ hR (shN h_ dq) (shX h_ dq) (shY h_ dq) hs_ (hE h_ eq) hv_ wq (by omega)) (by decide) (ce_0 G _ _ _ _ _ _ _ _ _ _) rfl rfl rfl ⟨Nat.le_of_ble_eq_true rfl, Nat.le_of_ble_eq_true rfl⟩ (Nat.le_of_ble_eq_true rfl) ⟨Nat.zero_le _, Nat.zero_le _⟩ dX11_odds_74 (fun xx σ2 hq => ?_)
              obtain ⟨rfl, Z6, rfl⟩ := hq
              refine m_iload 6 rfl dX11_odds_77 ?_
              refine m_iload 4 rfl dX11_odds_79 ?_
              refine m_callSi cs_X11_170 [.int (nI (chN a_ (shN h_ dq) (shX h_ dq) (shY h_ dq) (hE h_ eq) wq)), .int (nI (smN (chN a_ (shN h_ dq) (shX h_ dq) (shY h_ dq) (hE h_ eq)) (aN a_))), .int p_] [] (k_least l G (chN a_ (shN h_ dq) (shX h_ dq) (shY h_ dq) (hE h_ eq) wq) (smN (chN a_ (shN h_ dq) (shX h_ dq) (shY h_ dq) (hE h_ eq)) (aN a_)) (by omega) (by omega) (by omega) p_) rfl rfl ⟨Nat.le_of_ble_eq_true rfl, Nat.le_of_ble_eq_true rfl⟩ (Nat.le_of_ble_eq_true rfl) ⟨Nat.zero_le _, Nat.zero_le _⟩ dX11_odds_81 (fun xx σ2 hq => ?_)
              obtain ⟨rfl, rfl⟩ := hq
              exact m_iret dX11_odds_84 (Nat.le_refl _) (Nat.le_refl _) (⟨by first | (simp [oddsI, c1_, c2_, c4_, c5_, hclwq, hcldq, hcleq, hb0, rN, rX, rQ, rV]; done) | (simp_all [oddsI, rN, rX, rQ, rV]; done) | grind [oddsI], _, _, _, rfl⟩)
            ·
              have hsm := smN_bound (f := (chN a_ (shN h_ dq) (shX h_ dq) (shY h_ dq) (hE h_ eq))) (n := k_) (c := 405504) (fun j_ hj => chN_le ho_ (by omega))
              have hck := chN_le (n := shN h_ dq) (X := shX h_ dq) (Q := shY h_ dq) (V := hE h_ eq) ho_ (w := k_) (by omega)
              refine m_iload 6 rfl dX11_odds_55 ?_
              refine m_aload_n 0 rfl rfl dX11_odds_57 ?_
              refine m_iload 7 rfl dX11_odds_58 ?_
              refine m_callVi cv_X11_167 [.int (nI (k_))] [.int (nI (smN (chN a_ (shN h_ dq) (shX h_ dq) (shY h_ dq) (hE h_ eq)) k_))] (k_chance l G a_ ho_ hR (shN h_ dq) (shX h_ dq) (shY h_ dq) hs_ (hE h_ eq) hv_ k_ (by omega)) (by decide) (ce_0 G _ _ _ _ _ _ _ _ _ _) rfl rfl rfl ⟨Nat.le_of_ble_eq_true rfl, Nat.le_of_ble_eq_true rfl⟩ (Nat.le_of_ble_eq_true rfl) ⟨Nat.zero_le _, Nat.zero_le _⟩ dX11_odds_60 (fun xx σ2 hq => ?_)
              obtain ⟨rfl, Z7, rfl⟩ := hq
              refine m_iadd dX11_odds_63 ?_
              refine m_topi (show (nI (smN (chN a_ (shN h_ dq) (shX h_ dq) (shY h_ dq) (hE h_ eq)) k_)) + (nI (chN a_ (shN h_ dq) (shX h_ dq) (shY h_ dq) (hE h_ eq) k_)) = nI ((smN (chN a_ (shN h_ dq) (shX h_ dq) (shY h_ dq) (hE h_ eq)) k_) + (chN a_ (shN h_ dq) (shX h_ dq) (shY h_ dq) (hE h_ eq) k_)) from nI_add _ _) ?_
              refine m_istore [(6, .int (nI ((smN (chN a_ (shN h_ dq) (shX h_ dq) (shY h_ dq) (hE h_ eq)) k_) + (chN a_ (shN h_ dq) (shX h_ dq) (shY h_ dq) (hE h_ eq) k_)))), (0, .ref (gK G 0 0)), (1, .int (nI (wq))), (2, .int (nI (dq))), (3, .int (nI (eq))), (4, .int p_), (5, .int (boRefI h_ (nI dq) (nI eq))), (7, .int (nI (k_)))] (by decide) rfl dX11_odds_64 ?_
              refine m_iinc (nI (k_ + 1)) 7 [(7, .int (nI (k_ + 1))), (6, .int (nI ((smN (chN a_ (shN h_ dq) (shX h_ dq) (shY h_ dq) (hE h_ eq)) k_) + (chN a_ (shN h_ dq) (shX h_ dq) (shY h_ dq) (hE h_ eq) k_)))), (0, .ref (gK G 0 0)), (1, .int (nI (wq))), (2, .int (nI (dq))), (3, .int (nI (eq))), (4, .int p_), (5, .int (boRefI h_ (nI dq) (nI eq)))] rfl (nI_1 _) (by decide) rfl dX11_odds_66 ?_
              refine m_goto 43 dX11_odds_69 (by decide) ?_
              refine m_lv [(0, .ref (gK G 0 0)), (1, .int (nI (wq))), (2, .int (nI (dq))), (3, .int (nI (eq))), (4, .int p_), (5, .int (boRefI h_ (nI dq) (nI eq))), (6, .int (nI ((smN (chN a_ (shN h_ dq) (shX h_ dq) (shY h_ dq) (hE h_ eq)) k_) + (chN a_ (shN h_ dq) (shX h_ dq) (shY h_ dq) (hE h_ eq) k_)))), (7, .int (nI (k_ + 1)))] [2, 3, 4, 5, 6, 7, 1, 0] rfl ?_
              exact ih43 (k_ + 1) Z7 (by omega) (by omega)
        refine m_lv [(0, .ref (gK G 0 0)), (1, .int (nI (wq))), (2, .int (nI (dq))), (3, .int (nI (eq))), (4, .int p_), (5, .int (boRefI h_ (nI dq) (nI eq))), (6, .int 0), (7, .int 0)] [3, 4, 5, 6, 7, 2, 1, 0] rfl ?_
        exact lp43 ((aN a_ - 0) + 1) 0 Z (Nat.zero_le _) (Nat.lt_succ_self _)
      ·
        refine m_iload 0 rfl dX11_odds_34 ?_
        exact m_iret dX11_odds_36 (Nat.le_refl _) (Nat.le_refl _) (⟨by first | (simp [oddsI, c1_, c2_, c4_, hclwq]; done) | (simp_all [oddsI, rN, rX, rQ, rV]; done) | grind [oddsI], _, _, _, rfl⟩)
    ·
      refine m_iconst (-1) dX11_odds_19 rfl ?_
      exact m_iret dX11_odds_20 (Nat.le_refl _) (Nat.le_refl _) (⟨by first | (simp [oddsI, c1_, c2_, hclwq]; done) | (simp_all [oddsI, rN, rX, rQ, rV]; done) | grind [oddsI], _, _, _, rfl⟩)
set_option maxRecDepth 100000 in
set_option maxHeartbeats 4000000 in
theorem k_most (l : Launch) (G : owG) {A S Z B T V : owF} {J : Nat → Nat → Int64} {Y : Nat → Nat → Nat → Option Nat} {P : Nat → Option owW} (a_ : owK) (ho_ : aOk a_) (hR : RX A Y P 0 a_) (h_ : owH) (hRS : allRS A Y P h_) (x_ b_ : Int32) : Ct l G yX11_most cX11_most 8 ((some .int)) 7 0 0 [.ref (gK G 0 0), .int x_, .int b_] (A, S, Z, B, T, V, J, Y, P) (qI (fun r_ σ => r_ = mostI a_ h_ x_ b_ ∧ ∃ (S2 Z2 : owF) (J2 : Nat → Nat → Int64), σ = (A, S2, Z2, B, T, V, J2, Y, P))) := by
  refine ct_of (by decide +kernel) (Nat.le_of_ble_eq_true rfl) ?_
  have h10 := ho_.1
  have h8_ := ho_.2.1
  show Wm l G cX11_most 8 RX11 ((some .int)) (rmk 7 0 0) (fun _ => True) (QfM G (qI (fun r_ σ => r_ = mostI a_ h_ x_ b_ ∧ ∃ (S2 Z2 : owF) (J2 : Nat → Nat → Int64), σ = (A, S2, Z2, B, T, V, J2, Y, P))) 0 0) 0 [(0, .ref (gK G 0 0)), (1, .int x_), (2, .int b_)] [] (A, S, Z, B, T, V, J, Y, P) 0 0
  refine m_aload_n 0 rfl rfl dX11_most_0 ?_
  refine gf_X11_10 dX11_most_1 ?_
  refine m_iload_n 2 rfl rfl dX11_most_4 ?_
  refine m_callVi cv_X11_143 [.int b_] [] (k_hasWays l G 0 (by decide) a_ ho_ hR b_) (by decide) (ce_1 G _ _ _ _ _ _ _ _ _ _) rfl rfl rfl ⟨Nat.le_of_ble_eq_true rfl, Nat.le_of_ble_eq_true rfl⟩ (Nat.le_of_ble_eq_true rfl) ⟨Nat.zero_le _, Nat.zero_le _⟩ dX11_most_5 (fun xx σ2 hq => ?_)
  obtain ⟨rfl, rfl⟩ := hq
  refine m_ifne_b 13 dX11_most_8 (by decide) (fun c1_ => ?_) (fun c1_ => ?_)
  ·
    refine m_aload_n 0 rfl rfl dX11_most_13 ?_
    refine m_iload_n 1 rfl rfl dX11_most_14 ?_
    refine m_callVi cv_X11_176 [.int x_] [] (k_sheet l G h_ hRS x_) (by decide) (ce_0 G _ _ _ _ _ _ _ _ _ _) rfl rfl rfl ⟨Nat.le_of_ble_eq_true rfl, Nat.le_of_ble_eq_true rfl⟩ (Nat.le_of_ble_eq_true rfl) ⟨Nat.zero_le _, Nat.zero_le _⟩ dX11_most_15 (fun xx σ2 hq => ?_)
    obtain ⟨rfl, S2, rfl, hsh⟩ := hq
    refine m_istore_n [(3, .int (shRefI h_ x_)), (0, .ref (gK G 0 0)), (1, .int x_), (2, .int b_)] rfl (by decide) rfl dX11_most_18 ?_
    refine m_iload_n 0 rfl rfl dX11_most_19 ?_
    refine m_if_eq 25 dX11_most_20 (by decide) (fun c3_ => ?_) (fun c3_ => ?_)
    ·
      have hb0 := c3_
      obtain ⟨dq, hdq, rfl, hk2, hs_⟩ := hsh hb0
      have hcldq : (nI dq).toNatClampNeg = dq := nI_clamp (by omega)
      refine m_bipush (-4) dX11_most_25 rfl ?_
      refine m_istore [(4, .int (-4)), (3, .int (shRefI h_ (nI dq))), (0, .ref (gK G 0 0)), (1, .int (nI (dq))), (2, .int b_)] (by decide) rfl dX11_most_27 ?_
      refine m_iconst (-1) dX11_most_29 rfl ?_
      refine m_istore [(5, .int (-1)), (4, .int (-4)), (3, .int (shRefI h_ (nI dq))), (0, .ref (gK G 0 0)), (1, .int (nI (dq))), (2, .int b_)] (by decide) rfl dX11_most_30 ?_
      refine m_iconst 0 dX11_most_32 rfl ?_
      refine m_istore [(6, .int 0), (5, .int (-1)), (4, .int (-4)), (3, .int (shRefI h_ (nI dq))), (0, .ref (gK G 0 0)), (1, .int (nI (dq))), (2, .int b_)] (by decide) rfl dX11_most_33 ?_
      have lp35 : ∀ (dd : Nat) (k_ : Nat) (S9 : owF) (Z9 : owF), k_ ≤ shN h_ dq → shS S9 (shN h_ dq) (shX h_ dq) (shY h_ dq) → shN h_ dq - k_ < dd → Wm l G cX11_most 8 RX11 ((some .int)) (rmk 7 0 0) (fun _ => True) (QfM G (qI (fun r_ σ => r_ = mostI a_ h_ (nI dq) b_ ∧ ∃ (S2 Z2 : owF) (J2 : Nat → Nat → Int64), σ = (A, S2, Z2, B, T, V, J2, Y, P))) 0 0) 35 [(0, .ref (gK G 0 0)), (1, .int (nI (dq))), (2, .int b_), (3, .int (shRefI h_ (nI dq))), (4, .int (optI (mstS (fun s_ => parN a_ (shX h_ dq s_) (shY h_ dq s_) b_) k_))), (5, .int (mostF (fun s_ => parN a_ (shX h_ dq s_) (shY h_ dq s_) b_) (mstS (fun s_ => parN a_ (shX h_ dq s_) (shY h_ dq s_) b_) k_))), (6, .int (nI (k_)))] [] (A, S9, Z9, B, T, V, J, Y, P) 0 0 := by
        intro dd
        induction dd with
        | zero => intro k_ S9 Z9 hk_ hs9 hdd; exact absurd hdd (Nat.not_lt_zero _)
        | succ dd ih35 =>
          intro k_ S9 Z9 hk_ hs9 hdd35
          have hn12 := hs9.2.1
          refine m_iload 6 rfl dX11_most_35 ?_
          refine m_aload_n 0 rfl rfl dX11_most_37 ?_
          refine gf_X11_179 dX11_most_38 ?_
          refine m_topi hs9.1 ?_
          refine m_icmpn_ge k_ (shN h_ dq) 90 (by omega) (by omega) dX11_most_41 (by decide) (fun c4_ => ?_) (fun c4_ => ?_)
          ·
            refine m_iload 4 rfl dX11_most_90 ?_
            exact m_iret dX11_most_92 (Nat.le_refl _) (Nat.le_refl _) (⟨by obtain rfl : k_ = shN h_ dq := (by omega); first | (simp [mostI, c1_, c3_, c4_, hcldq, hb0, rN, rX, rQ, rV]; done) | (simp_all [mostI, rN, rX, rQ, rV]; done) | grind [mostI], _, _, _, rfl⟩)
          ·
            have hxk := (hs9.2.2 k_ (by omega)).2.2.2
            have hyk := (hs9.2.2 k_ (by omega)).2.2.1
            refine m_aload_n 0 rfl rfl dX11_most_44 ?_
            refine m_aload_n 0 rfl rfl dX11_most_45 ?_
            refine gf_X11_35 dX11_most_46 ?_
            refine m_iload 6 rfl dX11_most_49 ?_
            refine m_callSi cs_X11_102 [.ref (gK G 30 0), .int (nI (k_))] [.ref (gK G 0 0)] (k_at (t := 30) (n := 12) l G (by decide) (ce_30 G _ _ _ _ _ _ _ _ _ 0) (by decide) (nI (k_))) rfl rfl ⟨Nat.le_of_ble_eq_true rfl, Nat.le_of_ble_eq_true rfl⟩ (Nat.le_of_ble_eq_true rfl) ⟨Nat.zero_le _, Nat.zero_le _⟩ dX11_most_51 (fun xx σ2 hq => ?_)
            obtain rfl : xx = S9 30 0 k_ := hq.1.trans (atV_in (by omega) (by decide))
            obtain rfl := hq.2
            refine m_topi (hs9.2.2 k_ (by omega)).1 ?_
            refine m_aload_n 0 rfl rfl dX11_most_54 ?_
            refine gf_X11_39 dX11_most_55 ?_
            refine m_iload 6 rfl dX11_most_58 ?_
            refine m_callSi cs_X11_102 [.ref (gK G 31 0), .int (nI (k_))] [.int (nI (shX h_ dq k_)), .ref (gK G 0 0)] (k_at (t := 31) (n := 12) l G (by decide) (ce_31 G _ _ _ _ _ _ _ _ _ 0) (by decide) (nI (k_))) rfl rfl ⟨Nat.le_of_ble_eq_true rfl, Nat.le_of_ble_eq_true rfl⟩ (Nat.le_of_ble_eq_true rfl) ⟨Nat.zero_le _, Nat.zero_le _⟩ dX11_most_60 (fun xx σ2 hq => ?_)
            obtain rfl : xx = S9 31 0 k_ := hq.1.trans (atV_in (by omega) (by decide))
            obtain rfl := hq.2
            refine m_topi (hs9.2.2 k_ (by omega)).2.1 ?_
            refine m_iload_n 2 rfl rfl dX11_most_63 ?_
            refine m_callVi cv_X11_146 [.int (nI (shX h_ dq k_)), .int (nI (shY h_ dq k_)), .int b_] [] (k_unlike l G a_ ho_ hR (shX h_ dq k_) (shY h_ dq k_) hxk hyk b_) (by decide) (ce_0 G _ _ _ _ _ _ _ _ _ _) rfl rfl rfl ⟨Nat.le_of_ble_eq_true rfl, Nat.le_of_ble_eq_true rfl⟩ (Nat.le_of_ble_eq_true rfl) ⟨Nat.zero_le _, Nat.zero_le _⟩ dX11_most_64 (fun xx σ2 hq => ?_)
            obtain ⟨rfl, S8, Z7, rfl, hfS8⟩ := hq
            refine m_istore [(7, .int (nI (parN a_ (shX h_ dq k_) (shY h_ dq k_) b_))), (0, .ref (gK G 0 0)), (1, .int (nI (dq))), (2, .int b_), (3, .int (shRefI h_ (nI dq))), (4, .int (optI (mstS (fun s_ => parN a_ (shX h_ dq s_) (shY h_ dq s_) b_) k_))), (5, .int (mostF (fun s_ => parN a_ (shX h_ dq s_) (shY h_ dq s_) b_) (mstS (fun s_ => parN a_ (shX h_ dq s_) (shY h_ dq s_) b_) k_))), (6, .int (nI (k_)))] (by decide) rfl dX11_most_67 ?_
            cases hl0 : mstS (fun s_ => parN a_ (shX h_ dq s_) (shY h_ dq s_) b_) k_ with
            | none =>
              have hk0 := mstS_none hl0
              have hpk : parN a_ (shX h_ dq k_) (shY h_ dq k_) b_ ≤ 10 := Nat.le_trans (cntB_le _ _) h10
              refine m_iload 0 rfl dX11_most_69 ?_
              refine m_iload 6 rfl dX11_most_71 ?_
              refine m_icmp_le 84 dX11_most_73 (by decide) (fun c9_ => ?_) (fun c9_ => ?_)
              ·
                have hz : False := absurd (Int32.le_trans (nI_pos' (by omega)) (show nI (parN a_ (shX h_ dq k_) (shY h_ dq k_) b_) ≤ -1 from c9_)) (by decide)
                exact m_dead (by first | omega | assumption)
              ·
                refine m_iload 0 rfl dX11_most_76 ?_
                refine m_istore [(5, .int (nI (parN a_ (shX h_ dq k_) (shY h_ dq k_) b_))), (7, .int (nI (parN a_ (shX h_ dq k_) (shY h_ dq k_) b_))), (0, .ref (gK G 0 0)), (1, .int (nI (dq))), (2, .int b_), (3, .int (shRefI h_ (nI dq))), (4, .int (-4)), (6, .int (nI (k_)))] (by decide) rfl dX11_most_78 ?_
                refine m_iload 7 rfl dX11_most_80 ?_
                refine m_istore [(4, .int (nI (k_))), (5, .int (nI (parN a_ (shX h_ dq k_) (shY h_ dq k_) b_))), (7, .int (nI (parN a_ (shX h_ dq k_) (shY h_ dq k_) b_))), (0, .ref (gK G 0 0)), (1, .int (nI (dq))), (2, .int b_), (3, .int (shRefI h_ (nI dq))), (6, .int (nI (k_)))] (by decide) rfl dX11_most_82 ?_
                refine m_iinc (nI (k_ + 1)) 7 [(6, .int (nI (k_ + 1))), (4, .int (nI (k_))), (5, .int (nI (parN a_ (shX h_ dq k_) (shY h_ dq k_) b_))), (7, .int (nI (parN a_ (shX h_ dq k_) (shY h_ dq k_) b_))), (0, .ref (gK G 0 0)), (1, .int (nI (dq))), (2, .int b_), (3, .int (shRefI h_ (nI dq)))] rfl (nI_1 _) (by decide) rfl dX11_most_84 ?_
                refine m_goto 35 dX11_most_87 (by decide) ?_
                refine m_lv [(0, .ref (gK G 0 0)), (1, .int (nI (dq))), (2, .int b_), (3, .int (shRefI h_ (nI dq))), (4, .int (nI (k_))), (5, .int (nI (parN a_ (shX h_ dq k_) (shY h_ dq k_) b_))), (6, .int (nI (k_ + 1)))] [4, 5, 6, 7, 1, 2, 0] rfl ?_
                have ihx := ih35 (k_ + 1) S8 Z7 (by omega) (hs9.keep hfS8 (by decide)) (by omega)
                rw [mstS_0 hl0] at ihx
                exact ihx
            | some bw =>
              have hbk := mstS_lt hl0
              have hpk : parN a_ (shX h_ dq k_) (shY h_ dq k_) b_ ≤ 10 := Nat.le_trans (cntB_le _ _) h10
              have hpb : parN a_ (shX h_ dq bw) (shY h_ dq bw) b_ ≤ 10 := Nat.le_trans (cntB_le _ _) h10
              refine m_iload 0 rfl dX11_most_69 ?_
              refine m_iload 6 rfl dX11_most_71 ?_
              refine m_icmpn_le (parN a_ (shX h_ dq k_) (shY h_ dq k_) b_) (parN a_ (shX h_ dq bw) (shY h_ dq bw) b_) 84 (by omega) (by omega) dX11_most_73 (by decide) (fun c10_ => ?_) (fun c10_ => ?_)
              ·
                refine m_iinc (nI (k_ + 1)) 7 [(6, .int (nI (k_ + 1))), (7, .int (nI (parN a_ (shX h_ dq k_) (shY h_ dq k_) b_))), (0, .ref (gK G 0 0)), (1, .int (nI (dq))), (2, .int b_), (3, .int (shRefI h_ (nI dq))), (4, .int (nI (bw))), (5, .int (nI (parN a_ (shX h_ dq bw) (shY h_ dq bw) b_)))] rfl (nI_1 _) (by decide) rfl dX11_most_84 ?_
                refine m_goto 35 dX11_most_87 (by decide) ?_
                refine m_lv [(0, .ref (gK G 0 0)), (1, .int (nI (dq))), (2, .int b_), (3, .int (shRefI h_ (nI dq))), (4, .int (nI (bw))), (5, .int (nI (parN a_ (shX h_ dq bw) (shY h_ dq bw) b_))), (6, .int (nI (k_ + 1)))] [2, 3, 4, 5, 6, 7, 0] rfl ?_
                have ihx := ih35 (k_ + 1) S8 Z7 (by omega) (hs9.keep hfS8 (by decide)) (by omega)
                rw [mstS_n hl0 (show ¬ parN a_ (shX h_ dq bw) (shY h_ dq bw) b_ < parN a_ (shX h_ dq k_) (shY h_ dq k_) b_ by omega)] at ihx
                exact ihx
              ·
                refine m_iload 0 rfl dX11_most_76 ?_
                refine m_istore [(5, .int (nI (parN a_ (shX h_ dq k_) (shY h_ dq k_) b_))), (7, .int (nI (parN a_ (shX h_ dq k_) (shY h_ dq k_) b_))), (0, .ref (gK G 0 0)), (1, .int (nI (dq))), (2, .int b_), (3, .int (shRefI h_ (nI dq))), (4, .int (nI (bw))), (6, .int (nI (k_)))] (by decide) rfl dX11_most_78 ?_
                refine m_iload 7 rfl dX11_most_80 ?_
                refine m_istore [(4, .int (nI (k_))), (5, .int (nI (parN a_ (shX h_ dq k_) (shY h_ dq k_) b_))), (7, .int (nI (parN a_ (shX h_ dq k_) (shY h_ dq k_) b_))), (0, .ref (gK G 0 0)), (1, .int (nI (dq))), (2, .int b_), (3, .int (shRefI h_ (nI dq))), (6, .int (nI (k_)))] (by decide) rfl dX11_most_82 ?_
                refine m_iinc (nI (k_ + 1)) 7 [(6, .int (nI (k_ + 1))), (4, .int (nI (k_))), (5, .int (nI (parN a_ (shX h_ dq k_) (shY h_ dq k_) b_))), (7, .int (nI (parN a_ (shX h_ dq k_) (shY h_ dq k_) b_))), (0, .ref (gK G 0 0)), (1, .int (nI (dq))), (2, .int b_), (3, .int (shRefI h_ (nI dq)))] rfl (nI_1 _) (by decide) rfl dX11_most_84 ?_
                refine m_goto 35 dX11_most_87 (by decide) ?_
                refine m_lv [(0, .ref (gK G 0 0)), (1, .int (nI (dq))), (2, .int b_), (3, .int (shRefI h_ (nI dq))), (4, .int (nI (k_))), (5, .int (nI (parN a_ (shX h_ dq k_) (shY h_ dq k_) b_))), (6, .int (nI (k_ + 1)))] [4, 5, 6, 7, 1, 2, 0] rfl ?_
                have ihx := ih35 (k_ + 1) S8 Z7 (by omega) (hs9.keep hfS8 (by decide)) (by omega)
                rw [mstS_y hl0 (show parN a_ (shX h_ dq bw) (shY h_ dq bw) b_ < parN a_ (shX h_ dq k_) (shY h_ dq k_) b_ by omega)] at ihx
                exact ihx
      refine m_lv [(0, .ref (gK G 0 0)), (1, .int (nI (dq))), (2, .int b_), (3, .int (shRefI h_ (nI dq))), (4, .int (-4)), (5, .int (-1)), (6, .int 0)] [4, 5, 6, 3, 2, 1, 0] rfl ?_
      exact lp35 ((shN h_ dq - 0) + 1) 0 S2 Z (Nat.zero_le _) hs_ (Nat.lt_succ_self _)
    ·
      refine m_iload_n 0 rfl rfl dX11_most_23 ?_
      exact m_iret dX11_most_24 (Nat.le_refl _) (Nat.le_refl _) (⟨by first | (simp [mostI, c1_, c3_]; done) | (simp_all [mostI, rN, rX, rQ, rV]; done) | grind [mostI], _, _, _, rfl⟩)
  ·
    refine m_iconst (-1) dX11_most_11 rfl ?_
    exact m_iret dX11_most_12 (Nat.le_refl _) (Nat.le_refl _) (⟨by first | (simp [mostI, c1_]; done) | (simp_all [mostI, rN, rX, rQ, rV]; done) | grind [mostI], _, _, _, rfl⟩)
set_option maxRecDepth 100000 in
set_option maxHeartbeats 4000000 in
theorem k_held (l : Launch) (G : owG) {A S Z B T V : owF} {J : Nat → Nat → Int64} {Y : Nat → Nat → Nat → Option Nat} {P : Nat → Option owW} (a_ : owK) (ho_ : aOk a_) (hR : RX A Y P 0 a_) (h_ : owH) (hRS : allRS A Y P h_) (x_ z_ ab v_ p_ : Int32) : Ct l G yX11_held cX11_held 9 ((some .int)) 8 0 0 [.ref (gK G 0 0), .int x_, .int z_, .int ab, .int v_, .int p_] (A, S, Z, B, T, V, J, Y, P) (qI (fun r_ σ => r_ = heldI a_ h_ x_ z_ ab v_ p_ ∧ ∃ (S2 Z2 : owF) (J2 : Nat → Nat → Int64), σ = (A, S2, Z2, B, T, V, J2, Y, P))) := by
  refine ct_of (by decide +kernel) (Nat.le_of_ble_eq_true rfl) ?_
  have h10 := ho_.1
  have h8_ := ho_.2.1
  show Wm l G cX11_held 9 RX11 ((some .int)) (rmk 8 0 0) (fun _ => True) (QfM G (qI (fun r_ σ => r_ = heldI a_ h_ x_ z_ ab v_ p_ ∧ ∃ (S2 Z2 : owF) (J2 : Nat → Nat → Int64), σ = (A, S2, Z2, B, T, V, J2, Y, P))) 0 0) 0 [(0, .ref (gK G 0 0)), (1, .int x_), (2, .int z_), (3, .int ab), (4, .int v_), (5, .int p_)] [] (A, S, Z, B, T, V, J, Y, P) 0 0
  refine m_iload_n 3 rfl rfl dX11_held_0 ?_
  refine m_if_lt 36 dX11_held_1 (by decide) (fun c1_ => ?_) (fun c1_ => ?_)
  ·
    refine m_iconst (-1) dX11_held_36 rfl ?_
    exact m_iret dX11_held_37 (Nat.le_refl _) (Nat.le_refl _) (⟨by first | (simp [heldI, c1_]; done) | (simp_all [heldI, rN, rX, rQ, rV]; done) | grind [heldI, rN, rX, rQ, rV], _, _, _, rfl⟩)
  ·
    refine m_iload_n 3 rfl rfl dX11_held_4 ?_
    refine m_sipush (10000) dX11_held_5 rfl ?_
    refine m_idiv (by decide) dX11_held_8 ?_
    refine m_iload_n 3 rfl rfl dX11_held_9 ?_
    refine m_sipush (10000) dX11_held_10 rfl ?_
    refine m_irem (by decide) dX11_held_13 ?_
    refine m_callSi cs_X11_120 [.int (ab / 10000), .int (ab - ab / 10000 * 10000)] [] (k_isSum l G (ab / 10000) (ab - ab / 10000 * 10000)) rfl rfl ⟨Nat.le_of_ble_eq_true rfl, Nat.le_of_ble_eq_true rfl⟩ (Nat.le_of_ble_eq_true rfl) ⟨Nat.zero_le _, Nat.zero_le _⟩ dX11_held_14 (fun xx σ2 hq => ?_)
    obtain ⟨rfl, rfl⟩ := hq
    refine m_ifeq_b 36 dX11_held_17 (by decide) (fun c2_ => ?_) (fun c2_ => ?_)
    ·
      refine m_iconst (-1) dX11_held_36 rfl ?_
      exact m_iret dX11_held_37 (Nat.le_refl _) (Nat.le_refl _) (⟨by first | (simp [heldI, c1_, c2_]; done) | (simp_all [heldI, rN, rX, rQ, rV]; done) | grind [heldI, rN, rX, rQ, rV], _, _, _, rfl⟩)
    ·
      obtain ⟨xq, yq, ex, ey, hy_, hx_⟩ := sumNat c2_
      have hS := c2_
      have hclxq : (ab / 10000).toNatClampNeg = xq := by rw [ex]; exact nI_clamp (by omega)
      have hclyq : (ab - ab / 10000 * 10000).toNatClampNeg = yq := by rw [ey]; exact nI_clamp (by omega)
      refine m_iload 4 rfl dX11_held_20 ?_
      refine m_callSi cs_X11_149 [.int v_] [] (k_isAns l G v_) rfl rfl ⟨Nat.le_of_ble_eq_true rfl, Nat.le_of_ble_eq_true rfl⟩ (Nat.le_of_ble_eq_true rfl) ⟨Nat.zero_le _, Nat.zero_le _⟩ dX11_held_22 (fun xx σ2 hq => ?_)
      obtain ⟨rfl, rfl⟩ := hq
      refine m_ifeq_b 36 dX11_held_25 (by decide) (fun c3_ => ?_) (fun c3_ => ?_)
      ·
        refine m_iconst (-1) dX11_held_36 rfl ?_
        exact m_iret dX11_held_37 (Nat.le_refl _) (Nat.le_refl _) (⟨by first | (simp [heldI, c1_, c2_, c3_, hclxq, hclyq]; done) | (simp_all [heldI, rN, rX, rQ, rV]; done) | grind [heldI, rN, rX, rQ, rV], _, _, _, rfl⟩)
      ·
        refine m_iload 5 rfl dX11_held_28 ?_
        refine m_callSi cs_X11_131 [.int p_] [] (k_is01 l G p_) rfl rfl ⟨Nat.le_of_ble_eq_true rfl, Nat.le_of_ble_eq_true rfl⟩ (Nat.le_of_ble_eq_true rfl) ⟨Nat.zero_le _, Nat.zero_le _⟩ dX11_held_30 (fun xx σ2 hq => ?_)
        obtain ⟨rfl, rfl⟩ := hq
        refine m_ifne_b 38 dX11_held_33 (by decide) (fun c4_ => ?_) (fun c4_ => ?_)
        ·
          refine m_aload_n 0 rfl rfl dX11_held_38 ?_
          refine m_iload_n 1 rfl rfl dX11_held_39 ?_
          refine m_iload_n 2 rfl rfl dX11_held_40 ?_
          refine m_callVi cv_X11_152 [.int x_, .int z_] [] (k_both l G h_ hRS x_ z_) (by decide) (ce_0 G _ _ _ _ _ _ _ _ _ _) rfl rfl rfl ⟨Nat.le_of_ble_eq_true rfl, Nat.le_of_ble_eq_true rfl⟩ (Nat.le_of_ble_eq_true rfl) ⟨Nat.zero_le _, Nat.zero_le _⟩ dX11_held_41 (fun xx σ2 hq => ?_)
          obtain ⟨rfl, S5, rfl, hbo⟩ := hq
          refine m_istore [(6, .int (boRefI h_ x_ z_)), (0, .ref (gK G 0 0)), (1, .int x_), (2, .int z_), (3, .int ab), (4, .int v_), (5, .int p_)] (by decide) rfl dX11_held_44 ?_
          refine m_iload 0 rfl dX11_held_46 ?_
          refine m_if_eq 54 dX11_held_48 (by decide) (fun c6_ => ?_) (fun c6_ => ?_)
          ·
            have hb0 := c6_
            obtain ⟨dq, eq, hdq, heq, rfl, rfl, hk2, hs_, hv_⟩ := hbo hb0
            have hcldq : (nI dq).toNatClampNeg = dq := nI_clamp (by omega)
            have hcleq : (nI eq).toNatClampNeg = eq := nI_clamp (by omega)
            refine m_aload_n 1 rfl rfl dX11_held_54 ?_
            refine m_iconst 0 dX11_held_55 rfl ?_
            refine m_callVi cv_X11_158 [.int 0] [] (k_waysFitting l G a_ ho_ hR (shN h_ dq) (shX h_ dq) (shY h_ dq) hs_ (hE h_ eq) hv_ 0 (by omega)) (by decide) (ce_0 G _ _ _ _ _ _ _ _ _ _) rfl rfl rfl ⟨Nat.le_of_ble_eq_true rfl, Nat.le_of_ble_eq_true rfl⟩ (Nat.le_of_ble_eq_true rfl) ⟨Nat.zero_le _, Nat.zero_le _⟩ dX11_held_56 (fun xx σ2 hq => ?_)
            obtain ⟨rfl, Z7, rfl⟩ := hq
            refine m_istore [(7, .int (fitA a_ (shN h_ dq) (shX h_ dq) (shY h_ dq) (hE h_ eq) 0)), (6, .int (boRefI h_ (nI dq) (nI eq))), (0, .ref (gK G 0 0)), (1, .int (nI (dq))), (2, .int (nI (eq))), (3, .int ab), (4, .int v_), (5, .int p_)] (by decide) rfl dX11_held_59 ?_
            refine m_iload 0 rfl dX11_held_61 ?_
            refine m_if_ne 69 dX11_held_63 (by decide) (fun c8_ => ?_) (fun c8_ => ?_)
            ·
              have hfp : 0 < wgN a_ (fitA a_ (shN h_ dq) (shX h_ dq) (shY h_ dq) (hE h_ eq) 0) (aN a_) := wgN_pos ho_ c8_
              refine m_aload_n 2 rfl rfl dX11_held_69 ?_
              refine m_iload_n 5 rfl rfl dX11_held_70 ?_
              refine m_sipush (10000) dX11_held_71 rfl ?_
              refine m_idiv (by decide) dX11_held_74 ?_
              refine m_topi (ex) ?_
              refine m_iload_n 5 rfl rfl dX11_held_75 ?_
              refine m_sipush (10000) dX11_held_76 rfl ?_
              refine m_irem (by decide) dX11_held_79 ?_
              refine m_topi (ey) ?_
              refine m_iload 6 rfl dX11_held_80 ?_
              refine m_callVi cv_X11_140 [.int (nI (xq)), .int (nI (yq)), .int v_] [] (k_waysAnswering l G a_ ho_ hR xq yq hx_ hy_ v_) (by decide) (ce_0 G _ _ _ _ _ _ _ _ _ _) rfl rfl rfl ⟨Nat.le_of_ble_eq_true rfl, Nat.le_of_ble_eq_true rfl⟩ (Nat.le_of_ble_eq_true rfl) ⟨Nat.zero_le _, Nat.zero_le _⟩ dX11_held_82 (fun xx σ2 hq => ?_)
              obtain ⟨rfl, Z9, rfl⟩ := hq
              refine m_istore [(8, .int (whoA a_ xq yq v_)), (7, .int (fitA a_ (shN h_ dq) (shX h_ dq) (shY h_ dq) (hE h_ eq) 0)), (6, .int (boRefI h_ (nI dq) (nI eq))), (0, .ref (gK G 0 0)), (1, .int (nI (dq))), (2, .int (nI (eq))), (3, .int ab), (4, .int v_), (5, .int p_)] (by decide) rfl dX11_held_85 ?_
              refine m_aload_n 3 rfl rfl dX11_held_87 ?_
              refine m_iload 1 rfl dX11_held_88 ?_
              refine m_iload 0 rfl dX11_held_90 ?_
              refine m_iand dX11_held_92 ?_
              refine m_callVi cv_X11_173 [.int ((fitA a_ (shN h_ dq) (shX h_ dq) (shY h_ dq) (hE h_ eq) 0) &&& (whoA a_ xq yq v_))] [] (k_weightOfAll l G a_ ho_ hR ((fitA a_ (shN h_ dq) (shX h_ dq) (shY h_ dq) (hE h_ eq) 0) &&& (whoA a_ xq yq v_))) (by decide) (ce_0 G _ _ _ _ _ _ _ _ _ _) rfl rfl rfl ⟨Nat.le_of_ble_eq_true rfl, Nat.le_of_ble_eq_true rfl⟩ (Nat.le_of_ble_eq_true rfl) ⟨Nat.zero_le _, Nat.zero_le _⟩ dX11_held_93 (fun xx σ2 hq => ?_)
              obtain ⟨rfl, rfl⟩ := hq
              refine m_aload_n 3 rfl rfl dX11_held_96 ?_
              refine m_iload 1 rfl dX11_held_97 ?_
              refine m_callVi cv_X11_173 [.int (fitA a_ (shN h_ dq) (shX h_ dq) (shY h_ dq) (hE h_ eq) 0)] [.int (nI (wgN a_ ((fitA a_ (shN h_ dq) (shX h_ dq) (shY h_ dq) (hE h_ eq) 0) &&& (whoA a_ xq yq v_)) (aN a_)))] (k_weightOfAll l G a_ ho_ hR (fitA a_ (shN h_ dq) (shX h_ dq) (shY h_ dq) (hE h_ eq) 0)) (by decide) (ce_0 G _ _ _ _ _ _ _ _ _ _) rfl rfl rfl ⟨Nat.le_of_ble_eq_true rfl, Nat.le_of_ble_eq_true rfl⟩ (Nat.le_of_ble_eq_true rfl) ⟨Nat.zero_le _, Nat.zero_le _⟩ dX11_held_99 (fun xx σ2 hq => ?_)
              obtain ⟨rfl, rfl⟩ := hq
              have hw1 := wgN_le (ws := fitA a_ (shN h_ dq) (shX h_ dq) (shY h_ dq) (hE h_ eq) 0) ho_ (Nat.le_refl _)
              have hw2 := wgN_le (ws := fitA a_ (shN h_ dq) (shX h_ dq) (shY h_ dq) (hE h_ eq) 0 &&& whoA a_ xq yq v_) ho_ (Nat.le_refl _)
              refine m_iload 8 rfl dX11_held_102 ?_
              refine m_callSi cs_X11_170 [.int (nI (wgN a_ ((fitA a_ (shN h_ dq) (shX h_ dq) (shY h_ dq) (hE h_ eq) 0) &&& (whoA a_ xq yq v_)) (aN a_))), .int (nI (wgN a_ (fitA a_ (shN h_ dq) (shX h_ dq) (shY h_ dq) (hE h_ eq) 0) (aN a_))), .int p_] [] (k_least l G (wgN a_ ((fitA a_ (shN h_ dq) (shX h_ dq) (shY h_ dq) (hE h_ eq) 0) &&& (whoA a_ xq yq v_)) (aN a_)) (wgN a_ (fitA a_ (shN h_ dq) (shX h_ dq) (shY h_ dq) (hE h_ eq) 0) (aN a_)) (by omega) (by omega) (by omega) p_) rfl rfl ⟨Nat.le_of_ble_eq_true rfl, Nat.le_of_ble_eq_true rfl⟩ (Nat.le_of_ble_eq_true rfl) ⟨Nat.zero_le _, Nat.zero_le _⟩ dX11_held_104 (fun xx σ2 hq => ?_)
              obtain ⟨rfl, rfl⟩ := hq
              exact m_iret dX11_held_107 (Nat.le_refl _) (Nat.le_refl _) (⟨by first | (simp [heldI, c1_, c2_, c3_, c4_, c6_, c8_, hclxq, hclyq, hcldq, hcleq, hb0, rN, rX, rQ, rV]; done) | (simp_all [heldI, rN, rX, rQ, rV]; done) | grind [heldI, rN, rX, rQ, rV], _, _, _, rfl⟩)
            ·
              refine m_bipush (-4) dX11_held_66 rfl ?_
              exact m_iret dX11_held_68 (Nat.le_refl _) (Nat.le_refl _) (⟨by first | (simp [heldI, c1_, c2_, c3_, c4_, c6_, c8_, hclxq, hclyq, hcldq, hcleq, hb0, rN, rX, rQ, rV]; done) | (simp_all [heldI, rN, rX, rQ, rV]; done) | grind [heldI, rN, rX, rQ, rV], _, _, _, rfl⟩)
          ·
            refine m_iload 0 rfl dX11_held_51 ?_
            exact m_iret dX11_held_53 (Nat.le_refl _) (Nat.le_refl _) (⟨by first | (simp [heldI, c1_, c2_, c3_, c4_, c6_, hclxq, hclyq]; done) | (simp_all [heldI, rN, rX, rQ, rV]; done) | grind [heldI, rN, rX, rQ, rV], _, _, _, rfl⟩)
        ·
          refine m_iconst (-1) dX11_held_36 rfl ?_
          exact m_iret dX11_held_37 (Nat.le_refl _) (Nat.le_refl _) (⟨by first | (simp [heldI, c1_, c2_, c3_, c4_, hclxq, hclyq]; done) | (simp_all [heldI, rN, rX, rQ, rV]; done) | grind [heldI, rN, rX, rQ, rV], _, _, _, rfl⟩)
set_option maxRecDepth 100000 in
set_option maxHeartbeats 4000000 in
theorem k_clash (l : Launch) (G : owG) {A S Z B T V : owF} {J : Nat → Nat → Int64} {Y : Nat → Nat → Nat → Option Nat} {P : Nat → Option owW} (a_ : owK) (ho_ : aOk a_) (hR : RX A Y P 0 a_) (v_ : Int32) : Ct l G yX11_clash cX11_clash 4 ((some .int)) 6 0 0 [.ref (gK G 0 0), .int v_] (A, S, Z, B, T, V, J, Y, P) (qI (fun r_ σ => r_ = clashI a_ v_ ∧ ∃ (S2 Z2 : owF) (J2 : Nat → Nat → Int64), σ = (A, S2, Z2, B, T, V, J2, Y, P))) := by
  refine ct_of (by decide +kernel) (Nat.le_of_ble_eq_true rfl) ?_
  have h10 := ho_.1
  have h8_ := ho_.2.1
  show Wm l G cX11_clash 4 RX11 ((some .int)) (rmk 6 0 0) (fun _ => True) (QfM G (qI (fun r_ σ => r_ = clashI a_ v_ ∧ ∃ (S2 Z2 : owF) (J2 : Nat → Nat → Int64), σ = (A, S2, Z2, B, T, V, J2, Y, P))) 0 0) 0 [(0, .ref (gK G 0 0)), (1, .int v_)] [] (A, S, Z, B, T, V, J, Y, P) 0 0
  refine m_aload_n 0 rfl rfl dX11_clash_0 ?_
  refine gf_X11_10 dX11_clash_1 ?_
  refine m_iload_n 1 rfl rfl dX11_clash_4 ?_
  refine m_callVi cv_X11_128 [.int v_] [] (k_hasWay l G 0 (by decide) a_ ho_ hR v_) (by decide) (ce_1 G _ _ _ _ _ _ _ _ _ _) rfl rfl rfl ⟨Nat.le_of_ble_eq_true rfl, Nat.le_of_ble_eq_true rfl⟩ (Nat.le_of_ble_eq_true rfl) ⟨Nat.zero_le _, Nat.zero_le _⟩ dX11_clash_5 (fun xx σ2 hq => ?_)
  obtain ⟨rfl, rfl⟩ := hq
  refine m_ifne_b 13 dX11_clash_8 (by decide) (fun c1_ => ?_) (fun c1_ => ?_)
  ·
    obtain ⟨wq, hwq, rfl⟩ := isW_nat ho_ c1_
    have hclwq : (nI wq).toNatClampNeg = wq := nI_clamp (by omega)
    refine m_iconst 0 dX11_clash_13 rfl ?_
    refine m_istore_n [(2, .int 0), (0, .ref (gK G 0 0)), (1, .int (nI (wq)))] rfl (by decide) rfl dX11_clash_14 ?_
    have lp15 : ∀ (dd : Nat) (u_ : Nat) (Z9 : owF), u_ ≤ 100 → clS (fun x_ y_ => ansA a_ wq x_ y_) u_ = none → 100 - u_ < dd → Wm l G cX11_clash 4 RX11 ((some .int)) (rmk 6 0 0) (fun _ => True) (QfM G (qI (fun r_ σ => r_ = clashI a_ (nI wq) ∧ ∃ (S2 Z2 : owF) (J2 : Nat → Nat → Int64), σ = (A, S2, Z2, B, T, V, J2, Y, P))) 0 0) 15 [(0, .ref (gK G 0 0)), (1, .int (nI (wq))), (2, .int (nI (u_)))] [] (A, S, Z9, B, T, V, J, Y, P) 0 0 := by
      intro dd
      induction dd with
      | zero => intro u_ Z9 hu hcs hdd; exact absurd hdd (Nat.not_lt_zero _)
      | succ dd ih15 =>
        intro u_ Z9 hu hcs hdd15
        refine m_iload_n 2 rfl rfl dX11_clash_15 ?_
        refine m_bipush (100) dX11_clash_16 rfl ?_
        refine m_icmpn_ge u_ 100 58 (by omega) (by decide) dX11_clash_18 (by decide) (fun c2_ => ?_) (fun c2_ => ?_)
        ·
          refine m_bipush (-4) dX11_clash_58 rfl ?_
          exact m_iret dX11_clash_60 (Nat.le_refl _) (Nat.le_refl _) (⟨by unfold clashI; rw [if_pos c1_, hclwq]; obtain rfl : u_ = 100 := (by omega); exact (congrArg optI hcs).symm, _, _, _, rfl⟩)
        ·
          refine m_iconst 0 dX11_clash_21 rfl ?_
          refine m_istore_n [(3, .int 0), (0, .ref (gK G 0 0)), (1, .int (nI (wq))), (2, .int (nI (u_)))] rfl (by decide) rfl dX11_clash_22 ?_
          have lp23 : ∀ (dd : Nat) (k_ : Nat) (Z8 : owF), k_ ≤ u_ + 1 → clR (fun x_ y_ => ansA a_ wq x_ y_) u_ k_ = none → u_ + 1 - k_ < dd → Wm l G cX11_clash 4 RX11 ((some .int)) (rmk 6 0 0) (fun _ => True) (QfM G (qI (fun r_ σ => r_ = clashI a_ (nI wq) ∧ ∃ (S2 Z2 : owF) (J2 : Nat → Nat → Int64), σ = (A, S2, Z2, B, T, V, J2, Y, P))) 0 0) 23 [(0, .ref (gK G 0 0)), (1, .int (nI (wq))), (2, .int (nI (u_))), (3, .int (nI (k_)))] [] (A, S, Z8, B, T, V, J, Y, P) 0 0 := by
            intro dd
            induction dd with
            | zero => intro k_ Z8 hk_ hcr hdd; exact absurd hdd (Nat.not_lt_zero _)
            | succ dd ih23 =>
              intro k_ Z8 hk_ hcr hdd23
              refine m_iload_n 3 rfl rfl dX11_clash_23 ?_
              refine m_iload_n 2 rfl rfl dX11_clash_24 ?_
              refine m_icmpn_gt k_ u_ 52 (by omega) (by omega) dX11_clash_25 (by decide) (fun c3_ => ?_) (fun c3_ => ?_)
              ·
                refine m_iinc (nI (u_ + 1)) 2 [(2, .int (nI (u_ + 1))), (0, .ref (gK G 0 0)), (1, .int (nI (wq))), (3, .int (nI (k_)))] rfl (nI_1 _) (by decide) rfl dX11_clash_52 ?_
                refine m_goto 15 dX11_clash_55 (by decide) ?_
                refine m_lv [(0, .ref (gK G 0 0)), (1, .int (nI (wq))), (2, .int (nI (u_ + 1)))] [1, 2, 0] rfl ?_
                exact ih15 (u_ + 1) Z8 (by omega) (clS_n hcs (by obtain rfl : k_ = u_ + 1 := (by omega); exact hcr)) (by omega)
              ·
                refine m_aload_n 0 rfl rfl dX11_clash_28 ?_
                refine m_iload_n 1 rfl rfl dX11_clash_29 ?_
                refine m_iload_n 2 rfl rfl dX11_clash_30 ?_
                refine m_iload_n 3 rfl rfl dX11_clash_31 ?_
                refine m_callVi cv_X11_124 [.int (nI (wq)), .int (nI (u_)), .int (nI (k_))] [] (k_answerTo l G a_ ho_ hR wq (by omega) u_ k_ (by omega) (by omega)) (by decide) (ce_0 G _ _ _ _ _ _ _ _ _ _) rfl rfl rfl ⟨Nat.le_of_ble_eq_true rfl, Nat.le_of_ble_eq_true rfl⟩ (Nat.le_of_ble_eq_true rfl) ⟨Nat.zero_le _, Nat.zero_le _⟩ dX11_clash_32 (fun xx σ2 hq => ?_)
                obtain ⟨rfl, Z4, rfl, hwZ4⟩ := hq
                have hab := ansA_lt a_ wq u_ k_
                refine m_iload_n 2 rfl rfl dX11_clash_35 ?_
                refine m_icmpn_le (ansA a_ wq u_ k_) u_ 46 (by omega) (by omega) dX11_clash_36 (by decide) (fun c5_ => ?_) (fun c5_ => ?_)
                ·
                  have hgt := c5_
                  refine m_iinc (nI (k_ + 1)) 3 [(3, .int (nI (k_ + 1))), (0, .ref (gK G 0 0)), (1, .int (nI (wq))), (2, .int (nI (u_)))] rfl (nI_1 _) (by decide) rfl dX11_clash_46 ?_
                  refine m_goto 23 dX11_clash_49 (by decide) ?_
                  refine m_lv [(0, .ref (gK G 0 0)), (1, .int (nI (wq))), (2, .int (nI (u_))), (3, .int (nI (k_ + 1)))] [1, 2, 3, 0] rfl ?_
                  exact ih23 (k_ + 1) Z4 (by omega) (clR_n hcr (by omega)) (by omega)
                ·
                  have hgt := c5_
                  refine m_bipush (100) dX11_clash_39 rfl ?_
                  refine m_iload_n 2 rfl rfl dX11_clash_41 ?_
                  refine m_imul dX11_clash_42 ?_
                  refine m_topi (show 100 * (nI (u_)) = nI (100 * u_) from pk_mul _ _) ?_
                  refine m_iload_n 3 rfl rfl dX11_clash_43 ?_
                  refine m_iadd dX11_clash_44 ?_
                  refine m_topi (show (nI (100 * u_)) + (nI (k_)) = nI ((100 * u_) + k_) from nI_add _ _) ?_
                  exact m_iret dX11_clash_45 (Nat.le_refl _) (Nat.le_refl _) (⟨by unfold clashI; rw [if_pos c1_, hclwq]; exact (congrArg optI (clS_y hcs (clR_y hcr hgt _ (by omega)) 100 (by omega))).symm, _, _, _, rfl⟩)
          refine m_lv [(0, .ref (gK G 0 0)), (1, .int (nI (wq))), (2, .int (nI (u_))), (3, .int 0)] [1, 2, 3, 0] rfl ?_
          exact lp23 ((u_ + 1 - 0) + 1) 0 Z9 (by omega) rfl (Nat.lt_succ_self _)
    refine m_lv [(0, .ref (gK G 0 0)), (1, .int (nI (wq))), (2, .int 0)] [1, 2, 0] rfl ?_
    exact lp15 ((100 - 0) + 1) 0 Z (by omega) rfl (Nat.lt_succ_self _)
  ·
    refine m_iconst (-1) dX11_clash_11 rfl ?_
    exact m_iret dX11_clash_12 (Nat.le_refl _) (Nat.le_refl _) (⟨by simp [clashI, c1_], _, _, _, rfl⟩)
set_option maxRecDepth 100000 in
set_option maxHeartbeats 4000000 in
theorem k_comes (l : Launch) (G : owG) {A S Z B T V : owF} {J : Nat → Nat → Int64} {Y : Nat → Nat → Nat → Option Nat} {P : Nat → Option owW} (a_ : owK) (ho_ : aOk a_) (hR : RX A Y P 0 a_) (v_ n_ : Int32) : Ct l G yX11_comes cX11_comes 6 ((some .int)) 6 0 0 [.ref (gK G 0 0), .int v_, .int n_] (A, S, Z, B, T, V, J, Y, P) (qI (fun r_ σ => r_ = comesI a_ v_ n_ ∧ ∃ (S2 Z2 : owF) (J2 : Nat → Nat → Int64), σ = (A, S2, Z2, B, T, V, J2, Y, P))) := by
  refine ct_of (by decide +kernel) (Nat.le_of_ble_eq_true rfl) ?_
  have h10 := ho_.1
  have h8_ := ho_.2.1
  show Wm l G cX11_comes 6 RX11 ((some .int)) (rmk 6 0 0) (fun _ => True) (QfM G (qI (fun r_ σ => r_ = comesI a_ v_ n_ ∧ ∃ (S2 Z2 : owF) (J2 : Nat → Nat → Int64), σ = (A, S2, Z2, B, T, V, J2, Y, P))) 0 0) 0 [(0, .ref (gK G 0 0)), (1, .int v_), (2, .int n_)] [] (A, S, Z, B, T, V, J, Y, P) 0 0
  refine m_aload_n 0 rfl rfl dX11_comes_0 ?_
  refine gf_X11_10 dX11_comes_1 ?_
  refine m_iload_n 1 rfl rfl dX11_comes_4 ?_
  refine m_callVi cv_X11_128 [.int v_] [] (k_hasWay l G 0 (by decide) a_ ho_ hR v_) (by decide) (ce_1 G _ _ _ _ _ _ _ _ _ _) rfl rfl rfl ⟨Nat.le_of_ble_eq_true rfl, Nat.le_of_ble_eq_true rfl⟩ (Nat.le_of_ble_eq_true rfl) ⟨Nat.zero_le _, Nat.zero_le _⟩ dX11_comes_5 (fun xx σ2 hq => ?_)
  obtain ⟨rfl, rfl⟩ := hq
  refine m_ifeq_b 22 dX11_comes_8 (by decide) (fun c1_ => ?_) (fun c1_ => ?_)
  ·
    refine m_iconst (-1) dX11_comes_22 rfl ?_
    exact m_iret dX11_comes_23 (Nat.le_refl _) (Nat.le_refl _) (⟨by grind [comesI], _, _, _, rfl⟩)
  ·
    obtain ⟨wq, hwq, rfl⟩ := isW_nat ho_ c1_
    have hclwq : (nI wq).toNatClampNeg = wq := nI_clamp (by omega)
    refine m_iload_n 2 rfl rfl dX11_comes_11 ?_
    refine m_iconst 1 dX11_comes_12 rfl ?_
    refine m_icmp_lt 22 dX11_comes_13 (by decide) (fun c2_ => ?_) (fun c2_ => ?_)
    ·
      refine m_iconst (-1) dX11_comes_22 rfl ?_
      exact m_iret dX11_comes_23 (Nat.le_refl _) (Nat.le_refl _) (⟨by grind [comesI], _, _, _, rfl⟩)
    ·
      refine m_iload_n 2 rfl rfl dX11_comes_16 ?_
      refine m_bipush (40) dX11_comes_17 rfl ?_
      refine m_icmp_le 24 dX11_comes_19 (by decide) (fun c3_ => ?_) (fun c3_ => ?_)
      ·
        obtain ⟨nq, hnq, rfl⟩ := nI_of2 (M := 40) (n := 40) (x := n_) (by decide) (by grind) c3_
        have hclnq : (nI nq).toNatClampNeg = nq := nI_clamp (by omega)
        refine m_iconst 0 dX11_comes_24 rfl ?_
        refine m_istore_n [(3, .int 0), (0, .ref (gK G 0 0)), (1, .int (nI (wq))), (2, .int (nI (nq)))] rfl (by decide) rfl dX11_comes_25 ?_
        refine m_iconst 0 dX11_comes_26 rfl ?_
        refine m_istore [(4, .int 0), (3, .int 0), (0, .ref (gK G 0 0)), (1, .int (nI (wq))), (2, .int (nI (nq)))] (by decide) rfl dX11_comes_27 ?_
        have lp29 : ∀ (dd : Nat) (u_ : Nat) (Z9 : owF), u_ ≤ nq → nq - u_ < dd → Wm l G cX11_comes 6 RX11 ((some .int)) (rmk 6 0 0) (fun _ => True) (QfM G (qI (fun r_ σ => r_ = comesI a_ (nI wq) (nI nq) ∧ ∃ (S2 Z2 : owF) (J2 : Nat → Nat → Int64), σ = (A, S2, Z2, B, T, V, J2, Y, P))) 0 0) 29 [(0, .ref (gK G 0 0)), (1, .int (nI (wq))), (2, .int (nI (nq))), (3, .int (nI (smN (fun x_ => cmW a_ wq x_ (x_ + 1)) u_))), (4, .int (nI (u_)))] [] (A, S, Z9, B, T, V, J, Y, P) 0 0 := by
          intro dd
          induction dd with
          | zero => intro u_ Z9 hu hdd; exact absurd hdd (Nat.not_lt_zero _)
          | succ dd ih29 =>
            intro u_ Z9 hu hdd29
            have hsb := smN_bound (f := (fun x_ => cmW a_ wq x_ (x_ + 1))) (n := u_) (c := 41) (fun j_ hj => Nat.le_trans (cntB_le _ _) (by omega))
            refine m_iload 4 rfl dX11_comes_29 ?_
            refine m_iload_n 2 rfl rfl dX11_comes_31 ?_
            refine m_icmpn_ge u_ nq 77 (by omega) (by omega) dX11_comes_32 (by decide) (fun c4_ => ?_) (fun c4_ => ?_)
            ·
              refine m_iload_n 3 rfl rfl dX11_comes_77 ?_
              exact m_iret dX11_comes_78 (Nat.le_refl _) (Nat.le_refl _) ((by obtain rfl : u_ = nq := (by omega); exact ⟨by unfold comesI; rw [if_pos ⟨c1_, by grind, by grind⟩, hclwq, hclnq], _, _, _, rfl⟩))
            ·
              refine m_iconst 0 dX11_comes_35 rfl ?_
              refine m_istore [(5, .int 0), (0, .ref (gK G 0 0)), (1, .int (nI (wq))), (2, .int (nI (nq))), (3, .int (nI (smN (fun x_ => cmW a_ wq x_ (x_ + 1)) u_))), (4, .int (nI (u_)))] (by decide) rfl dX11_comes_36 ?_
              have lp38 : ∀ (dd : Nat) (k_ : Nat) (Z8 : owF), k_ ≤ u_ + 1 → u_ + 1 - k_ < dd → Wm l G cX11_comes 6 RX11 ((some .int)) (rmk 6 0 0) (fun _ => True) (QfM G (qI (fun r_ σ => r_ = comesI a_ (nI wq) (nI nq) ∧ ∃ (S2 Z2 : owF) (J2 : Nat → Nat → Int64), σ = (A, S2, Z2, B, T, V, J2, Y, P))) 0 0) 38 [(0, .ref (gK G 0 0)), (1, .int (nI (wq))), (2, .int (nI (nq))), (3, .int (nI (smN (fun x_ => cmW a_ wq x_ (x_ + 1)) u_ + cntB (fun y_ => decide (nI (ansA a_ wq u_ y_) ≠ nI u_ - nI y_)) k_))), (4, .int (nI (u_))), (5, .int (nI (k_)))] [] (A, S, Z8, B, T, V, J, Y, P) 0 0 := by
                intro dd
                induction dd with
                | zero => intro k_ Z8 hk_ hdd; exact absurd hdd (Nat.not_lt_zero _)
                | succ dd ih38 =>
                  intro k_ Z8 hk_ hdd38
                  have hcc := cntB_le (fun y_ => decide (nI (ansA a_ wq u_ y_) ≠ nI u_ - nI y_)) k_
                  refine m_iload 5 rfl dX11_comes_38 ?_
                  refine m_iload 4 rfl dX11_comes_40 ?_
                  refine m_icmpn_gt k_ u_ 71 (by omega) (by omega) dX11_comes_42 (by decide) (fun c5_ => ?_) (fun c5_ => ?_)
                  ·
                    refine m_iinc (nI (u_ + 1)) 4 [(4, .int (nI (u_ + 1))), (0, .ref (gK G 0 0)), (1, .int (nI (wq))), (2, .int (nI (nq))), (3, .int (nI (smN (fun x_ => cmW a_ wq x_ (x_ + 1)) u_ + cntB (fun y_ => decide (nI (ansA a_ wq u_ y_) ≠ nI u_ - nI y_)) k_))), (5, .int (nI (k_)))] rfl (nI_1 _) (by decide) rfl dX11_comes_71 ?_
                    refine m_goto 29 dX11_comes_74 (by decide) ?_
                    refine m_lv [(0, .ref (gK G 0 0)), (1, .int (nI (wq))), (2, .int (nI (nq))), (3, .int (nI (smN (fun x_ => cmW a_ wq x_ (x_ + 1)) u_ + cntB (fun y_ => decide (nI (ansA a_ wq u_ y_) ≠ nI u_ - nI y_)) k_))), (4, .int (nI (u_ + 1)))] [1, 2, 3, 4, 0] rfl ?_
                    rw [show smN (fun x_ => cmW a_ wq x_ (x_ + 1)) u_ + cntB (fun y_ => decide (nI (ansA a_ wq u_ y_) ≠ nI u_ - nI y_)) k_ = smN (fun x_ => cmW a_ wq x_ (x_ + 1)) (u_ + 1) from by obtain rfl : k_ = u_ + 1 := (by omega); rfl]
                    exact ih29 (u_ + 1) Z8 (by omega) (by omega)
                  ·
                    refine m_aload_n 0 rfl rfl dX11_comes_45 ?_
                    refine m_iload_n 1 rfl rfl dX11_comes_46 ?_
                    refine m_iload 4 rfl dX11_comes_47 ?_
                    refine m_iload 5 rfl dX11_comes_49 ?_
                    refine m_callVi cv_X11_124 [.int (nI (wq)), .int (nI (u_)), .int (nI (k_))] [] (k_answerTo l G a_ ho_ hR wq (by omega) u_ k_ (by omega) (by omega)) (by decide) (ce_0 G _ _ _ _ _ _ _ _ _ _) rfl rfl rfl ⟨Nat.le_of_ble_eq_true rfl, Nat.le_of_ble_eq_true rfl⟩ (Nat.le_of_ble_eq_true rfl) ⟨Nat.zero_le _, Nat.zero_le _⟩ dX11_comes_51 (fun xx σ2 hq => ?_)
                    obtain ⟨rfl, Z6, rfl, hwZ6⟩ := hq
                    refine m_iload 4 rfl dX11_comes_54 ?_
                    refine m_iload 5 rfl dX11_comes_56 ?_
                    refine m_isub dX11_comes_58 ?_
                    refine m_icmp_eq 65 dX11_comes_59 (by decide) (fun c7_ => ?_) (fun c7_ => ?_)
                    ·
                      have heq := c7_
                      refine m_iinc (nI (k_ + 1)) 5 [(5, .int (nI (k_ + 1))), (0, .ref (gK G 0 0)), (1, .int (nI (wq))), (2, .int (nI (nq))), (3, .int (nI (smN (fun x_ => cmW a_ wq x_ (x_ + 1)) u_ + cntB (fun y_ => decide (nI (ansA a_ wq u_ y_) ≠ nI u_ - nI y_)) k_))), (4, .int (nI (u_)))] rfl (nI_1 _) (by decide) rfl dX11_comes_65 ?_
                      refine m_goto 38 dX11_comes_68 (by decide) ?_
                      refine m_lv [(0, .ref (gK G 0 0)), (1, .int (nI (wq))), (2, .int (nI (nq))), (3, .int (nI (smN (fun x_ => cmW a_ wq x_ (x_ + 1)) u_ + cntB (fun y_ => decide (nI (ansA a_ wq u_ y_) ≠ nI u_ - nI y_)) k_))), (4, .int (nI (u_))), (5, .int (nI (k_ + 1)))] [1, 2, 3, 4, 5, 0] rfl ?_
                      rw [show smN (fun x_ => cmW a_ wq x_ (x_ + 1)) u_ + cntB (fun y_ => decide (nI (ansA a_ wq u_ y_) ≠ nI u_ - nI y_)) k_ = smN (fun x_ => cmW a_ wq x_ (x_ + 1)) u_ + cntB (fun y_ => decide (nI (ansA a_ wq u_ y_) ≠ nI u_ - nI y_)) (k_ + 1) from by rw [← cntB_f (p := (fun y_ => decide (nI (ansA a_ wq u_ y_) ≠ nI u_ - nI y_))) (decide_eq_false (fun q_ => q_ heq))]]
                      exact ih38 (k_ + 1) Z6 (by omega) (by omega)
                    ·
                      have hne := c7_
                      refine m_iinc (nI (smN (fun x_ => cmW a_ wq x_ (x_ + 1)) u_ + cntB (fun y_ => decide (nI (ansA a_ wq u_ y_) ≠ nI u_ - nI y_)) k_ + 1)) 3 [(3, .int (nI (smN (fun x_ => cmW a_ wq x_ (x_ + 1)) u_ + cntB (fun y_ => decide (nI (ansA a_ wq u_ y_) ≠ nI u_ - nI y_)) k_ + 1))), (0, .ref (gK G 0 0)), (1, .int (nI (wq))), (2, .int (nI (nq))), (4, .int (nI (u_))), (5, .int (nI (k_)))] rfl (nI_1 _) (by decide) rfl dX11_comes_62 ?_
                      refine m_iinc (nI (k_ + 1)) 5 [(5, .int (nI (k_ + 1))), (3, .int (nI (smN (fun x_ => cmW a_ wq x_ (x_ + 1)) u_ + cntB (fun y_ => decide (nI (ansA a_ wq u_ y_) ≠ nI u_ - nI y_)) k_ + 1))), (0, .ref (gK G 0 0)), (1, .int (nI (wq))), (2, .int (nI (nq))), (4, .int (nI (u_)))] rfl (nI_1 _) (by decide) rfl dX11_comes_65 ?_
                      refine m_goto 38 dX11_comes_68 (by decide) ?_
                      refine m_lv [(0, .ref (gK G 0 0)), (1, .int (nI (wq))), (2, .int (nI (nq))), (3, .int (nI (smN (fun x_ => cmW a_ wq x_ (x_ + 1)) u_ + cntB (fun y_ => decide (nI (ansA a_ wq u_ y_) ≠ nI u_ - nI y_)) k_ + 1))), (4, .int (nI (u_))), (5, .int (nI (k_ + 1)))] [2, 3, 4, 1, 5, 0] rfl ?_
                      rw [show (smN (fun x_ => cmW a_ wq x_ (x_ + 1)) u_ + cntB (fun y_ => decide (nI (ansA a_ wq u_ y_) ≠ nI u_ - nI y_)) k_) + 1 = smN (fun x_ => cmW a_ wq x_ (x_ + 1)) u_ + cntB (fun y_ => decide (nI (ansA a_ wq u_ y_) ≠ nI u_ - nI y_)) (k_ + 1) from by rw [← cntB_t (p := (fun y_ => decide (nI (ansA a_ wq u_ y_) ≠ nI u_ - nI y_))) (decide_eq_true hne)]; rfl]
                      exact ih38 (k_ + 1) Z6 (by omega) (by omega)
              refine m_lv [(0, .ref (gK G 0 0)), (1, .int (nI (wq))), (2, .int (nI (nq))), (3, .int (nI (smN (fun x_ => cmW a_ wq x_ (x_ + 1)) u_))), (4, .int (nI (u_))), (5, .int 0)] [1, 2, 3, 4, 5, 0] rfl ?_
              exact lp38 ((u_ + 1 - 0) + 1) 0 Z9 (by omega) (Nat.lt_succ_self _)
        refine m_lv [(0, .ref (gK G 0 0)), (1, .int (nI (wq))), (2, .int (nI (nq))), (3, .int 0), (4, .int 0)] [2, 3, 4, 1, 0] rfl ?_
        exact lp29 ((nq - 0) + 1) 0 Z (by omega) (Nat.lt_succ_self _)
      ·
        refine m_iconst (-1) dX11_comes_22 rfl ?_
        exact m_iret dX11_comes_23 (Nat.le_refl _) (Nat.le_refl _) (⟨by grind [comesI], _, _, _, rfl⟩)
