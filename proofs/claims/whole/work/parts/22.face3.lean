theorem gkS_k (a : owK) (ws : Int32) : ∀ k, (gkS a ws k).1 ≤ k
  | 0 => Nat.le_refl 0
  | k + 1 => by
    have := gkS_k a ws k
    show (if _ then _ else _ : Nat × Nat).1 ≤ k + 1
    split
    · exact Nat.le_refl _
    · omega
theorem chK_le {a : owK} {v : Int32} (ho : aOk a) : chK a v ≤ 8 := Nat.le_trans (cntB_le _ _) ho.2.1
theorem lsS_le {a : owK} (ho : aOk a) : ∀ k, (lsS a k).2 ≤ 8 * k
  | 0 => Nat.le_refl 0
  | k + 1 => by
    have h1 := lsS_le ho k
    have h2 := chK_le (v := nI (gkS a (lsS a k).1 7).1) ho
    show (if _ then _ else _ : Int32 × Nat).2 ≤ 8 * (k + 1)
    split
    · omega
    · show (lsS a k).2 + chK a _ ≤ _
      omega
theorem lsS_0 {a : owK} {k : Nat} (h : (gkS a (lsS a k).1 7).1 = 0) : lsS a (k + 1) = lsS a k := by
  show (if _ then _ else _ : Int32 × Nat) = _
  rw [if_pos h]
theorem lsS_y {a : owK} {k : Nat} (h : ¬ (gkS a (lsS a k).1 7).1 = 0) : lsS a (k + 1) = ((lsS a k).1 ||| (1 : Int32) <<< (nI (gkS a (lsS a k).1 7).1 &&& 31), (lsS a k).2 + chK a (nI (gkS a (lsS a k).1 7).1)) := by
  show (if _ then _ else _ : Int32 × Nat) = _
  rw [if_neg h]
/-- the first place of which it holds -/
def fsS (p : Nat → Bool) : Nat → Option Nat
  | 0 => none
  | k + 1 => match fsS p k with
    | some v => some v
    | none => if p k then some k else none
theorem fsS_n {p : Nat → Bool} {k : Nat} (h : fsS p k = none) (hc : p k = false) : fsS p (k + 1) = none := by simp only [fsS, h, hc]; rfl
theorem fsS_y {p : Nat → Bool} {k : Nat} (h : fsS p k = none) (hc : p k = true) : ∀ n, k < n → fsS p n = some k
  | 0, hn => absurd hn (Nat.not_lt_zero k)
  | n + 1, hn => by
    rcases Nat.lt_or_ge k n with q | q
    · simp only [fsS, fsS_y h hc n q]
    · obtain rfl : k = n := by omega
      simp only [fsS, h, hc, if_true]
def jgB (a : owK) (h : owH) (w d k : Nat) : Bool := decide (2 ≤ k) && (decide (hE h d k ≠ leastI (hSo h d)) && (decide (6 ≤ k) || decide (hE h d k ≠ nI (wrW (aK a w) (aF a w) (hE h d 0).toNatClampNeg (hE h d 1).toNatClampNeg (k - 2)))))
def judgeI (a : owK) (h : owH) (v d : Int32) : Int32 := if isD d = true ∧ isW a v = true then (if rowRef h d.toNatClampNeg = 0 then (if 2 ≤ hN h d.toNatClampNeg ∧ isSumB (hE h d.toNatClampNeg 0) (hE h d.toNatClampNeg 1) = true then optI (fsS (jgB a h v.toNatClampNeg d.toNatClampNeg) (hN h d.toNatClampNeg)) else -13) else rowRef h d.toNatClampNeg) else -1
/-- the first of the greatest above b -/
def bsS (b : Nat) (g : Nat → Nat) : Nat → Option Nat × Nat
  | 0 => (none, b)
  | k + 1 => if (bsS b g k).2 < g k then (some k, g k) else bsS b g k
theorem bsS_y {b : Nat} {g : Nat → Nat} {k : Nat} (h : (bsS b g k).2 < g k) : bsS b g (k + 1) = (some k, g k) := if_pos h
theorem bsS_n {b : Nat} {g : Nat → Nat} {k : Nat} (h : ¬ (bsS b g k).2 < g k) : bsS b g (k + 1) = bsS b g k := if_neg h
theorem bsS_le {b c : Nat} {g : Nat → Nat} (hb : b ≤ c) : ∀ k, (∀ j, j < k → g j ≤ c) → (bsS b g k).2 ≤ c
  | 0, _ => hb
  | k + 1, h => by
    show (if _ then _ else _ : Option Nat × Nat).2 ≤ c
    split
    · exact h k (by omega)
    · exact bsS_le hb k fun j hj => h j (by omega)
def mkAll (a : owK) (h : owH) (d : Nat) (k : Nat) : Nat := smN (fun c => mkN a (shN h d) (shX h d) (shY h d) false (tdW a k (aH a c))) (aC a)
def mkNow (a : owK) (h : owH) (d : Nat) : Nat := smN (fun c => mkN a (shN h d) (shX h d) (shY h d) false (aH a c)) (aC a)
def bestI (a : owK) (h : owH) (d : Int32) : Int32 := if shRefI h d = 0 then optI (bsS (mkNow a h d.toNatClampNeg) (mkAll a h d.toNatClampNeg) 10).1 else shRefI h d
theorem mkN_le {a : owK} {n : Nat} {X Q : Nat → Nat} {fl : Bool} {w : Nat} (h : n ≤ 12) : mkN a n X Q fl w ≤ 12 := Nat.le_trans (cntB_le _ n) h
/-- weeks in mind -/
def wksS (a : owK) (p q sd : Int32) : Nat → Int32 × (Nat → Nat)
  | 0 => (sd, aH a)
  | n + 1 => wkS a p q (wksS a p q sd n).1 (wksS a p q sd n).2 (aC a)
theorem wksS_lt {a : owK} {p q sd : Int32} (ho : aOk a) : ∀ n j, j < aC a → (wksS a p q sd n).2 j < aN a
  | 0, j, hj => (ho.2.2.2.1 j hj).1
  | n + 1, j, hj => wkS_lt ho (fun j hj => wksS_lt ho n j hj) (aC a) (Nat.le_refl _) j hj
def weeksI (a : owK) (n p q z : Int32) : Int32 := if 1 ≤ n ∧ n ≤ 20 ∧ 0 ≤ p ∧ p ≤ 100 ∧ 0 ≤ q ∧ q ≤ 100 then (if aC a = 0 then -3 else nI (cntB (fun c => decide (aK a ((wksS a p q z n.toNatClampNeg).2 c) = 0)) (aC a))) else -1
set_option maxRecDepth 100000 in
set_option maxHeartbeats 4000000 in
theorem k_copied (l : Launch) (G : owG) {A S Z B T V : owF} {J : Nat → Nat → Int64} {Y : Nat → Nat → Nat → Option Nat} {P : Nat → Option owW} (a_ : owK) (ho_ : aOk a_) (hR : RX A Y P 0 a_) (h_ : owH) (hRS : allRS A Y P h_) (x_ z_ g p_ : Int32) : Ct l G yX11_copied cX11_copied 8 ((some .int)) 8 0 0 [.ref (gK G 0 0), .int x_, .int z_, .int g, .int p_] (A, S, Z, B, T, V, J, Y, P) (qI (fun r_ σ => r_ = copiedI a_ h_ x_ z_ g p_ ∧ ∃ (S2 Z2 : owF) (J2 : Nat → Nat → Int64), σ = (A, S2, Z2, B, T, V, J2, Y, P))) := by
  refine ct_of (by decide +kernel) (Nat.le_of_ble_eq_true rfl) ?_
  have h10 := ho_.1
  have h8_ := ho_.2.1
  show Wm l G cX11_copied 8 RX11 ((some .int)) (rmk 8 0 0) (fun _ => True) (QfM G (qI (fun r_ σ => r_ = copiedI a_ h_ x_ z_ g p_ ∧ ∃ (S2 Z2 : owF) (J2 : Nat → Nat → Int64), σ = (A, S2, Z2, B, T, V, J2, Y, P))) 0 0) 0 [(0, .ref (gK G 0 0)), (1, .int x_), (2, .int z_), (3, .int g), (4, .int p_)] [] (A, S, Z, B, T, V, J, Y, P) 0 0
  refine m_iload 4 rfl dX11_copied_0 ?_
  refine m_callSi cs_X11_131 [.int p_] [] (k_is01 l G p_) rfl rfl ⟨Nat.le_of_ble_eq_true rfl, Nat.le_of_ble_eq_true rfl⟩ (Nat.le_of_ble_eq_true rfl) ⟨Nat.zero_le _, Nat.zero_le _⟩ dX11_copied_2 (fun xx σ2 hq => ?_)
  obtain ⟨rfl, rfl⟩ := hq
  refine m_ifne_b 10 dX11_copied_5 (by decide) (fun c1_ => ?_) (fun c1_ => ?_)
  ·
    refine m_aload_n 0 rfl rfl dX11_copied_10 ?_
    refine m_iload_n 1 rfl rfl dX11_copied_11 ?_
    refine m_iload_n 2 rfl rfl dX11_copied_12 ?_
    refine m_callVi cv_X11_152 [.int x_, .int z_] [] (k_both l G h_ hRS x_ z_) (by decide) (ce_0 G _ _ _ _ _ _ _ _ _ _) rfl rfl rfl ⟨Nat.le_of_ble_eq_true rfl, Nat.le_of_ble_eq_true rfl⟩ (Nat.le_of_ble_eq_true rfl) ⟨Nat.zero_le _, Nat.zero_le _⟩ dX11_copied_13 (fun xx σ2 hq => ?_)
    obtain ⟨rfl, S2, rfl, hbo⟩ := hq
    refine m_istore [(5, .int (boRefI h_ x_ z_)), (0, .ref (gK G 0 0)), (1, .int x_), (2, .int z_), (3, .int g), (4, .int p_)] (by decide) rfl dX11_copied_16 ?_
    refine m_iload 0 rfl dX11_copied_18 ?_
    refine m_if_ne 34 dX11_copied_20 (by decide) (fun c3_ => ?_) (fun c3_ => ?_)
    ·
      refine m_iload 0 rfl dX11_copied_34 ?_
      refine m_if_eq 42 dX11_copied_36 (by decide) (fun c4_ => ?_) (fun c4_ => ?_)
      ·
        have hz : False := c3_ c4_
        exact m_dead (by first | omega | assumption)
      ·
        refine m_iload 0 rfl dX11_copied_39 ?_
        exact m_iret dX11_copied_41 (Nat.le_refl _) (Nat.le_refl _) (⟨by first | (simp [copiedI, c1_, c3_, c4_]; done) | (simp_all [copiedI, rN, rX, rQ, rV]; done) | grind [copiedI], _, _, _, rfl⟩)
    ·
      have hb0 := c3_
      obtain ⟨dq, eq, hdq, heq, rfl, rfl, hk2, hs_, hv_⟩ := hbo hb0
      have hcldq : (nI dq).toNatClampNeg = dq := nI_clamp (by omega)
      have hcleq : (nI eq).toNatClampNeg = eq := nI_clamp (by omega)
      refine m_aload_n 1 rfl rfl dX11_copied_23 ?_
      refine m_iload_n 4 rfl rfl dX11_copied_24 ?_
      refine m_aload_n 1 rfl rfl dX11_copied_25 ?_
      refine gf_X11_45 dX11_copied_26 ?_
      refine m_callVi cv_X11_237 [.int g, .ref (gK G 33 0)] [] (k_answers_33 l G h_ hRS (shN h_ dq) hs_.1 hs_.2.1 g) (by decide) (ce_0 G _ _ _ _ _ _ _ _ _ _) rfl rfl rfl ⟨Nat.le_of_ble_eq_true rfl, Nat.le_of_ble_eq_true rfl⟩ (Nat.le_of_ble_eq_true rfl) ⟨Nat.zero_le _, Nat.zero_le _⟩ dX11_copied_29 (fun xx σ2 hq => ?_)
      obtain ⟨rfl, S5, rfl, hfS, han⟩ := hq
      refine m_istore [(5, .int (anRefI h_ g ((shN h_ dq)))), (0, .ref (gK G 0 0)), (1, .int (nI (dq))), (2, .int (nI (eq))), (3, .int g), (4, .int p_)] (by decide) rfl dX11_copied_32 ?_
      refine m_iload 0 rfl dX11_copied_34 ?_
      refine m_if_eq 42 dX11_copied_36 (by decide) (fun c6_ => ?_) (fun c6_ => ?_)
      ·
        obtain ⟨gq, hgq, rfl, hv2⟩ := han c6_
        have hclgq : (nI gq).toNatClampNeg = gq := nI_clamp (by omega)
        have hs2 := hs_.keep hfS (by decide)
        have hv3 := hv_.keep hfS (by decide)
        have ha0 := c6_
        refine m_iconst 0 dX11_copied_42 rfl ?_
        refine m_istore [(6, .int 0), (5, .int (anRefI h_ (nI gq) ((shN h_ dq)))), (0, .ref (gK G 0 0)), (1, .int (nI (dq))), (2, .int (nI (eq))), (3, .int (nI (gq))), (4, .int p_)] (by decide) rfl dX11_copied_43 ?_
        refine m_iconst 0 dX11_copied_45 rfl ?_
        refine m_istore [(7, .int 0), (6, .int 0), (5, .int (anRefI h_ (nI gq) ((shN h_ dq)))), (0, .ref (gK G 0 0)), (1, .int (nI (dq))), (2, .int (nI (eq))), (3, .int (nI (gq))), (4, .int p_)] (by decide) rfl dX11_copied_46 ?_
        have lp48 : ∀ (dd : Nat) (k_ : Nat) (Z9 : owF), k_ ≤ shN h_ dq → shN h_ dq - k_ < dd → Wm l G cX11_copied 8 RX11 ((some .int)) (rmk 8 0 0) (fun _ => True) (QfM G (qI (fun r_ σ => r_ = copiedI a_ h_ (nI dq) (nI eq) (nI gq) p_ ∧ ∃ (S2 Z2 : owF) (J2 : Nat → Nat → Int64), σ = (A, S2, Z2, B, T, V, J2, Y, P))) 0 0) 48 [(0, .ref (gK G 0 0)), (1, .int (nI (dq))), (2, .int (nI (eq))), (3, .int (nI (gq))), (4, .int p_), (5, .int (anRefI h_ (nI gq) ((shN h_ dq)))), (6, .int (nI (cntB (fun s_ => copB (shX h_ dq) (shY h_ dq) (hE h_ eq) (hE h_ gq) s_ && (decide (p_ = 0) || decide (whoA a_ (shX h_ dq s_) (shY h_ dq s_) (hE h_ eq s_) = 0))) k_))), (7, .int (nI (k_)))] [] (A, S5, Z9, B, T, V, J, Y, P) 0 0 := by
          intro dd
          induction dd with
          | zero => intro k_ Z9 hk_ hdd; exact absurd hdd (Nat.not_lt_zero _)
          | succ dd ih48 =>
            intro k_ Z9 hk_ hdd48
            have hc_ := cntB_le (fun s_ => copB (shX h_ dq) (shY h_ dq) (hE h_ eq) (hE h_ gq) s_ && (decide (p_ = 0) || decide (whoA a_ (shX h_ dq s_) (shY h_ dq s_) (hE h_ eq s_) = 0))) k_
            have hn12 := hs2.2.1
            refine m_iload 7 rfl dX11_copied_48 ?_
            refine m_aload_n 0 rfl rfl dX11_copied_50 ?_
            refine gf_X11_179 dX11_copied_51 ?_
            refine m_topi hs2.1 ?_
            refine m_icmpn_ge k_ (shN h_ dq) 89 (by omega) (by omega) dX11_copied_54 (by decide) (fun c7_ => ?_) (fun c7_ => ?_)
            ·
              refine m_iload 6 rfl dX11_copied_89 ?_
              exact m_iret dX11_copied_91 (Nat.le_refl _) (Nat.le_refl _) (⟨by obtain rfl : k_ = shN h_ dq := (by omega); first | (simp [copiedI, c1_, c3_, c6_, c7_, hcldq, hcleq, hb0, rN, rX, rQ, rV, hclgq, ha0]; done) | (simp_all [copiedI, rN, rX, rQ, rV]; done) | grind [copiedI], _, _, _, rfl⟩)
            ·
              refine m_aload_n 0 rfl rfl dX11_copied_57 ?_
              refine m_iload 7 rfl dX11_copied_58 ?_
              refine m_callVi cv_X11_241 [.int (nI (k_))] [] (k_isCopied l G (shN h_ dq) (shX h_ dq) (shY h_ dq) hs2 (hE h_ eq) hv3 (hE h_ gq) hv2 k_ (by omega)) (by decide) (ce_0 G _ _ _ _ _ _ _ _ _ _) rfl rfl rfl ⟨Nat.le_of_ble_eq_true rfl, Nat.le_of_ble_eq_true rfl⟩ (Nat.le_of_ble_eq_true rfl) ⟨Nat.zero_le _, Nat.zero_le _⟩ dX11_copied_60 (fun xx σ2 hq => ?_)
              obtain ⟨rfl, rfl⟩ := hq
              refine m_ifeq_b 83 dX11_copied_63 (by decide) (fun c8_ => ?_) (fun c8_ => ?_)
              ·
                refine m_iinc (nI (k_ + 1)) 7 [(7, .int (nI (k_ + 1))), (0, .ref (gK G 0 0)), (1, .int (nI (dq))), (2, .int (nI (eq))), (3, .int (nI (gq))), (4, .int p_), (5, .int (anRefI h_ (nI gq) ((shN h_ dq)))), (6, .int (nI (cntB (fun s_ => copB (shX h_ dq) (shY h_ dq) (hE h_ eq) (hE h_ gq) s_ && (decide (p_ = 0) || decide (whoA a_ (shX h_ dq s_) (shY h_ dq s_) (hE h_ eq s_) = 0))) k_)))] rfl (nI_1 _) (by decide) rfl dX11_copied_83 ?_
                refine m_goto 48 dX11_copied_86 (by decide) ?_
                refine m_lv [(0, .ref (gK G 0 0)), (1, .int (nI (dq))), (2, .int (nI (eq))), (3, .int (nI (gq))), (4, .int p_), (5, .int (anRefI h_ (nI gq) ((shN h_ dq)))), (6, .int (nI (cntB (fun s_ => copB (shX h_ dq) (shY h_ dq) (hE h_ eq) (hE h_ gq) s_ && (decide (p_ = 0) || decide (whoA a_ (shX h_ dq s_) (shY h_ dq s_) (hE h_ eq s_) = 0))) k_))), (7, .int (nI (k_ + 1)))] [1, 2, 3, 4, 5, 6, 7, 0] rfl ?_
                rw [show cntB (fun s_ => copB (shX h_ dq) (shY h_ dq) (hE h_ eq) (hE h_ gq) s_ && (decide (p_ = 0) || decide (whoA a_ (shX h_ dq s_) (shY h_ dq s_) (hE h_ eq s_) = 0))) k_ = cntB (fun s_ => copB (shX h_ dq) (shY h_ dq) (hE h_ eq) (hE h_ gq) s_ && (decide (p_ = 0) || decide (whoA a_ (shX h_ dq s_) (shY h_ dq s_) (hE h_ eq s_) = 0))) (k_ + 1) from cntB_f (p := (fun s_ => copB (shX h_ dq) (shY h_ dq) (hE h_ eq) (hE h_ gq) s_ && (decide (p_ = 0) || decide (whoA a_ (shX h_ dq s_) (shY h_ dq s_) (hE h_ eq s_) = 0)))) (by simp [*])]
                exact ih48 (k_ + 1) Z9 (by omega) (by omega)
              ·
                refine m_iload 4 rfl dX11_copied_66 ?_
                refine m_if_eq 80 dX11_copied_68 (by decide) (fun c9_ => ?_) (fun c9_ => ?_)
                ·
                  refine m_iinc (nI (cntB (fun s_ => copB (shX h_ dq) (shY h_ dq) (hE h_ eq) (hE h_ gq) s_ && (decide (p_ = 0) || decide (whoA a_ (shX h_ dq s_) (shY h_ dq s_) (hE h_ eq s_) = 0))) k_ + 1)) 6 [(6, .int (nI (cntB (fun s_ => copB (shX h_ dq) (shY h_ dq) (hE h_ eq) (hE h_ gq) s_ && (decide (p_ = 0) || decide (whoA a_ (shX h_ dq s_) (shY h_ dq s_) (hE h_ eq s_) = 0))) k_ + 1))), (0, .ref (gK G 0 0)), (1, .int (nI (dq))), (2, .int (nI (eq))), (3, .int (nI (gq))), (4, .int p_), (5, .int (anRefI h_ (nI gq) ((shN h_ dq)))), (7, .int (nI (k_)))] rfl (nI_1 _) (by decide) rfl dX11_copied_80 ?_
                  refine m_iinc (nI (k_ + 1)) 7 [(7, .int (nI (k_ + 1))), (6, .int (nI (cntB (fun s_ => copB (shX h_ dq) (shY h_ dq) (hE h_ eq) (hE h_ gq) s_ && (decide (p_ = 0) || decide (whoA a_ (shX h_ dq s_) (shY h_ dq s_) (hE h_ eq s_) = 0))) k_ + 1))), (0, .ref (gK G 0 0)), (1, .int (nI (dq))), (2, .int (nI (eq))), (3, .int (nI (gq))), (4, .int p_), (5, .int (anRefI h_ (nI gq) ((shN h_ dq))))] rfl (nI_1 _) (by decide) rfl dX11_copied_83 ?_
                  refine m_goto 48 dX11_copied_86 (by decide) ?_
                  refine m_lv [(0, .ref (gK G 0 0)), (1, .int (nI (dq))), (2, .int (nI (eq))), (3, .int (nI (gq))), (4, .int p_), (5, .int (anRefI h_ (nI gq) ((shN h_ dq)))), (6, .int (nI (cntB (fun s_ => copB (shX h_ dq) (shY h_ dq) (hE h_ eq) (hE h_ gq) s_ && (decide (p_ = 0) || decide (whoA a_ (shX h_ dq s_) (shY h_ dq s_) (hE h_ eq s_) = 0))) k_ + 1))), (7, .int (nI (k_ + 1)))] [2, 3, 4, 5, 6, 7, 1, 0] rfl ?_
                  rw [show (cntB (fun s_ => copB (shX h_ dq) (shY h_ dq) (hE h_ eq) (hE h_ gq) s_ && (decide (p_ = 0) || decide (whoA a_ (shX h_ dq s_) (shY h_ dq s_) (hE h_ eq s_) = 0))) k_) + 1 = cntB (fun s_ => copB (shX h_ dq) (shY h_ dq) (hE h_ eq) (hE h_ gq) s_ && (decide (p_ = 0) || decide (whoA a_ (shX h_ dq s_) (shY h_ dq s_) (hE h_ eq s_) = 0))) (k_ + 1) from cntB_t (p := (fun s_ => copB (shX h_ dq) (shY h_ dq) (hE h_ eq) (hE h_ gq) s_ && (decide (p_ = 0) || decide (whoA a_ (shX h_ dq s_) (shY h_ dq s_) (hE h_ eq s_) = 0)))) (by simp [*])]
                  exact ih48 (k_ + 1) Z9 (by omega) (by omega)
                ·
                  refine m_aload_n 0 rfl rfl dX11_copied_71 ?_
                  refine m_iload 7 rfl dX11_copied_72 ?_
                  refine m_callVi cv_X11_244 [.int (nI (k_))] [] (k_noWay l G a_ ho_ hR (shN h_ dq) (shX h_ dq) (shY h_ dq) hs2 (hE h_ eq) hv3 k_ (by omega)) (by decide) (ce_0 G _ _ _ _ _ _ _ _ _ _) rfl rfl rfl ⟨Nat.le_of_ble_eq_true rfl, Nat.le_of_ble_eq_true rfl⟩ (Nat.le_of_ble_eq_true rfl) ⟨Nat.zero_le _, Nat.zero_le _⟩ dX11_copied_74 (fun xx σ2 hq => ?_)
                  obtain ⟨rfl, Z10, rfl⟩ := hq
                  refine m_ifeq_b 83 dX11_copied_77 (by decide) (fun c11_ => ?_) (fun c11_ => ?_)
                  ·
                    refine m_iinc (nI (k_ + 1)) 7 [(7, .int (nI (k_ + 1))), (0, .ref (gK G 0 0)), (1, .int (nI (dq))), (2, .int (nI (eq))), (3, .int (nI (gq))), (4, .int p_), (5, .int (anRefI h_ (nI gq) ((shN h_ dq)))), (6, .int (nI (cntB (fun s_ => copB (shX h_ dq) (shY h_ dq) (hE h_ eq) (hE h_ gq) s_ && (decide (p_ = 0) || decide (whoA a_ (shX h_ dq s_) (shY h_ dq s_) (hE h_ eq s_) = 0))) k_)))] rfl (nI_1 _) (by decide) rfl dX11_copied_83 ?_
                    refine m_goto 48 dX11_copied_86 (by decide) ?_
                    refine m_lv [(0, .ref (gK G 0 0)), (1, .int (nI (dq))), (2, .int (nI (eq))), (3, .int (nI (gq))), (4, .int p_), (5, .int (anRefI h_ (nI gq) ((shN h_ dq)))), (6, .int (nI (cntB (fun s_ => copB (shX h_ dq) (shY h_ dq) (hE h_ eq) (hE h_ gq) s_ && (decide (p_ = 0) || decide (whoA a_ (shX h_ dq s_) (shY h_ dq s_) (hE h_ eq s_) = 0))) k_))), (7, .int (nI (k_ + 1)))] [1, 2, 3, 4, 5, 6, 7, 0] rfl ?_
                    rw [show cntB (fun s_ => copB (shX h_ dq) (shY h_ dq) (hE h_ eq) (hE h_ gq) s_ && (decide (p_ = 0) || decide (whoA a_ (shX h_ dq s_) (shY h_ dq s_) (hE h_ eq s_) = 0))) k_ = cntB (fun s_ => copB (shX h_ dq) (shY h_ dq) (hE h_ eq) (hE h_ gq) s_ && (decide (p_ = 0) || decide (whoA a_ (shX h_ dq s_) (shY h_ dq s_) (hE h_ eq s_) = 0))) (k_ + 1) from cntB_f (p := (fun s_ => copB (shX h_ dq) (shY h_ dq) (hE h_ eq) (hE h_ gq) s_ && (decide (p_ = 0) || decide (whoA a_ (shX h_ dq s_) (shY h_ dq s_) (hE h_ eq s_) = 0)))) (by simp [*])]
                    exact ih48 (k_ + 1) Z10 (by omega) (by omega)
                  ·
                    refine m_iinc (nI (cntB (fun s_ => copB (shX h_ dq) (shY h_ dq) (hE h_ eq) (hE h_ gq) s_ && (decide (p_ = 0) || decide (whoA a_ (shX h_ dq s_) (shY h_ dq s_) (hE h_ eq s_) = 0))) k_ + 1)) 6 [(6, .int (nI (cntB (fun s_ => copB (shX h_ dq) (shY h_ dq) (hE h_ eq) (hE h_ gq) s_ && (decide (p_ = 0) || decide (whoA a_ (shX h_ dq s_) (shY h_ dq s_) (hE h_ eq s_) = 0))) k_ + 1))), (0, .ref (gK G 0 0)), (1, .int (nI (dq))), (2, .int (nI (eq))), (3, .int (nI (gq))), (4, .int p_), (5, .int (anRefI h_ (nI gq) ((shN h_ dq)))), (7, .int (nI (k_)))] rfl (nI_1 _) (by decide) rfl dX11_copied_80 ?_
                    refine m_iinc (nI (k_ + 1)) 7 [(7, .int (nI (k_ + 1))), (6, .int (nI (cntB (fun s_ => copB (shX h_ dq) (shY h_ dq) (hE h_ eq) (hE h_ gq) s_ && (decide (p_ = 0) || decide (whoA a_ (shX h_ dq s_) (shY h_ dq s_) (hE h_ eq s_) = 0))) k_ + 1))), (0, .ref (gK G 0 0)), (1, .int (nI (dq))), (2, .int (nI (eq))), (3, .int (nI (gq))), (4, .int p_), (5, .int (anRefI h_ (nI gq) ((shN h_ dq))))] rfl (nI_1 _) (by decide) rfl dX11_copied_83 ?_
                    refine m_goto 48 dX11_copied_86 (by decide) ?_
                    refine m_lv [(0, .ref (gK G 0 0)), (1, .int (nI (dq))), (2, .int (nI (eq))), (3, .int (nI (gq))), (4, .int p_), (5, .int (anRefI h_ (nI gq) ((shN h_ dq)))), (6, .int (nI (cntB (fun s_ => copB (shX h_ dq) (shY h_ dq) (hE h_ eq) (hE h_ gq) s_ && (decide (p_ = 0) || decide (whoA a_ (shX h_ dq s_) (shY h_ dq s_) (hE h_ eq s_) = 0))) k_ + 1))), (7, .int (nI (k_ + 1)))] [2, 3, 4, 5, 6, 7, 1, 0] rfl ?_
                    rw [show (cntB (fun s_ => copB (shX h_ dq) (shY h_ dq) (hE h_ eq) (hE h_ gq) s_ && (decide (p_ = 0) || decide (whoA a_ (shX h_ dq s_) (shY h_ dq s_) (hE h_ eq s_) = 0))) k_) + 1 = cntB (fun s_ => copB (shX h_ dq) (shY h_ dq) (hE h_ eq) (hE h_ gq) s_ && (decide (p_ = 0) || decide (whoA a_ (shX h_ dq s_) (shY h_ dq s_) (hE h_ eq s_) = 0))) (k_ + 1) from cntB_t (p := (fun s_ => copB (shX h_ dq) (shY h_ dq) (hE h_ eq) (hE h_ gq) s_ && (decide (p_ = 0) || decide (whoA a_ (shX h_ dq s_) (shY h_ dq s_) (hE h_ eq s_) = 0)))) (by simp [*])]
                    exact ih48 (k_ + 1) Z10 (by omega) (by omega)
        refine m_lv [(0, .ref (gK G 0 0)), (1, .int (nI (dq))), (2, .int (nI (eq))), (3, .int (nI (gq))), (4, .int p_), (5, .int (anRefI h_ (nI gq) ((shN h_ dq)))), (6, .int 0), (7, .int 0)] [3, 4, 5, 6, 7, 2, 1, 0] rfl ?_
        exact lp48 ((shN h_ dq - 0) + 1) 0 Z (Nat.zero_le _) (Nat.lt_succ_self _)
      ·
        refine m_iload 0 rfl dX11_copied_39 ?_
        exact m_iret dX11_copied_41 (Nat.le_refl _) (Nat.le_refl _) (⟨by first | (simp [copiedI, c1_, c3_, c6_, hcldq, hcleq, hb0, rN, rX, rQ, rV]; done) | (simp_all [copiedI, rN, rX, rQ, rV]; done) | grind [copiedI], _, _, _, rfl⟩)
  ·
    refine m_iconst (-1) dX11_copied_8 rfl ?_
    exact m_iret dX11_copied_9 (Nat.le_refl _) (Nat.le_refl _) (⟨by first | (simp [copiedI, c1_]; done) | (simp_all [copiedI, rN, rX, rQ, rV]; done) | grind [copiedI], _, _, _, rfl⟩)
set_option maxRecDepth 100000 in
set_option maxHeartbeats 4000000 in
theorem k_lesson (l : Launch) (G : owG) {A S Z B T V : owF} {J : Nat → Nat → Int64} {Y : Nat → Nat → Nat → Option Nat} {P : Nat → Option owW} (a_ : owK) (ho_ : aOk a_) (hR : RX A Y P 0 a_) (m_ : Int32) : Ct l G yX11_lesson cX11_lesson 6 ((some .int)) 4 0 0 [.ref (gK G 0 0), .int m_] (A, S, Z, B, T, V, J, Y, P) (qI (fun r_ σ => r_ = lessonI a_ m_ ∧ ∃ (S2 Z2 : owF) (J2 : Nat → Nat → Int64), σ = (A, S2, Z2, B, T, V, J2, Y, P))) := by
  refine ct_of (by decide +kernel) (Nat.le_of_ble_eq_true rfl) ?_
  have h10 := ho_.1
  have h8_ := ho_.2.1
  show Wm l G cX11_lesson 6 RX11 ((some .int)) (rmk 4 0 0) (fun _ => True) (QfM G (qI (fun r_ σ => r_ = lessonI a_ m_ ∧ ∃ (S2 Z2 : owF) (J2 : Nat → Nat → Int64), σ = (A, S2, Z2, B, T, V, J2, Y, P))) 0 0) 0 [(0, .ref (gK G 0 0)), (1, .int m_)] [] (A, S, Z, B, T, V, J, Y, P) 0 0
  refine m_iload_n 1 rfl rfl dX11_lesson_0 ?_
  refine m_iconst 1 dX11_lesson_1 rfl ?_
  refine m_icmp_lt 10 dX11_lesson_2 (by decide) (fun c1_ => ?_) (fun c1_ => ?_)
  ·
    refine m_iconst (-1) dX11_lesson_10 rfl ?_
    exact m_iret dX11_lesson_11 (Nat.le_refl _) (Nat.le_refl _) (⟨by grind [lessonI], _, _, _, rfl⟩)
  ·
    refine m_iload_n 1 rfl rfl dX11_lesson_5 ?_
    refine m_iconst 3 dX11_lesson_6 rfl ?_
    refine m_icmp_le 12 dX11_lesson_7 (by decide) (fun c2_ => ?_) (fun c2_ => ?_)
    ·
      obtain ⟨mq, hmq, rfl⟩ := nI_of2 (M := 3) (n := 3) (x := m_) (by decide) (by grind) c2_
      have hclmq : (nI mq).toNatClampNeg = mq := nI_clamp (by omega)
      refine m_iconst 0 dX11_lesson_12 rfl ?_
      refine m_istore_n [(2, .int 0), (0, .ref (gK G 0 0)), (1, .int (nI (mq)))] rfl (by decide) rfl dX11_lesson_13 ?_
      refine m_iconst 0 dX11_lesson_14 rfl ?_
      refine m_istore_n [(3, .int 0), (2, .int 0), (0, .ref (gK G 0 0)), (1, .int (nI (mq)))] rfl (by decide) rfl dX11_lesson_15 ?_
      refine m_iconst 0 dX11_lesson_16 rfl ?_
      refine m_istore [(4, .int 0), (3, .int 0), (2, .int 0), (0, .ref (gK G 0 0)), (1, .int (nI (mq)))] (by decide) rfl dX11_lesson_17 ?_
      have lp19 : ∀ (dd : Nat) (k_ : Nat) , k_ ≤ mq → mq - k_ < dd → Wm l G cX11_lesson 6 RX11 ((some .int)) (rmk 4 0 0) (fun _ => True) (QfM G (qI (fun r_ σ => r_ = lessonI a_ (nI mq) ∧ ∃ (S2 Z2 : owF) (J2 : Nat → Nat → Int64), σ = (A, S2, Z2, B, T, V, J2, Y, P))) 0 0) 19 [(0, .ref (gK G 0 0)), (1, .int (nI (mq))), (2, .int ((lsS a_ k_).1)), (3, .int (nI ((lsS a_ k_).2))), (4, .int (nI (k_)))] [] (A, S, Z, B, T, V, J, Y, P) 0 0 := by
        intro dd
        induction dd with
        | zero => intro k_  hk_ hdd; exact absurd hdd (Nat.not_lt_zero _)
        | succ dd ih19 =>
          intro k_  hk_ hdd19
          have hls := lsS_le ho_ k_
          refine m_iload 4 rfl dX11_lesson_19 ?_
          refine m_iload_n 1 rfl rfl dX11_lesson_21 ?_
          refine m_icmpn_ge k_ mq 61 (by omega) (by omega) dX11_lesson_22 (by decide) (fun c3_ => ?_) (fun c3_ => ?_)
          ·
            refine m_iload_n 3 rfl rfl dX11_lesson_61 ?_
            exact m_iret dX11_lesson_62 (Nat.le_refl _) (Nat.le_refl _) ((by obtain rfl : k_ = mq := (by omega); exact ⟨by unfold lessonI; rw [hclmq]; grind, _, _, _, rfl⟩))
          ·
            refine m_aload_n 0 rfl rfl dX11_lesson_25 ?_
            refine m_iload_n 2 rfl rfl dX11_lesson_26 ?_
            refine m_callVi cv_X11_234 [.int ((lsS a_ k_).1)] [] (k_greatest l G a_ ho_ hR ((lsS a_ k_).1)) (by decide) (ce_0 G _ _ _ _ _ _ _ _ _ _) rfl rfl rfl ⟨Nat.le_of_ble_eq_true rfl, Nat.le_of_ble_eq_true rfl⟩ (Nat.le_of_ble_eq_true rfl) ⟨Nat.zero_le _, Nat.zero_le _⟩ dX11_lesson_27 (fun xx σ2 hq => ?_)
            obtain ⟨rfl, rfl⟩ := hq
            refine m_istore [(5, .int (kdI (gkS a_ ((lsS a_ k_).1) 7).1)), (0, .ref (gK G 0 0)), (1, .int (nI (mq))), (2, .int ((lsS a_ k_).1)), (3, .int (nI ((lsS a_ k_).2))), (4, .int (nI (k_)))] (by decide) rfl dX11_lesson_30 ?_
            rcases Nat.eq_zero_or_pos (gkS a_ (lsS a_ k_).1 7).1 with hb | hb
            ·
              rw [show kdI (gkS a_ (lsS a_ k_).1 7).1 = -4 from by rw [hb]; rfl]
              refine m_iload 0 rfl dX11_lesson_32 ?_
              refine m_bipush (-4) dX11_lesson_34 rfl ?_
              refine m_icmp_eq 55 dX11_lesson_36 (by decide) (fun _ => ?_) (fun c4_ => absurd c4_ (by decide))
              refine m_iinc (nI (k_ + 1)) 5 [(4, .int (nI (k_ + 1))), (5, .int (-4)), (0, .ref (gK G 0 0)), (1, .int (nI (mq))), (2, .int ((lsS a_ k_).1)), (3, .int (nI ((lsS a_ k_).2)))] rfl (nI_1 _) (by decide) rfl dX11_lesson_55 ?_
              refine m_goto 19 dX11_lesson_58 (by decide) ?_
              refine m_lv [(0, .ref (gK G 0 0)), (1, .int (nI (mq))), (2, .int ((lsS a_ k_).1)), (3, .int (nI ((lsS a_ k_).2))), (4, .int (nI (k_ + 1)))] [2, 3, 4, 5, 0] rfl ?_
              have ihx := ih19 (k_ + 1)  (by omega) (by omega)
              rw [lsS_0 hb] at ihx
              exact ihx
            ·
              have hb7 := gkS_k a_ (lsS a_ k_).1 7
              rw [show kdI (gkS a_ (lsS a_ k_).1 7).1 = nI (gkS a_ (lsS a_ k_).1 7).1 from if_neg (by omega)]
              refine m_iload 0 rfl dX11_lesson_32 ?_
              refine m_bipush (-4) dX11_lesson_34 rfl ?_
              refine m_icmp_eq 55 dX11_lesson_36 (by decide) (fun c5_ => absurd c5_ (nI_neg (by omega) (by decide))) (fun _ => ?_)
              refine m_iload_n 3 rfl rfl dX11_lesson_39 ?_
              refine m_iconst 1 dX11_lesson_40 rfl ?_
              refine m_iload 0 rfl dX11_lesson_41 ?_
              refine m_ishl dX11_lesson_43 ?_
              refine m_ior dX11_lesson_44 ?_
              refine m_istore_n [(2, .int (((lsS a_ k_).1) ||| (1 <<< ((nI ((gkS a_ (lsS a_ k_).1 7).1)) &&& 31)))), (5, .int (nI ((gkS a_ (lsS a_ k_).1 7).1))), (0, .ref (gK G 0 0)), (1, .int (nI (mq))), (3, .int (nI ((lsS a_ k_).2))), (4, .int (nI (k_)))] rfl (by decide) rfl dX11_lesson_45 ?_
              refine m_iload_n 4 rfl rfl dX11_lesson_46 ?_
              refine m_aload_n 2 rfl rfl dX11_lesson_47 ?_
              refine m_iload 1 rfl dX11_lesson_48 ?_
              refine m_callVi cv_X11_231 [.int (nI ((gkS a_ (lsS a_ k_).1 7).1))] [.int (nI ((lsS a_ k_).2))] (k_childrenOf l G a_ ho_ hR (nI ((gkS a_ (lsS a_ k_).1 7).1))) (by decide) (ce_0 G _ _ _ _ _ _ _ _ _ _) rfl rfl rfl ⟨Nat.le_of_ble_eq_true rfl, Nat.le_of_ble_eq_true rfl⟩ (Nat.le_of_ble_eq_true rfl) ⟨Nat.zero_le _, Nat.zero_le _⟩ dX11_lesson_50 (fun xx σ2 hq => ?_)
              obtain ⟨rfl, rfl⟩ := hq
              have hch8 : chK a_ (nI ((gkS a_ (lsS a_ k_).1 7).1)) ≤ 8 := Nat.le_trans (cntB_le _ _) ho_.2.1
              refine m_iadd dX11_lesson_53 ?_
              refine m_topi (show (nI ((lsS a_ k_).2)) + (nI (chK a_ (nI ((gkS a_ (lsS a_ k_).1 7).1)))) = nI (((lsS a_ k_).2) + (chK a_ (nI ((gkS a_ (lsS a_ k_).1 7).1)))) from nI_add _ _) ?_
              refine m_istore_n [(3, .int (nI (((lsS a_ k_).2) + (chK a_ (nI ((gkS a_ (lsS a_ k_).1 7).1)))))), (2, .int (((lsS a_ k_).1) ||| (1 <<< ((nI ((gkS a_ (lsS a_ k_).1 7).1)) &&& 31)))), (5, .int (nI ((gkS a_ (lsS a_ k_).1 7).1))), (0, .ref (gK G 0 0)), (1, .int (nI (mq))), (4, .int (nI (k_)))] rfl (by decide) rfl dX11_lesson_54 ?_
              refine m_iinc (nI (k_ + 1)) 5 [(4, .int (nI (k_ + 1))), (3, .int (nI (((lsS a_ k_).2) + (chK a_ (nI ((gkS a_ (lsS a_ k_).1 7).1)))))), (2, .int (((lsS a_ k_).1) ||| (1 <<< ((nI ((gkS a_ (lsS a_ k_).1 7).1)) &&& 31)))), (5, .int (nI ((gkS a_ (lsS a_ k_).1 7).1))), (0, .ref (gK G 0 0)), (1, .int (nI (mq)))] rfl (nI_1 _) (by decide) rfl dX11_lesson_55 ?_
              refine m_goto 19 dX11_lesson_58 (by decide) ?_
              refine m_lv [(0, .ref (gK G 0 0)), (1, .int (nI (mq))), (2, .int (((lsS a_ k_).1) ||| (1 <<< ((nI ((gkS a_ (lsS a_ k_).1 7).1)) &&& 31)))), (3, .int (nI (((lsS a_ k_).2) + (chK a_ (nI ((gkS a_ (lsS a_ k_).1 7).1)))))), (4, .int (nI (k_ + 1)))] [4, 5, 2, 1, 0] rfl ?_
              have ihx := ih19 (k_ + 1)  (by omega) (by omega)
              rw [lsS_y (Nat.ne_of_gt hb)] at ihx
              exact ihx
      refine m_lv [(0, .ref (gK G 0 0)), (1, .int (nI (mq))), (2, .int 0), (3, .int 0), (4, .int 0)] [3, 4, 2, 1, 0] rfl ?_
      exact lp19 ((mq - 0) + 1) 0  (Nat.zero_le _) (Nat.lt_succ_self _)
    ·
      refine m_iconst (-1) dX11_lesson_10 rfl ?_
      exact m_iret dX11_lesson_11 (Nat.le_refl _) (Nat.le_refl _) (⟨by grind [lessonI], _, _, _, rfl⟩)
set_option maxRecDepth 100000 in
set_option maxHeartbeats 4000000 in
theorem k_judge (l : Launch) (G : owG) {A S Z B T V : owF} {J : Nat → Nat → Int64} {Y : Nat → Nat → Nat → Option Nat} {P : Nat → Option owW} (a_ : owK) (ho_ : aOk a_) (hR : RX A Y P 0 a_) (h_ : owH) (hRS : allRS A Y P h_) (v_ z_ : Int32) : Ct l G yX11_judge cX11_judge 7 ((some .int)) 6 0 0 [.ref (gK G 0 0), .int v_, .int z_] (A, S, Z, B, T, V, J, Y, P) (qI (fun r_ σ => r_ = judgeI a_ h_ v_ z_ ∧ ∃ (S2 Z2 : owF) (J2 : Nat → Nat → Int64), σ = (A, S2, Z2, B, T, V, J2, Y, P))) := by
  refine ct_of (by decide +kernel) (Nat.le_of_ble_eq_true rfl) ?_
  have h10 := ho_.1
  have h8_ := ho_.2.1
  show Wm l G cX11_judge 7 RX11 ((some .int)) (rmk 6 0 0) (fun _ => True) (QfM G (qI (fun r_ σ => r_ = judgeI a_ h_ v_ z_ ∧ ∃ (S2 Z2 : owF) (J2 : Nat → Nat → Int64), σ = (A, S2, Z2, B, T, V, J2, Y, P))) 0 0) 0 [(0, .ref (gK G 0 0)), (1, .int v_), (2, .int z_)] [] (A, S, Z, B, T, V, J, Y, P) 0 0
  refine m_aload_n 0 rfl rfl dX11_judge_0 ?_
  refine m_iload_n 2 rfl rfl dX11_judge_1 ?_
  cases hDz : isD z_ with
  | false =>
    refine m_callVr cv_X11_59 [.int z_] [] (k_shelfAt_n l G z_ hDz) (by decide) (ce_0 G _ _ _ _ _ _ _ _ _ _) rfl rfl rfl ⟨Nat.le_of_ble_eq_true rfl, Nat.le_of_ble_eq_true rfl⟩ (Nat.le_of_ble_eq_true rfl) ⟨Nat.zero_le _, Nat.zero_le _⟩ dX11_judge_2 (fun xx σ2 hq => ?_)
    obtain ⟨rfl, rfl⟩ := hq
    refine m_astore_nN [(3, .null), (0, .ref (gK G 0 0)), (1, .int v_), (2, .int z_)] rfl (by decide) rfl dX11_judge_5 ?_
    refine m_aload_n 1 rfl rfl dX11_judge_6 ?_
    refine gf_X11_10 dX11_judge_7 ?_
    refine m_iload_n 2 rfl rfl dX11_judge_10 ?_
    refine m_callVi cv_X11_128 [.int v_] [] (k_hasWay l G 0 (by decide) a_ ho_ hR v_) (by decide) (ce_1 G _ _ _ _ _ _ _ _ _ _) rfl rfl rfl ⟨Nat.le_of_ble_eq_true rfl, Nat.le_of_ble_eq_true rfl⟩ (Nat.le_of_ble_eq_true rfl) ⟨Nat.zero_le _, Nat.zero_le _⟩ dX11_judge_11 (fun xx σ2 hq => ?_)
    obtain ⟨rfl, rfl⟩ := hq
    refine m_ifeq_b 21 dX11_judge_14 (by decide) (fun c1_ => ?_) (fun c1_ => ?_)
    ·
      refine m_iconst (-1) dX11_judge_21 rfl ?_
      exact m_iret dX11_judge_22 (Nat.le_refl _) (Nat.le_refl _) (⟨by simp [judgeI, hDz], _, _, _, rfl⟩)
    ·
      obtain ⟨wq, hwq, rfl⟩ := isW_nat ho_ c1_
      have hclwq : (nI wq).toNatClampNeg = wq := nI_clamp (by omega)
      refine m_aload_nN 0 rfl rfl dX11_judge_17 ?_
      refine m_ifnonnullN dX11_judge_18 ?_
      refine m_iconst (-1) dX11_judge_21 rfl ?_
      exact m_iret dX11_judge_22 (Nat.le_refl _) (Nat.le_refl _) (⟨by simp [judgeI, hDz], _, _, _, rfl⟩)
  | true =>
    obtain ⟨nz, hnz, rfl⟩ := isD_nat hDz
    refine m_callVr cv_X11_59 [.int (nI nz)] [] (k_shelfAt_s l G nz hnz) (by decide) (ce_0 G _ _ _ _ _ _ _ _ _ _) rfl rfl rfl ⟨Nat.le_of_ble_eq_true rfl, Nat.le_of_ble_eq_true rfl⟩ (Nat.le_of_ble_eq_true rfl) ⟨Nat.zero_le _, Nat.zero_le _⟩ dX11_judge_2 (fun xx σ2 hq => ?_)
    obtain ⟨rfl, rfl⟩ := hq
    have hi_nz : nz < owN 3 := hnz
    have hRS_nz := hRS nz hnz
    refine m_astore_n [(3, .ref (gK G 3 nz)), (0, .ref (gK G 0 0)), (1, .int v_), (2, .int (nI (nz)))] rfl (by decide) rfl dX11_judge_5 ?_
    refine m_aload_n 1 rfl rfl dX11_judge_6 ?_
    refine gf_X11_10 dX11_judge_7 ?_
    refine m_iload_n 2 rfl rfl dX11_judge_10 ?_
    refine m_callVi cv_X11_128 [.int v_] [] (k_hasWay l G 0 (by decide) a_ ho_ hR v_) (by decide) (ce_1 G _ _ _ _ _ _ _ _ _ _) rfl rfl rfl ⟨Nat.le_of_ble_eq_true rfl, Nat.le_of_ble_eq_true rfl⟩ (Nat.le_of_ble_eq_true rfl) ⟨Nat.zero_le _, Nat.zero_le _⟩ dX11_judge_11 (fun xx σ2 hq => ?_)
    obtain ⟨rfl, rfl⟩ := hq
    refine m_ifeq_b 21 dX11_judge_14 (by decide) (fun c2_ => ?_) (fun c2_ => ?_)
    ·
      refine m_iconst (-1) dX11_judge_21 rfl ?_
      exact m_iret dX11_judge_22 (Nat.le_refl _) (Nat.le_refl _) (⟨by first | (simp [judgeI, c2_]; done) | (simp_all [judgeI, rN, rX, rQ, rV]; done) | grind [judgeI], _, _, _, rfl⟩)
    ·
      obtain ⟨wq, hwq, rfl⟩ := isW_nat ho_ c2_
      have hclwq : (nI wq).toNatClampNeg = wq := nI_clamp (by omega)
      refine m_aload_n 0 rfl rfl dX11_judge_17 ?_
      refine m_ifnonnull 23 dX11_judge_18 (by decide) ?_
      refine m_aload_n 0 rfl rfl dX11_judge_23 ?_
      refine m_callVi cv_X11_247 [] [] (k_rowRefusal l G nz hi_nz h_ hRS_nz) hi_nz (ce_3 G _ _ _ _ _ _ _ _ _ _) rfl rfl rfl ⟨Nat.le_of_ble_eq_true rfl, Nat.le_of_ble_eq_true rfl⟩ (Nat.le_of_ble_eq_true rfl) ⟨Nat.zero_le _, Nat.zero_le _⟩ dX11_judge_24 (fun xx σ2 hq => ?_)
      obtain ⟨rfl, rfl⟩ := hq
      refine m_istore [(4, .int (rowRef h_ nz)), (3, .ref (gK G 3 nz)), (0, .ref (gK G 0 0)), (1, .int (nI (wq))), (2, .int (nI (nz)))] (by decide) rfl dX11_judge_27 ?_
      refine m_iload 0 rfl dX11_judge_29 ?_
      refine m_if_eq 37 dX11_judge_31 (by decide) (fun c3_ => ?_) (fun c3_ => ?_)
      ·
        have hq2 : hK h_ nz = 2 := by unfold rowRef at c3_; grind
        have hrow := hRS_nz.row hq2
        have hn100 := hrow.2.2.2.2.2.1
        have hr0 := c3_
        refine m_aload_n 1 rfl rfl dX11_judge_37 ?_
        refine gf_X11_250 hi_nz dX11_judge_38 ?_
        refine m_topi hrow.2.2.2.2.1 ?_
        refine m_iconst 2 dX11_judge_41 rfl ?_
        refine m_icmpn_lt (hN h_ nz) 2 61 (by omega) (by decide) dX11_judge_42 (by decide) (fun c4_ => ?_) (fun c4_ => ?_)
        ·
          refine m_bipush (-13) dX11_judge_61 rfl ?_
          exact m_iret dX11_judge_63 (Nat.le_refl _) (Nat.le_refl _) (⟨by unfold judgeI; rw [isD_clamp hnz, hclwq, if_pos ⟨isD_of hnz, isW_of ho_ hwq⟩, if_pos hr0, if_neg (by rintro ⟨q1_, q2_⟩; first | omega | (rw [q2_] at c4_; cases c4_))], _, _, _, rfl⟩)
        ·
          refine m_aload_n 1 rfl rfl dX11_judge_45 ?_
          refine m_iconst 0 dX11_judge_46 rfl ?_
          refine m_callVi cv_X11_253 [.int 0] [] (k_get l G nz hi_nz h_ hrow 0) hi_nz (ce_3 G _ _ _ _ _ _ _ _ _ _) rfl rfl rfl ⟨Nat.le_of_ble_eq_true rfl, Nat.le_of_ble_eq_true rfl⟩ (Nat.le_of_ble_eq_true rfl) ⟨Nat.zero_le _, Nat.zero_le _⟩ dX11_judge_47 (fun xx σ2 hq => ?_)
          obtain ⟨rfl, rfl⟩ := hq
          refine m_topi (show getI h_ nz 0 = hE h_ nz 0 from getI_in (k := 0) hn100 (by omega)) ?_
          refine m_aload_n 1 rfl rfl dX11_judge_50 ?_
          refine m_iconst 1 dX11_judge_51 rfl ?_
          refine m_callVi cv_X11_253 [.int 1] [.int (hE h_ nz 0)] (k_get l G nz hi_nz h_ hrow 1) hi_nz (ce_3 G _ _ _ _ _ _ _ _ _ _) rfl rfl rfl ⟨Nat.le_of_ble_eq_true rfl, Nat.le_of_ble_eq_true rfl⟩ (Nat.le_of_ble_eq_true rfl) ⟨Nat.zero_le _, Nat.zero_le _⟩ dX11_judge_52 (fun xx σ2 hq => ?_)
          obtain ⟨rfl, rfl⟩ := hq
          refine m_topi (show getI h_ nz 1 = hE h_ nz 1 from getI_in (k := 1) hn100 (by omega)) ?_
          refine m_callSi cs_X11_120 [.int (hE h_ nz 0), .int (hE h_ nz 1)] [] (k_isSum l G (hE h_ nz 0) (hE h_ nz 1)) rfl rfl ⟨Nat.le_of_ble_eq_true rfl, Nat.le_of_ble_eq_true rfl⟩ (Nat.le_of_ble_eq_true rfl) ⟨Nat.zero_le _, Nat.zero_le _⟩ dX11_judge_55 (fun xx σ2 hq => ?_)
          obtain ⟨rfl, rfl⟩ := hq
          refine m_ifne_b 64 dX11_judge_58 (by decide) (fun c5_ => ?_) (fun c5_ => ?_)
          ·
            obtain ⟨xq, yq, ex, ey, hy_, hx_⟩ := sumNat c5_
            have hclxq : (hE h_ nz 0).toNatClampNeg = xq := by rw [ex]; exact nI_clamp (by omega)
            have hclyq : (hE h_ nz 1).toNatClampNeg = yq := by rw [ey]; exact nI_clamp (by omega)
            refine m_aload_n 2 rfl rfl dX11_judge_64 ?_
            refine m_iload_n 3 rfl rfl dX11_judge_65 ?_
            refine m_aload_n 1 rfl rfl dX11_judge_66 ?_
            refine m_iconst 0 dX11_judge_67 rfl ?_
            refine m_callVi cv_X11_253 [.int 0] [.int (nI (wq)), .ref (gK G 0 0)] (k_get l G nz hi_nz h_ hrow 0) hi_nz (ce_3 G _ _ _ _ _ _ _ _ _ _) rfl rfl rfl ⟨Nat.le_of_ble_eq_true rfl, Nat.le_of_ble_eq_true rfl⟩ (Nat.le_of_ble_eq_true rfl) ⟨Nat.zero_le _, Nat.zero_le _⟩ dX11_judge_68 (fun xx σ2 hq => ?_)
            obtain ⟨rfl, rfl⟩ := hq
            refine m_topi (show getI h_ nz 0 = hE h_ nz 0 from getI_in (k := 0) hn100 (by omega)) ?_
            refine m_topi ex ?_
            refine m_aload_n 1 rfl rfl dX11_judge_71 ?_
            refine m_iconst 1 dX11_judge_72 rfl ?_
            refine m_callVi cv_X11_253 [.int 1] [.int (nI (xq)), .int (nI (wq)), .ref (gK G 0 0)] (k_get l G nz hi_nz h_ hrow 1) hi_nz (ce_3 G _ _ _ _ _ _ _ _ _ _) rfl rfl rfl ⟨Nat.le_of_ble_eq_true rfl, Nat.le_of_ble_eq_true rfl⟩ (Nat.le_of_ble_eq_true rfl) ⟨Nat.zero_le _, Nat.zero_le _⟩ dX11_judge_73 (fun xx σ2 hq => ?_)
            obtain ⟨rfl, rfl⟩ := hq
            refine m_topi (show getI h_ nz 1 = hE h_ nz 1 from getI_in (k := 1) hn100 (by omega)) ?_
            refine m_topi ey ?_
            refine m_callVi cv_X11_124 [.int (nI (wq)), .int (nI (xq)), .int (nI (yq))] [] (k_answerTo l G a_ ho_ hR wq (by omega) xq yq hx_ hy_) (by decide) (ce_0 G _ _ _ _ _ _ _ _ _ _) rfl rfl rfl ⟨Nat.le_of_ble_eq_true rfl, Nat.le_of_ble_eq_true rfl⟩ (Nat.le_of_ble_eq_true rfl) ⟨Nat.zero_le _, Nat.zero_le _⟩ dX11_judge_76 (fun xx σ2 hq => ?_)
            obtain ⟨rfl, Z6, rfl, hwZ6⟩ := hq
            refine m_pop rfl dX11_judge_79 ?_
            refine m_iconst 2 dX11_judge_80 rfl ?_
            refine m_istore [(5, .int 2), (4, .int (rowRef h_ nz)), (3, .ref (gK G 3 nz)), (0, .ref (gK G 0 0)), (1, .int (nI (wq))), (2, .int (nI (nz)))] (by decide) rfl dX11_judge_81 ?_
            have lp83 : ∀ (dd : Nat) (k_ : Nat) (Z9 : owF), 2 ≤ k_ → k_ ≤ hN h_ nz → fsS (jgB a_ h_ wq nz) k_ = none → worked Z9 (aK a_ wq) (aF a_ wq) xq yq → hN h_ nz - k_ < dd → Wm l G cX11_judge 7 RX11 ((some .int)) (rmk 6 0 0) (fun _ => True) (QfM G (qI (fun r_ σ => r_ = judgeI a_ h_ (nI wq) (nI nz) ∧ ∃ (S2 Z2 : owF) (J2 : Nat → Nat → Int64), σ = (A, S2, Z2, B, T, V, J2, Y, P))) 0 0) 83 [(0, .ref (gK G 0 0)), (1, .int (nI (wq))), (2, .int (nI (nz))), (3, .ref (gK G 3 nz)), (4, .int (rowRef h_ nz)), (5, .int (nI (k_)))] [] (A, S, Z9, B, T, V, J, Y, P) 0 0 := by
              intro dd
              induction dd with
              | zero => intro k_ Z9 hk2 hk_ hfs hw_ hdd; exact absurd hdd (Nat.not_lt_zero _)
              | succ dd ih83 =>
                intro k_ Z9 hk2 hk_ hfs hw_ hdd83
                refine m_iload 5 rfl dX11_judge_83 ?_
                refine m_aload_n 3 rfl rfl dX11_judge_85 ?_
                refine gf_X11_250 hi_nz dX11_judge_86 ?_
                refine m_topi hrow.2.2.2.2.1 ?_
                refine m_icmpn_ge k_ (hN h_ nz) 145 (by omega) (by omega) dX11_judge_89 (by decide) (fun c7_ => ?_) (fun c7_ => ?_)
                ·
                  refine m_bipush (-4) dX11_judge_145 rfl ?_
                  exact m_iret dX11_judge_147 (Nat.le_refl _) (Nat.le_refl _) (⟨by unfold judgeI; rw [isD_clamp hnz, hclwq, if_pos ⟨isD_of hnz, isW_of ho_ hwq⟩, if_pos hr0, if_pos ⟨by omega, by assumption⟩]; obtain rfl : k_ = hN h_ nz := (by omega); rw [hfs]; rfl, _, _, _, rfl⟩)
                ·
                  refine m_aload_n 3 rfl rfl dX11_judge_92 ?_
                  refine m_iload 5 rfl dX11_judge_93 ?_
                  refine m_callVi cv_X11_253 [.int (nI (k_))] [] (k_get l G nz hi_nz h_ hrow (nI k_)) hi_nz (ce_3 G _ _ _ _ _ _ _ _ _ _) rfl rfl rfl ⟨Nat.le_of_ble_eq_true rfl, Nat.le_of_ble_eq_true rfl⟩ (Nat.le_of_ble_eq_true rfl) ⟨Nat.zero_le _, Nat.zero_le _⟩ dX11_judge_95 (fun xx σ2 hq => ?_)
                  obtain ⟨hgx, rfl⟩ := hq
                  obtain rfl := hgx.trans (getI_in (k := k_) hrow.2.2.2.2.2.1 (by omega))
                  refine m_istore [(6, .int (hE h_ nz k_)), (0, .ref (gK G 0 0)), (1, .int (nI (wq))), (2, .int (nI (nz))), (3, .ref (gK G 3 nz)), (4, .int (rowRef h_ nz)), (5, .int (nI (k_)))] (by decide) rfl dX11_judge_98 ?_
                  refine m_iload 0 rfl dX11_judge_100 ?_
                  refine m_aload_n 4 rfl rfl dX11_judge_102 ?_
                  refine m_callVi cv_X11_256 [] [.int (hE h_ nz k_)] (k_leastOfSort l G nz hi_nz h_ hrow) hi_nz (ce_3 G _ _ _ _ _ _ _ _ _ _) rfl rfl rfl ⟨Nat.le_of_ble_eq_true rfl, Nat.le_of_ble_eq_true rfl⟩ (Nat.le_of_ble_eq_true rfl) ⟨Nat.zero_le _, Nat.zero_le _⟩ dX11_judge_103 (fun xx σ2 hq => ?_)
                  obtain ⟨rfl, rfl⟩ := hq
                  refine m_icmp_eq 139 dX11_judge_106 (by decide) (fun c8_ => ?_) (fun c8_ => ?_)
                  ·
                    refine m_iinc (nI (k_ + 1)) 6 [(5, .int (nI (k_ + 1))), (6, .int (hE h_ nz k_)), (0, .ref (gK G 0 0)), (1, .int (nI (wq))), (2, .int (nI (nz))), (3, .ref (gK G 3 nz)), (4, .int (rowRef h_ nz))] rfl (nI_1 _) (by decide) rfl dX11_judge_139 ?_
                    refine m_goto 83 dX11_judge_142 (by decide) ?_
                    refine m_lv [(0, .ref (gK G 0 0)), (1, .int (nI (wq))), (2, .int (nI (nz))), (3, .ref (gK G 3 nz)), (4, .int (rowRef h_ nz)), (5, .int (nI (k_ + 1)))] [2, 3, 4, 5, 6, 0] rfl ?_
                    exact ih83 (k_ + 1) Z9 (by omega) (by omega) (fsS_n hfs (by unfold jgB; rw [hclxq, hclyq]; grind)) hw_ (by omega)
                  ·
                    refine m_iload 6 rfl dX11_judge_109 ?_
                    refine m_iconst 2 dX11_judge_111 rfl ?_
                    refine m_isub dX11_judge_112 ?_
                    refine m_topi ((show nI k_ - 2 = nI (k_ - 2) from pk_sub (b := 2) (by omega))) ?_
                    refine m_iconst 4 dX11_judge_113 rfl ?_
                    refine m_icmpn_ge (k_ - 2) 4 136 (by omega) (by decide) dX11_judge_114 (by decide) (fun c9_ => ?_) (fun c9_ => ?_)
                    ·
                      refine m_iload 6 rfl dX11_judge_136 ?_
                      exact m_iret dX11_judge_138 (Nat.le_refl _) (Nat.le_refl _) (⟨by unfold judgeI; rw [isD_clamp hnz, hclwq, if_pos ⟨isD_of hnz, isW_of ho_ hwq⟩, if_pos hr0, if_pos ⟨by omega, by assumption⟩]; rw [fsS_y hfs (by unfold jgB; rw [hclxq, hclyq]; grind) _ (by omega)]; rfl, _, _, _, rfl⟩)
                    ·
                      refine m_iload 0 rfl dX11_judge_117 ?_
                      refine m_aload_n 1 rfl rfl dX11_judge_119 ?_
                      refine gf_X11_31 dX11_judge_120 ?_
                      refine gf_X11_134 dX11_judge_123 ?_
                      refine m_iload 6 rfl dX11_judge_126 ?_
                      refine m_iconst 2 dX11_judge_128 rfl ?_
                      refine m_isub dX11_judge_129 ?_
                      refine m_topi ((show nI k_ - 2 = nI (k_ - 2) from pk_sub (b := 2) (by omega))) ?_
                      refine m_callSi cs_X11_102 [.ref (gK G 22 0), .int (nI (k_ - 2))] [.int (hE h_ nz k_)] (k_at (t := 22) (n := 4) l G (by decide) (ce_22 G _ _ _ _ _ _ _ _ _ 0) (by decide) (nI (k_ - 2))) rfl rfl ⟨Nat.le_of_ble_eq_true rfl, Nat.le_of_ble_eq_true rfl⟩ (Nat.le_of_ble_eq_true rfl) ⟨Nat.zero_le _, Nat.zero_le _⟩ dX11_judge_130 (fun xx σ2 hq => ?_)
                      obtain rfl : xx = Z9 22 0 (k_ - 2) := hq.1.trans (atV_in (by omega) (by decide))
                      obtain rfl := hq.2
                      refine m_topi (hw_.1 (k_ - 2) (by omega)) ?_
                      refine m_icmp_eq 139 dX11_judge_133 (by decide) (fun c11_ => ?_) (fun c11_ => ?_)
                      ·
                        refine m_iinc (nI (k_ + 1)) 6 [(5, .int (nI (k_ + 1))), (6, .int (hE h_ nz k_)), (0, .ref (gK G 0 0)), (1, .int (nI (wq))), (2, .int (nI (nz))), (3, .ref (gK G 3 nz)), (4, .int (rowRef h_ nz))] rfl (nI_1 _) (by decide) rfl dX11_judge_139 ?_
                        refine m_goto 83 dX11_judge_142 (by decide) ?_
                        refine m_lv [(0, .ref (gK G 0 0)), (1, .int (nI (wq))), (2, .int (nI (nz))), (3, .ref (gK G 3 nz)), (4, .int (rowRef h_ nz)), (5, .int (nI (k_ + 1)))] [2, 3, 4, 5, 6, 0] rfl ?_
                        exact ih83 (k_ + 1) Z9 (by omega) (by omega) (fsS_n hfs (by unfold jgB; rw [hclxq, hclyq]; grind)) hw_ (by omega)
                      ·
                        refine m_iload 6 rfl dX11_judge_136 ?_
                        exact m_iret dX11_judge_138 (Nat.le_refl _) (Nat.le_refl _) (⟨by unfold judgeI; rw [isD_clamp hnz, hclwq, if_pos ⟨isD_of hnz, isW_of ho_ hwq⟩, if_pos hr0, if_pos ⟨by omega, by assumption⟩]; rw [fsS_y hfs (by unfold jgB; rw [hclxq, hclyq]; grind) _ (by omega)]; rfl, _, _, _, rfl⟩)
            refine m_lv [(0, .ref (gK G 0 0)), (1, .int (nI (wq))), (2, .int (nI (nz))), (3, .ref (gK G 3 nz)), (4, .int (rowRef h_ nz)), (5, .int 2)] [3, 4, 5, 2, 1, 0] rfl ?_
            exact lp83 ((hN h_ nz - 2) + 1) 2 Z6 (by omega) (by omega) rfl hwZ6 (Nat.lt_succ_self _)
          ·
            refine m_bipush (-13) dX11_judge_61 rfl ?_
            exact m_iret dX11_judge_63 (Nat.le_refl _) (Nat.le_refl _) (⟨by unfold judgeI; rw [isD_clamp hnz, hclwq, if_pos ⟨isD_of hnz, isW_of ho_ hwq⟩, if_pos hr0, if_neg (by rintro ⟨q1_, q2_⟩; first | omega | (rw [q2_] at c5_; cases c5_))], _, _, _, rfl⟩)
      ·
        refine m_iload 0 rfl dX11_judge_34 ?_
        exact m_iret dX11_judge_36 (Nat.le_refl _) (Nat.le_refl _) (⟨by unfold judgeI; rw [isD_clamp hnz, hclwq, if_pos ⟨isD_of hnz, isW_of ho_ hwq⟩, if_neg c3_], _, _, _, rfl⟩)
set_option maxRecDepth 100000 in
set_option maxHeartbeats 4000000 in
theorem k_bestSaying (l : Launch) (G : owG) {A S Z B T V : owF} {J : Nat → Nat → Int64} {Y : Nat → Nat → Nat → Option Nat} {P : Nat → Option owW} (a_ : owK) (ho_ : aOk a_) (hR : RX A Y P 0 a_) (h_ : owH) (hRS : allRS A Y P h_) (x_ : Int32) : Ct l G yX11_bestSaying cX11_bestSaying 8 ((some .int)) 7 0 0 [.ref (gK G 0 0), .int x_] (A, S, Z, B, T, V, J, Y, P) (qI (fun r_ σ => r_ = bestI a_ h_ x_ ∧ ∃ (S2 Z2 : owF) (J2 : Nat → Nat → Int64), σ = (A, S2, Z2, B, T, V, J2, Y, P))) := by
  refine ct_of (by decide +kernel) (Nat.le_of_ble_eq_true rfl) ?_
  have h10 := ho_.1
  have h8_ := ho_.2.1
  show Wm l G cX11_bestSaying 8 RX11 ((some .int)) (rmk 7 0 0) (fun _ => True) (QfM G (qI (fun r_ σ => r_ = bestI a_ h_ x_ ∧ ∃ (S2 Z2 : owF) (J2 : Nat → Nat → Int64), σ = (A, S2, Z2, B, T, V, J2, Y, P))) 0 0) 0 [(0, .ref (gK G 0 0)), (1, .int x_)] [] (A, S, Z, B, T, V, J, Y, P) 0 0
  refine m_aload_n 0 rfl rfl dX11_bestSaying_0 ?_
  refine m_iload_n 1 rfl rfl dX11_bestSaying_1 ?_
  refine m_callVi cv_X11_176 [.int x_] [] (k_sheet l G h_ hRS x_) (by decide) (ce_0 G _ _ _ _ _ _ _ _ _ _) rfl rfl rfl ⟨Nat.le_of_ble_eq_true rfl, Nat.le_of_ble_eq_true rfl⟩ (Nat.le_of_ble_eq_true rfl) ⟨Nat.zero_le _, Nat.zero_le _⟩ dX11_bestSaying_2 (fun xx σ2 hq => ?_)
  obtain ⟨rfl, S1, rfl, hsh⟩ := hq
  refine m_istore_n [(2, .int (shRefI h_ x_)), (0, .ref (gK G 0 0)), (1, .int x_)] rfl (by decide) rfl dX11_bestSaying_5 ?_
  refine m_iload_n 0 rfl rfl dX11_bestSaying_6 ?_
  refine m_if_eq 12 dX11_bestSaying_7 (by decide) (fun c2_ => ?_) (fun c2_ => ?_)
  ·
    have hb0 := c2_
    obtain ⟨dq, hdq, rfl, hk2, hs_⟩ := hsh hb0
    have hcldq : (nI dq).toNatClampNeg = dq := nI_clamp (by omega)
    refine m_iconst 0 dX11_bestSaying_12 rfl ?_
    refine m_istore_n [(3, .int 0), (2, .int (shRefI h_ (nI dq))), (0, .ref (gK G 0 0)), (1, .int (nI (dq)))] rfl (by decide) rfl dX11_bestSaying_13 ?_
    refine m_iconst 0 dX11_bestSaying_14 rfl ?_
    refine m_istore [(4, .int 0), (3, .int 0), (2, .int (shRefI h_ (nI dq))), (0, .ref (gK G 0 0)), (1, .int (nI (dq)))] (by decide) rfl dX11_bestSaying_15 ?_
    have lp17 : ∀ (dd : Nat) (k_ : Nat) (S9 : owF) (Z9 : owF), k_ ≤ aN a_ → sfrT 34 S1 S9 → (∀ w_, w_ < k_ → S9 34 0 w_ = nI (mkN a_ (shN h_ dq) (shX h_ dq) (shY h_ dq) false w_)) → aN a_ - k_ < dd → Wm l G cX11_bestSaying 8 RX11 ((some .int)) (rmk 7 0 0) (fun _ => True) (QfM G (qI (fun r_ σ => r_ = bestI a_ h_ (nI dq) ∧ ∃ (S2 Z2 : owF) (J2 : Nat → Nat → Int64), σ = (A, S2, Z2, B, T, V, J2, Y, P))) 0 0) 17 [(0, .ref (gK G 0 0)), (1, .int (nI (dq))), (2, .int (shRefI h_ (nI dq))), (3, .int 0), (4, .int (nI (k_)))] [] (A, S9, Z9, B, T, V, J, Y, P) 0 0 := by
      intro dd
      induction dd with
      | zero => intro k_ S9 Z9 hk_ hsf hby hdd; exact absurd hdd (Nat.not_lt_zero _)
      | succ dd ih17 =>
        intro k_ S9 Z9 hk_ hsf hby hdd17
        have hs9 := hs_.keep hsf (by decide)
        refine m_iload 4 rfl dX11_bestSaying_17 ?_
        refine m_aload_n 0 rfl rfl dX11_bestSaying_19 ?_
        refine gf_X11_10 dX11_bestSaying_20 ?_
        refine gf_X11_164 (by decide) dX11_bestSaying_23 ?_
        refine m_topi hR.1 ?_
        refine m_icmpn_ge k_ (aN a_) 51 (by omega) (by omega) dX11_bestSaying_26 (by decide) (fun c3_ => ?_) (fun c3_ => ?_)
        ·
          obtain rfl : k_ = aN a_ := (by omega)
          have hn12 := hs_.2.1
          refine m_iconst 0 dX11_bestSaying_51 rfl ?_
          refine m_istore [(4, .int 0), (0, .ref (gK G 0 0)), (1, .int (nI (dq))), (2, .int (shRefI h_ (nI dq))), (3, .int 0)] (by decide) rfl dX11_bestSaying_52 ?_
          have lp54 : ∀ (dd : Nat) (k_ : Nat) , k_ ≤ aC a_ → aC a_ - k_ < dd → Wm l G cX11_bestSaying 8 RX11 ((some .int)) (rmk 7 0 0) (fun _ => True) (QfM G (qI (fun r_ σ => r_ = bestI a_ h_ (nI dq) ∧ ∃ (S2 Z2 : owF) (J2 : Nat → Nat → Int64), σ = (A, S2, Z2, B, T, V, J2, Y, P))) 0 0) 54 [(0, .ref (gK G 0 0)), (1, .int (nI (dq))), (2, .int (shRefI h_ (nI dq))), (3, .int (nI (smN (fun c_ => mkN a_ (shN h_ dq) (shX h_ dq) (shY h_ dq) false (aH a_ c_)) k_))), (4, .int (nI (k_)))] [] (A, S9, Z9, B, T, V, J, Y, P) 0 0 := by
            intro dd
            induction dd with
            | zero => intro k_  hk_ hdd; exact absurd hdd (Nat.not_lt_zero _)
            | succ dd ih54 =>
              intro k_  hk_ hdd54
              have hsb := smN_bound (f := (fun c_ => mkN a_ (shN h_ dq) (shX h_ dq) (shY h_ dq) false (aH a_ c_))) (n := k_) (c := 12) (fun j_ hj => mkN_le hn12)
              refine m_iload 4 rfl dX11_bestSaying_54 ?_
              refine m_aload_n 0 rfl rfl dX11_bestSaying_56 ?_
              refine gf_X11_10 dX11_bestSaying_57 ?_
              refine gf_X11_222 (by decide) dX11_bestSaying_60 ?_
              refine m_topi hR.2.1 ?_
              refine m_icmpn_ge k_ (aC a_) 94 (by omega) (by omega) dX11_bestSaying_63 (by decide) (fun c4_ => ?_) (fun c4_ => ?_)
              ·
                obtain rfl : k_ = aC a_ := (by omega)
                have hnow : mkNow a_ h_ dq ≤ 96 := Nat.le_trans (smN_bound (n := aC a_) (c := 12) (fun j_ hj => mkN_le hn12)) (by omega)
                have hall : ∀ j_, mkAll a_ h_ dq j_ ≤ 96 := fun j_ => Nat.le_trans (smN_bound (n := aC a_) (c := 12) (fun j_ hj => mkN_le hn12)) (by omega)
                refine m_bipush (-4) dX11_bestSaying_94 rfl ?_
                refine m_istore [(4, .int (-4)), (0, .ref (gK G 0 0)), (1, .int (nI (dq))), (2, .int (shRefI h_ (nI dq))), (3, .int (nI (mkNow a_ h_ dq)))] (by decide) rfl dX11_bestSaying_96 ?_
                refine m_iconst 0 dX11_bestSaying_98 rfl ?_
                refine m_istore [(5, .int 0), (4, .int (-4)), (0, .ref (gK G 0 0)), (1, .int (nI (dq))), (2, .int (shRefI h_ (nI dq))), (3, .int (nI (mkNow a_ h_ dq)))] (by decide) rfl dX11_bestSaying_99 ?_
                have lp101 : ∀ (dd : Nat) (u_ : Nat) , u_ ≤ 10 → 10 - u_ < dd → Wm l G cX11_bestSaying 8 RX11 ((some .int)) (rmk 7 0 0) (fun _ => True) (QfM G (qI (fun r_ σ => r_ = bestI a_ h_ (nI dq) ∧ ∃ (S2 Z2 : owF) (J2 : Nat → Nat → Int64), σ = (A, S2, Z2, B, T, V, J2, Y, P))) 0 0) 101 [(0, .ref (gK G 0 0)), (1, .int (nI (dq))), (2, .int (shRefI h_ (nI dq))), (3, .int (nI ((bsS (mkNow a_ h_ dq) (mkAll a_ h_ dq) u_).2))), (4, .int (optI (bsS (mkNow a_ h_ dq) (mkAll a_ h_ dq) u_).1)), (5, .int (nI (u_)))] [] (A, S9, Z9, B, T, V, J, Y, P) 0 0 := by
                  intro dd
                  induction dd with
                  | zero => intro u_  hu hdd; exact absurd hdd (Nat.not_lt_zero _)
                  | succ dd ih101 =>
                    intro u_  hu hdd101
                    refine m_iload 5 rfl dX11_bestSaying_101 ?_
                    refine m_bipush (10) dX11_bestSaying_103 rfl ?_
                    refine m_icmpn_ge u_ 10 184 (by omega) (by decide) dX11_bestSaying_105 (by decide) (fun c5_ => ?_) (fun c5_ => ?_)
                    ·
                      refine m_iload 4 rfl dX11_bestSaying_184 ?_
                      exact m_iret dX11_bestSaying_186 (Nat.le_refl _) (Nat.le_refl _) ((by obtain rfl : u_ = 10 := (by omega); exact ⟨by unfold bestI; rw [if_pos hb0, hcldq], _, _, _, rfl⟩))
                    ·
                      refine m_iconst 0 dX11_bestSaying_108 rfl ?_
                      refine m_istore [(6, .int 0), (0, .ref (gK G 0 0)), (1, .int (nI (dq))), (2, .int (shRefI h_ (nI dq))), (3, .int (nI ((bsS (mkNow a_ h_ dq) (mkAll a_ h_ dq) u_).2))), (4, .int (optI (bsS (mkNow a_ h_ dq) (mkAll a_ h_ dq) u_).1)), (5, .int (nI (u_)))] (by decide) rfl dX11_bestSaying_109 ?_
                      refine m_iconst 0 dX11_bestSaying_111 rfl ?_
                      refine m_istore [(7, .int 0), (6, .int 0), (0, .ref (gK G 0 0)), (1, .int (nI (dq))), (2, .int (shRefI h_ (nI dq))), (3, .int (nI ((bsS (mkNow a_ h_ dq) (mkAll a_ h_ dq) u_).2))), (4, .int (optI (bsS (mkNow a_ h_ dq) (mkAll a_ h_ dq) u_).1)), (5, .int (nI (u_)))] (by decide) rfl dX11_bestSaying_112 ?_
                      have lp114 : ∀ (dd : Nat) (k_ : Nat) , k_ ≤ aC a_ → aC a_ - k_ < dd → Wm l G cX11_bestSaying 8 RX11 ((some .int)) (rmk 7 0 0) (fun _ => True) (QfM G (qI (fun r_ σ => r_ = bestI a_ h_ (nI dq) ∧ ∃ (S2 Z2 : owF) (J2 : Nat → Nat → Int64), σ = (A, S2, Z2, B, T, V, J2, Y, P))) 0 0) 114 [(0, .ref (gK G 0 0)), (1, .int (nI (dq))), (2, .int (shRefI h_ (nI dq))), (3, .int (nI ((bsS (mkNow a_ h_ dq) (mkAll a_ h_ dq) u_).2))), (4, .int (optI (bsS (mkNow a_ h_ dq) (mkAll a_ h_ dq) u_).1)), (5, .int (nI (u_))), (6, .int (nI (smN (fun c_ => mkN a_ (shN h_ dq) (shX h_ dq) (shY h_ dq) false (tdW a_ u_ (aH a_ c_))) k_))), (7, .int (nI (k_)))] [] (A, S9, Z9, B, T, V, J, Y, P) 0 0 := by
                        intro dd
                        induction dd with
                        | zero => intro k_  hk_ hdd; exact absurd hdd (Nat.not_lt_zero _)
                        | succ dd ih114 =>
                          intro k_  hk_ hdd114
                          have hsb := smN_bound (f := (fun c_ => mkN a_ (shN h_ dq) (shX h_ dq) (shY h_ dq) false (tdW a_ u_ (aH a_ c_)))) (n := k_) (c := 12) (fun j_ hj => mkN_le hn12)
                          refine m_iload 7 rfl dX11_bestSaying_114 ?_
                          refine m_aload_n 0 rfl rfl dX11_bestSaying_116 ?_
                          refine gf_X11_10 dX11_bestSaying_117 ?_
                          refine gf_X11_222 (by decide) dX11_bestSaying_120 ?_
                          refine m_topi hR.2.1 ?_
                          refine m_icmpn_ge k_ (aC a_) 165 (by omega) (by omega) dX11_bestSaying_123 (by decide) (fun c6_ => ?_) (fun c6_ => ?_)
                          ·
                            obtain rfl : k_ = aC a_ := (by omega)
                            have hbl := bsS_le (c := 96) (b := mkNow a_ h_ dq) (g := mkAll a_ h_ dq) hnow u_ (fun j_ hj => hall j_)
                            have hal := hall u_
                            refine m_iload 6 rfl dX11_bestSaying_165 ?_
                            refine m_iload_n 3 rfl rfl dX11_bestSaying_167 ?_
                            refine m_icmpn_le (mkAll a_ h_ dq u_) ((bsS (mkNow a_ h_ dq) (mkAll a_ h_ dq) u_).2) 178 (by omega) (by omega) dX11_bestSaying_168 (by decide) (fun c7_ => ?_) (fun c7_ => ?_)
                            ·
                              refine m_iinc (nI (u_ + 1)) 5 [(5, .int (nI (u_ + 1))), (0, .ref (gK G 0 0)), (1, .int (nI (dq))), (2, .int (shRefI h_ (nI dq))), (3, .int (nI ((bsS (mkNow a_ h_ dq) (mkAll a_ h_ dq) u_).2))), (4, .int (optI (bsS (mkNow a_ h_ dq) (mkAll a_ h_ dq) u_).1)), (6, .int (nI (mkAll a_ h_ dq u_))), (7, .int (nI (aC a_)))] rfl (nI_1 _) (by decide) rfl dX11_bestSaying_178 ?_
                              refine m_goto 101 dX11_bestSaying_181 (by decide) ?_
                              refine m_lv [(0, .ref (gK G 0 0)), (1, .int (nI (dq))), (2, .int (shRefI h_ (nI dq))), (3, .int (nI ((bsS (mkNow a_ h_ dq) (mkAll a_ h_ dq) u_).2))), (4, .int (optI (bsS (mkNow a_ h_ dq) (mkAll a_ h_ dq) u_).1)), (5, .int (nI (u_ + 1)))] [1, 2, 3, 4, 5, 0] rfl ?_
                              have ihx := ih101 (u_ + 1)  (by omega) (by omega)
                              rw [bsS_n (g := mkAll a_ h_ dq) (b := mkNow a_ h_ dq) (k := u_) (by omega)] at ihx
                              exact ihx
                            ·
                              refine m_iload 6 rfl dX11_bestSaying_171 ?_
                              refine m_istore_n [(3, .int (nI (mkAll a_ h_ dq u_))), (0, .ref (gK G 0 0)), (1, .int (nI (dq))), (2, .int (shRefI h_ (nI dq))), (4, .int (optI (bsS (mkNow a_ h_ dq) (mkAll a_ h_ dq) u_).1)), (5, .int (nI (u_))), (6, .int (nI (mkAll a_ h_ dq u_))), (7, .int (nI (aC a_)))] rfl (by decide) rfl dX11_bestSaying_173 ?_
                              refine m_iload 5 rfl dX11_bestSaying_174 ?_
                              refine m_istore [(4, .int (nI (u_))), (3, .int (nI (mkAll a_ h_ dq u_))), (0, .ref (gK G 0 0)), (1, .int (nI (dq))), (2, .int (shRefI h_ (nI dq))), (5, .int (nI (u_))), (6, .int (nI (mkAll a_ h_ dq u_))), (7, .int (nI (aC a_)))] (by decide) rfl dX11_bestSaying_176 ?_
                              refine m_iinc (nI (u_ + 1)) 5 [(5, .int (nI (u_ + 1))), (4, .int (nI (u_))), (3, .int (nI (mkAll a_ h_ dq u_))), (0, .ref (gK G 0 0)), (1, .int (nI (dq))), (2, .int (shRefI h_ (nI dq))), (6, .int (nI (mkAll a_ h_ dq u_))), (7, .int (nI (aC a_)))] rfl (nI_1 _) (by decide) rfl dX11_bestSaying_178 ?_
                              refine m_goto 101 dX11_bestSaying_181 (by decide) ?_
                              refine m_lv [(0, .ref (gK G 0 0)), (1, .int (nI (dq))), (2, .int (shRefI h_ (nI dq))), (3, .int (nI (mkAll a_ h_ dq u_))), (4, .int (nI (u_))), (5, .int (nI (u_ + 1)))] [3, 4, 5, 2, 1, 0] rfl ?_
                              have ihx := ih101 (u_ + 1)  (by omega) (by omega)
                              rw [bsS_y (g := mkAll a_ h_ dq) (b := mkNow a_ h_ dq) (k := u_) (by omega)] at ihx
                              exact ihx
                          ·
                            have hch := ho_.2.2.2.1 k_ (by omega)
                            have htd := tdW_lt (k := u_) ho_ (by omega) hch.1
                            have hmk := mkN_le (a := a_) (X := shX h_ dq) (Q := shY h_ dq) (fl := false) (w := tdW a_ u_ (aH a_ k_)) hn12
                            refine m_iload 6 rfl dX11_bestSaying_126 ?_
                            refine m_aload_n 0 rfl rfl dX11_bestSaying_128 ?_
                            refine gf_X11_48 dX11_bestSaying_129 ?_
                            refine m_aload_n 0 rfl rfl dX11_bestSaying_132 ?_
                            refine gf_X11_10 dX11_bestSaying_133 ?_
                            refine m_iload 5 rfl dX11_bestSaying_136 ?_
                            refine m_aload_n 0 rfl rfl dX11_bestSaying_138 ?_
                            refine gf_X11_10 dX11_bestSaying_139 ?_
                            refine gf_X11_99 (by decide) dX11_bestSaying_142 ?_
                            refine m_iload 7 rfl dX11_bestSaying_145 ?_
                            refine m_callSi cs_X11_102 [.ref (gK G 10 0), .int (nI (k_))] [.int (nI (u_)), .ref (gK G 1 0), .ref (gK G 34 0), .int (nI (smN (fun c_ => mkN a_ (shN h_ dq) (shX h_ dq) (shY h_ dq) false (tdW a_ u_ (aH a_ c_))) k_))] (k_at (t := 10) (n := 8) l G (by decide) (ce_10 G _ _ _ _ _ _ _ _ _ 0) (by decide) (nI (k_))) rfl rfl ⟨Nat.le_of_ble_eq_true rfl, Nat.le_of_ble_eq_true rfl⟩ (Nat.le_of_ble_eq_true rfl) ⟨Nat.zero_le _, Nat.zero_le _⟩ dX11_bestSaying_147 (fun xx σ2 hq => ?_)
                            obtain rfl : xx = A 10 0 k_ := hq.1.trans (atV_in (by omega) (by decide))
                            obtain rfl := hq.2
                            refine m_topi (hR.2.2.2.1 k_ (by omega)).1 ?_
                            refine m_callVi cv_X11_112 [.int (nI (u_)), .int (nI (aH a_ k_))] [.ref (gK G 34 0), .int (nI (smN (fun c_ => mkN a_ (shN h_ dq) (shX h_ dq) (shY h_ dq) false (tdW a_ u_ (aH a_ c_))) k_))] (k_toldBy l G 0 (by decide) a_ ho_ hR (nI (u_)) (nI (aH a_ k_))) (by decide) (ce_1 G _ _ _ _ _ _ _ _ _ _) rfl rfl rfl ⟨Nat.le_of_ble_eq_true rfl, Nat.le_of_ble_eq_true rfl⟩ (Nat.le_of_ble_eq_true rfl) ⟨Nat.zero_le _, Nat.zero_le _⟩ dX11_bestSaying_150 (fun xx σ2 hq => ?_)
                            obtain ⟨hgx, rfl⟩ := hq
                            obtain rfl := hgx.trans (toldI_nat (k := u_) ho_ (by omega) hch.1)
                            refine m_callSi cs_X11_102 [.ref (gK G 34 0), .int (nI (tdW a_ u_ (aH a_ k_)))] [.int (nI (smN (fun c_ => mkN a_ (shN h_ dq) (shX h_ dq) (shY h_ dq) false (tdW a_ u_ (aH a_ c_))) k_))] (k_at (t := 34) (n := 10) l G (by decide) (ce_34 G _ _ _ _ _ _ _ _ _ 0) (by decide) (nI (tdW a_ u_ (aH a_ k_)))) rfl rfl ⟨Nat.le_of_ble_eq_true rfl, Nat.le_of_ble_eq_true rfl⟩ (Nat.le_of_ble_eq_true rfl) ⟨Nat.zero_le _, Nat.zero_le _⟩ dX11_bestSaying_153 (fun xx σ2 hq => ?_)
                            obtain rfl : xx = S9 34 0 (tdW a_ u_ (aH a_ k_)) := hq.1.trans (atV_in (by omega) (by decide))
                            obtain rfl := hq.2
                            refine m_topi (hby _ htd) ?_
                            refine m_iadd dX11_bestSaying_156 ?_
                            refine m_topi (show (nI (smN (fun c_ => mkN a_ (shN h_ dq) (shX h_ dq) (shY h_ dq) false (tdW a_ u_ (aH a_ c_))) k_)) + (nI (mkN a_ (shN h_ dq) (shX h_ dq) (shY h_ dq) false (tdW a_ u_ (aH a_ k_)))) = nI ((smN (fun c_ => mkN a_ (shN h_ dq) (shX h_ dq) (shY h_ dq) false (tdW a_ u_ (aH a_ c_))) k_) + (mkN a_ (shN h_ dq) (shX h_ dq) (shY h_ dq) false (tdW a_ u_ (aH a_ k_)))) from nI_add _ _) ?_
                            refine m_istore [(6, .int (nI ((smN (fun c_ => mkN a_ (shN h_ dq) (shX h_ dq) (shY h_ dq) false (tdW a_ u_ (aH a_ c_))) k_) + (mkN a_ (shN h_ dq) (shX h_ dq) (shY h_ dq) false (tdW a_ u_ (aH a_ k_)))))), (0, .ref (gK G 0 0)), (1, .int (nI (dq))), (2, .int (shRefI h_ (nI dq))), (3, .int (nI ((bsS (mkNow a_ h_ dq) (mkAll a_ h_ dq) u_).2))), (4, .int (optI (bsS (mkNow a_ h_ dq) (mkAll a_ h_ dq) u_).1)), (5, .int (nI (u_))), (7, .int (nI (k_)))] (by decide) rfl dX11_bestSaying_157 ?_
                            refine m_iinc (nI (k_ + 1)) 7 [(7, .int (nI (k_ + 1))), (6, .int (nI ((smN (fun c_ => mkN a_ (shN h_ dq) (shX h_ dq) (shY h_ dq) false (tdW a_ u_ (aH a_ c_))) k_) + (mkN a_ (shN h_ dq) (shX h_ dq) (shY h_ dq) false (tdW a_ u_ (aH a_ k_)))))), (0, .ref (gK G 0 0)), (1, .int (nI (dq))), (2, .int (shRefI h_ (nI dq))), (3, .int (nI ((bsS (mkNow a_ h_ dq) (mkAll a_ h_ dq) u_).2))), (4, .int (optI (bsS (mkNow a_ h_ dq) (mkAll a_ h_ dq) u_).1)), (5, .int (nI (u_)))] rfl (nI_1 _) (by decide) rfl dX11_bestSaying_159 ?_
                            refine m_goto 114 dX11_bestSaying_162 (by decide) ?_
                            refine m_lv [(0, .ref (gK G 0 0)), (1, .int (nI (dq))), (2, .int (shRefI h_ (nI dq))), (3, .int (nI ((bsS (mkNow a_ h_ dq) (mkAll a_ h_ dq) u_).2))), (4, .int (optI (bsS (mkNow a_ h_ dq) (mkAll a_ h_ dq) u_).1)), (5, .int (nI (u_))), (6, .int (nI ((smN (fun c_ => mkN a_ (shN h_ dq) (shX h_ dq) (shY h_ dq) false (tdW a_ u_ (aH a_ c_))) k_) + (mkN a_ (shN h_ dq) (shX h_ dq) (shY h_ dq) false (tdW a_ u_ (aH a_ k_)))))), (7, .int (nI (k_ + 1)))] [2, 3, 4, 5, 6, 7, 1, 0] rfl ?_
                            exact ih114 (k_ + 1)  (by omega) (by omega)
                      refine m_lv [(0, .ref (gK G 0 0)), (1, .int (nI (dq))), (2, .int (shRefI h_ (nI dq))), (3, .int (nI ((bsS (mkNow a_ h_ dq) (mkAll a_ h_ dq) u_).2))), (4, .int (optI (bsS (mkNow a_ h_ dq) (mkAll a_ h_ dq) u_).1)), (5, .int (nI (u_))), (6, .int 0), (7, .int 0)] [2, 3, 4, 5, 6, 7, 1, 0] rfl ?_
                      exact lp114 ((aC a_ - 0) + 1) 0  (Nat.zero_le _) (Nat.lt_succ_self _)
                refine m_lv [(0, .ref (gK G 0 0)), (1, .int (nI (dq))), (2, .int (shRefI h_ (nI dq))), (3, .int (nI (mkNow a_ h_ dq))), (4, .int (-4)), (5, .int 0)] [2, 3, 4, 5, 1, 0] rfl ?_
                exact lp101 ((10 - 0) + 1) 0  (Nat.zero_le _) (Nat.lt_succ_self _)
              ·
                have hch := ho_.2.2.2.1 k_ (by omega)
                have hmk := mkN_le (a := a_) (X := shX h_ dq) (Q := shY h_ dq) (fl := false) (w := aH a_ k_) hn12
                refine m_iload_n 3 rfl rfl dX11_bestSaying_66 ?_
                refine m_aload_n 0 rfl rfl dX11_bestSaying_67 ?_
                refine gf_X11_48 dX11_bestSaying_68 ?_
                refine m_aload_n 0 rfl rfl dX11_bestSaying_71 ?_
                refine gf_X11_10 dX11_bestSaying_72 ?_
                refine gf_X11_99 (by decide) dX11_bestSaying_75 ?_
                refine m_iload 4 rfl dX11_bestSaying_78 ?_
                refine m_callSi cs_X11_102 [.ref (gK G 10 0), .int (nI (k_))] [.ref (gK G 34 0), .int (nI (smN (fun c_ => mkN a_ (shN h_ dq) (shX h_ dq) (shY h_ dq) false (aH a_ c_)) k_))] (k_at (t := 10) (n := 8) l G (by decide) (ce_10 G _ _ _ _ _ _ _ _ _ 0) (by decide) (nI (k_))) rfl rfl ⟨Nat.le_of_ble_eq_true rfl, Nat.le_of_ble_eq_true rfl⟩ (Nat.le_of_ble_eq_true rfl) ⟨Nat.zero_le _, Nat.zero_le _⟩ dX11_bestSaying_80 (fun xx σ2 hq => ?_)
                obtain rfl : xx = A 10 0 k_ := hq.1.trans (atV_in (by omega) (by decide))
                obtain rfl := hq.2
                refine m_topi (hR.2.2.2.1 k_ (by omega)).1 ?_
                refine m_callSi cs_X11_102 [.ref (gK G 34 0), .int (nI (aH a_ k_))] [.int (nI (smN (fun c_ => mkN a_ (shN h_ dq) (shX h_ dq) (shY h_ dq) false (aH a_ c_)) k_))] (k_at (t := 34) (n := 10) l G (by decide) (ce_34 G _ _ _ _ _ _ _ _ _ 0) (by decide) (nI (aH a_ k_))) rfl rfl ⟨Nat.le_of_ble_eq_true rfl, Nat.le_of_ble_eq_true rfl⟩ (Nat.le_of_ble_eq_true rfl) ⟨Nat.zero_le _, Nat.zero_le _⟩ dX11_bestSaying_83 (fun xx σ2 hq => ?_)
                obtain rfl : xx = S9 34 0 (aH a_ k_) := hq.1.trans (atV_in (by omega) (by decide))
                obtain rfl := hq.2
                refine m_topi (hby _ hch.1) ?_
                refine m_iadd dX11_bestSaying_86 ?_
                refine m_topi (show (nI (smN (fun c_ => mkN a_ (shN h_ dq) (shX h_ dq) (shY h_ dq) false (aH a_ c_)) k_)) + (nI (mkN a_ (shN h_ dq) (shX h_ dq) (shY h_ dq) false (aH a_ k_))) = nI ((smN (fun c_ => mkN a_ (shN h_ dq) (shX h_ dq) (shY h_ dq) false (aH a_ c_)) k_) + (mkN a_ (shN h_ dq) (shX h_ dq) (shY h_ dq) false (aH a_ k_))) from nI_add _ _) ?_
                refine m_istore_n [(3, .int (nI ((smN (fun c_ => mkN a_ (shN h_ dq) (shX h_ dq) (shY h_ dq) false (aH a_ c_)) k_) + (mkN a_ (shN h_ dq) (shX h_ dq) (shY h_ dq) false (aH a_ k_))))), (0, .ref (gK G 0 0)), (1, .int (nI (dq))), (2, .int (shRefI h_ (nI dq))), (4, .int (nI (k_)))] rfl (by decide) rfl dX11_bestSaying_87 ?_
                refine m_iinc (nI (k_ + 1)) 4 [(4, .int (nI (k_ + 1))), (3, .int (nI ((smN (fun c_ => mkN a_ (shN h_ dq) (shX h_ dq) (shY h_ dq) false (aH a_ c_)) k_) + (mkN a_ (shN h_ dq) (shX h_ dq) (shY h_ dq) false (aH a_ k_))))), (0, .ref (gK G 0 0)), (1, .int (nI (dq))), (2, .int (shRefI h_ (nI dq)))] rfl (nI_1 _) (by decide) rfl dX11_bestSaying_88 ?_
                refine m_goto 54 dX11_bestSaying_91 (by decide) ?_
                refine m_lv [(0, .ref (gK G 0 0)), (1, .int (nI (dq))), (2, .int (shRefI h_ (nI dq))), (3, .int (nI ((smN (fun c_ => mkN a_ (shN h_ dq) (shX h_ dq) (shY h_ dq) false (aH a_ c_)) k_) + (mkN a_ (shN h_ dq) (shX h_ dq) (shY h_ dq) false (aH a_ k_))))), (4, .int (nI (k_ + 1)))] [2, 3, 4, 1, 0] rfl ?_
                exact ih54 (k_ + 1)  (by omega) (by omega)
          refine m_lv [(0, .ref (gK G 0 0)), (1, .int (nI (dq))), (2, .int (shRefI h_ (nI dq))), (3, .int 0), (4, .int 0)] [1, 2, 3, 4, 0] rfl ?_
          exact lp54 ((aC a_ - 0) + 1) 0  (Nat.zero_le _) (Nat.lt_succ_self _)
        ·
          refine m_aload_n 0 rfl rfl dX11_bestSaying_29 ?_
          refine gf_X11_48 dX11_bestSaying_30 ?_
          refine m_iload 4 rfl dX11_bestSaying_33 ?_
          refine m_aload_n 0 rfl rfl dX11_bestSaying_35 ?_
          refine m_iload 4 rfl dX11_bestSaying_36 ?_
          refine m_iconst 0 dX11_bestSaying_38 rfl ?_
          refine m_callVi cv_X11_199 [.int (nI (k_)), .int 0] [.int (nI (k_)), .ref (gK G 34 0)] (k_marksBy l G a_ ho_ hR (shN h_ dq) (shX h_ dq) (shY h_ dq) hs9 k_ (by omega) false) (by decide) (ce_0 G _ _ _ _ _ _ _ _ _ _) rfl rfl rfl ⟨Nat.le_of_ble_eq_true rfl, Nat.le_of_ble_eq_true rfl⟩ (Nat.le_of_ble_eq_true rfl) ⟨Nat.zero_le _, Nat.zero_le _⟩ dX11_bestSaying_39 (fun xx σ2 hq => ?_)
          obtain ⟨rfl, Z12, rfl⟩ := hq
          refine m_callSv cs_X11_116 [.ref (gK G 34 0), .int (nI (k_)), .int (nI (mkN a_ (shN h_ dq) (shX h_ dq) (shY h_ dq) false k_))] [] (k_set_34 l G k_ (by omega) (nI (mkN a_ (shN h_ dq) (shX h_ dq) (shY h_ dq) false k_))) rfl rfl ⟨Nat.le_of_ble_eq_true rfl, Nat.le_of_ble_eq_true rfl⟩ (Nat.le_of_ble_eq_true rfl) ⟨Nat.zero_le _, Nat.zero_le _⟩ dX11_bestSaying_42 (fun σ2 hq => ?_)
          obtain rfl := hq
          obtain ⟨S13, hS13⟩ : ∃ q_ : owF, q_ = up3 S9 34 0 k_ (nI (mkN a_ (shN h_ dq) (shX h_ dq) (shY h_ dq) false k_)) := ⟨_, rfl⟩
          rw [← hS13]
          refine m_iinc (nI (k_ + 1)) 4 [(4, .int (nI (k_ + 1))), (0, .ref (gK G 0 0)), (1, .int (nI (dq))), (2, .int (shRefI h_ (nI dq))), (3, .int 0)] rfl (nI_1 _) (by decide) rfl dX11_bestSaying_45 ?_
          refine m_goto 17 dX11_bestSaying_48 (by decide) ?_
          refine m_lv [(0, .ref (gK G 0 0)), (1, .int (nI (dq))), (2, .int (shRefI h_ (nI dq))), (3, .int 0), (4, .int (nI (k_ + 1)))] [1, 2, 3, 4, 0] rfl ?_
          exact ih17 (k_ + 1) S13 Z12 (by omega) (sfrT_up hsf hS13) (fun w_ hw_ => by rcases Nat.lt_or_ge w_ k_ with q_ | q_; exact up3_j hS13 (by omega) (hby w_ q_); obtain rfl : k_ = w_ := (by omega); exact up3_e hS13) (by omega)
    refine m_lv [(0, .ref (gK G 0 0)), (1, .int (nI (dq))), (2, .int (shRefI h_ (nI dq))), (3, .int 0), (4, .int 0)] [3, 4, 2, 1, 0] rfl ?_
    exact lp17 ((aN a_ - 0) + 1) 0 S1 Z (Nat.zero_le _) sfrT_rf (fun w_ hw_ => absurd hw_ (Nat.not_lt_zero w_)) (Nat.lt_succ_self _)
  ·
    refine m_iload_n 0 rfl rfl dX11_bestSaying_10 ?_
    exact m_iret dX11_bestSaying_11 (Nat.le_refl _) (Nat.le_refl _) (⟨by first | (simp [bestI, c2_]; done) | (simp_all [bestI, rN, rX, rQ, rV]; done) | grind [bestI], _, _, _, rfl⟩)
set_option maxRecDepth 100000 in
set_option maxHeartbeats 4000000 in
theorem k_weeks (l : Launch) (G : owG) {A S Z B T V : owF} {J : Nat → Nat → Int64} {Y : Nat → Nat → Nat → Option Nat} {P : Nat → Option owW} (a_ : owK) (ho_ : aOk a_) (hR : RX A Y P 0 a_) (n_ p_ wq z_ : Int32) : Ct l G yX11_weeks cX11_weeks 7 ((some .int)) 4 0 0 [.ref (gK G 0 0), .int n_, .int p_, .int wq, .int z_] (A, S, Z, B, T, V, J, Y, P) (qI (fun r_ σ => r_ = weeksI a_ n_ p_ wq z_ ∧ ∃ (S2 Z2 : owF) (J2 : Nat → Nat → Int64), σ = (A, S2, Z2, B, T, V, J2, Y, P))) := by
  refine ct_of (by decide +kernel) (Nat.le_of_ble_eq_true rfl) ?_
  have h10 := ho_.1
  have h8_ := ho_.2.1
  show Wm l G cX11_weeks 7 RX11 ((some .int)) (rmk 4 0 0) (fun _ => True) (QfM G (qI (fun r_ σ => r_ = weeksI a_ n_ p_ wq z_ ∧ ∃ (S2 Z2 : owF) (J2 : Nat → Nat → Int64), σ = (A, S2, Z2, B, T, V, J2, Y, P))) 0 0) 0 [(0, .ref (gK G 0 0)), (1, .int n_), (2, .int p_), (3, .int wq), (4, .int z_)] [] (A, S, Z, B, T, V, J, Y, P) 0 0
  refine m_iload_n 1 rfl rfl dX11_weeks_0 ?_
  refine m_iconst 1 dX11_weeks_1 rfl ?_
  refine m_icmp_lt 31 dX11_weeks_2 (by decide) (fun c1_ => ?_) (fun c1_ => ?_)
  ·
    refine m_iconst (-1) dX11_weeks_31 rfl ?_
    exact m_iret dX11_weeks_32 (Nat.le_refl _) (Nat.le_refl _) (⟨by grind [weeksI], _, _, _, rfl⟩)
  ·
    refine m_iload_n 1 rfl rfl dX11_weeks_5 ?_
    refine m_bipush (20) dX11_weeks_6 rfl ?_
    refine m_icmp_gt 31 dX11_weeks_8 (by decide) (fun c2_ => ?_) (fun c2_ => ?_)
    ·
      refine m_iconst (-1) dX11_weeks_31 rfl ?_
      exact m_iret dX11_weeks_32 (Nat.le_refl _) (Nat.le_refl _) (⟨by grind [weeksI], _, _, _, rfl⟩)
    ·
      refine m_iload_n 2 rfl rfl dX11_weeks_11 ?_
      refine m_if_lt 31 dX11_weeks_12 (by decide) (fun c3_ => ?_) (fun c3_ => ?_)
      ·
        refine m_iconst (-1) dX11_weeks_31 rfl ?_
        exact m_iret dX11_weeks_32 (Nat.le_refl _) (Nat.le_refl _) (⟨by grind [weeksI], _, _, _, rfl⟩)
      ·
        refine m_iload_n 2 rfl rfl dX11_weeks_15 ?_
        refine m_bipush (100) dX11_weeks_16 rfl ?_
        refine m_icmp_gt 31 dX11_weeks_18 (by decide) (fun c4_ => ?_) (fun c4_ => ?_)
        ·
          refine m_iconst (-1) dX11_weeks_31 rfl ?_
          exact m_iret dX11_weeks_32 (Nat.le_refl _) (Nat.le_refl _) (⟨by grind [weeksI], _, _, _, rfl⟩)
        ·
          refine m_iload_n 3 rfl rfl dX11_weeks_21 ?_
          refine m_if_lt 31 dX11_weeks_22 (by decide) (fun c5_ => ?_) (fun c5_ => ?_)
          ·
            refine m_iconst (-1) dX11_weeks_31 rfl ?_
            exact m_iret dX11_weeks_32 (Nat.le_refl _) (Nat.le_refl _) (⟨by grind [weeksI], _, _, _, rfl⟩)
          ·
            refine m_iload_n 3 rfl rfl dX11_weeks_25 ?_
            refine m_bipush (100) dX11_weeks_26 rfl ?_
            refine m_icmp_le 33 dX11_weeks_28 (by decide) (fun c6_ => ?_) (fun c6_ => ?_)
            ·
              obtain ⟨nq, hnq, rfl⟩ := nI_of2 (M := 20) (n := 20) (x := n_) (by decide) (by grind) (Int32.not_lt.mp c2_)
              have hclnq : (nI nq).toNatClampNeg = nq := nI_clamp (by omega)
              refine m_aload_n 0 rfl rfl dX11_weeks_33 ?_
              refine gf_X11_10 dX11_weeks_34 ?_
              refine gf_X11_222 (by decide) dX11_weeks_37 ?_
              refine m_topi hR.2.1 ?_
              refine m_ifn_ne (aC a_) 46 (by omega) dX11_weeks_40 (by decide) (fun c7_ => ?_) (fun c7_ => ?_)
              ·
                refine m_aload_n 0 rfl rfl dX11_weeks_46 ?_
                refine m_iload 4 rfl dX11_weeks_47 ?_
                refine pf_X11_203 dX11_weeks_49 (fun S8 hS8 => ?_)
                refine m_iconst 0 dX11_weeks_52 rfl ?_
                refine m_istore [(5, .int 0), (0, .ref (gK G 0 0)), (1, .int (nI (nq))), (2, .int p_), (3, .int wq), (4, .int z_)] (by decide) rfl dX11_weeks_53 ?_
                have lp55 : ∀ (dd : Nat) (k_ : Nat) (S9 : owF), k_ ≤ aC a_ → S9 0 0 14 = z_ → (∀ j_, j_ < k_ → S9 35 0 j_ = nI (aH a_ j_)) → aC a_ - k_ < dd → Wm l G cX11_weeks 7 RX11 ((some .int)) (rmk 4 0 0) (fun _ => True) (QfM G (qI (fun r_ σ => r_ = weeksI a_ (nI nq) p_ wq z_ ∧ ∃ (S2 Z2 : owF) (J2 : Nat → Nat → Int64), σ = (A, S2, Z2, B, T, V, J2, Y, P))) 0 0) 55 [(0, .ref (gK G 0 0)), (1, .int (nI (nq))), (2, .int p_), (3, .int wq), (4, .int z_), (5, .int (nI (k_)))] [] (A, S9, Z, B, T, V, J, Y, P) 0 0 := by
                  intro dd
                  induction dd with
                  | zero => intro k_ S9 hk_ hsd hin hdd; exact absurd hdd (Nat.not_lt_zero _)
                  | succ dd ih55 =>
                    intro k_ S9 hk_ hsd hin hdd55
                    refine m_iload 5 rfl dX11_weeks_55 ?_
                    refine m_aload_n 0 rfl rfl dX11_weeks_57 ?_
                    refine gf_X11_10 dX11_weeks_58 ?_
                    refine gf_X11_222 (by decide) dX11_weeks_61 ?_
                    refine m_topi hR.2.1 ?_
                    refine m_icmpn_ge k_ (aC a_) 94 (by omega) (by omega) dX11_weeks_64 (by decide) (fun c9_ => ?_) (fun c9_ => ?_)
                    ·
                      obtain rfl : k_ = aC a_ := (by omega)
                      refine m_iconst 0 dX11_weeks_94 rfl ?_
                      refine m_istore [(5, .int 0), (0, .ref (gK G 0 0)), (1, .int (nI (nq))), (2, .int p_), (3, .int wq), (4, .int z_)] (by decide) rfl dX11_weeks_95 ?_
                      have lp97 : ∀ (dd : Nat) (u_ : Nat) (S8 : owF), u_ ≤ nq → S8 0 0 14 = (wksS a_ p_ wq z_ u_).1 → (∀ j_, j_ < aC a_ → S8 35 0 j_ = nI ((wksS a_ p_ wq z_ u_).2 j_)) → nq - u_ < dd → Wm l G cX11_weeks 7 RX11 ((some .int)) (rmk 4 0 0) (fun _ => True) (QfM G (qI (fun r_ σ => r_ = weeksI a_ (nI nq) p_ wq z_ ∧ ∃ (S2 Z2 : owF) (J2 : Nat → Nat → Int64), σ = (A, S2, Z2, B, T, V, J2, Y, P))) 0 0) 97 [(0, .ref (gK G 0 0)), (1, .int (nI (nq))), (2, .int p_), (3, .int wq), (4, .int z_), (5, .int (nI (u_)))] [] (A, S8, Z, B, T, V, J, Y, P) 0 0 := by
                        intro dd
                        induction dd with
                        | zero => intro u_ S8 hu hsd hin hdd; exact absurd hdd (Nat.not_lt_zero _)
                        | succ dd ih97 =>
                          intro u_ S8 hu hsd hin hdd97
                          refine m_iload 5 rfl dX11_weeks_97 ?_
                          refine m_iload_n 1 rfl rfl dX11_weeks_99 ?_
                          refine m_icmpn_ge u_ nq 115 (by omega) (by omega) dX11_weeks_100 (by decide) (fun c10_ => ?_) (fun c10_ => ?_)
                          ·
                            obtain rfl : nq = u_ := (by omega)
                            refine m_iconst 0 dX11_weeks_115 rfl ?_
                            refine m_istore [(5, .int 0), (0, .ref (gK G 0 0)), (1, .int (nI (nq))), (2, .int p_), (3, .int wq), (4, .int z_)] (by decide) rfl dX11_weeks_116 ?_
                            refine m_iconst 0 dX11_weeks_118 rfl ?_
                            refine m_istore [(6, .int 0), (5, .int 0), (0, .ref (gK G 0 0)), (1, .int (nI (nq))), (2, .int p_), (3, .int wq), (4, .int z_)] (by decide) rfl dX11_weeks_119 ?_
                            have lp121 : ∀ (dd : Nat) (k_ : Nat) , k_ ≤ aC a_ → aC a_ - k_ < dd → Wm l G cX11_weeks 7 RX11 ((some .int)) (rmk 4 0 0) (fun _ => True) (QfM G (qI (fun r_ σ => r_ = weeksI a_ (nI nq) p_ wq z_ ∧ ∃ (S2 Z2 : owF) (J2 : Nat → Nat → Int64), σ = (A, S2, Z2, B, T, V, J2, Y, P))) 0 0) 121 [(0, .ref (gK G 0 0)), (1, .int (nI (nq))), (2, .int p_), (3, .int wq), (4, .int z_), (5, .int (nI (cntB (fun c_ => decide (aK a_ ((wksS a_ p_ wq z_ nq).2 c_) = 0)) k_))), (6, .int (nI (k_)))] [] (A, S8, Z, B, T, V, J, Y, P) 0 0 := by
                              intro dd
                              induction dd with
                              | zero => intro k_  hk_ hdd; exact absurd hdd (Nat.not_lt_zero _)
                              | succ dd ih121 =>
                                intro k_  hk_ hdd121
                                have hcc := cntB_le (fun c_ => decide (aK a_ ((wksS a_ p_ wq z_ nq).2 c_) = 0)) k_
                                refine m_iload 6 rfl dX11_weeks_121 ?_
                                refine m_aload_n 0 rfl rfl dX11_weeks_123 ?_
                                refine gf_X11_10 dX11_weeks_124 ?_
                                refine gf_X11_222 (by decide) dX11_weeks_127 ?_
                                refine m_topi hR.2.1 ?_
                                refine m_icmpn_ge k_ (aC a_) 161 (by omega) (by omega) dX11_weeks_130 (by decide) (fun c11_ => ?_) (fun c11_ => ?_)
                                ·
                                  refine m_iload 5 rfl dX11_weeks_161 ?_
                                  exact m_iret dX11_weeks_163 (Nat.le_refl _) (Nat.le_refl _) ((by obtain rfl : k_ = aC a_ := (by omega); exact ⟨by unfold weeksI; rw [if_pos ⟨Int32.not_lt.mp c1_, Int32.not_lt.mp c2_, Int32.not_lt.mp c3_, Int32.not_lt.mp c4_, Int32.not_lt.mp c5_, c6_⟩, if_neg (by omega), hclnq], _, _, _, rfl⟩))
                                ·
                                  have hwk := wksS_lt (p := p_) (q := wq) (sd := z_) ho_ nq k_ (by omega)
                                  have hkk := aK_lt ho_ hwk
                                  refine m_aload_n 0 rfl rfl dX11_weeks_133 ?_
                                  refine gf_X11_10 dX11_weeks_134 ?_
                                  refine m_aload_n 0 rfl rfl dX11_weeks_137 ?_
                                  refine gf_X11_55 dX11_weeks_138 ?_
                                  refine m_iload 6 rfl dX11_weeks_141 ?_
                                  refine m_callSi cs_X11_102 [.ref (gK G 35 0), .int (nI (k_))] [.ref (gK G 1 0)] (k_at (t := 35) (n := 8) l G (by decide) (ce_35 G _ _ _ _ _ _ _ _ _ 0) (by decide) (nI (k_))) rfl rfl ⟨Nat.le_of_ble_eq_true rfl, Nat.le_of_ble_eq_true rfl⟩ (Nat.le_of_ble_eq_true rfl) ⟨Nat.zero_le _, Nat.zero_le _⟩ dX11_weeks_143 (fun xx σ2 hq => ?_)
                                  obtain rfl : xx = S8 35 0 k_ := hq.1.trans (atV_in (by omega) (by decide))
                                  obtain rfl := hq.2
                                  refine m_topi (hin k_ (by omega)) ?_
                                  refine m_callVi cv_X11_228 [.int (nI ((wksS a_ p_ wq z_ nq).2 k_))] [] (k_kindOf l G 0 (by decide) a_ ho_ hR (nI ((wksS a_ p_ wq z_ nq).2 k_))) (by decide) (ce_1 G _ _ _ _ _ _ _ _ _ _) rfl rfl rfl ⟨Nat.le_of_ble_eq_true rfl, Nat.le_of_ble_eq_true rfl⟩ (Nat.le_of_ble_eq_true rfl) ⟨Nat.zero_le _, Nat.zero_le _⟩ dX11_weeks_146 (fun xx σ2 hq => ?_)
                                  obtain ⟨hgx, rfl⟩ := hq
                                  obtain rfl := hgx.trans (kindI_nat ho_ hwk)
                                  refine m_ifn_ne (aK a_ ((wksS a_ p_ wq z_ nq).2 k_)) 155 (by omega) dX11_weeks_149 (by decide) (fun c13_ => ?_) (fun c13_ => ?_)
                                  ·
                                    refine m_iinc (nI (k_ + 1)) 6 [(6, .int (nI (k_ + 1))), (0, .ref (gK G 0 0)), (1, .int (nI (nq))), (2, .int p_), (3, .int wq), (4, .int z_), (5, .int (nI (cntB (fun c_ => decide (aK a_ ((wksS a_ p_ wq z_ nq).2 c_) = 0)) k_)))] rfl (nI_1 _) (by decide) rfl dX11_weeks_155 ?_
                                    refine m_goto 121 dX11_weeks_158 (by decide) ?_
                                    refine m_lv [(0, .ref (gK G 0 0)), (1, .int (nI (nq))), (2, .int p_), (3, .int wq), (4, .int z_), (5, .int (nI (cntB (fun c_ => decide (aK a_ ((wksS a_ p_ wq z_ nq).2 c_) = 0)) k_))), (6, .int (nI (k_ + 1)))] [1, 2, 3, 4, 5, 6, 0] rfl ?_
                                    rw [show cntB (fun c_ => decide (aK a_ ((wksS a_ p_ wq z_ nq).2 c_) = 0)) k_ = cntB (fun c_ => decide (aK a_ ((wksS a_ p_ wq z_ nq).2 c_) = 0)) (k_ + 1) from cntB_f (p := (fun c_ => decide (aK a_ ((wksS a_ p_ wq z_ nq).2 c_) = 0))) (by grind)]
                                    exact ih121 (k_ + 1)  (by omega) (by omega)
                                  ·
                                    refine m_iinc (nI (cntB (fun c_ => decide (aK a_ ((wksS a_ p_ wq z_ nq).2 c_) = 0)) k_ + 1)) 5 [(5, .int (nI (cntB (fun c_ => decide (aK a_ ((wksS a_ p_ wq z_ nq).2 c_) = 0)) k_ + 1))), (0, .ref (gK G 0 0)), (1, .int (nI (nq))), (2, .int p_), (3, .int wq), (4, .int z_), (6, .int (nI (k_)))] rfl (nI_1 _) (by decide) rfl dX11_weeks_152 ?_
                                    refine m_iinc (nI (k_ + 1)) 6 [(6, .int (nI (k_ + 1))), (5, .int (nI (cntB (fun c_ => decide (aK a_ ((wksS a_ p_ wq z_ nq).2 c_) = 0)) k_ + 1))), (0, .ref (gK G 0 0)), (1, .int (nI (nq))), (2, .int p_), (3, .int wq), (4, .int z_)] rfl (nI_1 _) (by decide) rfl dX11_weeks_155 ?_
                                    refine m_goto 121 dX11_weeks_158 (by decide) ?_
                                    refine m_lv [(0, .ref (gK G 0 0)), (1, .int (nI (nq))), (2, .int p_), (3, .int wq), (4, .int z_), (5, .int (nI (cntB (fun c_ => decide (aK a_ ((wksS a_ p_ wq z_ nq).2 c_) = 0)) k_ + 1))), (6, .int (nI (k_ + 1)))] [2, 3, 4, 5, 6, 1, 0] rfl ?_
                                    rw [show (cntB (fun c_ => decide (aK a_ ((wksS a_ p_ wq z_ nq).2 c_) = 0)) k_) + 1 = cntB (fun c_ => decide (aK a_ ((wksS a_ p_ wq z_ nq).2 c_) = 0)) (k_ + 1) from cntB_t (p := (fun c_ => decide (aK a_ ((wksS a_ p_ wq z_ nq).2 c_) = 0))) (by grind)]
                                    exact ih121 (k_ + 1)  (by omega) (by omega)
                            refine m_lv [(0, .ref (gK G 0 0)), (1, .int (nI (nq))), (2, .int p_), (3, .int wq), (4, .int z_), (5, .int 0), (6, .int 0)] [2, 3, 4, 5, 6, 1, 0] rfl ?_
                            exact lp121 ((aC a_ - 0) + 1) 0  (Nat.zero_le _) (Nat.lt_succ_self _)
                          ·
                            refine m_aload_n 0 rfl rfl dX11_weeks_103 ?_
                            refine m_iload_n 2 rfl rfl dX11_weeks_104 ?_
                            refine m_iload_n 3 rfl rfl dX11_weeks_105 ?_
                            refine m_callVv cv_X11_225 [.int p_, .int wq] [] (k_week l G a_ ho_ hR p_ wq (wksS a_ p_ wq z_ u_).1 (wksS a_ p_ wq z_ u_).2 (fun j_ hj => wksS_lt ho_ u_ j_ hj) hsd hin) (by decide) (ce_0 G _ _ _ _ _ _ _ _ _ _) rfl rfl rfl ⟨Nat.le_of_ble_eq_true rfl, Nat.le_of_ble_eq_true rfl⟩ (Nat.le_of_ble_eq_true rfl) ⟨Nat.zero_le _, Nat.zero_le _⟩ dX11_weeks_106 (fun σ2 hq => ?_)
                            obtain ⟨S14, rfl, hsdS14, hinS14⟩ := hq
                            refine m_iinc (nI (u_ + 1)) 5 [(5, .int (nI (u_ + 1))), (0, .ref (gK G 0 0)), (1, .int (nI (nq))), (2, .int p_), (3, .int wq), (4, .int z_)] rfl (nI_1 _) (by decide) rfl dX11_weeks_109 ?_
                            refine m_goto 97 dX11_weeks_112 (by decide) ?_
                            refine m_lv [(0, .ref (gK G 0 0)), (1, .int (nI (nq))), (2, .int p_), (3, .int wq), (4, .int z_), (5, .int (nI (u_ + 1)))] [1, 2, 3, 4, 5, 0] rfl ?_
                            exact ih97 (u_ + 1) S14 (by omega) hsdS14 hinS14 (by omega)
                      refine m_lv [(0, .ref (gK G 0 0)), (1, .int (nI (nq))), (2, .int p_), (3, .int wq), (4, .int z_), (5, .int 0)] [1, 2, 3, 4, 5, 0] rfl ?_
                      exact lp97 ((nq - 0) + 1) 0 S9 (Nat.zero_le _) hsd hin (Nat.lt_succ_self _)
                    ·
                      have hch := ho_.2.2.2.1 k_ (by omega)
                      refine m_aload_n 0 rfl rfl dX11_weeks_67 ?_
                      refine gf_X11_55 dX11_weeks_68 ?_
                      refine m_iload 5 rfl dX11_weeks_71 ?_
                      refine m_aload_n 0 rfl rfl dX11_weeks_73 ?_
                      refine gf_X11_10 dX11_weeks_74 ?_
                      refine gf_X11_99 (by decide) dX11_weeks_77 ?_
                      refine m_iload 5 rfl dX11_weeks_80 ?_
                      refine m_callSi cs_X11_102 [.ref (gK G 10 0), .int (nI (k_))] [.int (nI (k_)), .ref (gK G 35 0)] (k_at (t := 10) (n := 8) l G (by decide) (ce_10 G _ _ _ _ _ _ _ _ _ 0) (by decide) (nI (k_))) rfl rfl ⟨Nat.le_of_ble_eq_true rfl, Nat.le_of_ble_eq_true rfl⟩ (Nat.le_of_ble_eq_true rfl) ⟨Nat.zero_le _, Nat.zero_le _⟩ dX11_weeks_82 (fun xx σ2 hq => ?_)
                      obtain rfl : xx = A 10 0 k_ := hq.1.trans (atV_in (by omega) (by decide))
                      obtain rfl := hq.2
                      refine m_topi (hR.2.2.2.1 k_ (by omega)).1 ?_
                      refine m_callSv cs_X11_116 [.ref (gK G 35 0), .int (nI (k_)), .int (nI (aH a_ k_))] [] (k_set_35 l G k_ (by omega) (nI (aH a_ k_))) rfl rfl ⟨Nat.le_of_ble_eq_true rfl, Nat.le_of_ble_eq_true rfl⟩ (Nat.le_of_ble_eq_true rfl) ⟨Nat.zero_le _, Nat.zero_le _⟩ dX11_weeks_85 (fun σ2 hq => ?_)
                      obtain rfl := hq
                      obtain ⟨S16, hS16⟩ : ∃ q_ : owF, q_ = up3 S9 35 0 k_ (nI (aH a_ k_)) := ⟨_, rfl⟩
                      rw [← hS16]
                      refine m_iinc (nI (k_ + 1)) 5 [(5, .int (nI (k_ + 1))), (0, .ref (gK G 0 0)), (1, .int (nI (nq))), (2, .int p_), (3, .int wq), (4, .int z_)] rfl (nI_1 _) (by decide) rfl dX11_weeks_88 ?_
                      refine m_goto 55 dX11_weeks_91 (by decide) ?_
                      refine m_lv [(0, .ref (gK G 0 0)), (1, .int (nI (nq))), (2, .int p_), (3, .int wq), (4, .int z_), (5, .int (nI (k_ + 1)))] [1, 2, 3, 4, 5, 0] rfl ?_
                      exact ih55 (k_ + 1) S16 (by omega) (up3_t hS16 (by decide) hsd) (fun j_ hj => by rcases Nat.lt_or_ge j_ k_ with q_ | q_; exact up3_j hS16 (by omega) (hin j_ q_); obtain rfl : k_ = j_ := (by omega); exact up3_e hS16) (by omega)
                refine m_lv [(0, .ref (gK G 0 0)), (1, .int (nI (nq))), (2, .int p_), (3, .int wq), (4, .int z_), (5, .int 0)] [1, 2, 3, 4, 5, 0] rfl ?_
                exact lp55 ((aC a_ - 0) + 1) 0 S8 (Nat.zero_le _) (up3_e hS8) (fun j_ hj => absurd hj (Nat.not_lt_zero j_)) (Nat.lt_succ_self _)
              ·
                refine m_bipush (-3) dX11_weeks_43 rfl ?_
                exact m_iret dX11_weeks_45 (Nat.le_refl _) (Nat.le_refl _) (⟨by grind [weeksI], _, _, _, rfl⟩)
            ·
              refine m_iconst (-1) dX11_weeks_31 rfl ?_
              exact m_iret dX11_weeks_32 (Nat.le_refl _) (Nat.le_refl _) (⟨by grind [weeksI], _, _, _, rfl⟩)
