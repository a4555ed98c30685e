theorem sw_out {x : Int32} {n : Nat} {hi : Int} (hn : n < 2 ^ 31) (ht : (n : Int) = hi) (h : ∀ k, k ≤ n → x ≠ nI k) : x.toInt < 0 ∨ hi < x.toInt := by
  rcases Int.lt_or_le x.toInt 0 with q | q
  · exact Or.inl q
  · refine Or.inr (Int.not_le.mp fun q2 => ?_)
    obtain ⟨k_, hk_, rfl⟩ := natOf (x := x) (Int32.le_iff_toInt_le.mpr q)
    exact h k_ ((nI_leI hk_ hn).mp (Int32.le_iff_toInt_le.mpr (by rw [nI_toInt hn, ht]; exact q2))) rfl
/-! what each call answers, of the numbers told -/
def wayI (a : owK) (x y : Int32) : Int32 := if isW a x = true then (if y = 0 then nI (aK a x.toNatClampNeg) else if y = 1 then nI (aF a x.toNatClampNeg) else if y = 2 then nI (aG a x.toNatClampNeg) else if y = 3 then nI (costW (aK a x.toNatClampNeg) (aF a x.toNatClampNeg)) else -1) else -1
def childI (a : owK) (x y : Int32) : Int32 := if isC a x = true then (if y = 0 then nI (aH a x.toNatClampNeg) else if y = 1 then nI (aS a x.toNatClampNeg) else if y = 2 then nI (aI a x.toNatClampNeg) else -1) else -1
def workI (a : owK) (v x y : Int32) : Int32 := if isSumB x y = true ∧ isW a v = true then nI (ansA a v.toNatClampNeg x.toNatClampNeg y.toNatClampNeg) else -1
def columnI (a : owK) (v x y c p : Int32) : Int32 := if isW a v = true ∧ isSumB x y = true ∧ 0 ≤ c ∧ c < 4 ∧ is01 p = true then (if p = 0 then nI (wrW (aK a v.toNatClampNeg) (aF a v.toNatClampNeg) x.toNatClampNeg y.toNatClampNeg c.toNatClampNeg) else stkI (aK a v.toNatClampNeg) (aF a v.toNatClampNeg) x.toNatClampNeg y.toNatClampNeg 4 >>> (c &&& 31) &&& 1) else -1
def rightI (a : owK) (x y : Int32) : Int32 := if isSumB x y = true then whoA a x.toNatClampNeg y.toNatClampNeg (x - y) else -1
def partsI (a : owK) (x y b : Int32) : Int32 := if isSumB x y = true ∧ areW a b = true then nI (parN a x.toNatClampNeg y.toNatClampNeg b) else -1
def whoseI (a : owK) (x y v : Int32) : Int32 := if isSumB x y = true ∧ isAnsB v = true then whoA a x.toNatClampNeg y.toNatClampNeg v else -1
def rX (h : owH) (d : Int32) : Nat → Nat := shX h d.toNatClampNeg
def rQ (h : owH) (d : Int32) : Nat → Nat := shY h d.toNatClampNeg
def rV (h : owH) (e : Int32) : Nat → Int32 := hE h e.toNatClampNeg
def rN (h : owH) (d : Int32) : Nat := shN h d.toNatClampNeg
def slipI (a : owK) (h : owH) (v d e : Int32) : Int32 := if isW a v = true then (if boRefI h d e = 0 then nI (slN a (rN h d) (rX h d) (rQ h d) (rV h e) v.toNatClampNeg) else boRefI h d e) else -1
def fitsI (a : owK) (h : owH) (d e m : Int32) : Int32 := if 0 ≤ m ∧ m ≤ 12 then (if boRefI h d e = 0 then fitA a (rN h d) (rX h d) (rQ h d) (rV h e) m.toNatClampNeg else boRefI h d e) else -1
def likelyI (a : owK) (h : owH) (d e : Int32) : Int32 := if boRefI h d e = 0 then optI (likA a (rN h d) (rX h d) (rQ h d) (rV h e)) else boRefI h d e
def lacksI (a : owK) (h : owH) (d e : Int32) : Int32 := if boRefI h d e = 0 then (match likA a (rN h d) (rX h d) (rQ h d) (rV h e) with | none => -4 | some b => nI (aK a b)) else boRefI h d e
def luckI (a : owK) (h : owH) (v d p : Int32) : Int32 := if isW a v = true ∧ is01 p = true then (if shRefI h d = 0 then nI (mkN a (rN h d) (rX h d) (rQ h d) (decide (p = 0)) v.toNatClampNeg) else shRefI h d) else -1
def groupsI (a : owK) (v : Int32) : Int32 := if 0 ≤ v ∧ v < 8 then nI (chK a v) else -1
def greatestI (a : owK) : Int32 := kdI (gkS a 0 7).1
def costI (h : owH) (x : Int32) : Int32 := if isD x = true then (if hK h x.toNatClampNeg = 1 then nI (costW (hW h x.toNatClampNeg) (hf h x.toNatClampNeg)) else wayRef h x.toNatClampNeg) else -1
def countI (a : owK) (x : Int32) : Int32 := if x = 0 then nI (aN a) else if x = 1 then nI (aC a) else if x = 2 then nI (cntB (fun w => decide (aK a w = 0)) (aN a)) else if x = 3 then nI (wgN a (allI a) (aN a)) else if x = 4 then nI (cntB (fun c => decide (aH a c ≠ aI a c)) (aC a)) else if x = 5 then nI (toldN a) else -1
set_option maxRecDepth 100000 in
set_option maxHeartbeats 4000000 in
theorem k_way (l : Launch) (G : owG) {A S Z B T V : owF} {J : Nat → Nat → Int64} {Y : Nat → Nat → Nat → Option Nat} {P : Nat → Option owW} (a_ : owK) (ho_ : aOk a_) (hR : RX A Y P 0 a_) (x_ y_ : Int32) : Ct l G yX11_way cX11_way 4 ((some .int)) 4 0 0 [.ref (gK G 0 0), .int x_, .int y_] (A, S, Z, B, T, V, J, Y, P) (qI (fun r_ σ => r_ = wayI a_ x_ y_ ∧ ∃ (S2 Z2 : owF) (J2 : Nat → Nat → Int64), σ = (A, S2, Z2, B, T, V, J2, Y, P))) := by
  refine ct_of (by decide +kernel) (Nat.le_of_ble_eq_true rfl) ?_
  have h10 := ho_.1
  have h8_ := ho_.2.1
  show Wm l G cX11_way 4 RX11 ((some .int)) (rmk 4 0 0) (fun _ => True) (QfM G (qI (fun r_ σ => r_ = wayI a_ x_ y_ ∧ ∃ (S2 Z2 : owF) (J2 : Nat → Nat → Int64), σ = (A, S2, Z2, B, T, V, J2, Y, P))) 0 0) 0 [(0, .ref (gK G 0 0)), (1, .int x_), (2, .int y_)] [] (A, S, Z, B, T, V, J, Y, P) 0 0
  refine m_aload_n 0 rfl rfl dX11_way_0 ?_
  refine gf_X11_10 dX11_way_1 ?_
  refine m_iload_n 1 rfl rfl dX11_way_4 ?_
  cases hw0 : isW a_ x_ with
  | false =>
    refine m_callVr cv_X11_75 [.int x_] [] (k_wayAt_n l G 0 (by decide) a_ ho_ hR x_ hw0) (by decide) (ce_1 G _ _ _ _ _ _ _ _ _ _) rfl rfl rfl ⟨Nat.le_of_ble_eq_true rfl, Nat.le_of_ble_eq_true rfl⟩ (Nat.le_of_ble_eq_true rfl) ⟨Nat.zero_le _, Nat.zero_le _⟩ dX11_way_5 (fun xx σ2 hq => ?_)
    obtain ⟨rfl, rfl⟩ := hq
    refine m_astore_nN [(3, .null), (0, .ref (gK G 0 0)), (1, .int x_), (2, .int y_)] rfl (by decide) rfl dX11_way_8 ?_
    refine m_aload_nN 0 rfl rfl dX11_way_9 ?_
    refine m_ifnonnullN dX11_way_10 ?_
    refine m_iconst (-1) dX11_way_13 rfl ?_
    exact m_iret dX11_way_14 (Nat.le_refl _) (Nat.le_refl _) (⟨by first | (simp [wayI, *]; done) | (simp_all [wayI, rN, rX, rQ, rV]; done) | grind [wayI], _, _, _, rfl⟩)
  | true =>
    obtain ⟨w_, hw_, rfl⟩ := isW_nat ho_ hw0
    refine m_callVr cv_X11_75 [.int (nI w_)] [] (k_wayAt_s l G 0 (by decide) a_ ho_ hR w_ hw_) (by decide) (ce_1 G _ _ _ _ _ _ _ _ _ _) rfl rfl rfl ⟨Nat.le_of_ble_eq_true rfl, Nat.le_of_ble_eq_true rfl⟩ (Nat.le_of_ble_eq_true rfl) ⟨Nat.zero_le _, Nat.zero_le _⟩ dX11_way_5 (fun xx σ2 hq => ?_)
    obtain ⟨rfl, rfl⟩ := hq
    obtain ⟨ad1, hYad1, hPad1⟩ := hR.2.2.1 w_ hw_
    have hkad1 := aK_lt ho_ hw_
    have hfad1 := aF_le ho_ hw_
    refine m_topr hYad1 ?_
    have hclw : (nI w_).toNatClampNeg = w_ := nI_clamp (by omega)
    refine m_astore_n [(3, .ref ad1), (0, .ref (gK G 0 0)), (1, .int (nI (w_))), (2, .int y_)] rfl (by decide) rfl dX11_way_8 ?_
    refine m_aload_n 0 rfl rfl dX11_way_9 ?_
    refine m_ifnonnull 15 dX11_way_10 (by decide) ?_
    refine m_iload_n 3 rfl rfl dX11_way_15 ?_
    rcases Decidable.em (y_ = 0) with rfl | ej0
    ·
      refine m_tableIn 48 dX11_way_16 (by decide) (by decide) (by rfl) (by decide) ?_
      refine m_aload_n 0 rfl rfl dX11_way_48 ?_
      refine gwa_X11_79 hkad1 hPad1 dX11_way_49 ?_
      exact m_iret dX11_way_52 (Nat.le_refl _) (Nat.le_refl _) (⟨by first | (simp [wayI, hclw, *]; done) | (simp_all [wayI, rN, rX, rQ, rV]; done) | grind [wayI], _, _, _, rfl⟩)
    rcases Decidable.em (y_ = 1) with rfl | ej1
    ·
      refine m_tableIn 53 dX11_way_16 (by decide) (by decide) (by rfl) (by decide) ?_
      refine m_aload_n 0 rfl rfl dX11_way_53 ?_
      refine gwa_X11_85 hkad1 hPad1 dX11_way_54 ?_
      exact m_iret dX11_way_57 (Nat.le_refl _) (Nat.le_refl _) (⟨by first | (simp [wayI, hclw, *]; done) | (simp_all [wayI, rN, rX, rQ, rV]; done) | grind [wayI], _, _, _, rfl⟩)
    rcases Decidable.em (y_ = 2) with rfl | ej2
    ·
      refine m_tableIn 58 dX11_way_16 (by decide) (by decide) (by rfl) (by decide) ?_
      refine m_aload_n 0 rfl rfl dX11_way_58 ?_
      refine gwa_X11_88 hkad1 hPad1 dX11_way_59 ?_
      exact m_iret dX11_way_62 (Nat.le_refl _) (Nat.le_refl _) (⟨by first | (simp [wayI, hclw, *]; done) | (simp_all [wayI, rN, rX, rQ, rV]; done) | grind [wayI], _, _, _, rfl⟩)
    rcases Decidable.em (y_ = 3) with rfl | ej3
    ·
      refine m_tableIn 63 dX11_way_16 (by decide) (by decide) (by rfl) (by decide) ?_
      refine m_aload_n 0 rfl rfl dX11_way_63 ?_
      refine m_cost hkad1 hfad1 hPad1 ⟨Nat.le_of_ble_eq_true rfl, Nat.le_of_ble_eq_true rfl⟩ (Nat.le_of_ble_eq_true rfl) ⟨Nat.zero_le _, Nat.zero_le _⟩ dX11_way_64 ?_
      exact m_iret dX11_way_67 (Nat.le_refl _) (Nat.le_refl _) (⟨by first | (simp [wayI, hclw, *]; done) | (simp_all [wayI, rN, rX, rQ, rV]; done) | grind [wayI], _, _, _, rfl⟩)
    refine m_tableOut 68 dX11_way_16 (sw_out (x := y_) (n := 3) (by decide) (by rfl) (fun j_ hj => match j_, hj with | 0, _ => ej0 | 1, _ => ej1 | 2, _ => ej2 | 3, _ => ej3 | j_ + 4, hj => absurd hj (by omega))) (by decide) ?_
    refine m_iconst (-1) dX11_way_68 rfl ?_
    exact m_iret dX11_way_69 (Nat.le_refl _) (Nat.le_refl _) (⟨by first | (simp [wayI, hclw, ej0, ej1, ej2, ej3, *]; done) | (simp_all [wayI, rN, rX, rQ, rV]; done) | grind [wayI], _, _, _, rfl⟩)
set_option maxRecDepth 100000 in
set_option maxHeartbeats 4000000 in
theorem k_child (l : Launch) (G : owG) {A S Z B T V : owF} {J : Nat → Nat → Int64} {Y : Nat → Nat → Nat → Option Nat} {P : Nat → Option owW} (a_ : owK) (ho_ : aOk a_) (hR : RX A Y P 0 a_) (x_ y_ : Int32) : Ct l G yX11_child cX11_child 3 ((some .int)) 1 0 0 [.ref (gK G 0 0), .int x_, .int y_] (A, S, Z, B, T, V, J, Y, P) (qI (fun r_ σ => r_ = childI a_ x_ y_ ∧ ∃ (S2 Z2 : owF) (J2 : Nat → Nat → Int64), σ = (A, S2, Z2, B, T, V, J2, Y, P))) := by
  refine ct_of (by decide +kernel) (Nat.le_of_ble_eq_true rfl) ?_
  have h10 := ho_.1
  have h8_ := ho_.2.1
  show Wm l G cX11_child 3 RX11 ((some .int)) (rmk 1 0 0) (fun _ => True) (QfM G (qI (fun r_ σ => r_ = childI a_ x_ y_ ∧ ∃ (S2 Z2 : owF) (J2 : Nat → Nat → Int64), σ = (A, S2, Z2, B, T, V, J2, Y, P))) 0 0) 0 [(0, .ref (gK G 0 0)), (1, .int x_), (2, .int y_)] [] (A, S, Z, B, T, V, J, Y, P) 0 0
  refine m_aload_n 0 rfl rfl dX11_child_0 ?_
  refine gf_X11_10 dX11_child_1 ?_
  refine m_iload_n 1 rfl rfl dX11_child_4 ?_
  refine m_callVi cv_X11_95 [.int x_] [] (k_hasChild l G 0 (by decide) a_ ho_ hR x_) (by decide) (ce_1 G _ _ _ _ _ _ _ _ _ _) rfl rfl rfl ⟨Nat.le_of_ble_eq_true rfl, Nat.le_of_ble_eq_true rfl⟩ (Nat.le_of_ble_eq_true rfl) ⟨Nat.zero_le _, Nat.zero_le _⟩ dX11_child_5 (fun xx σ2 hq => ?_)
  obtain ⟨rfl, rfl⟩ := hq
  refine m_ifne_b 13 dX11_child_8 (by decide) (fun c1_ => ?_) (fun c1_ => ?_)
  ·
    obtain ⟨cq, hcq, rfl⟩ := isC_nat ho_ c1_
    have hclcq : (nI cq).toNatClampNeg = cq := nI_clamp (by omega)
    refine m_iload_n 2 rfl rfl dX11_child_13 ?_
    rcases Decidable.em (y_ = 0) with rfl | ej0
    ·
      refine m_tableIn 40 dX11_child_14 (by decide) (by decide) (by rfl) (by decide) ?_
      refine m_aload_n 0 rfl rfl dX11_child_40 ?_
      refine gf_X11_10 dX11_child_41 ?_
      refine gf_X11_99 (by decide) dX11_child_44 ?_
      refine m_iload_n 1 rfl rfl dX11_child_47 ?_
      refine m_callSi cs_X11_102 [.ref (gK G 10 0), .int (nI (cq))] [] (k_at (t := 10) (n := 8) l G (by decide) (ce_10 G _ _ _ _ _ _ _ _ _ 0) (by decide) (nI (cq))) rfl rfl ⟨Nat.le_of_ble_eq_true rfl, Nat.le_of_ble_eq_true rfl⟩ (Nat.le_of_ble_eq_true rfl) ⟨Nat.zero_le _, Nat.zero_le _⟩ dX11_child_48 (fun xx σ2 hq => ?_)
      obtain rfl : xx = A 10 0 cq := hq.1.trans (atV_in (by omega) (by decide))
      obtain rfl := hq.2
      refine m_topi (hR.2.2.2.1 cq hcq).1 ?_
      exact m_iret dX11_child_51 (Nat.le_refl _) (Nat.le_refl _) (⟨by first | (simp [childI, c1_, hclcq]; done) | (simp_all [childI, rN, rX, rQ, rV]; done) | grind [childI], _, _, _, rfl⟩)
    rcases Decidable.em (y_ = 1) with rfl | ej1
    ·
      refine m_tableIn 52 dX11_child_14 (by decide) (by decide) (by rfl) (by decide) ?_
      refine m_aload_n 0 rfl rfl dX11_child_52 ?_
      refine gf_X11_10 dX11_child_53 ?_
      refine gf_X11_106 (by decide) dX11_child_56 ?_
      refine m_iload_n 1 rfl rfl dX11_child_59 ?_
      refine m_callSi cs_X11_102 [.ref (gK G 12 0), .int (nI (cq))] [] (k_at (t := 12) (n := 8) l G (by decide) (ce_12 G _ _ _ _ _ _ _ _ _ 0) (by decide) (nI (cq))) rfl rfl ⟨Nat.le_of_ble_eq_true rfl, Nat.le_of_ble_eq_true rfl⟩ (Nat.le_of_ble_eq_true rfl) ⟨Nat.zero_le _, Nat.zero_le _⟩ dX11_child_60 (fun xx σ2 hq => ?_)
      obtain rfl : xx = A 12 0 cq := hq.1.trans (atV_in (by omega) (by decide))
      obtain rfl := hq.2
      refine m_topi (hR.2.2.2.1 cq hcq).2.1 ?_
      exact m_iret dX11_child_63 (Nat.le_refl _) (Nat.le_refl _) (⟨by first | (simp [childI, c1_, hclcq]; done) | (simp_all [childI, rN, rX, rQ, rV]; done) | grind [childI], _, _, _, rfl⟩)
    rcases Decidable.em (y_ = 2) with rfl | ej2
    ·
      refine m_tableIn 64 dX11_child_14 (by decide) (by decide) (by rfl) (by decide) ?_
      refine m_aload_n 0 rfl rfl dX11_child_64 ?_
      refine gf_X11_10 dX11_child_65 ?_
      refine gf_X11_109 (by decide) dX11_child_68 ?_
      refine m_iload_n 1 rfl rfl dX11_child_71 ?_
      refine m_callSi cs_X11_102 [.ref (gK G 11 0), .int (nI (cq))] [] (k_at (t := 11) (n := 8) l G (by decide) (ce_11 G _ _ _ _ _ _ _ _ _ 0) (by decide) (nI (cq))) rfl rfl ⟨Nat.le_of_ble_eq_true rfl, Nat.le_of_ble_eq_true rfl⟩ (Nat.le_of_ble_eq_true rfl) ⟨Nat.zero_le _, Nat.zero_le _⟩ dX11_child_72 (fun xx σ2 hq => ?_)
      obtain rfl : xx = A 11 0 cq := hq.1.trans (atV_in (by omega) (by decide))
      obtain rfl := hq.2
      refine m_topi (hR.2.2.2.1 cq hcq).2.2 ?_
      exact m_iret dX11_child_75 (Nat.le_refl _) (Nat.le_refl _) (⟨by first | (simp [childI, c1_, hclcq]; done) | (simp_all [childI, rN, rX, rQ, rV]; done) | grind [childI], _, _, _, rfl⟩)
    refine m_tableOut 76 dX11_child_14 (sw_out (x := y_) (n := 2) (by decide) (by rfl) (fun j_ hj => match j_, hj with | 0, _ => ej0 | 1, _ => ej1 | 2, _ => ej2 | j_ + 3, hj => absurd hj (by omega))) (by decide) ?_
    refine m_iconst (-1) dX11_child_76 rfl ?_
    exact m_iret dX11_child_77 (Nat.le_refl _) (Nat.le_refl _) (⟨by first | (simp [childI, c1_, hclcq, ej0, ej1, ej2]; done) | (simp_all [childI, rN, rX, rQ, rV]; done) | grind [childI], _, _, _, rfl⟩)
  ·
    refine m_iconst (-1) dX11_child_11 rfl ?_
    exact m_iret dX11_child_12 (Nat.le_refl _) (Nat.le_refl _) (⟨by first | (simp [childI, c1_]; done) | (simp_all [childI, rN, rX, rQ, rV]; done) | grind [childI], _, _, _, rfl⟩)
set_option maxRecDepth 100000 in
set_option maxHeartbeats 4000000 in
theorem k_told (l : Launch) (G : owG) {A S Z B T V : owF} {J : Nat → Nat → Int64} {Y : Nat → Nat → Nat → Option Nat} {P : Nat → Option owW} (a_ : owK) (ho_ : aOk a_) (hR : RX A Y P 0 a_) (x_ y_ : Int32) : Ct l G yX11_told cX11_told 3 ((some .int)) 3 0 0 [.ref (gK G 0 0), .int x_, .int y_] (A, S, Z, B, T, V, J, Y, P) (qI (fun r_ σ => r_ = toldI a_ x_ y_ ∧ ∃ (S2 Z2 : owF) (J2 : Nat → Nat → Int64), σ = (A, S2, Z2, B, T, V, J2, Y, P))) := by
  refine ct_of (by decide +kernel) (Nat.le_of_ble_eq_true rfl) ?_
  have h10 := ho_.1
  have h8_ := ho_.2.1
  show Wm l G cX11_told 3 RX11 ((some .int)) (rmk 3 0 0) (fun _ => True) (QfM G (qI (fun r_ σ => r_ = toldI a_ x_ y_ ∧ ∃ (S2 Z2 : owF) (J2 : Nat → Nat → Int64), σ = (A, S2, Z2, B, T, V, J2, Y, P))) 0 0) 0 [(0, .ref (gK G 0 0)), (1, .int x_), (2, .int y_)] [] (A, S, Z, B, T, V, J, Y, P) 0 0
  refine m_aload_n 0 rfl rfl dX11_told_0 ?_
  refine gf_X11_10 dX11_told_1 ?_
  refine m_iload_n 1 rfl rfl dX11_told_4 ?_
  refine m_iload_n 2 rfl rfl dX11_told_5 ?_
  refine m_callVi cv_X11_112 [.int x_, .int y_] [] (k_toldBy l G 0 (by decide) a_ ho_ hR x_ y_) (by decide) (ce_1 G _ _ _ _ _ _ _ _ _ _) rfl rfl rfl ⟨Nat.le_of_ble_eq_true rfl, Nat.le_of_ble_eq_true rfl⟩ (Nat.le_of_ble_eq_true rfl) ⟨Nat.zero_le _, Nat.zero_le _⟩ dX11_told_6 (fun xx σ2 hq => ?_)
  obtain ⟨rfl, rfl⟩ := hq
  exact m_iret dX11_told_9 (Nat.le_refl _) (Nat.le_refl _) (⟨rfl, _, _, _, rfl⟩)
set_option maxRecDepth 100000 in
set_option maxHeartbeats 4000000 in
theorem k_work (l : Launch) (G : owG) {A S Z B T V : owF} {J : Nat → Nat → Int64} {Y : Nat → Nat → Nat → Option Nat} {P : Nat → Option owW} (a_ : owK) (ho_ : aOk a_) (hR : RX A Y P 0 a_) (v_ x_ y_ : Int32) : Ct l G yX11_work cX11_work 4 ((some .int)) 6 0 0 [.ref (gK G 0 0), .int v_, .int x_, .int y_] (A, S, Z, B, T, V, J, Y, P) (qI (fun r_ σ => r_ = workI a_ v_ x_ y_ ∧ ∃ (S2 Z2 : owF) (J2 : Nat → Nat → Int64), σ = (A, S2, Z2, B, T, V, J2, Y, P))) := by
  refine ct_of (by decide +kernel) (Nat.le_of_ble_eq_true rfl) ?_
  have h10 := ho_.1
  have h8_ := ho_.2.1
  show Wm l G cX11_work 4 RX11 ((some .int)) (rmk 6 0 0) (fun _ => True) (QfM G (qI (fun r_ σ => r_ = workI a_ v_ x_ y_ ∧ ∃ (S2 Z2 : owF) (J2 : Nat → Nat → Int64), σ = (A, S2, Z2, B, T, V, J2, Y, P))) 0 0) 0 [(0, .ref (gK G 0 0)), (1, .int v_), (2, .int x_), (3, .int y_)] [] (A, S, Z, B, T, V, J, Y, P) 0 0
  refine m_iload_n 2 rfl rfl dX11_work_0 ?_
  refine m_iload_n 3 rfl rfl dX11_work_1 ?_
  refine m_callSi cs_X11_120 [.int x_, .int y_] [] (k_isSum l G x_ y_) rfl rfl ⟨Nat.le_of_ble_eq_true rfl, Nat.le_of_ble_eq_true rfl⟩ (Nat.le_of_ble_eq_true rfl) ⟨Nat.zero_le _, Nat.zero_le _⟩ dX11_work_2 (fun xx σ2 hq => ?_)
  obtain ⟨rfl, rfl⟩ := hq
  refine m_ifeq_b 18 dX11_work_5 (by decide) (fun c1_ => ?_) (fun c1_ => ?_)
  ·
    refine m_iconst (-1) dX11_work_18 rfl ?_
    exact m_iret dX11_work_19 (Nat.le_refl _) (Nat.le_refl _) (⟨by first | (simp [workI, c1_]; done) | (simp_all [workI, rN, rX, rQ, rV]; done) | grind [workI], _, _, _, rfl⟩)
  ·
    obtain ⟨xq, yq, rfl, rfl, hy_, hx_⟩ := sumNat c1_
    have hclxq : (nI xq).toNatClampNeg = xq := nI_clamp (by omega)
    have hclyq : (nI yq).toNatClampNeg = yq := nI_clamp (by omega)
    refine m_aload_n 0 rfl rfl dX11_work_8 ?_
    refine m_iload_n 1 rfl rfl dX11_work_9 ?_
    refine m_iload_n 2 rfl rfl dX11_work_10 ?_
    refine m_iload_n 3 rfl rfl dX11_work_11 ?_
    refine m_callVi cv_X11_124 [.int v_, .int (nI (xq)), .int (nI (yq))] [] (k_answerToR l G a_ ho_ hR v_ xq yq hx_ hy_) (by decide) (ce_0 G _ _ _ _ _ _ _ _ _ _) rfl rfl rfl ⟨Nat.le_of_ble_eq_true rfl, Nat.le_of_ble_eq_true rfl⟩ (Nat.le_of_ble_eq_true rfl) ⟨Nat.zero_le _, Nat.zero_le _⟩ dX11_work_12 (fun xx σ2 hq => ?_)
    obtain ⟨rfl, Z2, rfl⟩ := hq
    refine m_goto 19 dX11_work_15 (by decide) ?_
    exact m_iret dX11_work_19 (Nat.le_refl _) (Nat.le_refl _) (⟨by unfold workI; cases hwz : isW a_ v_ <;> simp [*], _, _, _, rfl⟩)
set_option maxRecDepth 100000 in
set_option maxHeartbeats 4000000 in
theorem k_right (l : Launch) (G : owG) {A S Z B T V : owF} {J : Nat → Nat → Int64} {Y : Nat → Nat → Nat → Option Nat} {P : Nat → Option owW} (a_ : owK) (ho_ : aOk a_) (hR : RX A Y P 0 a_) (x_ y_ : Int32) : Ct l G yX11_right cX11_right 3 ((some .int)) 7 0 0 [.ref (gK G 0 0), .int x_, .int y_] (A, S, Z, B, T, V, J, Y, P) (qI (fun r_ σ => r_ = rightI a_ x_ y_ ∧ ∃ (S2 Z2 : owF) (J2 : Nat → Nat → Int64), σ = (A, S2, Z2, B, T, V, J2, Y, P))) := by
  refine ct_of (by decide +kernel) (Nat.le_of_ble_eq_true rfl) ?_
  have h10 := ho_.1
  have h8_ := ho_.2.1
  show Wm l G cX11_right 3 RX11 ((some .int)) (rmk 7 0 0) (fun _ => True) (QfM G (qI (fun r_ σ => r_ = rightI a_ x_ y_ ∧ ∃ (S2 Z2 : owF) (J2 : Nat → Nat → Int64), σ = (A, S2, Z2, B, T, V, J2, Y, P))) 0 0) 0 [(0, .ref (gK G 0 0)), (1, .int x_), (2, .int y_)] [] (A, S, Z, B, T, V, J, Y, P) 0 0
  refine m_iload_n 1 rfl rfl dX11_right_0 ?_
  refine m_iload_n 2 rfl rfl dX11_right_1 ?_
  refine m_callSi cs_X11_120 [.int x_, .int y_] [] (k_isSum l G x_ y_) rfl rfl ⟨Nat.le_of_ble_eq_true rfl, Nat.le_of_ble_eq_true rfl⟩ (Nat.le_of_ble_eq_true rfl) ⟨Nat.zero_le _, Nat.zero_le _⟩ dX11_right_2 (fun xx σ2 hq => ?_)
  obtain ⟨rfl, rfl⟩ := hq
  refine m_ifeq_b 20 dX11_right_5 (by decide) (fun c1_ => ?_) (fun c1_ => ?_)
  ·
    refine m_iconst (-1) dX11_right_20 rfl ?_
    exact m_iret dX11_right_21 (Nat.le_refl _) (Nat.le_refl _) (⟨by first | (simp [rightI, c1_]; done) | (simp_all [rightI, rN, rX, rQ, rV]; done) | grind [rightI], _, _, _, rfl⟩)
  ·
    obtain ⟨xq, yq, rfl, rfl, hy_, hx_⟩ := sumNat c1_
    have hclxq : (nI xq).toNatClampNeg = xq := nI_clamp (by omega)
    have hclyq : (nI yq).toNatClampNeg = yq := nI_clamp (by omega)
    refine m_aload_n 0 rfl rfl dX11_right_8 ?_
    refine m_iload_n 1 rfl rfl dX11_right_9 ?_
    refine m_iload_n 2 rfl rfl dX11_right_10 ?_
    refine m_iload_n 1 rfl rfl dX11_right_11 ?_
    refine m_iload_n 2 rfl rfl dX11_right_12 ?_
    refine m_isub dX11_right_13 ?_
    refine m_callVi cv_X11_140 [.int (nI (xq)), .int (nI (yq)), .int ((nI (xq)) - (nI (yq)))] [] (k_waysAnswering l G a_ ho_ hR xq yq hx_ hy_ ((nI (xq)) - (nI (yq)))) (by decide) (ce_0 G _ _ _ _ _ _ _ _ _ _) rfl rfl rfl ⟨Nat.le_of_ble_eq_true rfl, Nat.le_of_ble_eq_true rfl⟩ (Nat.le_of_ble_eq_true rfl) ⟨Nat.zero_le _, Nat.zero_le _⟩ dX11_right_14 (fun xx σ2 hq => ?_)
    obtain ⟨rfl, Z2, rfl⟩ := hq
    refine m_goto 21 dX11_right_17 (by decide) ?_
    exact m_iret dX11_right_21 (Nat.le_refl _) (Nat.le_refl _) (⟨by first | (simp [rightI, c1_, hclxq, hclyq]; done) | (simp_all [rightI, rN, rX, rQ, rV]; done) | grind [rightI], _, _, _, rfl⟩)
set_option maxRecDepth 100000 in
set_option maxHeartbeats 4000000 in
theorem k_parts (l : Launch) (G : owG) {A S Z B T V : owF} {J : Nat → Nat → Int64} {Y : Nat → Nat → Nat → Option Nat} {P : Nat → Option owW} (a_ : owK) (ho_ : aOk a_) (hR : RX A Y P 0 a_) (x_ y_ b_ : Int32) : Ct l G yX11_parts cX11_parts 4 ((some .int)) 7 0 0 [.ref (gK G 0 0), .int x_, .int y_, .int b_] (A, S, Z, B, T, V, J, Y, P) (qI (fun r_ σ => r_ = partsI a_ x_ y_ b_ ∧ ∃ (S2 Z2 : owF) (J2 : Nat → Nat → Int64), σ = (A, S2, Z2, B, T, V, J2, Y, P))) := by
  refine ct_of (by decide +kernel) (Nat.le_of_ble_eq_true rfl) ?_
  have h10 := ho_.1
  have h8_ := ho_.2.1
  show Wm l G cX11_parts 4 RX11 ((some .int)) (rmk 7 0 0) (fun _ => True) (QfM G (qI (fun r_ σ => r_ = partsI a_ x_ y_ b_ ∧ ∃ (S2 Z2 : owF) (J2 : Nat → Nat → Int64), σ = (A, S2, Z2, B, T, V, J2, Y, P))) 0 0) 0 [(0, .ref (gK G 0 0)), (1, .int x_), (2, .int y_), (3, .int b_)] [] (A, S, Z, B, T, V, J, Y, P) 0 0
  refine m_iload_n 1 rfl rfl dX11_parts_0 ?_
  refine m_iload_n 2 rfl rfl dX11_parts_1 ?_
  refine m_callSi cs_X11_120 [.int x_, .int y_] [] (k_isSum l G x_ y_) rfl rfl ⟨Nat.le_of_ble_eq_true rfl, Nat.le_of_ble_eq_true rfl⟩ (Nat.le_of_ble_eq_true rfl) ⟨Nat.zero_le _, Nat.zero_le _⟩ dX11_parts_2 (fun xx σ2 hq => ?_)
  obtain ⟨rfl, rfl⟩ := hq
  refine m_ifeq_b 29 dX11_parts_5 (by decide) (fun c1_ => ?_) (fun c1_ => ?_)
  ·
    refine m_iconst (-1) dX11_parts_29 rfl ?_
    exact m_iret dX11_parts_30 (Nat.le_refl _) (Nat.le_refl _) (⟨by first | (simp [partsI, c1_]; done) | (simp_all [partsI, rN, rX, rQ, rV]; done) | grind [partsI], _, _, _, rfl⟩)
  ·
    obtain ⟨xq, yq, rfl, rfl, hy_, hx_⟩ := sumNat c1_
    have hclxq : (nI xq).toNatClampNeg = xq := nI_clamp (by omega)
    have hclyq : (nI yq).toNatClampNeg = yq := nI_clamp (by omega)
    refine m_aload_n 0 rfl rfl dX11_parts_8 ?_
    refine gf_X11_10 dX11_parts_9 ?_
    refine m_iload_n 3 rfl rfl dX11_parts_12 ?_
    refine m_callVi cv_X11_143 [.int b_] [] (k_hasWays l G 0 (by decide) a_ ho_ hR b_) (by decide) (ce_1 G _ _ _ _ _ _ _ _ _ _) rfl rfl rfl ⟨Nat.le_of_ble_eq_true rfl, Nat.le_of_ble_eq_true rfl⟩ (Nat.le_of_ble_eq_true rfl) ⟨Nat.zero_le _, Nat.zero_le _⟩ dX11_parts_13 (fun xx σ2 hq => ?_)
    obtain ⟨rfl, rfl⟩ := hq
    refine m_ifeq_b 29 dX11_parts_16 (by decide) (fun c2_ => ?_) (fun c2_ => ?_)
    ·
      refine m_iconst (-1) dX11_parts_29 rfl ?_
      exact m_iret dX11_parts_30 (Nat.le_refl _) (Nat.le_refl _) (⟨by first | (simp [partsI, c1_, c2_, hclxq, hclyq]; done) | (simp_all [partsI, rN, rX, rQ, rV]; done) | grind [partsI], _, _, _, rfl⟩)
    ·
      refine m_aload_n 0 rfl rfl dX11_parts_19 ?_
      refine m_iload_n 1 rfl rfl dX11_parts_20 ?_
      refine m_iload_n 2 rfl rfl dX11_parts_21 ?_
      refine m_iload_n 3 rfl rfl dX11_parts_22 ?_
      refine m_callVi cv_X11_146 [.int (nI (xq)), .int (nI (yq)), .int b_] [] (k_unlike l G a_ ho_ hR xq yq hx_ hy_ b_) (by decide) (ce_0 G _ _ _ _ _ _ _ _ _ _) rfl rfl rfl ⟨Nat.le_of_ble_eq_true rfl, Nat.le_of_ble_eq_true rfl⟩ (Nat.le_of_ble_eq_true rfl) ⟨Nat.zero_le _, Nat.zero_le _⟩ dX11_parts_23 (fun xx σ2 hq => ?_)
      obtain ⟨rfl, S4, Z3, rfl, hfS4⟩ := hq
      refine m_goto 30 dX11_parts_26 (by decide) ?_
      exact m_iret dX11_parts_30 (Nat.le_refl _) (Nat.le_refl _) (⟨by first | (simp [partsI, c1_, c2_, hclxq, hclyq]; done) | (simp_all [partsI, rN, rX, rQ, rV]; done) | grind [partsI], _, _, _, rfl⟩)
set_option maxRecDepth 100000 in
set_option maxHeartbeats 4000000 in
theorem k_whose (l : Launch) (G : owG) {A S Z B T V : owF} {J : Nat → Nat → Int64} {Y : Nat → Nat → Nat → Option Nat} {P : Nat → Option owW} (a_ : owK) (ho_ : aOk a_) (hR : RX A Y P 0 a_) (x_ y_ v_ : Int32) : Ct l G yX11_whose cX11_whose 4 ((some .int)) 7 0 0 [.ref (gK G 0 0), .int x_, .int y_, .int v_] (A, S, Z, B, T, V, J, Y, P) (qI (fun r_ σ => r_ = whoseI a_ x_ y_ v_ ∧ ∃ (S2 Z2 : owF) (J2 : Nat → Nat → Int64), σ = (A, S2, Z2, B, T, V, J2, Y, P))) := by
  refine ct_of (by decide +kernel) (Nat.le_of_ble_eq_true rfl) ?_
  have h10 := ho_.1
  have h8_ := ho_.2.1
  show Wm l G cX11_whose 4 RX11 ((some .int)) (rmk 7 0 0) (fun _ => True) (QfM G (qI (fun r_ σ => r_ = whoseI a_ x_ y_ v_ ∧ ∃ (S2 Z2 : owF) (J2 : Nat → Nat → Int64), σ = (A, S2, Z2, B, T, V, J2, Y, P))) 0 0) 0 [(0, .ref (gK G 0 0)), (1, .int x_), (2, .int y_), (3, .int v_)] [] (A, S, Z, B, T, V, J, Y, P) 0 0
  refine m_iload_n 1 rfl rfl dX11_whose_0 ?_
  refine m_iload_n 2 rfl rfl dX11_whose_1 ?_
  refine m_callSi cs_X11_120 [.int x_, .int y_] [] (k_isSum l G x_ y_) rfl rfl ⟨Nat.le_of_ble_eq_true rfl, Nat.le_of_ble_eq_true rfl⟩ (Nat.le_of_ble_eq_true rfl) ⟨Nat.zero_le _, Nat.zero_le _⟩ dX11_whose_2 (fun xx σ2 hq => ?_)
  obtain ⟨rfl, rfl⟩ := hq
  refine m_ifeq_b 25 dX11_whose_5 (by decide) (fun c1_ => ?_) (fun c1_ => ?_)
  ·
    refine m_iconst (-1) dX11_whose_25 rfl ?_
    exact m_iret dX11_whose_26 (Nat.le_refl _) (Nat.le_refl _) (⟨by first | (simp [whoseI, c1_]; done) | (simp_all [whoseI, rN, rX, rQ, rV]; done) | grind [whoseI], _, _, _, rfl⟩)
  ·
    obtain ⟨xq, yq, rfl, rfl, hy_, hx_⟩ := sumNat c1_
    have hclxq : (nI xq).toNatClampNeg = xq := nI_clamp (by omega)
    have hclyq : (nI yq).toNatClampNeg = yq := nI_clamp (by omega)
    refine m_iload_n 3 rfl rfl dX11_whose_8 ?_
    refine m_callSi cs_X11_149 [.int v_] [] (k_isAns l G v_) rfl rfl ⟨Nat.le_of_ble_eq_true rfl, Nat.le_of_ble_eq_true rfl⟩ (Nat.le_of_ble_eq_true rfl) ⟨Nat.zero_le _, Nat.zero_le _⟩ dX11_whose_9 (fun xx σ2 hq => ?_)
    obtain ⟨rfl, rfl⟩ := hq
    refine m_ifeq_b 25 dX11_whose_12 (by decide) (fun c2_ => ?_) (fun c2_ => ?_)
    ·
      refine m_iconst (-1) dX11_whose_25 rfl ?_
      exact m_iret dX11_whose_26 (Nat.le_refl _) (Nat.le_refl _) (⟨by first | (simp [whoseI, c1_, c2_, hclxq, hclyq]; done) | (simp_all [whoseI, rN, rX, rQ, rV]; done) | grind [whoseI], _, _, _, rfl⟩)
    ·
      refine m_aload_n 0 rfl rfl dX11_whose_15 ?_
      refine m_iload_n 1 rfl rfl dX11_whose_16 ?_
      refine m_iload_n 2 rfl rfl dX11_whose_17 ?_
      refine m_iload_n 3 rfl rfl dX11_whose_18 ?_
      refine m_callVi cv_X11_140 [.int (nI (xq)), .int (nI (yq)), .int v_] [] (k_waysAnswering l G a_ ho_ hR xq yq hx_ hy_ v_) (by decide) (ce_0 G _ _ _ _ _ _ _ _ _ _) rfl rfl rfl ⟨Nat.le_of_ble_eq_true rfl, Nat.le_of_ble_eq_true rfl⟩ (Nat.le_of_ble_eq_true rfl) ⟨Nat.zero_le _, Nat.zero_le _⟩ dX11_whose_19 (fun xx σ2 hq => ?_)
      obtain ⟨rfl, Z3, rfl⟩ := hq
      refine m_goto 26 dX11_whose_22 (by decide) ?_
      exact m_iret dX11_whose_26 (Nat.le_refl _) (Nat.le_refl _) (⟨by first | (simp [whoseI, c1_, c2_, hclxq, hclyq]; done) | (simp_all [whoseI, rN, rX, rQ, rV]; done) | grind [whoseI], _, _, _, rfl⟩)
set_option maxRecDepth 100000 in
set_option maxHeartbeats 4000000 in
theorem k_slip (l : Launch) (G : owG) {A S Z B T V : owF} {J : Nat → Nat → Int64} {Y : Nat → Nat → Nat → Option Nat} {P : Nat → Option owW} (a_ : owK) (ho_ : aOk a_) (hR : RX A Y P 0 a_) (h_ : owH) (hRS : allRS A Y P h_) (v_ x_ z_ : Int32) : Ct l G yX11_slip cX11_slip 5 ((some .int)) 7 0 0 [.ref (gK G 0 0), .int v_, .int x_, .int z_] (A, S, Z, B, T, V, J, Y, P) (qI (fun r_ σ => r_ = slipI a_ h_ v_ x_ z_ ∧ ∃ (S2 Z2 : owF) (J2 : Nat → Nat → Int64), σ = (A, S2, Z2, B, T, V, J2, Y, P))) := by
  refine ct_of (by decide +kernel) (Nat.le_of_ble_eq_true rfl) ?_
  have h10 := ho_.1
  have h8_ := ho_.2.1
  show Wm l G cX11_slip 5 RX11 ((some .int)) (rmk 7 0 0) (fun _ => True) (QfM G (qI (fun r_ σ => r_ = slipI a_ h_ v_ x_ z_ ∧ ∃ (S2 Z2 : owF) (J2 : Nat → Nat → Int64), σ = (A, S2, Z2, B, T, V, J2, Y, P))) 0 0) 0 [(0, .ref (gK G 0 0)), (1, .int v_), (2, .int x_), (3, .int z_)] [] (A, S, Z, B, T, V, J, Y, P) 0 0
  refine m_aload_n 0 rfl rfl dX11_slip_0 ?_
  refine gf_X11_10 dX11_slip_1 ?_
  refine m_iload_n 1 rfl rfl dX11_slip_4 ?_
  refine m_callVi cv_X11_128 [.int v_] [] (k_hasWay l G 0 (by decide) a_ ho_ hR v_) (by decide) (ce_1 G _ _ _ _ _ _ _ _ _ _) rfl rfl rfl ⟨Nat.le_of_ble_eq_true rfl, Nat.le_of_ble_eq_true rfl⟩ (Nat.le_of_ble_eq_true rfl) ⟨Nat.zero_le _, Nat.zero_le _⟩ dX11_slip_5 (fun xx σ2 hq => ?_)
  obtain ⟨rfl, rfl⟩ := hq
  refine m_ifne_b 13 dX11_slip_8 (by decide) (fun c1_ => ?_) (fun c1_ => ?_)
  ·
    obtain ⟨wq, hwq, rfl⟩ := isW_nat ho_ c1_
    have hclwq : (nI wq).toNatClampNeg = wq := nI_clamp (by omega)
    refine m_aload_n 0 rfl rfl dX11_slip_13 ?_
    refine m_iload_n 2 rfl rfl dX11_slip_14 ?_
    refine m_iload_n 3 rfl rfl dX11_slip_15 ?_
    refine m_callVi cv_X11_152 [.int x_, .int z_] [] (k_both l G h_ hRS x_ z_) (by decide) (ce_0 G _ _ _ _ _ _ _ _ _ _) rfl rfl rfl ⟨Nat.le_of_ble_eq_true rfl, Nat.le_of_ble_eq_true rfl⟩ (Nat.le_of_ble_eq_true rfl) ⟨Nat.zero_le _, Nat.zero_le _⟩ dX11_slip_16 (fun xx σ2 hq => ?_)
    obtain ⟨rfl, S2, rfl, hbo⟩ := hq
    refine m_istore [(4, .int (boRefI h_ x_ z_)), (0, .ref (gK G 0 0)), (1, .int (nI (wq))), (2, .int x_), (3, .int z_)] (by decide) rfl dX11_slip_19 ?_
    refine m_iload 0 rfl dX11_slip_21 ?_
    refine m_if_eq 31 dX11_slip_23 (by decide) (fun c3_ => ?_) (fun c3_ => ?_)
    ·
      have hb0 := c3_
      obtain ⟨dq, eq, hdq, heq, rfl, rfl, hk2, hs_, hv_⟩ := hbo hb0
      have hcldq : (nI dq).toNatClampNeg = dq := nI_clamp (by omega)
      have hcleq : (nI eq).toNatClampNeg = eq := nI_clamp (by omega)
      refine m_aload_n 1 rfl rfl dX11_slip_31 ?_
      refine m_iload_n 2 rfl rfl dX11_slip_32 ?_
      refine m_callVi cv_X11_155 [.int (nI (wq))] [] (k_slipsBy l G a_ ho_ hR (shN h_ dq) (shX h_ dq) (shY h_ dq) hs_ (hE h_ eq) hv_ wq (by omega)) (by decide) (ce_0 G _ _ _ _ _ _ _ _ _ _) rfl rfl rfl ⟨Nat.le_of_ble_eq_true rfl, Nat.le_of_ble_eq_true rfl⟩ (Nat.le_of_ble_eq_true rfl) ⟨Nat.zero_le _, Nat.zero_le _⟩ dX11_slip_33 (fun xx σ2 hq => ?_)
      obtain ⟨rfl, Z4, rfl⟩ := hq
      have hsl := slN_le (a := a_) (X := (shX h_ dq)) (Q := (shY h_ dq)) (V := (hE h_ eq)) (w := wq) hs_.2.1
      exact m_iret dX11_slip_36 (Nat.le_refl _) (Nat.le_refl _) (⟨by first | (simp [slipI, c1_, c3_, hclwq, hcldq, hcleq, hb0, rN, rX, rQ, rV]; done) | (simp_all [slipI, rN, rX, rQ, rV]; done) | grind [slipI], _, _, _, rfl⟩)
    ·
      refine m_iload 0 rfl dX11_slip_26 ?_
      refine m_goto 36 dX11_slip_28 (by decide) ?_
      exact m_iret dX11_slip_36 (Nat.le_refl _) (Nat.le_refl _) (⟨by first | (simp [slipI, c1_, c3_, hclwq]; done) | (simp_all [slipI, rN, rX, rQ, rV]; done) | grind [slipI], _, _, _, rfl⟩)
  ·
    refine m_iconst (-1) dX11_slip_11 rfl ?_
    exact m_iret dX11_slip_12 (Nat.le_refl _) (Nat.le_refl _) (⟨by first | (simp [slipI, c1_]; done) | (simp_all [slipI, rN, rX, rQ, rV]; done) | grind [slipI], _, _, _, rfl⟩)
set_option maxRecDepth 100000 in
set_option maxHeartbeats 4000000 in
theorem k_fits (l : Launch) (G : owG) {A S Z B T V : owF} {J : Nat → Nat → Int64} {Y : Nat → Nat → Nat → Option Nat} {P : Nat → Option owW} (a_ : owK) (ho_ : aOk a_) (hR : RX A Y P 0 a_) (h_ : owH) (hRS : allRS A Y P h_) (x_ z_ m_ : Int32) : Ct l G yX11_fits cX11_fits 5 ((some .int)) 8 0 0 [.ref (gK G 0 0), .int x_, .int z_, .int m_] (A, S, Z, B, T, V, J, Y, P) (qI (fun r_ σ => r_ = fitsI a_ h_ x_ z_ m_ ∧ ∃ (S2 Z2 : owF) (J2 : Nat → Nat → Int64), σ = (A, S2, Z2, B, T, V, J2, Y, P))) := by
  refine ct_of (by decide +kernel) (Nat.le_of_ble_eq_true rfl) ?_
  have h10 := ho_.1
  have h8_ := ho_.2.1
  show Wm l G cX11_fits 5 RX11 ((some .int)) (rmk 8 0 0) (fun _ => True) (QfM G (qI (fun r_ σ => r_ = fitsI a_ h_ x_ z_ m_ ∧ ∃ (S2 Z2 : owF) (J2 : Nat → Nat → Int64), σ = (A, S2, Z2, B, T, V, J2, Y, P))) 0 0) 0 [(0, .ref (gK G 0 0)), (1, .int x_), (2, .int z_), (3, .int m_)] [] (A, S, Z, B, T, V, J, Y, P) 0 0
  refine m_iload_n 3 rfl rfl dX11_fits_0 ?_
  refine m_if_lt 10 dX11_fits_1 (by decide) (fun c1_ => ?_) (fun c1_ => ?_)
  ·
    refine m_iconst (-1) dX11_fits_10 rfl ?_
    exact m_iret dX11_fits_11 (Nat.le_refl _) (Nat.le_refl _) (⟨by unfold fitsI; grind [rN, rX, rQ, rV], _, _, _, rfl⟩)
  ·
    refine m_iload_n 3 rfl rfl dX11_fits_4 ?_
    refine m_bipush (12) dX11_fits_5 rfl ?_
    refine m_icmp_le 12 dX11_fits_7 (by decide) (fun c2_ => ?_) (fun c2_ => ?_)
    ·
      obtain ⟨mq, hmq, rfl⟩ := nI_of2 (M := 12) (n := 12) (by decide) c1_ c2_
      have hclmq : (nI mq).toNatClampNeg = mq := nI_clamp (by omega)
      refine m_aload_n 0 rfl rfl dX11_fits_12 ?_
      refine m_iload_n 1 rfl rfl dX11_fits_13 ?_
      refine m_iload_n 2 rfl rfl dX11_fits_14 ?_
      refine m_callVi cv_X11_152 [.int x_, .int z_] [] (k_both l G h_ hRS x_ z_) (by decide) (ce_0 G _ _ _ _ _ _ _ _ _ _) rfl rfl rfl ⟨Nat.le_of_ble_eq_true rfl, Nat.le_of_ble_eq_true rfl⟩ (Nat.le_of_ble_eq_true rfl) ⟨Nat.zero_le _, Nat.zero_le _⟩ dX11_fits_15 (fun xx σ2 hq => ?_)
      obtain ⟨rfl, S3, rfl, hbo⟩ := hq
      refine m_istore [(4, .int (boRefI h_ x_ z_)), (0, .ref (gK G 0 0)), (1, .int x_), (2, .int z_), (3, .int (nI (mq)))] (by decide) rfl dX11_fits_18 ?_
      refine m_iload 0 rfl dX11_fits_20 ?_
      refine m_if_eq 30 dX11_fits_22 (by decide) (fun c4_ => ?_) (fun c4_ => ?_)
      ·
        have hb0 := c4_
        obtain ⟨dq, eq, hdq, heq, rfl, rfl, hk2, hs_, hv_⟩ := hbo hb0
        have hcldq : (nI dq).toNatClampNeg = dq := nI_clamp (by omega)
        have hcleq : (nI eq).toNatClampNeg = eq := nI_clamp (by omega)
        refine m_aload_n 1 rfl rfl dX11_fits_30 ?_
        refine m_iload_n 4 rfl rfl dX11_fits_31 ?_
        refine m_callVi cv_X11_158 [.int (nI (mq))] [] (k_waysFitting l G a_ ho_ hR (shN h_ dq) (shX h_ dq) (shY h_ dq) hs_ (hE h_ eq) hv_ mq (by omega)) (by decide) (ce_0 G _ _ _ _ _ _ _ _ _ _) rfl rfl rfl ⟨Nat.le_of_ble_eq_true rfl, Nat.le_of_ble_eq_true rfl⟩ (Nat.le_of_ble_eq_true rfl) ⟨Nat.zero_le _, Nat.zero_le _⟩ dX11_fits_32 (fun xx σ2 hq => ?_)
        obtain ⟨rfl, Z5, rfl⟩ := hq
        exact m_iret dX11_fits_35 (Nat.le_refl _) (Nat.le_refl _) (⟨by unfold fitsI; grind [rN, rX, rQ, rV], _, _, _, rfl⟩)
      ·
        refine m_iload 0 rfl dX11_fits_25 ?_
        refine m_goto 35 dX11_fits_27 (by decide) ?_
        exact m_iret dX11_fits_35 (Nat.le_refl _) (Nat.le_refl _) (⟨by unfold fitsI; grind [rN, rX, rQ, rV], _, _, _, rfl⟩)
    ·
      refine m_iconst (-1) dX11_fits_10 rfl ?_
      exact m_iret dX11_fits_11 (Nat.le_refl _) (Nat.le_refl _) (⟨by unfold fitsI; grind [rN, rX, rQ, rV], _, _, _, rfl⟩)
set_option maxRecDepth 100000 in
set_option maxHeartbeats 4000000 in
theorem k_likely (l : Launch) (G : owG) {A S Z B T V : owF} {J : Nat → Nat → Int64} {Y : Nat → Nat → Nat → Option Nat} {P : Nat → Option owW} (a_ : owK) (ho_ : aOk a_) (hR : RX A Y P 0 a_) (h_ : owH) (hRS : allRS A Y P h_) (x_ z_ : Int32) : Ct l G yX11_likely cX11_likely 4 ((some .int)) 8 0 0 [.ref (gK G 0 0), .int x_, .int z_] (A, S, Z, B, T, V, J, Y, P) (qI (fun r_ σ => r_ = likelyI a_ h_ x_ z_ ∧ ∃ (S2 Z2 : owF) (J2 : Nat → Nat → Int64), σ = (A, S2, Z2, B, T, V, J2, Y, P))) := by
  refine ct_of (by decide +kernel) (Nat.le_of_ble_eq_true rfl) ?_
  have h10 := ho_.1
  have h8_ := ho_.2.1
  show Wm l G cX11_likely 4 RX11 ((some .int)) (rmk 8 0 0) (fun _ => True) (QfM G (qI (fun r_ σ => r_ = likelyI a_ h_ x_ z_ ∧ ∃ (S2 Z2 : owF) (J2 : Nat → Nat → Int64), σ = (A, S2, Z2, B, T, V, J2, Y, P))) 0 0) 0 [(0, .ref (gK G 0 0)), (1, .int x_), (2, .int z_)] [] (A, S, Z, B, T, V, J, Y, P) 0 0
  refine m_aload_n 0 rfl rfl dX11_likely_0 ?_
  refine m_iload_n 1 rfl rfl dX11_likely_1 ?_
  refine m_iload_n 2 rfl rfl dX11_likely_2 ?_
  refine m_callVi cv_X11_152 [.int x_, .int z_] [] (k_both l G h_ hRS x_ z_) (by decide) (ce_0 G _ _ _ _ _ _ _ _ _ _) rfl rfl rfl ⟨Nat.le_of_ble_eq_true rfl, Nat.le_of_ble_eq_true rfl⟩ (Nat.le_of_ble_eq_true rfl) ⟨Nat.zero_le _, Nat.zero_le _⟩ dX11_likely_3 (fun xx σ2 hq => ?_)
  obtain ⟨rfl, S1, rfl, hbo⟩ := hq
  refine m_istore_n [(3, .int (boRefI h_ x_ z_)), (0, .ref (gK G 0 0)), (1, .int x_), (2, .int z_)] rfl (by decide) rfl dX11_likely_6 ?_
  refine m_iload_n 0 rfl rfl dX11_likely_7 ?_
  refine m_if_eq 15 dX11_likely_8 (by decide) (fun c2_ => ?_) (fun c2_ => ?_)
  ·
    have hb0 := c2_
    obtain ⟨dq, eq, hdq, heq, rfl, rfl, hk2, hs_, hv_⟩ := hbo hb0
    have hcldq : (nI dq).toNatClampNeg = dq := nI_clamp (by omega)
    have hcleq : (nI eq).toNatClampNeg = eq := nI_clamp (by omega)
    refine m_aload_n 1 rfl rfl dX11_likely_15 ?_
    refine m_callVi cv_X11_161 [] [] (k_likeliest l G a_ ho_ hR (shN h_ dq) (shX h_ dq) (shY h_ dq) hs_ (hE h_ eq) hv_) (by decide) (ce_0 G _ _ _ _ _ _ _ _ _ _) rfl rfl rfl ⟨Nat.le_of_ble_eq_true rfl, Nat.le_of_ble_eq_true rfl⟩ (Nat.le_of_ble_eq_true rfl) ⟨Nat.zero_le _, Nat.zero_le _⟩ dX11_likely_16 (fun xx σ2 hq => ?_)
    obtain ⟨rfl, Z3, rfl⟩ := hq
    exact m_iret dX11_likely_19 (Nat.le_refl _) (Nat.le_refl _) (⟨by first | (simp [likelyI, c2_, hcldq, hcleq, hb0, rN, rX, rQ, rV]; done) | (simp_all [likelyI, rN, rX, rQ, rV]; done) | grind [likelyI], _, _, _, rfl⟩)
  ·
    refine m_iload_n 0 rfl rfl dX11_likely_11 ?_
    refine m_goto 19 dX11_likely_12 (by decide) ?_
    exact m_iret dX11_likely_19 (Nat.le_refl _) (Nat.le_refl _) (⟨by first | (simp [likelyI, c2_]; done) | (simp_all [likelyI, rN, rX, rQ, rV]; done) | grind [likelyI], _, _, _, rfl⟩)
set_option maxRecDepth 100000 in
set_option maxHeartbeats 4000000 in
theorem k_lacks (l : Launch) (G : owG) {A S Z B T V : owF} {J : Nat → Nat → Int64} {Y : Nat → Nat → Nat → Option Nat} {P : Nat → Option owW} (a_ : owK) (ho_ : aOk a_) (hR : RX A Y P 0 a_) (h_ : owH) (hRS : allRS A Y P h_) (x_ z_ : Int32) : Ct l G yX11_lacks cX11_lacks 5 ((some .int)) 8 0 0 [.ref (gK G 0 0), .int x_, .int z_] (A, S, Z, B, T, V, J, Y, P) (qI (fun r_ σ => r_ = lacksI a_ h_ x_ z_ ∧ ∃ (S2 Z2 : owF) (J2 : Nat → Nat → Int64), σ = (A, S2, Z2, B, T, V, J2, Y, P))) := by
  refine ct_of (by decide +kernel) (Nat.le_of_ble_eq_true rfl) ?_
  have h10 := ho_.1
  have h8_ := ho_.2.1
  show Wm l G cX11_lacks 5 RX11 ((some .int)) (rmk 8 0 0) (fun _ => True) (QfM G (qI (fun r_ σ => r_ = lacksI a_ h_ x_ z_ ∧ ∃ (S2 Z2 : owF) (J2 : Nat → Nat → Int64), σ = (A, S2, Z2, B, T, V, J2, Y, P))) 0 0) 0 [(0, .ref (gK G 0 0)), (1, .int x_), (2, .int z_)] [] (A, S, Z, B, T, V, J, Y, P) 0 0
  refine m_aload_n 0 rfl rfl dX11_lacks_0 ?_
  refine m_iload_n 1 rfl rfl dX11_lacks_1 ?_
  refine m_iload_n 2 rfl rfl dX11_lacks_2 ?_
  refine m_callVi cv_X11_152 [.int x_, .int z_] [] (k_both l G h_ hRS x_ z_) (by decide) (ce_0 G _ _ _ _ _ _ _ _ _ _) rfl rfl rfl ⟨Nat.le_of_ble_eq_true rfl, Nat.le_of_ble_eq_true rfl⟩ (Nat.le_of_ble_eq_true rfl) ⟨Nat.zero_le _, Nat.zero_le _⟩ dX11_lacks_3 (fun xx σ2 hq => ?_)
  obtain ⟨rfl, S1, rfl, hbo⟩ := hq
  refine m_istore_n [(3, .int (boRefI h_ x_ z_)), (0, .ref (gK G 0 0)), (1, .int x_), (2, .int z_)] rfl (by decide) rfl dX11_lacks_6 ?_
  refine m_iload_n 0 rfl rfl dX11_lacks_7 ?_
  refine m_if_eq 13 dX11_lacks_8 (by decide) (fun c2_ => ?_) (fun c2_ => ?_)
  ·
    have hb0 := c2_
    obtain ⟨dq, eq, hdq, heq, rfl, rfl, hk2, hs_, hv_⟩ := hbo hb0
    have hcldq : (nI dq).toNatClampNeg = dq := nI_clamp (by omega)
    have hcleq : (nI eq).toNatClampNeg = eq := nI_clamp (by omega)
    refine m_aload_n 1 rfl rfl dX11_lacks_13 ?_
    refine m_callVi cv_X11_161 [] [] (k_likeliest l G a_ ho_ hR (shN h_ dq) (shX h_ dq) (shY h_ dq) hs_ (hE h_ eq) hv_) (by decide) (ce_0 G _ _ _ _ _ _ _ _ _ _) rfl rfl rfl ⟨Nat.le_of_ble_eq_true rfl, Nat.le_of_ble_eq_true rfl⟩ (Nat.le_of_ble_eq_true rfl) ⟨Nat.zero_le _, Nat.zero_le _⟩ dX11_lacks_14 (fun xx σ2 hq => ?_)
    obtain ⟨rfl, Z3, rfl⟩ := hq
    refine m_istore [(4, .int (optI (likA a_ (shN h_ dq) (shX h_ dq) (shY h_ dq) (hE h_ eq)))), (3, .int (boRefI h_ (nI dq) (nI eq))), (0, .ref (gK G 0 0)), (1, .int (nI (dq))), (2, .int (nI (eq)))] (by decide) rfl dX11_lacks_17 ?_
    cases hl0 : likA a_ (shN h_ dq) (shX h_ dq) (shY h_ dq) (hE h_ eq) with
    | none =>
      refine m_iload 0 rfl dX11_lacks_19 ?_
      refine m_bipush (-4) dX11_lacks_21 rfl ?_
      refine m_icmp_ne 31 dX11_lacks_23 (by decide) (fun c4_ => absurd c4_ (by decide)) (fun _ => ?_)
      refine m_bipush (-4) dX11_lacks_26 rfl ?_
      refine m_goto 40 dX11_lacks_28 (by decide) ?_
      exact m_iret dX11_lacks_40 (Nat.le_refl _) (Nat.le_refl _) (⟨by first | (simp [lacksI, c2_, hcldq, hcleq, hb0, rN, rX, rQ, rV, hl0]; done) | (simp_all [lacksI, rN, rX, rQ, rV]; done) | grind [lacksI], _, _, _, rfl⟩)
    | some bw =>
      have hbk := likS_lt hl0
      refine m_iload 0 rfl dX11_lacks_19 ?_
      refine m_bipush (-4) dX11_lacks_21 rfl ?_
      refine m_icmp_ne 31 dX11_lacks_23 (by decide) (fun _ => ?_) (fun c5_ => absurd c5_ (nI_neg (by omega) (by decide)))
      refine m_aload_n 2 rfl rfl dX11_lacks_31 ?_
      refine gf_X11_10 dX11_lacks_32 ?_
      refine m_iload 0 rfl dX11_lacks_35 ?_
      refine m_callVi cv_X11_228 [.int (nI (bw))] [] (k_kindOf l G 0 (by decide) a_ ho_ hR (nI (bw))) (by decide) (ce_1 G _ _ _ _ _ _ _ _ _ _) rfl rfl rfl ⟨Nat.le_of_ble_eq_true rfl, Nat.le_of_ble_eq_true rfl⟩ (Nat.le_of_ble_eq_true rfl) ⟨Nat.zero_le _, Nat.zero_le _⟩ dX11_lacks_37 (fun xx σ2 hq => ?_)
      obtain ⟨hgx, rfl⟩ := hq
      obtain rfl := hgx.trans (kindI_nat ho_ (by omega))
      exact m_iret dX11_lacks_40 (Nat.le_refl _) (Nat.le_refl _) (⟨by first | (simp [lacksI, c2_, hcldq, hcleq, hb0, rN, rX, rQ, rV, hl0]; done) | (simp_all [lacksI, rN, rX, rQ, rV]; done) | grind [lacksI], _, _, _, rfl⟩)
  ·
    refine m_iload_n 0 rfl rfl dX11_lacks_11 ?_
    exact m_iret dX11_lacks_12 (Nat.le_refl _) (Nat.le_refl _) (⟨by first | (simp [lacksI, c2_]; done) | (simp_all [lacksI, rN, rX, rQ, rV]; done) | grind [lacksI], _, _, _, rfl⟩)
set_option maxRecDepth 100000 in
set_option maxHeartbeats 4000000 in
theorem k_luck (l : Launch) (G : owG) {A S Z B T V : owF} {J : Nat → Nat → Int64} {Y : Nat → Nat → Nat → Option Nat} {P : Nat → Option owW} (a_ : owK) (ho_ : aOk a_) (hR : RX A Y P 0 a_) (h_ : owH) (hRS : allRS A Y P h_) (v_ x_ p_ : Int32) : Ct l G yX11_luck cX11_luck 5 ((some .int)) 7 0 0 [.ref (gK G 0 0), .int v_, .int x_, .int p_] (A, S, Z, B, T, V, J, Y, P) (qI (fun r_ σ => r_ = luckI a_ h_ v_ x_ p_ ∧ ∃ (S2 Z2 : owF) (J2 : Nat → Nat → Int64), σ = (A, S2, Z2, B, T, V, J2, Y, P))) := by
  refine ct_of (by decide +kernel) (Nat.le_of_ble_eq_true rfl) ?_
  have h10 := ho_.1
  have h8_ := ho_.2.1
  show Wm l G cX11_luck 5 RX11 ((some .int)) (rmk 7 0 0) (fun _ => True) (QfM G (qI (fun r_ σ => r_ = luckI a_ h_ v_ x_ p_ ∧ ∃ (S2 Z2 : owF) (J2 : Nat → Nat → Int64), σ = (A, S2, Z2, B, T, V, J2, Y, P))) 0 0) 0 [(0, .ref (gK G 0 0)), (1, .int v_), (2, .int x_), (3, .int p_)] [] (A, S, Z, B, T, V, J, Y, P) 0 0
  refine m_aload_n 0 rfl rfl dX11_luck_0 ?_
  refine gf_X11_10 dX11_luck_1 ?_
  refine m_iload_n 1 rfl rfl dX11_luck_4 ?_
  refine m_callVi cv_X11_128 [.int v_] [] (k_hasWay l G 0 (by decide) a_ ho_ hR v_) (by decide) (ce_1 G _ _ _ _ _ _ _ _ _ _) rfl rfl rfl ⟨Nat.le_of_ble_eq_true rfl, Nat.le_of_ble_eq_true rfl⟩ (Nat.le_of_ble_eq_true rfl) ⟨Nat.zero_le _, Nat.zero_le _⟩ dX11_luck_5 (fun xx σ2 hq => ?_)
  obtain ⟨rfl, rfl⟩ := hq
  refine m_ifeq_b 18 dX11_luck_8 (by decide) (fun c1_ => ?_) (fun c1_ => ?_)
  ·
    refine m_iconst (-1) dX11_luck_18 rfl ?_
    exact m_iret dX11_luck_19 (Nat.le_refl _) (Nat.le_refl _) (⟨by first | (simp [luckI, c1_]; done) | (simp_all [luckI, rN, rX, rQ, rV]; done) | grind [luckI], _, _, _, rfl⟩)
  ·
    obtain ⟨wq, hwq, rfl⟩ := isW_nat ho_ c1_
    have hclwq : (nI wq).toNatClampNeg = wq := nI_clamp (by omega)
    refine m_iload_n 3 rfl rfl dX11_luck_11 ?_
    refine m_callSi cs_X11_131 [.int p_] [] (k_is01 l G p_) rfl rfl ⟨Nat.le_of_ble_eq_true rfl, Nat.le_of_ble_eq_true rfl⟩ (Nat.le_of_ble_eq_true rfl) ⟨Nat.zero_le _, Nat.zero_le _⟩ dX11_luck_12 (fun xx σ2 hq => ?_)
    obtain ⟨rfl, rfl⟩ := hq
    refine m_ifne_b 20 dX11_luck_15 (by decide) (fun c2_ => ?_) (fun c2_ => ?_)
    ·
      refine m_aload_n 0 rfl rfl dX11_luck_20 ?_
      refine m_iload_n 2 rfl rfl dX11_luck_21 ?_
      refine m_callVi cv_X11_176 [.int x_] [] (k_sheet l G h_ hRS x_) (by decide) (ce_0 G _ _ _ _ _ _ _ _ _ _) rfl rfl rfl ⟨Nat.le_of_ble_eq_true rfl, Nat.le_of_ble_eq_true rfl⟩ (Nat.le_of_ble_eq_true rfl) ⟨Nat.zero_le _, Nat.zero_le _⟩ dX11_luck_22 (fun xx σ2 hq => ?_)
      obtain ⟨rfl, S3, rfl, hsh⟩ := hq
      refine m_istore [(4, .int (shRefI h_ x_)), (0, .ref (gK G 0 0)), (1, .int (nI (wq))), (2, .int x_), (3, .int p_)] (by decide) rfl dX11_luck_25 ?_
      refine m_iload 0 rfl dX11_luck_27 ?_
      refine m_if_eq 37 dX11_luck_29 (by decide) (fun c4_ => ?_) (fun c4_ => ?_)
      ·
        have hb0 := c4_
        obtain ⟨dq, hdq, rfl, hk2, hs_⟩ := hsh hb0
        have hcldq : (nI dq).toNatClampNeg = dq := nI_clamp (by omega)
        refine m_aload_n 1 rfl rfl dX11_luck_37 ?_
        refine m_iload_n 2 rfl rfl dX11_luck_38 ?_
        refine m_iload_n 4 rfl rfl dX11_luck_39 ?_
        refine m_if_ne 47 dX11_luck_40 (by decide) (fun c5_ => ?_) (fun c5_ => ?_)
        ·
          refine m_iconst 0 dX11_luck_47 rfl ?_
          refine m_callVi cv_X11_199 [.int (nI (wq)), .int 0] [] (k_marksBy l G a_ ho_ hR (shN h_ dq) (shX h_ dq) (shY h_ dq) hs_ wq (by omega) false) (by decide) (ce_0 G _ _ _ _ _ _ _ _ _ _) rfl rfl rfl ⟨Nat.le_of_ble_eq_true rfl, Nat.le_of_ble_eq_true rfl⟩ (Nat.le_of_ble_eq_true rfl) ⟨Nat.zero_le _, Nat.zero_le _⟩ dX11_luck_48 (fun xx σ2 hq => ?_)
          obtain ⟨rfl, Z6, rfl⟩ := hq
          exact m_iret dX11_luck_51 (Nat.le_refl _) (Nat.le_refl _) (⟨by first | (simp [luckI, c1_, c2_, c4_, c5_, hclwq, hcldq, hb0, rN, rX, rQ, rV]; done) | (simp_all [luckI, rN, rX, rQ, rV]; done) | grind [luckI], _, _, _, rfl⟩)
        ·
          refine m_iconst 1 dX11_luck_43 rfl ?_
          refine m_goto 48 dX11_luck_44 (by decide) ?_
          refine m_callVi cv_X11_199 [.int (nI (wq)), .int 1] [] (k_marksBy l G a_ ho_ hR (shN h_ dq) (shX h_ dq) (shY h_ dq) hs_ wq (by omega) true) (by decide) (ce_0 G _ _ _ _ _ _ _ _ _ _) rfl rfl rfl ⟨Nat.le_of_ble_eq_true rfl, Nat.le_of_ble_eq_true rfl⟩ (Nat.le_of_ble_eq_true rfl) ⟨Nat.zero_le _, Nat.zero_le _⟩ dX11_luck_48 (fun xx σ2 hq => ?_)
          obtain ⟨rfl, Z7, rfl⟩ := hq
          exact m_iret dX11_luck_51 (Nat.le_refl _) (Nat.le_refl _) (⟨by first | (simp [luckI, c1_, c2_, c4_, c5_, hclwq, hcldq, hb0, rN, rX, rQ, rV]; done) | (simp_all [luckI, rN, rX, rQ, rV]; done) | grind [luckI], _, _, _, rfl⟩)
      ·
        refine m_iload 0 rfl dX11_luck_32 ?_
        refine m_goto 51 dX11_luck_34 (by decide) ?_
        exact m_iret dX11_luck_51 (Nat.le_refl _) (Nat.le_refl _) (⟨by first | (simp [luckI, c1_, c2_, c4_, hclwq]; done) | (simp_all [luckI, rN, rX, rQ, rV]; done) | grind [luckI], _, _, _, rfl⟩)
    ·
      refine m_iconst (-1) dX11_luck_18 rfl ?_
      exact m_iret dX11_luck_19 (Nat.le_refl _) (Nat.le_refl _) (⟨by first | (simp [luckI, c1_, c2_, hclwq]; done) | (simp_all [luckI, rN, rX, rQ, rV]; done) | grind [luckI], _, _, _, rfl⟩)
set_option maxRecDepth 100000 in
set_option maxHeartbeats 4000000 in
theorem k_groups (l : Launch) (G : owG) {A S Z B T V : owF} {J : Nat → Nat → Int64} {Y : Nat → Nat → Nat → Option Nat} {P : Nat → Option owW} (a_ : owK) (ho_ : aOk a_) (hR : RX A Y P 0 a_) (v_ : Int32) : Ct l G yX11_groups cX11_groups 2 ((some .int)) 3 0 0 [.ref (gK G 0 0), .int v_] (A, S, Z, B, T, V, J, Y, P) (qI (fun r_ σ => r_ = groupsI a_ v_ ∧ ∃ (S2 Z2 : owF) (J2 : Nat → Nat → Int64), σ = (A, S2, Z2, B, T, V, J2, Y, P))) := by
  refine ct_of (by decide +kernel) (Nat.le_of_ble_eq_true rfl) ?_
  have h10 := ho_.1
  have h8_ := ho_.2.1
  show Wm l G cX11_groups 2 RX11 ((some .int)) (rmk 3 0 0) (fun _ => True) (QfM G (qI (fun r_ σ => r_ = groupsI a_ v_ ∧ ∃ (S2 Z2 : owF) (J2 : Nat → Nat → Int64), σ = (A, S2, Z2, B, T, V, J2, Y, P))) 0 0) 0 [(0, .ref (gK G 0 0)), (1, .int v_)] [] (A, S, Z, B, T, V, J, Y, P) 0 0
  refine m_iload_n 1 rfl rfl dX11_groups_0 ?_
  refine m_if_lt 10 dX11_groups_1 (by decide) (fun c1_ => ?_) (fun c1_ => ?_)
  ·
    refine m_iconst (-1) dX11_groups_10 rfl ?_
    refine m_goto 19 dX11_groups_11 (by decide) ?_
    exact m_iret dX11_groups_19 (Nat.le_refl _) (Nat.le_refl _) (⟨by unfold groupsI; grind, _, _, _, rfl⟩)
  ·
    refine m_iload_n 1 rfl rfl dX11_groups_4 ?_
    refine m_bipush (8) dX11_groups_5 rfl ?_
    refine m_icmp_lt 14 dX11_groups_7 (by decide) (fun c2_ => ?_) (fun c2_ => ?_)
    ·
      refine m_aload_n 0 rfl rfl dX11_groups_14 ?_
      refine m_iload_n 1 rfl rfl dX11_groups_15 ?_
      refine m_callVi cv_X11_231 [.int v_] [] (k_childrenOf l G a_ ho_ hR v_) (by decide) (ce_0 G _ _ _ _ _ _ _ _ _ _) rfl rfl rfl ⟨Nat.le_of_ble_eq_true rfl, Nat.le_of_ble_eq_true rfl⟩ (Nat.le_of_ble_eq_true rfl) ⟨Nat.zero_le _, Nat.zero_le _⟩ dX11_groups_16 (fun xx σ2 hq => ?_)
      obtain ⟨rfl, rfl⟩ := hq
      have hch8 : chK a_ v_ ≤ 8 := Nat.le_trans (cntB_le _ _) ho_.2.1
      exact m_iret dX11_groups_19 (Nat.le_refl _) (Nat.le_refl _) (⟨by unfold groupsI; grind, _, _, _, rfl⟩)
    ·
      refine m_iconst (-1) dX11_groups_10 rfl ?_
      refine m_goto 19 dX11_groups_11 (by decide) ?_
      exact m_iret dX11_groups_19 (Nat.le_refl _) (Nat.le_refl _) (⟨by unfold groupsI; grind, _, _, _, rfl⟩)
set_option maxRecDepth 100000 in
set_option maxHeartbeats 4000000 in
theorem k_greatestP (l : Launch) (G : owG) {A S Z B T V : owF} {J : Nat → Nat → Int64} {Y : Nat → Nat → Nat → Option Nat} {P : Nat → Option owW} (a_ : owK) (ho_ : aOk a_) (hR : RX A Y P 0 a_)  : Ct l G yX11_greatest cX11_greatest 1 ((some .int)) 4 0 0 [.ref (gK G 0 0)] (A, S, Z, B, T, V, J, Y, P) (qI (fun r_ σ => r_ = greatestI a_ ∧ ∃ (S2 Z2 : owF) (J2 : Nat → Nat → Int64), σ = (A, S2, Z2, B, T, V, J2, Y, P))) := by
  refine ct_of (by decide +kernel) (Nat.le_of_ble_eq_true rfl) ?_
  have h10 := ho_.1
  have h8_ := ho_.2.1
  show Wm l G cX11_greatest 1 RX11 ((some .int)) (rmk 4 0 0) (fun _ => True) (QfM G (qI (fun r_ σ => r_ = greatestI a_ ∧ ∃ (S2 Z2 : owF) (J2 : Nat → Nat → Int64), σ = (A, S2, Z2, B, T, V, J2, Y, P))) 0 0) 0 [(0, .ref (gK G 0 0))] [] (A, S, Z, B, T, V, J, Y, P) 0 0
  refine m_aload_n 0 rfl rfl dX11_greatest_0 ?_
  refine m_iconst 0 dX11_greatest_1 rfl ?_
  refine m_callVi cv_X11_234 [.int 0] [] (k_greatest l G a_ ho_ hR 0) (by decide) (ce_0 G _ _ _ _ _ _ _ _ _ _) rfl rfl rfl ⟨Nat.le_of_ble_eq_true rfl, Nat.le_of_ble_eq_true rfl⟩ (Nat.le_of_ble_eq_true rfl) ⟨Nat.zero_le _, Nat.zero_le _⟩ dX11_greatest_2 (fun xx σ2 hq => ?_)
  obtain ⟨rfl, rfl⟩ := hq
  exact m_iret dX11_greatest_5 (Nat.le_refl _) (Nat.le_refl _) (⟨rfl, _, _, _, rfl⟩)
set_option maxRecDepth 100000 in
set_option maxHeartbeats 4000000 in
theorem k_count (l : Launch) (G : owG) {A S Z B T V : owF} {J : Nat → Nat → Int64} {Y : Nat → Nat → Nat → Option Nat} {P : Nat → Option owW} (a_ : owK) (ho_ : aOk a_) (hR : RX A Y P 0 a_) (x_ : Int32) : Ct l G yX11_count cX11_count 2 ((some .int)) 3 0 0 [.ref (gK G 0 0), .int x_] (A, S, Z, B, T, V, J, Y, P) (qI (fun r_ σ => r_ = countI a_ x_ ∧ ∃ (S2 Z2 : owF) (J2 : Nat → Nat → Int64), σ = (A, S2, Z2, B, T, V, J2, Y, P))) := by
  refine ct_of (by decide +kernel) (Nat.le_of_ble_eq_true rfl) ?_
  have h10 := ho_.1
  have h8_ := ho_.2.1
  show Wm l G cX11_count 2 RX11 ((some .int)) (rmk 3 0 0) (fun _ => True) (QfM G (qI (fun r_ σ => r_ = countI a_ x_ ∧ ∃ (S2 Z2 : owF) (J2 : Nat → Nat → Int64), σ = (A, S2, Z2, B, T, V, J2, Y, P))) 0 0) 0 [(0, .ref (gK G 0 0)), (1, .int x_)] [] (A, S, Z, B, T, V, J, Y, P) 0 0
  refine m_iload_n 1 rfl rfl dX11_count_0 ?_
  rcases Decidable.em (x_ = 0) with rfl | ej0
  ·
    refine m_tableIn 40 dX11_count_1 (by decide) (by decide) (by rfl) (by decide) ?_
    refine m_aload_n 0 rfl rfl dX11_count_40 ?_
    refine gf_X11_10 dX11_count_41 ?_
    refine gf_X11_164 (by decide) dX11_count_44 ?_
    refine m_topi hR.1 ?_
    exact m_iret dX11_count_47 (Nat.le_refl _) (Nat.le_refl _) (⟨by first | (simp [countI]; done) | (simp_all [countI, rN, rX, rQ, rV]; done) | grind [countI], _, _, _, rfl⟩)
  rcases Decidable.em (x_ = 1) with rfl | ej1
  ·
    refine m_tableIn 48 dX11_count_1 (by decide) (by decide) (by rfl) (by decide) ?_
    refine m_aload_n 0 rfl rfl dX11_count_48 ?_
    refine gf_X11_10 dX11_count_49 ?_
    refine gf_X11_222 (by decide) dX11_count_52 ?_
    refine m_topi hR.2.1 ?_
    exact m_iret dX11_count_55 (Nat.le_refl _) (Nat.le_refl _) (⟨by first | (simp [countI]; done) | (simp_all [countI, rN, rX, rQ, rV]; done) | grind [countI], _, _, _, rfl⟩)
  rcases Decidable.em (x_ = 2) with rfl | ej2
  ·
    refine m_tableIn 56 dX11_count_1 (by decide) (by decide) (by rfl) (by decide) ?_
    refine m_aload_n 0 rfl rfl dX11_count_56 ?_
    refine m_callVi cv_X11_263 [] [] (k_rightKind l G a_ ho_ hR) (by decide) (ce_0 G _ _ _ _ _ _ _ _ _ _) rfl rfl rfl ⟨Nat.le_of_ble_eq_true rfl, Nat.le_of_ble_eq_true rfl⟩ (Nat.le_of_ble_eq_true rfl) ⟨Nat.zero_le _, Nat.zero_le _⟩ dX11_count_57 (fun xx σ2 hq => ?_)
    obtain ⟨rfl, rfl⟩ := hq
    exact m_iret dX11_count_60 (Nat.le_refl _) (Nat.le_refl _) (⟨by first | (simp [countI]; done) | (simp_all [countI, rN, rX, rQ, rV]; done) | grind [countI], _, _, _, rfl⟩)
  rcases Decidable.em (x_ = 3) with rfl | ej3
  ·
    refine m_tableIn 61 dX11_count_1 (by decide) (by decide) (by rfl) (by decide) ?_
    refine m_aload_n 0 rfl rfl dX11_count_61 ?_
    refine m_aload_n 0 rfl rfl dX11_count_62 ?_
    refine gf_X11_10 dX11_count_63 ?_
    refine m_callVi cv_X11_266 [] [.ref (gK G 0 0)] (k_allWays l G 0 (by decide) a_ ho_ hR) (by decide) (ce_1 G _ _ _ _ _ _ _ _ _ _) rfl rfl rfl ⟨Nat.le_of_ble_eq_true rfl, Nat.le_of_ble_eq_true rfl⟩ (Nat.le_of_ble_eq_true rfl) ⟨Nat.zero_le _, Nat.zero_le _⟩ dX11_count_66 (fun xx σ2 hq => ?_)
    obtain ⟨rfl, rfl⟩ := hq
    refine m_callVi cv_X11_173 [.int (allI a_)] [] (k_weightOfAll l G a_ ho_ hR (allI a_)) (by decide) (ce_0 G _ _ _ _ _ _ _ _ _ _) rfl rfl rfl ⟨Nat.le_of_ble_eq_true rfl, Nat.le_of_ble_eq_true rfl⟩ (Nat.le_of_ble_eq_true rfl) ⟨Nat.zero_le _, Nat.zero_le _⟩ dX11_count_69 (fun xx σ2 hq => ?_)
    obtain ⟨rfl, rfl⟩ := hq
    exact m_iret dX11_count_72 (Nat.le_refl _) (Nat.le_refl _) (⟨by first | (simp [countI]; done) | (simp_all [countI, rN, rX, rQ, rV]; done) | grind [countI], _, _, _, rfl⟩)
  rcases Decidable.em (x_ = 4) with rfl | ej4
  ·
    refine m_tableIn 73 dX11_count_1 (by decide) (by decide) (by rfl) (by decide) ?_
    refine m_aload_n 0 rfl rfl dX11_count_73 ?_
    refine m_callVi cv_X11_269 [] [] (k_changed l G a_ ho_ hR) (by decide) (ce_0 G _ _ _ _ _ _ _ _ _ _) rfl rfl rfl ⟨Nat.le_of_ble_eq_true rfl, Nat.le_of_ble_eq_true rfl⟩ (Nat.le_of_ble_eq_true rfl) ⟨Nat.zero_le _, Nat.zero_le _⟩ dX11_count_74 (fun xx σ2 hq => ?_)
    obtain ⟨rfl, rfl⟩ := hq
    exact m_iret dX11_count_77 (Nat.le_refl _) (Nat.le_refl _) (⟨by first | (simp [countI]; done) | (simp_all [countI, rN, rX, rQ, rV]; done) | grind [countI], _, _, _, rfl⟩)
  rcases Decidable.em (x_ = 5) with rfl | ej5
  ·
    refine m_tableIn 78 dX11_count_1 (by decide) (by decide) (by rfl) (by decide) ?_
    refine m_aload_n 0 rfl rfl dX11_count_78 ?_
    refine gf_X11_10 dX11_count_79 ?_
    refine m_callVi cv_X11_272 [] [] (k_toldCount l G 0 (by decide) a_ ho_ hR) (by decide) (ce_1 G _ _ _ _ _ _ _ _ _ _) rfl rfl rfl ⟨Nat.le_of_ble_eq_true rfl, Nat.le_of_ble_eq_true rfl⟩ (Nat.le_of_ble_eq_true rfl) ⟨Nat.zero_le _, Nat.zero_le _⟩ dX11_count_82 (fun xx σ2 hq => ?_)
    obtain ⟨rfl, rfl⟩ := hq
    exact m_iret dX11_count_85 (Nat.le_refl _) (Nat.le_refl _) (⟨by first | (simp [countI]; done) | (simp_all [countI, rN, rX, rQ, rV]; done) | grind [countI], _, _, _, rfl⟩)
  refine m_tableOut 86 dX11_count_1 (sw_out (x := x_) (n := 5) (by decide) (by rfl) (fun j_ hj => match j_, hj with | 0, _ => ej0 | 1, _ => ej1 | 2, _ => ej2 | 3, _ => ej3 | 4, _ => ej4 | 5, _ => ej5 | j_ + 6, hj => absurd hj (by omega))) (by decide) ?_
  refine m_iconst (-1) dX11_count_86 rfl ?_
  exact m_iret dX11_count_87 (Nat.le_refl _) (Nat.le_refl _) (⟨by first | (simp [countI, ej0, ej1, ej2, ej3, ej4, ej5]; done) | (simp_all [countI, rN, rX, rQ, rV]; done) | grind [countI], _, _, _, rfl⟩)
