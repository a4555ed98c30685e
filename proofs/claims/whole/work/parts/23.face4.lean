/-! the class's state as a whole: the class now, its image, the shelves -/
def imI : Option owK → Int32
  | none => 0
  | some _ => 1
def CR (A : owF) (Y : Nat → Nat → Nat → Option Nat) (P : Nat → Option owW) (a : owK) (im : Option owK) (h : owH) : Prop :=
  RX A Y P 0 a ∧ A 0 0 3 = imI im ∧ (∀ b, im = some b → RX A Y P 2 b) ∧ allRS A Y P h ∧ YOk Y P
theorem RS.sch {A A2 : owF} {Y Y2 : Nat → Nat → Nat → Option Nat} {P : Nat → Option owW} {i d : Nat} {h : owH} (hr : RS A Y P d h) (hs : sfr i A A2) (hy : yfr i Y Y2) : RS A2 Y2 P d h := by
  have e3 : ∀ c, A2 3 d c = A 3 d c := fun c => hs 3 d c (fun q => absurd q.2 (by decide))
  have e16 : ∀ c, A2 16 d c = A 16 d c := fun c => hs 16 d c (fun q => absurd q.2 (by decide))
  have ey : Y2 3 d 0 = Y 3 d 0 := hy 3 d 0 (fun q => absurd q.2 (by decide))
  unfold RS at hr ⊢
  rw [ey, e3, e3]
  simp only [e16]
  exact hr
theorem CR.sch0 {A A2 : owF} {Y Y2 : Nat → Nat → Nat → Option Nat} {P : Nat → Option owW} {a a2 : owK} {im : Option owK} {h : owH} (hC : CR A Y P a im h) (hs : sfr 0 A A2) (hy : yfr 0 Y Y2) (hk : YOk Y2 P) (hR : RX A2 Y2 P 0 a2) : CR A2 Y2 P a2 im h :=
  ⟨hR, (hs 0 0 3 (fun q => absurd q.2 (by decide))).trans hC.2.1, fun b hb => (hC.2.2.1 b hb).keep hs hy (by decide), fun d hd => (hC.2.2.2.1 d hd).sch hs hy, hk⟩
theorem CR.shelf {A A2 : owF} {Y Y2 : Nat → Nat → Nat → Option Nat} {P : Nat → Option owW} {a : owK} {im : Option owK} {h h2 : owH} {d : Nat} (hC : CR A Y P a im h) (hs : dfr d A A2) (hy : dyf d Y Y2) (hr : RS A2 Y2 P d h2) (he : ∀ k, k ≠ d → h2 k = h k) : CR A2 Y2 P a im h2 := by
  refine ⟨hC.1.shelf hs hy, (hs 0 0 3 (fun q => absurd q.2 (by decide))).trans hC.2.1, fun b hb => (hC.2.2.1 b hb).shelf hs hy, fun k hk => ?_, fun i w ad hi hw q => hC.2.2.2.2 i w ad hi hw ((hy 15 i w (fun q => absurd q.2 (by decide))).symm.trans q)⟩
  rcases Decidable.em (k = d) with q | q
  · rw [q]; exact hr
  · exact (hC.2.2.2.1 k hk).keep hs hy q (he k q)
theorem up3_o {α : Type} {f g : Nat → Nat → Nat → α} {t i j : Nat} {v : α} (e : g = up3 f t i j v) (t2 i2 j2 : Nat) (h : ¬ (t2 = t ∧ i2 = i ∧ j2 = j)) : g t2 i2 j2 = f t2 i2 j2 := by
  rw [e]
  unfold up3
  exact if_neg h
/-- the image taken -/
theorem CR.img {A A2 A3 : owF} {Y Y2 : Nat → Nat → Nat → Option Nat} {P : Nat → Option owW} {a : owK} {im : Option owK} {h : owH} (hC : CR A Y P a im h) (hR : RX A2 Y2 P 2 a) (hs : sfr 2 A A2) (hy : yfr 2 Y Y2) (hk : YOk Y2 P) (e : A3 = up3 A2 0 0 3 1) : CR A3 Y2 P a (some a) h := by
  have f : ∀ t k c, t ≠ 0 → A3 t k c = A2 t k c := fun t k c ht => up3_o e t k c (fun q => ht q.1)
  have g : ∀ i b, RX A2 Y2 P i b → RX A3 Y2 P i b := fun i b q => by
    refine ⟨(f 1 i 1 (by decide)).trans q.1, (f 1 i 5 (by decide)).trans q.2.1, q.2.2.1, fun c hc => ?_, fun j hj => (f 13 i j (by decide)).trans (q.2.2.2.2 j hj)⟩
    rw [f 10 i c (by decide), f 11 i c (by decide), f 12 i c (by decide)]
    exact q.2.2.2.1 c hc
  refine ⟨g 0 a (hC.1.keep hs hy (by decide)), up3_e e, fun b hb => ?_, fun d hd => ?_, hk⟩
  · cases hb; exact g 2 a hR
  · have q := (hC.2.2.2.1 d hd).sch hs hy
    unfold RS at q ⊢
    rw [f 3 d 1 (by decide), f 3 d 2 (by decide)]
    simp only [fun j => f 16 d j (by decide)]
    exact q
def setS (a : owK) (c n : Nat) : owK := (aN a, a.2.1, aC a, (fun j => if j = c then (aH a j, n, aI a j) else a.2.2.2.1 j), a.2.2.2.2)
def setH (a : owK) (c w : Nat) : owK := (aN a, a.2.1, aC a, (fun j => if j = c then (w, aS a j, aI a j) else a.2.2.2.1 j), a.2.2.2.2)
theorem setS_ok {a : owK} {c n : Nat} (ho : aOk a) (hn : n ≤ 50) : aOk (setS a c n) := by
  refine ⟨ho.1, ho.2.1, ho.2.2.1, fun j hj => ?_, ho.2.2.2.2⟩
  have h := ho.2.2.2.1 j hj
  rcases Decidable.em (j = c) with q | q
  · unfold setS aH aS aI; simp only [if_pos q]; exact ⟨h.1, hn, h.2.2⟩
  · unfold setS aH aS aI; simp only [if_neg q]; exact h
theorem setH_ok {a : owK} {c w : Nat} (ho : aOk a) (hw : w < aN a) : aOk (setH a c w) := by
  refine ⟨ho.1, ho.2.1, ho.2.2.1, fun j hj => ?_, ho.2.2.2.2⟩
  have h := ho.2.2.2.1 j hj
  rcases Decidable.em (j = c) with q | q
  · unfold setH aH aS aI; simp only [if_pos q]; exact ⟨hw, h.2.1, h.2.2⟩
  · unfold setH aH aS aI; simp only [if_neg q]; exact h
theorem RX.setS {A A2 : owF} {Y : Nat → Nat → Nat → Option Nat} {P : Nat → Option owW} {i c n : Nat} {a : owK} (h : RX A Y P i a) (e : A2 = up3 A 12 i c (nI n)) : RX A2 Y P i (setS a c n) := by
  have f : ∀ t j, t ≠ 12 → A2 t i j = A t i j := fun t j ht => up3_o e t i j (fun q => ht q.1)
  refine ⟨(f 1 1 (by decide)).trans h.1, (f 1 5 (by decide)).trans h.2.1, h.2.2.1, fun j hj => ?_, fun j hj => (f 13 j (by decide)).trans (h.2.2.2.2 j hj)⟩
  have g := h.2.2.2.1 j hj
  rw [f 10 j (by decide), f 11 j (by decide)]
  rcases Decidable.em (j = c) with q | q
  · subst q
    unfold Jvm.Pilot.COwnWaysLaw_law_r6735_8123bf.setS aH aS aI; simp only [if_true]; exact ⟨g.1, up3_e e, g.2.2⟩
  · rw [up3_o e 12 i j (fun z => q z.2.2)]
    unfold Jvm.Pilot.COwnWaysLaw_law_r6735_8123bf.setS aH aS aI; simp only [if_neg q]; exact g
theorem RX.setH {A A2 : owF} {Y : Nat → Nat → Nat → Option Nat} {P : Nat → Option owW} {i c w : Nat} {a : owK} (h : RX A Y P i a) (e : A2 = up3 A 10 i c (nI w)) : RX A2 Y P i (setH a c w) := by
  have f : ∀ t j, t ≠ 10 → A2 t i j = A t i j := fun t j ht => up3_o e t i j (fun q => ht q.1)
  refine ⟨(f 1 1 (by decide)).trans h.1, (f 1 5 (by decide)).trans h.2.1, h.2.2.1, fun j hj => ?_, fun j hj => (f 13 j (by decide)).trans (h.2.2.2.2 j hj)⟩
  have g := h.2.2.2.1 j hj
  rw [f 12 j (by decide), f 11 j (by decide)]
  rcases Decidable.em (j = c) with q | q
  · subst q
    unfold Jvm.Pilot.COwnWaysLaw_law_r6735_8123bf.setH aH aS aI; simp only [if_true]; exact ⟨up3_e e, g.2.1, g.2.2⟩
  · rw [up3_o e 10 i j (fun z => q z.2.2)]
    unfold Jvm.Pilot.COwnWaysLaw_law_r6735_8123bf.setH aH aS aI; simp only [if_neg q]; exact g
def slipsB (a : owK) (x n : Int32) : Bool := isC a x && decide (0 ≤ n ∧ n ≤ 50)
def slipsI (a : owK) (x n : Int32) : Int32 := if slipsB a x n then nI (aS a x.toNatClampNeg) else -1
def slipsA (a : owK) (x n : Int32) : owK := if slipsB a x n then setS a x.toNatClampNeg n.toNatClampNeg else a
def sayB (a : owK) (x n : Int32) : Bool := isC a x && decide (0 ≤ n ∧ n < 10)
def sayI (a : owK) (x n : Int32) : Int32 := if sayB a x n then nI (tdW a n.toNatClampNeg (aH a x.toNatClampNeg)) else -1
def sayA (a : owK) (x n : Int32) : owK := if sayB a x n then setH a x.toNatClampNeg (tdW a n.toNatClampNeg (aH a x.toNatClampNeg)) else a
def updH (h : owH) (d : Nat) (t : Nat × Nat × Nat × (Nat → Int32) × Nat × Nat × Nat) : owH := fun j => if j = d then t else h j
theorem updH_o {h : owH} {d k : Nat} {t : Nat × Nat × Nat × (Nat → Int32) × Nat × Nat × Nat} (q : k ≠ d) : updH h d t k = h k := if_neg q
theorem updH_e {h : owH} {d : Nat} {t : Nat × Nat × Nat × (Nat → Int32) × Nat × Nat × Nat} : updH h d t d = t := if_pos rfl
theorem RS.emp {A : owF} {Y : Nat → Nat → Nat → Option Nat} {P : Nat → Option owW} {d : Nat} {h : owH} {f : Nat → Int32} {n1 n2 n3 n4 n5 : Nat} (h1 : Y 3 d 0 = none) (h2 : A 3 d 1 = -1) : RS A Y P d (updH h d (0, n1, n2, f, n3, n4, n5)) := by
  unfold RS hK
  rw [updH_e]
  exact Or.inl ⟨rfl, h1, h2⟩
theorem RS.way {A : owF} {Y : Nat → Nat → Nat → Option Nat} {P : Nat → Option owW} {d : Nat} {h : owH} {f : Nat → Int32} {n1 n2 kd nn fg ad : Nat} {wt : Int32} (h1 : Y 3 d 0 = some ad) (hP : P ad = some (kd, nI nn, nI fg, wt)) (hk : kd < 8) (hf9 : fg ≤ 9) (hn9 : nn < 10) (h2 : A 3 d 1 = -1) : RS A Y P d (updH h d (1, n1, n2, f, kd, nn, fg)) := by
  unfold RS hK hW hn hf
  rw [updH_e]
  exact Or.inr (Or.inl ⟨rfl, ⟨ad, wt, h1, hP⟩, hk, hf9, hn9, h2⟩)
theorem RS.rows {A : owF} {Y : Nat → Nat → Nat → Option Nat} {P : Nat → Option owW} {d : Nat} {h : owH} {f : Nat → Int32} {so n n3 n4 n5 : Nat} (h1 : Y 3 d 0 = none) (h2 : A 3 d 1 = nI so) (hs : so ≤ 2) (h3 : A 3 d 2 = nI n) (hn9 : n ≤ 100) (hz : ∀ j, j < 100 → A 16 d j = f j) : RS A Y P d (updH h d (2, so, n, f, n3, n4, n5)) := by
  unfold RS hK hSo hN hE
  rw [updH_e]
  exact Or.inr (Or.inr ⟨rfl, h1, h2, hs, h3, hn9, hz⟩)
def kpB (a : owK) (d w k : Int32) : Bool := isD d && (is01 w && (decide (¬ w = 1) || isW a k))
def kpI (a : owK) (d w k : Int32) : Int32 := if kpB a d w k then 0 else -1
def kpH (a : owK) (h : owH) (d w k : Int32) : owH := if kpB a d w k then (if w = 1 then updH h d.toNatClampNeg (1, 0, 0, fun _ => 0, aK a k.toNatClampNeg, k.toNatClampNeg, aF a k.toNatClampNeg) else updH h d.toNatClampNeg (0, 0, 0, fun _ => 0, 0, 0, 0)) else h
def rowB (d so n : Int32) : Bool := isD d && decide (0 ≤ so ∧ so ≤ 2 ∧ n ≤ 100)
def rowI (d so n : Int32) : Int32 := if rowB d so n then (if n < 0 then -14 else 0) else -1
def rowH (h : owH) (d so n : Int32) : owH := if rowB d so n then (if n < 0 then h else updH h d.toNatClampNeg (2, so.toNatClampNeg, n.toNatClampNeg, fun _ => 0, 0, 0, 0)) else h
def putI (h : owH) (d i : Int32) : Int32 := if isD d then (if rowRef h d.toNatClampNeg = 0 then (if placeB h d.toNatClampNeg i then 0 else -13) else rowRef h d.toNatClampNeg) else -1
def putH (h : owH) (d i v : Int32) : owH := if putI h d i = 0 then updH h d.toNatClampNeg (2, hSo h d.toNatClampNeg, hN h d.toNatClampNeg, fun j => if j = i.toNatClampNeg then narI (hSo h d.toNatClampNeg) v else hE h d.toNatClampNeg j, 0, 0, 0) else h
set_option maxRecDepth 100000 in
set_option maxHeartbeats 4000000 in
theorem k_slips (l : Launch) (G : owG) {A S Z B T V : owF} {J : Nat → Nat → Int64} {Y : Nat → Nat → Nat → Option Nat} {P : Nat → Option owW} (a_ : owK) (ho_ : aOk a_) (im : Option owK) (h_ : owH) (hC : CR A Y P a_ im h_) (x_ n_ : Int32) : Ct l G yX11_slips cX11_slips 4 ((some .int)) 1 0 0 [.ref (gK G 0 0), .int x_, .int n_] (A, S, Z, B, T, V, J, Y, P) (qI (fun r_ σ => r_ = slipsI a_ x_ n_ ∧ ∃ (A2 S2 Z2 : owF) (J2 : Nat → Nat → Int64) (Y2 : Nat → Nat → Nat → Option Nat), σ = (A2, S2, Z2, B, T, V, J2, Y2, P) ∧ CR A2 Y2 P (slipsA a_ x_ n_) (im) (h_))) := by
  refine ct_of (by decide +kernel) (Nat.le_of_ble_eq_true rfl) ?_
  have h10 := ho_.1
  have h8_ := ho_.2.1
  have hR := hC.1
  have hRS := hC.2.2.2.1
  show Wm l G cX11_slips 4 RX11 ((some .int)) (rmk 1 0 0) (fun _ => True) (QfM G (qI (fun r_ σ => r_ = slipsI a_ x_ n_ ∧ ∃ (A2 S2 Z2 : owF) (J2 : Nat → Nat → Int64) (Y2 : Nat → Nat → Nat → Option Nat), σ = (A2, S2, Z2, B, T, V, J2, Y2, P) ∧ CR A2 Y2 P (slipsA a_ x_ n_) (im) (h_))) 0 0) 0 [(0, .ref (gK G 0 0)), (1, .int x_), (2, .int n_)] [] (A, S, Z, B, T, V, J, Y, P) 0 0
  refine m_aload_n 0 rfl rfl dX11_slips_0 ?_
  refine gf_X11_10 dX11_slips_1 ?_
  refine m_iload_n 1 rfl rfl dX11_slips_4 ?_
  refine m_callVi cv_X11_95 [.int x_] [] (k_hasChild l G 0 (by decide) a_ ho_ hR x_) (by decide) (ce_1 G _ _ _ _ _ _ _ _ _ _) rfl rfl rfl ⟨Nat.le_of_ble_eq_true rfl, Nat.le_of_ble_eq_true rfl⟩ (Nat.le_of_ble_eq_true rfl) ⟨Nat.zero_le _, Nat.zero_le _⟩ dX11_slips_5 (fun xx σ2 hq => ?_)
  obtain ⟨rfl, rfl⟩ := hq
  refine m_ifeq_b 21 dX11_slips_8 (by decide) (fun c1_ => ?_) (fun c1_ => ?_)
  ·
    refine m_iconst (-1) dX11_slips_21 rfl ?_
    exact m_iret dX11_slips_22 (Nat.le_refl _) (Nat.le_refl _) (⟨by unfold slipsI slipsB; grind, _, _, _, _, _, rfl, by rw [show slipsA a_ x_ n_ = a_ from by unfold slipsA slipsB; grind]; exact hC⟩)
  ·
    obtain ⟨cq, hcq, rfl⟩ := isC_nat ho_ c1_
    have hclcq : (nI cq).toNatClampNeg = cq := nI_clamp (by omega)
    refine m_iload_n 2 rfl rfl dX11_slips_11 ?_
    refine m_if_lt 21 dX11_slips_12 (by decide) (fun c2_ => ?_) (fun c2_ => ?_)
    ·
      refine m_iconst (-1) dX11_slips_21 rfl ?_
      exact m_iret dX11_slips_22 (Nat.le_refl _) (Nat.le_refl _) (⟨by unfold slipsI slipsB; grind, _, _, _, _, _, rfl, by rw [show slipsA a_ (nI (cq)) n_ = a_ from by unfold slipsA slipsB; grind]; exact hC⟩)
    ·
      refine m_iload_n 2 rfl rfl dX11_slips_15 ?_
      refine m_bipush (50) dX11_slips_16 rfl ?_
      refine m_icmp_le 23 dX11_slips_18 (by decide) (fun c3_ => ?_) (fun c3_ => ?_)
      ·
        obtain ⟨nq, hnq, rfl⟩ := nI_of2 (M := 50) (n := 50) (x := n_) (by decide) c2_ c3_
        have hclnq : (nI nq).toNatClampNeg = nq := nI_clamp (by omega)
        have hb : slipsB a_ (nI cq) (nI nq) = true := by unfold slipsB; rw [c1_, Bool.true_and]; exact decide_eq_true ⟨nI_pos' (by omega), c3_⟩
        refine m_aload_n 0 rfl rfl dX11_slips_23 ?_
        refine gf_X11_10 dX11_slips_24 ?_
        refine gf_X11_106 (by decide) dX11_slips_27 ?_
        refine m_iload_n 1 rfl rfl dX11_slips_30 ?_
        refine m_callSi cs_X11_102 [.ref (gK G 12 0), .int (nI (cq))] [] (k_at (t := 12) (n := 8) l G (by decide) (ce_12 G _ _ _ _ _ _ _ _ _ 0) (by decide) (nI (cq))) rfl rfl ⟨Nat.le_of_ble_eq_true rfl, Nat.le_of_ble_eq_true rfl⟩ (Nat.le_of_ble_eq_true rfl) ⟨Nat.zero_le _, Nat.zero_le _⟩ dX11_slips_31 (fun xx σ2 hq => ?_)
        obtain rfl : xx = A 12 0 cq := hq.1.trans (atV_in (by omega) (by decide))
        obtain rfl := hq.2
        refine m_topi (hR.2.2.2.1 cq hcq).2.1 ?_
        refine m_istore_n [(3, .int (nI (aS a_ cq))), (0, .ref (gK G 0 0)), (1, .int (nI (cq))), (2, .int (nI (nq)))] rfl (by decide) rfl dX11_slips_34 ?_
        refine m_aload_n 1 rfl rfl dX11_slips_35 ?_
        refine gf_X11_10 dX11_slips_36 ?_
        refine gf_X11_106 (by decide) dX11_slips_39 ?_
        refine m_iload_n 2 rfl rfl dX11_slips_42 ?_
        refine m_iload_n 3 rfl rfl dX11_slips_43 ?_
        refine m_callSv cs_X11_116 [.ref (gK G 12 0), .int (nI (cq)), .int (nI (nq))] [] (k_set_12 l G (by decide) cq (by omega) (nI (nq))) rfl rfl ⟨Nat.le_of_ble_eq_true rfl, Nat.le_of_ble_eq_true rfl⟩ (Nat.le_of_ble_eq_true rfl) ⟨Nat.zero_le _, Nat.zero_le _⟩ dX11_slips_44 (fun σ2 hq => ?_)
        obtain rfl := hq
        obtain ⟨A5, hA5⟩ : ∃ q_ : owF, q_ = up3 A 12 0 cq (nI (nq)) := ⟨_, rfl⟩
        rw [← hA5]
        refine m_iload_n 0 rfl rfl dX11_slips_47 ?_
        exact m_iret dX11_slips_48 (Nat.le_refl _) (Nat.le_refl _) (⟨by unfold slipsI; rw [hb, hclcq]; rfl, _, _, _, _, _, rfl, by unfold slipsA; rw [hb, hclcq, hclnq]; exact hC.sch0 (sfr_up sfr_rf hA5 rfl) yfr_rf hC.2.2.2.2 (hR.setS hA5)⟩)
      ·
        refine m_iconst (-1) dX11_slips_21 rfl ?_
        exact m_iret dX11_slips_22 (Nat.le_refl _) (Nat.le_refl _) (⟨by unfold slipsI slipsB; grind, _, _, _, _, _, rfl, by rw [show slipsA a_ (nI (cq)) n_ = a_ from by unfold slipsA slipsB; grind]; exact hC⟩)
set_option maxRecDepth 100000 in
set_option maxHeartbeats 4000000 in
theorem k_say (l : Launch) (G : owG) {A S Z B T V : owF} {J : Nat → Nat → Int64} {Y : Nat → Nat → Nat → Option Nat} {P : Nat → Option owW} (a_ : owK) (ho_ : aOk a_) (im : Option owK) (h_ : owH) (hC : CR A Y P a_ im h_) (x_ n_ : Int32) : Ct l G yX11_say cX11_say 4 ((some .int)) 3 0 0 [.ref (gK G 0 0), .int x_, .int n_] (A, S, Z, B, T, V, J, Y, P) (qI (fun r_ σ => r_ = sayI a_ x_ n_ ∧ ∃ (A2 S2 Z2 : owF) (J2 : Nat → Nat → Int64) (Y2 : Nat → Nat → Nat → Option Nat), σ = (A2, S2, Z2, B, T, V, J2, Y2, P) ∧ CR A2 Y2 P (sayA a_ x_ n_) (im) (h_))) := by
  refine ct_of (by decide +kernel) (Nat.le_of_ble_eq_true rfl) ?_
  have h10 := ho_.1
  have h8_ := ho_.2.1
  have hR := hC.1
  have hRS := hC.2.2.2.1
  show Wm l G cX11_say 4 RX11 ((some .int)) (rmk 3 0 0) (fun _ => True) (QfM G (qI (fun r_ σ => r_ = sayI a_ x_ n_ ∧ ∃ (A2 S2 Z2 : owF) (J2 : Nat → Nat → Int64) (Y2 : Nat → Nat → Nat → Option Nat), σ = (A2, S2, Z2, B, T, V, J2, Y2, P) ∧ CR A2 Y2 P (sayA a_ x_ n_) (im) (h_))) 0 0) 0 [(0, .ref (gK G 0 0)), (1, .int x_), (2, .int n_)] [] (A, S, Z, B, T, V, J, Y, P) 0 0
  refine m_aload_n 0 rfl rfl dX11_say_0 ?_
  refine gf_X11_10 dX11_say_1 ?_
  refine m_iload_n 1 rfl rfl dX11_say_4 ?_
  refine m_callVi cv_X11_95 [.int x_] [] (k_hasChild l G 0 (by decide) a_ ho_ hR x_) (by decide) (ce_1 G _ _ _ _ _ _ _ _ _ _) rfl rfl rfl ⟨Nat.le_of_ble_eq_true rfl, Nat.le_of_ble_eq_true rfl⟩ (Nat.le_of_ble_eq_true rfl) ⟨Nat.zero_le _, Nat.zero_le _⟩ dX11_say_5 (fun xx σ2 hq => ?_)
  obtain ⟨rfl, rfl⟩ := hq
  refine m_ifeq_b 21 dX11_say_8 (by decide) (fun c1_ => ?_) (fun c1_ => ?_)
  ·
    refine m_iconst (-1) dX11_say_21 rfl ?_
    exact m_iret dX11_say_22 (Nat.le_refl _) (Nat.le_refl _) (⟨by unfold sayI sayB; grind, _, _, _, _, _, rfl, by rw [show sayA a_ x_ n_ = a_ from by unfold sayA sayB; grind]; exact hC⟩)
  ·
    obtain ⟨cq, hcq, rfl⟩ := isC_nat ho_ c1_
    have hclcq : (nI cq).toNatClampNeg = cq := nI_clamp (by omega)
    refine m_iload_n 2 rfl rfl dX11_say_11 ?_
    refine m_if_lt 21 dX11_say_12 (by decide) (fun c2_ => ?_) (fun c2_ => ?_)
    ·
      refine m_iconst (-1) dX11_say_21 rfl ?_
      exact m_iret dX11_say_22 (Nat.le_refl _) (Nat.le_refl _) (⟨by unfold sayI sayB; grind, _, _, _, _, _, rfl, by rw [show sayA a_ (nI (cq)) n_ = a_ from by unfold sayA sayB; grind]; exact hC⟩)
    ·
      refine m_iload_n 2 rfl rfl dX11_say_15 ?_
      refine m_bipush (10) dX11_say_16 rfl ?_
      refine m_icmp_lt 23 dX11_say_18 (by decide) (fun c3_ => ?_) (fun c3_ => ?_)
      ·
        obtain ⟨nq, hnq, rfl⟩ := natOf2 (n := 10) (x := n_) (Int32.not_lt.mp c2_) c3_ (by decide)
        have hclnq : (nI nq).toNatClampNeg = nq := nI_clamp (by omega)
        have hch := ho_.2.2.2.1 cq hcq
        have hb : sayB a_ (nI cq) (nI nq) = true := by unfold sayB; rw [c1_, Bool.true_and]; exact decide_eq_true ⟨nI_pos' (by omega), c3_⟩
        refine m_aload_n 0 rfl rfl dX11_say_23 ?_
        refine gf_X11_10 dX11_say_24 ?_
        refine m_iload_n 2 rfl rfl dX11_say_27 ?_
        refine m_aload_n 0 rfl rfl dX11_say_28 ?_
        refine gf_X11_10 dX11_say_29 ?_
        refine gf_X11_99 (by decide) dX11_say_32 ?_
        refine m_iload_n 1 rfl rfl dX11_say_35 ?_
        refine m_callSi cs_X11_102 [.ref (gK G 10 0), .int (nI (cq))] [.int (nI (nq)), .ref (gK G 1 0)] (k_at (t := 10) (n := 8) l G (by decide) (ce_10 G _ _ _ _ _ _ _ _ _ 0) (by decide) (nI (cq))) rfl rfl ⟨Nat.le_of_ble_eq_true rfl, Nat.le_of_ble_eq_true rfl⟩ (Nat.le_of_ble_eq_true rfl) ⟨Nat.zero_le _, Nat.zero_le _⟩ dX11_say_36 (fun xx σ2 hq => ?_)
        obtain rfl : xx = A 10 0 cq := hq.1.trans (atV_in (by omega) (by decide))
        obtain rfl := hq.2
        refine m_topi (hR.2.2.2.1 cq hcq).1 ?_
        refine m_callVi cv_X11_112 [.int (nI (nq)), .int (nI (aH a_ cq))] [] (k_toldBy l G 0 (by decide) a_ ho_ hR (nI (nq)) (nI (aH a_ cq))) (by decide) (ce_1 G _ _ _ _ _ _ _ _ _ _) rfl rfl rfl ⟨Nat.le_of_ble_eq_true rfl, Nat.le_of_ble_eq_true rfl⟩ (Nat.le_of_ble_eq_true rfl) ⟨Nat.zero_le _, Nat.zero_le _⟩ dX11_say_39 (fun xx σ2 hq => ?_)
        obtain ⟨hgx, rfl⟩ := hq
        obtain rfl := hgx.trans (toldI_nat (k := nq) ho_ (by omega) hch.1)
        refine m_istore_n [(3, .int (nI (tdW a_ nq (aH a_ cq)))), (0, .ref (gK G 0 0)), (1, .int (nI (cq))), (2, .int (nI (nq)))] rfl (by decide) rfl dX11_say_42 ?_
        refine m_aload_n 1 rfl rfl dX11_say_43 ?_
        refine gf_X11_10 dX11_say_44 ?_
        refine gf_X11_99 (by decide) dX11_say_47 ?_
        refine m_iload_n 2 rfl rfl dX11_say_50 ?_
        refine m_iload_n 0 rfl rfl dX11_say_51 ?_
        refine m_callSv cs_X11_116 [.ref (gK G 10 0), .int (nI (cq)), .int (nI (tdW a_ nq (aH a_ cq)))] [] (k_set_10 l G (by decide) cq (by omega) (nI (tdW a_ nq (aH a_ cq)))) rfl rfl ⟨Nat.le_of_ble_eq_true rfl, Nat.le_of_ble_eq_true rfl⟩ (Nat.le_of_ble_eq_true rfl) ⟨Nat.zero_le _, Nat.zero_le _⟩ dX11_say_52 (fun σ2 hq => ?_)
        obtain rfl := hq
        obtain ⟨A5, hA5⟩ : ∃ q_ : owF, q_ = up3 A 10 0 cq (nI (tdW a_ nq (aH a_ cq))) := ⟨_, rfl⟩
        rw [← hA5]
        refine m_iload_n 0 rfl rfl dX11_say_55 ?_
        exact m_iret dX11_say_56 (Nat.le_refl _) (Nat.le_refl _) (⟨by unfold sayI; rw [hb, hclcq, hclnq]; rfl, _, _, _, _, _, rfl, by unfold sayA; rw [hb, hclcq, hclnq]; exact hC.sch0 (sfr_up sfr_rf hA5 rfl) yfr_rf hC.2.2.2.2 (hR.setH hA5)⟩)
      ·
        refine m_iconst (-1) dX11_say_21 rfl ?_
        exact m_iret dX11_say_22 (Nat.le_refl _) (Nat.le_refl _) (⟨by unfold sayI sayB; grind, _, _, _, _, _, rfl, by rw [show sayA a_ (nI (cq)) n_ = a_ from by unfold sayA sayB; grind]; exact hC⟩)
set_option maxRecDepth 100000 in
set_option maxHeartbeats 4000000 in
theorem k_image (l : Launch) (G : owG) {A S Z B T V : owF} {J : Nat → Nat → Int64} {Y : Nat → Nat → Nat → Option Nat} {P : Nat → Option owW} (a_ : owK) (ho_ : aOk a_) (im : Option owK) (h_ : owH) (hC : CR A Y P a_ im h_)  : Ct l G yX11_image cX11_image 1 ((some .int)) 1 0 0 [.ref (gK G 0 0)] (A, S, Z, B, T, V, J, Y, P) (qI (fun r_ σ => r_ = nI (aC a_) ∧ ∃ (A2 S2 Z2 : owF) (J2 : Nat → Nat → Int64) (Y2 : Nat → Nat → Nat → Option Nat), σ = (A2, S2, Z2, B, T, V, J2, Y2, P) ∧ CR A2 Y2 P (a_) (some a_) (h_))) := by
  refine ct_of (by decide +kernel) (Nat.le_of_ble_eq_true rfl) ?_
  have h10 := ho_.1
  have h8_ := ho_.2.1
  have hR := hC.1
  have hRS := hC.2.2.2.1
  show Wm l G cX11_image 1 RX11 ((some .int)) (rmk 1 0 0) (fun _ => True) (QfM G (qI (fun r_ σ => r_ = nI (aC a_) ∧ ∃ (A2 S2 Z2 : owF) (J2 : Nat → Nat → Int64) (Y2 : Nat → Nat → Nat → Option Nat), σ = (A2, S2, Z2, B, T, V, J2, Y2, P) ∧ CR A2 Y2 P (a_) (some a_) (h_))) 0 0) 0 [(0, .ref (gK G 0 0))] [] (A, S, Z, B, T, V, J, Y, P) 0 0
  refine m_aload_n 0 rfl rfl dX11_image_0 ?_
  refine gf_X11_19 dX11_image_1 ?_
  refine m_aload_n 0 rfl rfl dX11_image_4 ?_
  refine gf_X11_10 dX11_image_5 ?_
  refine m_callVv cv_X11_67 [.ref (gK G 1 0)] [] (k_becomes l G 2 0 (by decide) (by decide) (by decide) a_ ho_ hR hC.2.2.2.2) (by decide) (ce_1 G _ _ _ _ _ _ _ _ _ _) rfl rfl rfl ⟨Nat.le_of_ble_eq_true rfl, Nat.le_of_ble_eq_true rfl⟩ (Nat.le_of_ble_eq_true rfl) ⟨Nat.zero_le _, Nat.zero_le _⟩ dX11_image_8 (fun σ2 hq => ?_)
  obtain ⟨A1, Y2, rfl, hRb, hsfb, hyfb, hykb⟩ := hq
  refine m_aload_n 0 rfl rfl dX11_image_11 ?_
  refine m_iconst 1 dX11_image_12 rfl ?_
  refine pf_X11_259 ⟨nar1, rfl⟩ dX11_image_13 (fun A3 hA3 => ?_)
  have hC5 := hC.img hRb hsfb hyfb hykb hA3
  refine m_aload_n 0 rfl rfl dX11_image_16 ?_
  refine gf_X11_10 dX11_image_17 ?_
  refine gf_X11_222 (by decide) dX11_image_20 ?_
  refine m_topi (hC5.1.2.1) ?_
  exact m_iret dX11_image_23 (Nat.le_refl _) (Nat.le_refl _) (⟨rfl, _, _, _, _, _, rfl, hC5⟩)
set_option maxRecDepth 100000 in
set_option maxHeartbeats 4000000 in
theorem k_restore_n (l : Launch) (G : owG) {A S Z B T V : owF} {J : Nat → Nat → Int64} {Y : Nat → Nat → Nat → Option Nat} {P : Nat → Option owW} (a_ : owK) (ho_ : aOk a_) (h_ : owH) (hC : CR A Y P a_ none h_)  : Ct l G yX11_restore cX11_restore 1 ((some .int)) 0 0 0 [.ref (gK G 0 0)] (A, S, Z, B, T, V, J, Y, P) (qI (fun r_ σ => r_ = -3 ∧ ∃ (A2 S2 Z2 : owF) (J2 : Nat → Nat → Int64) (Y2 : Nat → Nat → Nat → Option Nat), σ = (A2, S2, Z2, B, T, V, J2, Y2, P) ∧ CR A2 Y2 P (a_) (none) (h_))) := by
  refine ct_of (by decide +kernel) (Nat.le_of_ble_eq_true rfl) ?_
  have h10 := ho_.1
  have h8_ := ho_.2.1
  have hR := hC.1
  have hRS := hC.2.2.2.1
  show Wm l G cX11_restore 1 RX11 ((some .int)) (rmk 0 0 0) (fun _ => True) (QfM G (qI (fun r_ σ => r_ = -3 ∧ ∃ (A2 S2 Z2 : owF) (J2 : Nat → Nat → Int64) (Y2 : Nat → Nat → Nat → Option Nat), σ = (A2, S2, Z2, B, T, V, J2, Y2, P) ∧ CR A2 Y2 P (a_) (none) (h_))) 0 0) 0 [(0, .ref (gK G 0 0))] [] (A, S, Z, B, T, V, J, Y, P) 0 0
  refine m_aload_n 0 rfl rfl dX11_restore_0 ?_
  refine gf_X11_259 dX11_restore_1 ?_
  refine m_topi (show A 0 0 3 = 0 from hC.2.1) ?_
  refine m_if_ne 10 dX11_restore_4 (by decide) (fun c1_ => absurd c1_ (by decide)) (fun _ => ?_)
  refine m_bipush (-3) dX11_restore_7 rfl ?_
  exact m_iret dX11_restore_9 (Nat.le_refl _) (Nat.le_refl _) (⟨rfl, _, _, _, _, _, rfl, hC⟩)
set_option maxRecDepth 100000 in
set_option maxHeartbeats 4000000 in
theorem k_restore_s (l : Launch) (G : owG) {A S Z B T V : owF} {J : Nat → Nat → Int64} {Y : Nat → Nat → Nat → Option Nat} {P : Nat → Option owW} (a_ : owK) (ho_ : aOk a_) (b_ : owK) (hob : aOk b_) (h_ : owH) (hC : CR A Y P a_ (some b_) h_)  : Ct l G yX11_restore cX11_restore 1 ((some .int)) 1 0 0 [.ref (gK G 0 0)] (A, S, Z, B, T, V, J, Y, P) (qI (fun r_ σ => r_ = nI (aC b_) ∧ ∃ (A2 S2 Z2 : owF) (J2 : Nat → Nat → Int64) (Y2 : Nat → Nat → Nat → Option Nat), σ = (A2, S2, Z2, B, T, V, J2, Y2, P) ∧ CR A2 Y2 P (b_) (some b_) (h_))) := by
  refine ct_of (by decide +kernel) (Nat.le_of_ble_eq_true rfl) ?_
  have h10 := ho_.1
  have h8_ := ho_.2.1
  have hR := hC.1
  have hRS := hC.2.2.2.1
  show Wm l G cX11_restore 1 RX11 ((some .int)) (rmk 1 0 0) (fun _ => True) (QfM G (qI (fun r_ σ => r_ = nI (aC b_) ∧ ∃ (A2 S2 Z2 : owF) (J2 : Nat → Nat → Int64) (Y2 : Nat → Nat → Nat → Option Nat), σ = (A2, S2, Z2, B, T, V, J2, Y2, P) ∧ CR A2 Y2 P (b_) (some b_) (h_))) 0 0) 0 [(0, .ref (gK G 0 0))] [] (A, S, Z, B, T, V, J, Y, P) 0 0
  refine m_aload_n 0 rfl rfl dX11_restore_0 ?_
  refine gf_X11_259 dX11_restore_1 ?_
  refine m_topi (show A 0 0 3 = 1 from hC.2.1) ?_
  refine m_if_ne 10 dX11_restore_4 (by decide) (fun _ => ?_) (fun c1_ => absurd c1_ (by decide))
  refine m_aload_n 0 rfl rfl dX11_restore_10 ?_
  refine gf_X11_10 dX11_restore_11 ?_
  refine m_aload_n 0 rfl rfl dX11_restore_14 ?_
  refine gf_X11_19 dX11_restore_15 ?_
  refine m_callVv cv_X11_67 [.ref (gK G 1 2)] [] (k_becomes l G 0 2 (by decide) (by decide) (by decide) b_ hob (hC.2.2.1 b_ rfl) hC.2.2.2.2) (by decide) (ce_1 G _ _ _ _ _ _ _ _ _ _) rfl rfl rfl ⟨Nat.le_of_ble_eq_true rfl, Nat.le_of_ble_eq_true rfl⟩ (Nat.le_of_ble_eq_true rfl) ⟨Nat.zero_le _, Nat.zero_le _⟩ dX11_restore_18 (fun σ2 hq => ?_)
  obtain ⟨A2, Y3, rfl, hRb, hsfb, hyfb, hykb⟩ := hq
  refine m_aload_n 0 rfl rfl dX11_restore_21 ?_
  refine gf_X11_10 dX11_restore_22 ?_
  refine gf_X11_222 (by decide) dX11_restore_25 ?_
  refine m_topi (hRb.2.1) ?_
  exact m_iret dX11_restore_28 (Nat.le_refl _) (Nat.le_refl _) (⟨rfl, _, _, _, _, _, rfl, hC.sch0 hsfb hyfb hykb hRb⟩)
set_option maxRecDepth 100000 in
set_option maxHeartbeats 4000000 in
theorem k_row (l : Launch) (G : owG) {A S Z B T V : owF} {J : Nat → Nat → Int64} {Y : Nat → Nat → Nat → Option Nat} {P : Nat → Option owW} (a_ : owK) (ho_ : aOk a_) (im : Option owK) (h_ : owH) (hC : CR A Y P a_ im h_) (x_ so n_ : Int32) : Ct l G yX11_row cX11_row 5 ((some .int)) 1 0 0 [.ref (gK G 0 0), .int x_, .int so, .int n_] (A, S, Z, B, T, V, J, Y, P) (qI (fun r_ σ => r_ = rowI x_ so n_ ∧ ∃ (A2 S2 Z2 : owF) (J2 : Nat → Nat → Int64) (Y2 : Nat → Nat → Nat → Option Nat), σ = (A2, S2, Z2, B, T, V, J2, Y2, P) ∧ CR A2 Y2 P (a_) (im) (rowH h_ x_ so n_))) := by
  refine ct_of (by decide +kernel) (Nat.le_of_ble_eq_true rfl) ?_
  have h10 := ho_.1
  have h8_ := ho_.2.1
  have hR := hC.1
  have hRS := hC.2.2.2.1
  show Wm l G cX11_row 5 RX11 ((some .int)) (rmk 1 0 0) (fun _ => True) (QfM G (qI (fun r_ σ => r_ = rowI x_ so n_ ∧ ∃ (A2 S2 Z2 : owF) (J2 : Nat → Nat → Int64) (Y2 : Nat → Nat → Nat → Option Nat), σ = (A2, S2, Z2, B, T, V, J2, Y2, P) ∧ CR A2 Y2 P (a_) (im) (rowH h_ x_ so n_))) 0 0) 0 [(0, .ref (gK G 0 0)), (1, .int x_), (2, .int so), (3, .int n_)] [] (A, S, Z, B, T, V, J, Y, P) 0 0
  refine m_aload_n 0 rfl rfl dX11_row_0 ?_
  refine m_iload_n 1 rfl rfl dX11_row_1 ?_
  cases hDx : isD x_ with
  | false =>
    refine m_callVr cv_X11_59 [.int x_] [] (k_shelfAt_n l G x_ hDx) (by decide) (ce_0 G _ _ _ _ _ _ _ _ _ _) rfl rfl rfl ⟨Nat.le_of_ble_eq_true rfl, Nat.le_of_ble_eq_true rfl⟩ (Nat.le_of_ble_eq_true rfl) ⟨Nat.zero_le _, Nat.zero_le _⟩ dX11_row_2 (fun xx σ2 hq => ?_)
    obtain ⟨rfl, rfl⟩ := hq
    refine m_astoreN [(4, .null), (0, .ref (gK G 0 0)), (1, .int x_), (2, .int so), (3, .int n_)] (by decide) rfl dX11_row_5 ?_
    refine m_aloadN 0 rfl dX11_row_7 ?_
    refine m_ifnullN 27 dX11_row_9 (by decide) ?_
    refine m_iconst (-1) dX11_row_27 rfl ?_
    exact m_iret dX11_row_28 (Nat.le_refl _) (Nat.le_refl _) (⟨by unfold rowI rowB; grind, _, _, _, _, _, rfl, by rw [show rowH h_ x_ so n_ = h_ from by unfold rowH rowB; grind]; exact hC⟩)
  | true =>
    obtain ⟨nx, hnx, rfl⟩ := isD_nat hDx
    refine m_callVr cv_X11_59 [.int (nI nx)] [] (k_shelfAt_s l G nx hnx) (by decide) (ce_0 G _ _ _ _ _ _ _ _ _ _) rfl rfl rfl ⟨Nat.le_of_ble_eq_true rfl, Nat.le_of_ble_eq_true rfl⟩ (Nat.le_of_ble_eq_true rfl) ⟨Nat.zero_le _, Nat.zero_le _⟩ dX11_row_2 (fun xx σ2 hq => ?_)
    obtain ⟨rfl, rfl⟩ := hq
    have hi_nx : nx < owN 3 := hnx
    have hRS_nx := hRS nx hnx
    refine m_astore [(4, .ref (gK G 3 nx)), (0, .ref (gK G 0 0)), (1, .int (nI (nx))), (2, .int so), (3, .int n_)] (by decide) rfl dX11_row_5 ?_
    refine m_aload 0 rfl dX11_row_7 ?_
    refine m_ifnull dX11_row_9 ?_
    refine m_iload_n 3 rfl rfl dX11_row_12 ?_
    refine m_if_lt 27 dX11_row_13 (by decide) (fun c1_ => ?_) (fun c1_ => ?_)
    ·
      refine m_iconst (-1) dX11_row_27 rfl ?_
      exact m_iret dX11_row_28 (Nat.le_refl _) (Nat.le_refl _) (⟨by unfold rowI rowB; grind, _, _, _, _, _, rfl, by rw [show rowH h_ (nI (nx)) so n_ = h_ from by unfold rowH rowB; grind]; exact hC⟩)
    ·
      refine m_iload_n 3 rfl rfl dX11_row_16 ?_
      refine m_iconst 2 dX11_row_17 rfl ?_
      refine m_icmp_gt 27 dX11_row_18 (by decide) (fun c2_ => ?_) (fun c2_ => ?_)
      ·
        refine m_iconst (-1) dX11_row_27 rfl ?_
        exact m_iret dX11_row_28 (Nat.le_refl _) (Nat.le_refl _) (⟨by unfold rowI rowB; grind, _, _, _, _, _, rfl, by rw [show rowH h_ (nI (nx)) so n_ = h_ from by unfold rowH rowB; grind]; exact hC⟩)
      ·
        refine m_iload_n 4 rfl rfl dX11_row_21 ?_
        refine m_bipush (100) dX11_row_22 rfl ?_
        refine m_icmp_le 29 dX11_row_24 (by decide) (fun c3_ => ?_) (fun c3_ => ?_)
        ·
          have hb : rowB (nI nx) so n_ = true := by unfold rowB; rw [hDx, Bool.true_and]; exact decide_eq_true ⟨Int32.not_lt.mp c1_, Int32.not_lt.mp c2_, c3_⟩
          obtain ⟨sq, hsq, rfl⟩ := nI_of2 (M := 2) (n := 2) (x := so) (by decide) c1_ (Int32.not_lt.mp c2_)
          have hclsq : (nI sq).toNatClampNeg = sq := nI_clamp (by omega)
          refine m_iload_n 4 rfl rfl dX11_row_29 ?_
          refine m_if_ge 36 dX11_row_30 (by decide) (fun c4_ => ?_) (fun c4_ => ?_)
          ·
            obtain ⟨nq, hnq, rfl⟩ := nI_of2 (M := 100) (n := 100) (x := n_) (by decide) (Int32.not_lt.mpr c4_) c3_
            have hclnq : (nI nq).toNatClampNeg = nq := nI_clamp (by omega)
            refine m_aload 0 rfl dX11_row_36 ?_
            refine m_iload_n 3 rfl rfl dX11_row_38 ?_
            refine m_iload_n 4 rfl rfl dX11_row_39 ?_
            refine m_callVv cv_X11_206 [.int (nI (sq)), .int (nI (nq))] [] (k_takeRow l G nx hi_nx sq nq (by omega) (by omega)) hi_nx (ce_3 G _ _ _ _ _ _ _ _ _ _) rfl rfl rfl ⟨Nat.le_of_ble_eq_true rfl, Nat.le_of_ble_eq_true rfl⟩ (Nat.le_of_ble_eq_true rfl) ⟨Nat.zero_le _, Nat.zero_le _⟩ dX11_row_40 (fun σ2 hq => ?_)
            obtain ⟨A5, Y6, rfl, hdf, hyf, hy0, ha1, ha2, hz⟩ := hq
            refine m_iconst 0 dX11_row_43 rfl ?_
            exact m_iret dX11_row_44 (Nat.le_refl _) (Nat.le_refl _) (⟨by unfold rowI; rw [hb, if_pos rfl, if_neg (nI_pos (by omega))], _, _, _, _, _, rfl, by unfold rowH; rw [hb, if_pos rfl, if_neg (nI_pos (by omega)), isD_clamp hnx, hclsq, hclnq]; exact hC.shelf hdf hyf (RS.rows hy0 ha1 hsq ha2 hnq hz) (fun k_ hk_ => updH_o hk_)⟩)
          ·
            refine m_bipush (-14) dX11_row_33 rfl ?_
            exact m_iret dX11_row_35 (Nat.le_refl _) (Nat.le_refl _) (⟨by unfold rowI; rw [hb, if_pos rfl, if_pos (Int32.not_le.mp c4_)], _, _, _, _, _, rfl, by unfold rowH; rw [hb, if_pos rfl, if_pos (Int32.not_le.mp c4_)]; exact hC⟩)
        ·
          refine m_iconst (-1) dX11_row_27 rfl ?_
          exact m_iret dX11_row_28 (Nat.le_refl _) (Nat.le_refl _) (⟨by unfold rowI rowB; grind, _, _, _, _, _, rfl, by rw [show rowH h_ (nI (nx)) so n_ = h_ from by unfold rowH rowB; grind]; exact hC⟩)
set_option maxRecDepth 100000 in
set_option maxHeartbeats 4000000 in
theorem k_put (l : Launch) (G : owG) {A S Z B T V : owF} {J : Nat → Nat → Int64} {Y : Nat → Nat → Nat → Option Nat} {P : Nat → Option owW} (a_ : owK) (ho_ : aOk a_) (im : Option owK) (h_ : owH) (hC : CR A Y P a_ im h_) (x_ i8 v_ : Int32) : Ct l G yX11_put cX11_put 6 ((some .int)) 2 0 0 [.ref (gK G 0 0), .int x_, .int i8, .int v_] (A, S, Z, B, T, V, J, Y, P) (qI (fun r_ σ => r_ = putI h_ x_ i8 ∧ ∃ (A2 S2 Z2 : owF) (J2 : Nat → Nat → Int64) (Y2 : Nat → Nat → Nat → Option Nat), σ = (A2, S2, Z2, B, T, V, J2, Y2, P) ∧ CR A2 Y2 P (a_) (im) (putH h_ x_ i8 v_))) := by
  refine ct_of (by decide +kernel) (Nat.le_of_ble_eq_true rfl) ?_
  have h10 := ho_.1
  have h8_ := ho_.2.1
  have hR := hC.1
  have hRS := hC.2.2.2.1
  show Wm l G cX11_put 6 RX11 ((some .int)) (rmk 2 0 0) (fun _ => True) (QfM G (qI (fun r_ σ => r_ = putI h_ x_ i8 ∧ ∃ (A2 S2 Z2 : owF) (J2 : Nat → Nat → Int64) (Y2 : Nat → Nat → Nat → Option Nat), σ = (A2, S2, Z2, B, T, V, J2, Y2, P) ∧ CR A2 Y2 P (a_) (im) (putH h_ x_ i8 v_))) 0 0) 0 [(0, .ref (gK G 0 0)), (1, .int x_), (2, .int i8), (3, .int v_)] [] (A, S, Z, B, T, V, J, Y, P) 0 0
  refine m_aload_n 0 rfl rfl dX11_put_0 ?_
  refine m_iload_n 1 rfl rfl dX11_put_1 ?_
  cases hDx : isD x_ with
  | false =>
    refine m_callVr cv_X11_59 [.int x_] [] (k_shelfAt_n l G x_ hDx) (by decide) (ce_0 G _ _ _ _ _ _ _ _ _ _) rfl rfl rfl ⟨Nat.le_of_ble_eq_true rfl, Nat.le_of_ble_eq_true rfl⟩ (Nat.le_of_ble_eq_true rfl) ⟨Nat.zero_le _, Nat.zero_le _⟩ dX11_put_2 (fun xx σ2 hq => ?_)
    obtain ⟨rfl, rfl⟩ := hq
    refine m_astoreN [(4, .null), (0, .ref (gK G 0 0)), (1, .int x_), (2, .int i8), (3, .int v_)] (by decide) rfl dX11_put_5 ?_
    refine m_aloadN 0 rfl dX11_put_7 ?_
    refine m_ifnonnullN dX11_put_9 ?_
    refine m_iconst (-1) dX11_put_12 rfl ?_
    exact m_iret dX11_put_13 (Nat.le_refl _) (Nat.le_refl _) (⟨by unfold putI; rw [hDx]; rfl, _, _, _, _, _, rfl, by unfold putH; rw [if_neg (by unfold putI; rw [hDx, if_neg (by decide)]; decide)]; exact hC⟩)
  | true =>
    obtain ⟨nx, hnx, rfl⟩ := isD_nat hDx
    refine m_callVr cv_X11_59 [.int (nI nx)] [] (k_shelfAt_s l G nx hnx) (by decide) (ce_0 G _ _ _ _ _ _ _ _ _ _) rfl rfl rfl ⟨Nat.le_of_ble_eq_true rfl, Nat.le_of_ble_eq_true rfl⟩ (Nat.le_of_ble_eq_true rfl) ⟨Nat.zero_le _, Nat.zero_le _⟩ dX11_put_2 (fun xx σ2 hq => ?_)
    obtain ⟨rfl, rfl⟩ := hq
    have hi_nx : nx < owN 3 := hnx
    have hRS_nx := hRS nx hnx
    refine m_astore [(4, .ref (gK G 3 nx)), (0, .ref (gK G 0 0)), (1, .int (nI (nx))), (2, .int i8), (3, .int v_)] (by decide) rfl dX11_put_5 ?_
    refine m_aload 0 rfl dX11_put_7 ?_
    refine m_ifnonnull 14 dX11_put_9 (by decide) ?_
    refine m_aload 0 rfl dX11_put_14 ?_
    refine m_callVi cv_X11_247 [] [] (k_rowRefusal l G nx hi_nx h_ hRS_nx) hi_nx (ce_3 G _ _ _ _ _ _ _ _ _ _) rfl rfl rfl ⟨Nat.le_of_ble_eq_true rfl, Nat.le_of_ble_eq_true rfl⟩ (Nat.le_of_ble_eq_true rfl) ⟨Nat.zero_le _, Nat.zero_le _⟩ dX11_put_16 (fun xx σ2 hq => ?_)
    obtain ⟨rfl, rfl⟩ := hq
    refine m_istore [(5, .int (rowRef h_ nx)), (4, .ref (gK G 3 nx)), (0, .ref (gK G 0 0)), (1, .int (nI (nx))), (2, .int i8), (3, .int v_)] (by decide) rfl dX11_put_19 ?_
    refine m_iload 0 rfl dX11_put_21 ?_
    refine m_if_eq 29 dX11_put_23 (by decide) (fun c1_ => ?_) (fun c1_ => ?_)
    ·
      have hq2 : hK h_ nx = 2 := by unfold rowRef at c1_; grind
      have hrow := hRS_nx.row hq2
      have hn100 := hrow.2.2.2.2.2.1
      have hr0 := c1_
      refine m_aload 1 rfl dX11_put_29 ?_
      refine m_iload_n 4 rfl rfl dX11_put_31 ?_
      refine m_callVi cv_X11_279 [.int i8] [] (k_hasPlace l G nx hi_nx h_ hrow i8) hi_nx (ce_3 G _ _ _ _ _ _ _ _ _ _) rfl rfl rfl ⟨Nat.le_of_ble_eq_true rfl, Nat.le_of_ble_eq_true rfl⟩ (Nat.le_of_ble_eq_true rfl) ⟨Nat.zero_le _, Nat.zero_le _⟩ dX11_put_32 (fun xx σ2 hq => ?_)
      obtain ⟨rfl, rfl⟩ := hq
      refine m_ifne_b 41 dX11_put_35 (by decide) (fun c2_ => ?_) (fun c2_ => ?_)
      ·
        obtain ⟨kq, hkk, rfl⟩ := natOf2 (n := hN h_ nx) (of_decide_eq_true c2_).1 (of_decide_eq_true c2_).2 (by omega)
        have hclkq : (nI kq).toNatClampNeg = kq := nI_clamp (by omega)
        have hp0 : putI h_ (nI nx) (nI kq) = 0 := by unfold putI; rw [hDx, if_pos rfl, isD_clamp hnx, if_pos hr0, c2_]; rfl
        refine m_aload 1 rfl dX11_put_41 ?_
        refine m_iload_n 4 rfl rfl dX11_put_43 ?_
        refine m_iload_n 5 rfl rfl dX11_put_44 ?_
        refine m_callVv cv_X11_219 [.int (nI (kq)), .int v_] [] (k_store l G nx hi_nx h_ hrow kq hkk v_) hi_nx (ce_3 G _ _ _ _ _ _ _ _ _ _) rfl rfl rfl ⟨Nat.le_of_ble_eq_true rfl, Nat.le_of_ble_eq_true rfl⟩ (Nat.le_of_ble_eq_true rfl) ⟨Nat.zero_le _, Nat.zero_le _⟩ dX11_put_45 (fun σ2 hq => ?_)
        obtain rfl := hq
        obtain ⟨A3, hA3⟩ : ∃ q_ : owF, q_ = up3 A 16 nx kq (narI (hSo h_ nx) v_) := ⟨_, rfl⟩
        rw [← hA3]
        refine m_iconst 0 dX11_put_48 rfl ?_
        exact m_iret dX11_put_49 (Nat.le_refl _) (Nat.le_refl _) (⟨hp0.symm, _, _, _, _, _, rfl, by unfold putH; rw [if_pos hp0, isD_clamp hnx, hclkq]; exact hC.shelf (dfr_up dfr_rf hA3 (by decide)) dyf_rf (RS.rows hrow.2.1 ((up3_t hA3 (by decide) hrow.2.2.1)) hrow.2.2.2.1 (up3_t hA3 (by decide) hrow.2.2.2.2.1) hn100 (fun j_ hj => if qe : j_ = kq then (by rw [if_pos qe, qe]; exact up3_e hA3) else (by rw [if_neg qe]; exact up3_j hA3 qe (hrow.2.2.2.2.2.2 j_ hj)))) (fun k_ hk_ => updH_o hk_)⟩)
      ·
        refine m_bipush (-13) dX11_put_38 rfl ?_
        exact m_iret dX11_put_40 (Nat.le_refl _) (Nat.le_refl _) (⟨by unfold putI; rw [hDx, if_pos rfl, isD_clamp hnx, if_pos hr0, c2_]; rfl, _, _, _, _, _, rfl, by unfold putH; rw [if_neg (by unfold putI; rw [hDx, if_pos rfl, isD_clamp hnx, if_pos hr0, c2_]; decide)]; exact hC⟩)
    ·
      refine m_iload 0 rfl dX11_put_26 ?_
      exact m_iret dX11_put_28 (Nat.le_refl _) (Nat.le_refl _) (⟨by unfold putI; rw [hDx, if_pos rfl, isD_clamp hnx, if_neg c1_], _, _, _, _, _, rfl, by unfold putH; rw [if_neg (by unfold putI; rw [hDx, if_pos rfl, isD_clamp hnx, if_neg c1_]; exact c1_)]; exact hC⟩)
set_option maxRecDepth 100000 in
set_option maxHeartbeats 4000000 in
theorem k_keep (l : Launch) (G : owG) {A S Z B T V : owF} {J : Nat → Nat → Int64} {Y : Nat → Nat → Nat → Option Nat} {P : Nat → Option owW} (a_ : owK) (ho_ : aOk a_) (im : Option owK) (h_ : owH) (hC : CR A Y P a_ im h_) (x_ p_ k8 : Int32) : Ct l G yX11_keep cX11_keep 5 ((some .int)) 2 0 0 [.ref (gK G 0 0), .int x_, .int p_, .int k8] (A, S, Z, B, T, V, J, Y, P) (qI (fun r_ σ => r_ = kpI a_ x_ p_ k8 ∧ ∃ (A2 S2 Z2 : owF) (J2 : Nat → Nat → Int64) (Y2 : Nat → Nat → Nat → Option Nat), σ = (A2, S2, Z2, B, T, V, J2, Y2, P) ∧ CR A2 Y2 P (a_) (im) (kpH a_ h_ x_ p_ k8))) := by
  refine ct_of (by decide +kernel) (Nat.le_of_ble_eq_true rfl) ?_
  have h10 := ho_.1
  have h8_ := ho_.2.1
  have hR := hC.1
  have hRS := hC.2.2.2.1
  show Wm l G cX11_keep 5 RX11 ((some .int)) (rmk 2 0 0) (fun _ => True) (QfM G (qI (fun r_ σ => r_ = kpI a_ x_ p_ k8 ∧ ∃ (A2 S2 Z2 : owF) (J2 : Nat → Nat → Int64) (Y2 : Nat → Nat → Nat → Option Nat), σ = (A2, S2, Z2, B, T, V, J2, Y2, P) ∧ CR A2 Y2 P (a_) (im) (kpH a_ h_ x_ p_ k8))) 0 0) 0 [(0, .ref (gK G 0 0)), (1, .int x_), (2, .int p_), (3, .int k8)] [] (A, S, Z, B, T, V, J, Y, P) 0 0
  refine m_aload_n 0 rfl rfl dX11_keep_0 ?_
  refine m_iload_n 1 rfl rfl dX11_keep_1 ?_
  cases hDx : isD x_ with
  | false =>
    refine m_callVr cv_X11_59 [.int x_] [] (k_shelfAt_n l G x_ hDx) (by decide) (ce_0 G _ _ _ _ _ _ _ _ _ _) rfl rfl rfl ⟨Nat.le_of_ble_eq_true rfl, Nat.le_of_ble_eq_true rfl⟩ (Nat.le_of_ble_eq_true rfl) ⟨Nat.zero_le _, Nat.zero_le _⟩ dX11_keep_2 (fun xx σ2 hq => ?_)
    obtain ⟨rfl, rfl⟩ := hq
    refine m_astoreN [(4, .null), (0, .ref (gK G 0 0)), (1, .int x_), (2, .int p_), (3, .int k8)] (by decide) rfl dX11_keep_5 ?_
    refine m_aloadN 0 rfl dX11_keep_7 ?_
    refine m_ifnullN 35 dX11_keep_9 (by decide) ?_
    refine m_iconst (-1) dX11_keep_35 rfl ?_
    exact m_iret dX11_keep_36 (Nat.le_refl _) (Nat.le_refl _) (⟨by unfold kpI; rw [(show kpB a_ x_ p_ k8 = false from by unfold kpB; first | (simp [hDx]; done) | grind)]; rfl, _, _, _, _, _, rfl, by unfold kpH; rw [(show kpB a_ x_ p_ k8 = false from by unfold kpB; first | (simp [hDx]; done) | grind)]; exact hC⟩)
  | true =>
    obtain ⟨nx, hnx, rfl⟩ := isD_nat hDx
    refine m_callVr cv_X11_59 [.int (nI nx)] [] (k_shelfAt_s l G nx hnx) (by decide) (ce_0 G _ _ _ _ _ _ _ _ _ _) rfl rfl rfl ⟨Nat.le_of_ble_eq_true rfl, Nat.le_of_ble_eq_true rfl⟩ (Nat.le_of_ble_eq_true rfl) ⟨Nat.zero_le _, Nat.zero_le _⟩ dX11_keep_2 (fun xx σ2 hq => ?_)
    obtain ⟨rfl, rfl⟩ := hq
    have hi_nx : nx < owN 3 := hnx
    have hRS_nx := hRS nx hnx
    refine m_astore [(4, .ref (gK G 3 nx)), (0, .ref (gK G 0 0)), (1, .int (nI (nx))), (2, .int p_), (3, .int k8)] (by decide) rfl dX11_keep_5 ?_
    refine m_aload 0 rfl dX11_keep_7 ?_
    refine m_ifnull dX11_keep_9 ?_
    refine m_iload_n 3 rfl rfl dX11_keep_12 ?_
    refine m_callSi cs_X11_131 [.int p_] [] (k_is01 l G p_) rfl rfl ⟨Nat.le_of_ble_eq_true rfl, Nat.le_of_ble_eq_true rfl⟩ (Nat.le_of_ble_eq_true rfl) ⟨Nat.zero_le _, Nat.zero_le _⟩ dX11_keep_13 (fun xx σ2 hq => ?_)
    obtain ⟨rfl, rfl⟩ := hq
    refine m_ifeq_b 35 dX11_keep_16 (by decide) (fun c1_ => ?_) (fun c1_ => ?_)
    ·
      refine m_iconst (-1) dX11_keep_35 rfl ?_
      exact m_iret dX11_keep_36 (Nat.le_refl _) (Nat.le_refl _) (⟨by unfold kpI; rw [(show kpB a_ (nI (nx)) p_ k8 = false from by unfold kpB; first | (simp [c1_, hDx]; done) | grind)]; rfl, _, _, _, _, _, rfl, by unfold kpH; rw [(show kpB a_ (nI (nx)) p_ k8 = false from by unfold kpB; first | (simp [c1_, hDx]; done) | grind)]; exact hC⟩)
    ·
      refine m_iload_n 3 rfl rfl dX11_keep_19 ?_
      refine m_iconst 1 dX11_keep_20 rfl ?_
      refine m_icmp_ne 37 dX11_keep_21 (by decide) (fun c2_ => ?_) (fun c2_ => ?_)
      ·
        have hb : kpB a_ (nI nx) p_ k8 = true := by unfold kpB; simp [hDx, c1_, c2_]
        refine m_aload 0 rfl dX11_keep_37 ?_
        refine m_iload_n 3 rfl rfl dX11_keep_39 ?_
        refine m_iconst 1 dX11_keep_40 rfl ?_
        refine m_icmp_ne 55 dX11_keep_41 (by decide) (fun c3_ => ?_) (fun c3_ => ?_)
        ·
          refine m_null dX11_keep_55 ?_
          refine m_callVv cv_X11_275 [.null] [] (k_takeWay_n l G nx hi_nx) hi_nx (ce_3 G _ _ _ _ _ _ _ _ _ _) rfl rfl rfl ⟨Nat.le_of_ble_eq_true rfl, Nat.le_of_ble_eq_true rfl⟩ (Nat.le_of_ble_eq_true rfl) ⟨Nat.zero_le _, Nat.zero_le _⟩ dX11_keep_56 (fun σ2 hq => ?_)
          obtain ⟨A4, Y5, rfl, hdf, hyf, hy0, ha1⟩ := hq
          refine m_iconst 0 dX11_keep_59 rfl ?_
          exact m_iret dX11_keep_60 (Nat.le_refl _) (Nat.le_refl _) (⟨by unfold kpI; rw [hb]; rfl, _, _, _, _, _, rfl, by unfold kpH; rw [hb, if_pos rfl, if_neg c2_, isD_clamp hnx]; exact hC.shelf hdf hyf (RS.emp hy0 ha1) (fun k_ hk_ => updH_o hk_)⟩)
        ·
          have hz : False := c2_ c3_
          exact m_dead (by first | omega | assumption)
      ·
        refine m_aload_n 1 rfl rfl dX11_keep_24 ?_
        refine gf_X11_10 dX11_keep_25 ?_
        refine m_iload_n 4 rfl rfl dX11_keep_28 ?_
        refine m_callVi cv_X11_128 [.int k8] [] (k_hasWay l G 0 (by decide) a_ ho_ hR k8) (by decide) (ce_1 G _ _ _ _ _ _ _ _ _ _) rfl rfl rfl ⟨Nat.le_of_ble_eq_true rfl, Nat.le_of_ble_eq_true rfl⟩ (Nat.le_of_ble_eq_true rfl) ⟨Nat.zero_le _, Nat.zero_le _⟩ dX11_keep_29 (fun xx σ2 hq => ?_)
        obtain ⟨rfl, rfl⟩ := hq
        refine m_ifne_b 37 dX11_keep_32 (by decide) (fun c6_ => ?_) (fun c6_ => ?_)
        ·
          have hb : kpB a_ (nI nx) p_ k8 = true := by unfold kpB; rw [hDx, c1_, c6_, Bool.or_true]; rfl
          obtain ⟨wq, hwq, rfl⟩ := isW_nat ho_ c6_
          have hclwq : (nI wq).toNatClampNeg = wq := nI_clamp (by omega)
          have hw_ := hwq
          refine m_aload 0 rfl dX11_keep_37 ?_
          refine m_iload_n 3 rfl rfl dX11_keep_39 ?_
          refine m_iconst 1 dX11_keep_40 rfl ?_
          refine m_icmp_ne 55 dX11_keep_41 (by decide) (fun c7_ => ?_) (fun c7_ => ?_)
          ·
            have hz : False := c7_ c2_
            exact m_dead (by first | omega | assumption)
          ·
            refine m_aload_n 1 rfl rfl dX11_keep_44 ?_
            refine gf_X11_10 dX11_keep_45 ?_
            refine m_iload_n 4 rfl rfl dX11_keep_48 ?_
            refine m_callVr cv_X11_75 [.int (nI wq)] [.ref (gK G 3 nx)] (k_wayAt_s l G 0 (by decide) a_ ho_ hR wq hw_) (by decide) (ce_1 G _ _ _ _ _ _ _ _ _ _) rfl rfl rfl ⟨Nat.le_of_ble_eq_true rfl, Nat.le_of_ble_eq_true rfl⟩ (Nat.le_of_ble_eq_true rfl) ⟨Nat.zero_le _, Nat.zero_le _⟩ dX11_keep_49 (fun xx σ2 hq => ?_)
            obtain ⟨rfl, rfl⟩ := hq
            obtain ⟨ad8, hYad8, hPad8⟩ := hR.2.2.1 wq hw_
            have hkad8 := aK_lt ho_ hw_
            have hfad8 := aF_le ho_ hw_
            refine m_topr hYad8 ?_
            refine m_goto 56 dX11_keep_52 (by decide) ?_
            refine m_callVv cv_X11_275 [.ref ad8] [] (k_takeWay_s l G nx hi_nx ad8) hi_nx (ce_3 G _ _ _ _ _ _ _ _ _ _) rfl rfl rfl ⟨Nat.le_of_ble_eq_true rfl, Nat.le_of_ble_eq_true rfl⟩ (Nat.le_of_ble_eq_true rfl) ⟨Nat.zero_le _, Nat.zero_le _⟩ dX11_keep_56 (fun σ2 hq => ?_)
            obtain ⟨A9, Y10, rfl, hdf, hyf, hy0, ha1⟩ := hq
            refine m_iconst 0 dX11_keep_59 rfl ?_
            exact m_iret dX11_keep_60 (Nat.le_refl _) (Nat.le_refl _) (⟨by unfold kpI; rw [hb]; rfl, _, _, _, _, _, rfl, by unfold kpH; rw [hb, if_pos rfl, if_pos c2_, isD_clamp hnx, hclwq]; exact hC.shelf hdf hyf (RS.way hy0 hPad8 hkad8 hfad8 (by omega) ha1) (fun k_ hk_ => updH_o hk_)⟩)
        ·
          refine m_iconst (-1) dX11_keep_35 rfl ?_
          exact m_iret dX11_keep_36 (Nat.le_refl _) (Nat.le_refl _) (⟨by unfold kpI; rw [(show kpB a_ (nI (nx)) p_ k8 = false from by unfold kpB; first | (simp [c1_, c2_, c6_, hDx]; done) | grind)]; rfl, _, _, _, _, _, rfl, by unfold kpH; rw [(show kpB a_ (nI (nx)) p_ k8 = false from by unfold kpB; first | (simp [c1_, c2_, c6_, hDx]; done) | grind)]; exact hC⟩)
set_option maxRecDepth 100000 in
set_option maxHeartbeats 4000000 in
theorem k_costP (l : Launch) (G : owG) {A S Z B T V : owF} {J : Nat → Nat → Int64} {Y : Nat → Nat → Nat → Option Nat} {P : Nat → Option owW} (h_ : owH) (hRS : allRS A Y P h_) (x_ : Int32) : Ct l G yX11_cost cX11_cost 4 ((some .int)) 4 0 0 [.ref (gK G 0 0), .int x_] (A, S, Z, B, T, V, J, Y, P) (qI (fun r_ σ => r_ = costI h_ x_ ∧ ∃ (S2 Z2 : owF) (J2 : Nat → Nat → Int64), σ = (A, S2, Z2, B, T, V, J2, Y, P))) := by
  refine ct_of (by decide +kernel) (Nat.le_of_ble_eq_true rfl) ?_
  show Wm l G cX11_cost 4 RX11 ((some .int)) (rmk 4 0 0) (fun _ => True) (QfM G (qI (fun r_ σ => r_ = costI h_ x_ ∧ ∃ (S2 Z2 : owF) (J2 : Nat → Nat → Int64), σ = (A, S2, Z2, B, T, V, J2, Y, P))) 0 0) 0 [(0, .ref (gK G 0 0)), (1, .int x_)] [] (A, S, Z, B, T, V, J, Y, P) 0 0
  refine m_aload_n 0 rfl rfl dX11_cost_0 ?_
  refine m_iload_n 1 rfl rfl dX11_cost_1 ?_
  cases hDx : isD x_ with
  | false =>
    refine m_callVr cv_X11_59 [.int x_] [] (k_shelfAt_n l G x_ hDx) (by decide) (ce_0 G _ _ _ _ _ _ _ _ _ _) rfl rfl rfl ⟨Nat.le_of_ble_eq_true rfl, Nat.le_of_ble_eq_true rfl⟩ (Nat.le_of_ble_eq_true rfl) ⟨Nat.zero_le _, Nat.zero_le _⟩ dX11_cost_2 (fun xx σ2 hq => ?_)
    obtain ⟨rfl, rfl⟩ := hq
    refine m_astore_nN [(2, .null), (0, .ref (gK G 0 0)), (1, .int x_)] rfl (by decide) rfl dX11_cost_5 ?_
    refine m_aload_nN 0 rfl rfl dX11_cost_6 ?_
    refine m_ifnonnullN dX11_cost_7 ?_
    refine m_iconst (-1) dX11_cost_10 rfl ?_
    exact m_iret dX11_cost_11 (Nat.le_refl _) (Nat.le_refl _) (⟨by unfold costI; rw [hDx]; rfl, _, _, _, rfl⟩)
  | true =>
    obtain ⟨nx, hnx, rfl⟩ := isD_nat hDx
    refine m_callVr cv_X11_59 [.int (nI nx)] [] (k_shelfAt_s l G nx hnx) (by decide) (ce_0 G _ _ _ _ _ _ _ _ _ _) rfl rfl rfl ⟨Nat.le_of_ble_eq_true rfl, Nat.le_of_ble_eq_true rfl⟩ (Nat.le_of_ble_eq_true rfl) ⟨Nat.zero_le _, Nat.zero_le _⟩ dX11_cost_2 (fun xx σ2 hq => ?_)
    obtain ⟨rfl, rfl⟩ := hq
    have hi_nx : nx < owN 3 := hnx
    have hRS_nx := hRS nx hnx
    refine m_astore_n [(2, .ref (gK G 3 nx)), (0, .ref (gK G 0 0)), (1, .int (nI (nx)))] rfl (by decide) rfl dX11_cost_5 ?_
    refine m_aload_n 0 rfl rfl dX11_cost_6 ?_
    refine m_ifnonnull 12 dX11_cost_7 (by decide) ?_
    have hRSx := hRS_nx
    rcases hRSx with hq | hq | hq
    ·
      have hY0 := hq.2.1
      have hK0 := hq.1
      refine m_aload_n 0 rfl rfl dX11_cost_12 ?_
      refine gf_X11_313 hi_nx dX11_cost_13 ?_
      refine m_topr hY0 ?_
      refine m_astore_nN [(3, .null), (2, .ref (gK G 3 nx)), (0, .ref (gK G 0 0)), (1, .int (nI (nx)))] rfl (by decide) rfl dX11_cost_16 ?_
      refine m_aload_nN 0 rfl rfl dX11_cost_17 ?_
      refine m_ifnonnullN dX11_cost_18 ?_
      refine m_aload_n 1 rfl rfl dX11_cost_21 ?_
      refine m_callVi cv_X11_317 [] [] (k_wayRefusal l G nx hi_nx h_ hRS_nx) hi_nx (ce_3 G _ _ _ _ _ _ _ _ _ _) rfl rfl rfl ⟨Nat.le_of_ble_eq_true rfl, Nat.le_of_ble_eq_true rfl⟩ (Nat.le_of_ble_eq_true rfl) ⟨Nat.zero_le _, Nat.zero_le _⟩ dX11_cost_22 (fun xx σ2 hq => ?_)
      obtain ⟨rfl, rfl⟩ := hq
      refine m_goto 32 dX11_cost_25 (by decide) ?_
      exact m_iret dX11_cost_32 (Nat.le_refl _) (Nat.le_refl _) (⟨by unfold costI; rw [hDx, if_pos rfl, isD_clamp hnx, if_neg (by rw [hK0]; decide)], _, _, _, rfl⟩)
    ·
      obtain ⟨hK0, ⟨ad, wt, hY0, hP0⟩, hk8, hf9, hn10, hA0⟩ := hq
      refine m_aload_n 0 rfl rfl dX11_cost_12 ?_
      refine gf_X11_313 hi_nx dX11_cost_13 ?_
      refine m_topr hY0 ?_
      refine m_astore_n [(3, .ref ad), (2, .ref (gK G 3 nx)), (0, .ref (gK G 0 0)), (1, .int (nI (nx)))] rfl (by decide) rfl dX11_cost_16 ?_
      refine m_aload_n 0 rfl rfl dX11_cost_17 ?_
      refine m_ifnonnull 28 dX11_cost_18 (by decide) ?_
      refine m_aload_n 0 rfl rfl dX11_cost_28 ?_
      refine m_cost hk8 hf9 hP0 ⟨Nat.le_of_ble_eq_true rfl, Nat.le_of_ble_eq_true rfl⟩ (Nat.le_of_ble_eq_true rfl) ⟨Nat.zero_le _, Nat.zero_le _⟩ dX11_cost_29 ?_
      exact m_iret dX11_cost_32 (Nat.le_refl _) (Nat.le_refl _) (⟨by unfold costI; rw [hDx, if_pos rfl, isD_clamp hnx, if_pos hK0], _, _, _, rfl⟩)
    ·
      have hY0 := hq.2.1
      have hK0 := hq.1
      refine m_aload_n 0 rfl rfl dX11_cost_12 ?_
      refine gf_X11_313 hi_nx dX11_cost_13 ?_
      refine m_topr hY0 ?_
      refine m_astore_nN [(3, .null), (2, .ref (gK G 3 nx)), (0, .ref (gK G 0 0)), (1, .int (nI (nx)))] rfl (by decide) rfl dX11_cost_16 ?_
      refine m_aload_nN 0 rfl rfl dX11_cost_17 ?_
      refine m_ifnonnullN dX11_cost_18 ?_
      refine m_aload_n 1 rfl rfl dX11_cost_21 ?_
      refine m_callVi cv_X11_317 [] [] (k_wayRefusal l G nx hi_nx h_ hRS_nx) hi_nx (ce_3 G _ _ _ _ _ _ _ _ _ _) rfl rfl rfl ⟨Nat.le_of_ble_eq_true rfl, Nat.le_of_ble_eq_true rfl⟩ (Nat.le_of_ble_eq_true rfl) ⟨Nat.zero_le _, Nat.zero_le _⟩ dX11_cost_22 (fun xx σ2 hq => ?_)
      obtain ⟨rfl, rfl⟩ := hq
      refine m_goto 32 dX11_cost_25 (by decide) ?_
      exact m_iret dX11_cost_32 (Nat.le_refl _) (Nat.le_refl _) (⟨by unfold costI; rw [hDx, if_pos rfl, isD_clamp hnx, if_neg (by rw [hK0]; decide)], _, _, _, rfl⟩)
