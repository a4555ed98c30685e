section OWA
variable {l : Launch} {G : owG} {cc : ByteArray} {nL : Nat} {own : String} {rt : Option FieldType} {R : Room} {Ex : State → Prop} {Qf : List Frame → Array Value → State → State → Prop} {pc : Nat} {lv : List (Nat × Value)} {σ : owSt} {cells slots : Nat}
theorem m_callVia {idx nb n lvl mc ms t i ci N : Nat} {y : MethodName} {cb : ByteArray} {rb : Option FieldType} {st : List Value} {P1 : Int32 → owSt → Prop} {T : u_T} {fs : List Value} (cv : cvOk own idx y cb nb rb n) (As : List Value) (rest : List Value) (hC : Ct l G y cb nb rb lvl mc ms (.ref (gK G t i) :: As) σ (qI P1)) (hi : i < owN t) (he : owC G σ t i = .inr (ci, fs)) (hc : vwCl[ci]? = some (y.cls, T, N)) (hst : st = As.reverse ++ .ref (gK G t i) :: rest) (hn : As.length = n) (hR : lvl + 1 ≤ R.frames ∧ 8 + (nb + 11) + 40 * lvl ≤ R.locals) (hW : (rest.map fun v => v.category).sum ≤ 8) (hf : cells + mc ≤ R.cells ∧ slots + ms ≤ R.slots) (hd : decode cc pc = .ok (.invokevirtual idx, 3)) (kk : ∀ (x : Int32) (σ2 : owSt), P1 x σ2 → Wm l G cc nL own rt R Ex Qf (pc + 3) lv (.int x :: rest) σ2 (cells + mc) (slots + ms)) : Wm l G cc nL own rt R Ex Qf pc lv st σ cells slots :=
  m_callV cv As rest hC hi he hc hst hn hR hW hf hd (fun r σ2 h => by obtain ⟨x, rfl, h⟩ := h; exact kk x σ2 h)
theorem m_callSra {idx nb n lvl mc ms : Nat} {y : MethodName} {cb : ByteArray} {rb : Option FieldType} {st : List Value} {P1 : Option Nat → owSt → Prop} (cv : csOk own idx y cb nb rb n) (As : List Value) (rest : List Value) (hC : Ct l G y cb nb rb lvl mc ms As σ (qR P1)) (hst : st = As.reverse ++ rest) (hn : As.length = n) (hR : lvl + 1 ≤ R.frames ∧ 8 + (nb + 11) + 40 * lvl ≤ R.locals) (hW : (rest.map fun v => v.category).sum ≤ 8) (hf : cells + mc ≤ R.cells ∧ slots + ms ≤ R.slots) (hd : decode cc pc = .ok (.invokestatic idx, 3)) (kk : ∀ (x : Option Nat) (σ2 : owSt), P1 x σ2 → Wm l G cc nL own rt R Ex Qf (pc + 3) lv (va_rf x :: rest) σ2 (cells + mc) (slots + ms)) : Wm l G cc nL own rt R Ex Qf pc lv st σ cells slots :=
  m_callS cv As rest hC hst hn hR hW hf hd (fun r σ2 h => by obtain ⟨x, rfl, h⟩ := h; exact kk x σ2 h)
end OWA
/-- more ways: those that there were are as they were -/
def PX (P P2 : Nat → Option owW) : Prop := ∀ ad w, P ad = some w → P2 ad = some w
theorem PX_rf {P : Nat → Option owW} : PX P P := fun _ _ h => h
theorem PX.trans {P P2 P3 : Nat → Option owW} (h : PX P P2) (g : PX P2 P3) : PX P P3 := fun ad w q => g ad w (h ad w q)
theorem PX_up {P : Nat → Option owW} {q : Nat} {w : owW} (h : P q = none) : PX P (upP P q w) := fun ad w2 e => by
  unfold upP
  by_cases c : ad = q
  · rw [c, h] at e; exact absurd e (by simp)
  · rw [if_neg c]; exact e
theorem RX.P {A : owF} {Y : Nat → Nat → Nat → Option Nat} {P P2 : Nat → Option owW} {i : Nat} {a : owK} (h : RX A Y P i a) (hp : PX P P2) : RX A Y P2 i a :=
  ⟨h.1, h.2.1, fun w hw => by obtain ⟨ad, h1, h2⟩ := h.2.2.1 w hw; exact ⟨ad, h1, hp _ _ h2⟩, h.2.2.2.1, h.2.2.2.2⟩
theorem YOk.P {Y : Nat → Nat → Nat → Option Nat} {P P2 : Nat → Option owW} (h : YOk Y P) (hp : PX P P2) : YOk Y P2 := fun i w ad hi hw e => by
  obtain ⟨wc, h1, h2⟩ := h i w ad hi hw e
  exact ⟨wc, hp _ _ h1, h2⟩
theorem RS.P {A : owF} {Y : Nat → Nat → Nat → Option Nat} {P P2 : Nat → Option owW} {d : Nat} {h : owH} (hr : RS A Y P d h) (hp : PX P P2) : RS A Y P2 d h := by
  rcases hr with q | q | q
  · exact Or.inl q
  · obtain ⟨h1, ⟨ad, wt, h2, h3⟩, h4⟩ := q
    exact Or.inr (Or.inl ⟨h1, ⟨ad, wt, h2, hp _ _ h3⟩, h4⟩)
  · exact Or.inr (Or.inr q)
theorem RX.adW {A A2 : owF} {Y Y2 : Nat → Nat → Nat → Option Nat} {P : Nat → Option owW} {i ad : Nat} {a : owK} {x0 x1 x2 : Nat} (ho : aOk a) (hN : aN a < 10) (h : RX A Y P i a) (e1 : A2 1 i 1 = nI (aN a + 1)) (hp : P ad = some (x0, nI (aN a), nI x1, nI x2)) (hy : Y2 = up3 Y 15 i (aN a) (some ad)) (hf : ∀ t j, ¬ (t = 1 ∧ j = 1) → A2 t i j = A t i j) : RX A2 Y2 P i (adW a x0 x1 x2) := by
  refine ⟨e1, (hf 1 5 (by omega)).trans h.2.1, fun w hw => ?_, fun c hc => ?_, fun j hj => (hf 13 j (by omega)).trans (h.2.2.2.2 j hj)⟩
  · have hw' : w < aN a + 1 := hw
    unfold aK aF aG
    show ∃ ad2, Y2 15 i w = some ad2 ∧ P ad2 = some ((if w = aN a then (x0, x1, x2) else a.2.1 w).1, nI w, nI (if w = aN a then (x0, x1, x2) else a.2.1 w).2.1, nI (if w = aN a then (x0, x1, x2) else a.2.1 w).2.2)
    by_cases c : w = aN a
    · rw [if_pos c, c]
      exact ⟨ad, by rw [hy]; simp [up3], hp⟩
    · rw [if_neg c]
      obtain ⟨ad2, h1, h2⟩ := h.2.2.1 w (by omega)
      exact ⟨ad2, by rw [hy]; unfold up3; rw [if_neg (fun q => c q.2.2)]; exact h1, h2⟩
  · have hc' : c < aC a := hc
    rw [hf 10 c (by omega), hf 12 c (by omega), hf 11 c (by omega)]
    exact h.2.2.2.1 c hc'
set_option maxRecDepth 100000 in
set_option maxHeartbeats 4000000 in
theorem k_c_takesWay_n (l : Launch) (G : owG) {A S Z B T V : owF} {J : Nat → Nat → Int64} {Y : Nat → Nat → Nat → Option Nat} {P : Nat → Option owW}  : Ct l G yX5_takesWay cX5_takesWay 2 ((some .boolean)) 0 0 0 [.ref (gK G 1 1), .null] (A, S, Z, B, T, V, J, Y, P) (qI (fun r_ σ => r_ = 0 ∧ σ = (A, S, Z, B, T, V, J, Y, P))) := by
  refine ct_of (by decide +kernel) (Nat.le_of_ble_eq_true rfl) ?_
  show Wm l G cX5_takesWay 2 RX5 ((some .boolean)) (rmk 0 0 0) (fun _ => True) (QfM G (qI (fun r_ σ => r_ = 0 ∧ σ = (A, S, Z, B, T, V, J, Y, P))) 0 0) 0 [(0, .ref (gK G 1 1)), (1, .null)] [] (A, S, Z, B, T, V, J, Y, P) 0 0
  refine m_aload_nN 1 rfl rfl dX5_takesWay_0 ?_
  refine m_ifnullN 28 dX5_takesWay_1 (by decide) ?_
  refine m_iconst 0 dX5_takesWay_28 rfl ?_
  exact m_zret dX5_takesWay_29 (Nat.le_refl _) (Nat.le_refl _) nar0 (⟨rfl, rfl⟩)
set_option maxRecDepth 100000 in
set_option maxHeartbeats 4000000 in
theorem k_c_takesWay (l : Launch) (G : owG) {A S Z B T V : owF} {J : Nat → Nat → Int64} {Y : Nat → Nat → Nat → Option Nat} {P : Nat → Option owW} (a_ : owK) (ho_ : aOk a_) (hR : RX A Y P 1 a_) (hyk : YOk Y P) (ad x0 x1 x2 : Nat) (hx2 : x2 ≤ 99) (hk8 : x0 < 8) (hP : P ad = some (x0, nI (aN a_), nI x1, nI x2)) : Ct l G yX5_takesWay cX5_takesWay 2 ((some .boolean)) 0 0 0 [.ref (gK G 1 1), .ref ad] (A, S, Z, B, T, V, J, Y, P) (qI (fun r_ σ => r_ = bI (decide (1 ≤ x2 ∧ aN a_ < 10)) ∧ ∃ (A2 : owF) (Y2 : Nat → Nat → Nat → Option Nat), σ = (A2, S, Z, B, T, V, J, Y2, P) ∧ sfr 1 A A2 ∧ yfr 1 Y Y2 ∧ RX A2 Y2 P 1 (if 1 ≤ x2 ∧ aN a_ < 10 then adW a_ x0 x1 x2 else a_) ∧ YOk Y2 P)) := by
  refine ct_of (by decide +kernel) (Nat.le_of_ble_eq_true rfl) ?_
  have h10 := ho_.1
  have h8_ := ho_.2.1
  show Wm l G cX5_takesWay 2 RX5 ((some .boolean)) (rmk 0 0 0) (fun _ => True) (QfM G (qI (fun r_ σ => r_ = bI (decide (1 ≤ x2 ∧ aN a_ < 10)) ∧ ∃ (A2 : owF) (Y2 : Nat → Nat → Nat → Option Nat), σ = (A2, S, Z, B, T, V, J, Y2, P) ∧ sfr 1 A A2 ∧ yfr 1 Y Y2 ∧ RX A2 Y2 P 1 (if 1 ≤ x2 ∧ aN a_ < 10 then adW a_ x0 x1 x2 else a_) ∧ YOk Y2 P)) 0 0) 0 [(0, .ref (gK G 1 1)), (1, .ref ad)] [] (A, S, Z, B, T, V, J, Y, P) 0 0
  refine m_aload_n 1 rfl rfl dX5_takesWay_0 ?_
  refine m_ifnull dX5_takesWay_1 ?_
  refine m_aload_n 1 rfl rfl dX5_takesWay_4 ?_
  refine gwa_X5_51 hk8 hP dX5_takesWay_5 ?_
  refine m_iconst 1 dX5_takesWay_8 rfl ?_
  refine m_icmpn_lt x2 1 28 (by omega) (by decide) dX5_takesWay_9 (by decide) (fun c1_ => ?_) (fun c1_ => ?_)
  ·
    refine m_iconst 0 dX5_takesWay_28 rfl ?_
    exact m_zret dX5_takesWay_29 (Nat.le_refl _) (Nat.le_refl _) nar0 (⟨by rw [decide_eq_false (by omega)]; rfl, A, Y, rfl, sfr_rf, yfr_rf, by rw [if_neg (by omega)]; exact hR, hyk⟩)
  ·
    refine m_aload_n 0 rfl rfl dX5_takesWay_12 ?_
    refine gf_X5_33 (by decide) dX5_takesWay_13 ?_
    refine m_topi hR.1 ?_
    refine m_ifn_lt (aN a_) 28 (by omega) dX5_takesWay_16 (by decide) (fun c2_ => m_dead c2_) (fun _ => ?_)
    refine m_aload_n 0 rfl rfl dX5_takesWay_19 ?_
    refine gf_X5_33 (by decide) dX5_takesWay_20 ?_
    refine m_topi hR.1 ?_
    refine m_bipush (10) dX5_takesWay_23 rfl ?_
    refine m_icmpn_lt (aN a_) 10 30 (by omega) (by decide) dX5_takesWay_25 (by decide) (fun c3_ => ?_) (fun c3_ => ?_)
    ·
      refine m_aload_n 0 rfl rfl dX5_takesWay_30 ?_
      refine gf_X5_11 (by decide) dX5_takesWay_31 ?_
      refine m_aload_n 0 rfl rfl dX5_takesWay_34 ?_
      refine gf_X5_33 (by decide) dX5_takesWay_35 ?_
      refine m_topi hR.1 ?_
      refine m_aload_n 1 rfl rfl dX5_takesWay_38 ?_
      refine m_aastW (by decide) hP hk8 (aN a_) (by omega) dX5_takesWay_39 ?_
      refine m_aload_n 0 rfl rfl dX5_takesWay_40 ?_
      refine m_dup rfl dX5_takesWay_41 ?_
      refine gf_X5_33 (by decide) dX5_takesWay_42 ?_
      refine m_topi hR.1 ?_
      refine m_iconst 1 dX5_takesWay_45 rfl ?_
      refine m_iadd dX5_takesWay_46 ?_
      refine m_topi (show (nI (aN a_)) + 1 = nI ((aN a_) + 1) from nI_add _ _) ?_
      refine pf_X5_33 (by decide) dX5_takesWay_47 (fun A4 hA4 => ?_)
      refine m_iconst 1 dX5_takesWay_50 rfl ?_
      exact m_zret dX5_takesWay_51 (Nat.le_refl _) (Nat.le_refl _) nar1 (⟨by rw [decide_eq_true (by omega)]; rfl, A4, _, rfl, sfr_up sfr_rf hA4 rfl, yfr_up yfr_rf rfl, by rw [if_pos (by omega)]; exact RX.adW ho_ (by omega) hR (up3_e hA4) hP rfl (fun t_ j_ hj => up3_o hA4 t_ 1 j_ (by omega)), YOk_up hyk rfl (fun ad2 e_ => by obtain rfl := Option.some.inj e_; exact ⟨_, hP, hk8⟩)⟩)
    ·
      refine m_iconst 0 dX5_takesWay_28 rfl ?_
      exact m_zret dX5_takesWay_29 (Nat.le_refl _) (Nat.le_refl _) nar0 (⟨by rw [decide_eq_false (by omega)]; rfl, A, Y, rfl, sfr_rf, yfr_rf, by rw [if_neg (by omega)]; exact hR, hyk⟩)
set_option maxRecDepth 100000 in
set_option maxHeartbeats 4000000 in
theorem k_c_takes_121 (l : Launch) (G : owG) {A S Z B T V : owF} {J : Nat → Nat → Int64} {Y : Nat → Nat → Nat → Option Nat} {P : Nat → Option owW} (a_ : owK) (ho_ : aOk a_) (hR : RX A Y P 1 a_) (hyk : YOk Y P) (h_ : owH) (d_ p_ : Nat) (hq : (stS h_ d_ p_).1 = true) (hlet : S 1 1 8 = sgI h_ d_ p_) (hn0 : S 14 1 0 = nI (sn0 h_ d_ p_)) (hn1 : S 14 1 1 = nI (sn1 h_ d_ p_)) (hn2 : sgI h_ d_ p_ ≠ 107 → S 14 1 2 = nI (sn2 h_ d_ p_)) (hsg : sgI h_ d_ p_ = 121) : Ct l G yX5_takesStatement cX5_takesStatement 4 ((some .boolean)) 8 1 4 [.ref (gK G 1 1)] (A, S, Z, B, T, V, J, Y, P) (qI (fun r_ σ => r_ = bI (tfB h_ d_ p_ a_) ∧ ∃ (A2 : owF) (Y2 : Nat → Nat → Nat → Option Nat) (P2 : Nat → Option owW), σ = (A2, S, Z, B, T, V, J, Y2, P2) ∧ sfr 1 A A2 ∧ yfr 1 Y Y2 ∧ PX P P2 ∧ RX A2 Y2 P2 1 (if tfB h_ d_ p_ a_ = true then tfA h_ d_ p_ a_ else a_) ∧ YOk Y2 P2)) := by
  refine ct_of (by decide +kernel) (Nat.le_of_ble_eq_true rfl) ?_
  have h10 := ho_.1
  have h8_ := ho_.2.1
  have hzy := stS_y hq
  have hzz := stS_z hq
  have hz0 : sn0 h_ d_ p_ ≤ 99 := by omega
  have hz1 : sn1 h_ d_ p_ ≤ 99 := by omega
  have hz2 : sn2 h_ d_ p_ ≤ 99 := by omega
  have fin : ∀ {c_ : Prop} [Decidable c_] {x_ y_ : owK}, (if decide c_ = true then x_ else y_) = if c_ then x_ else y_ := fun {c_} _ {x_ y_} => by by_cases w_ : c_ <;> simp [w_]
  have hn22 := hn2 (by rw [hsg]; decide)
  show Wm l G cX5_takesStatement 4 RX5 ((some .boolean)) (rmk 8 1 4) (fun _ => True) (QfM G (qI (fun r_ σ => r_ = bI (tfB h_ d_ p_ a_) ∧ ∃ (A2 : owF) (Y2 : Nat → Nat → Nat → Option Nat) (P2 : Nat → Option owW), σ = (A2, S, Z, B, T, V, J, Y2, P2) ∧ sfr 1 A A2 ∧ yfr 1 Y Y2 ∧ PX P P2 ∧ RX A2 Y2 P2 1 (if tfB h_ d_ p_ a_ = true then tfA h_ d_ p_ a_ else a_) ∧ YOk Y2 P2)) 1 4) 0 [(0, .ref (gK G 1 1))] [] (A, S, Z, B, T, V, J, Y, P) 0 0
  refine m_aload_n 0 rfl rfl dX5_takesStatement_0 ?_
  refine gf_X5_30 (by decide) dX5_takesStatement_1 ?_
  refine m_iconst 0 dX5_takesStatement_4 rfl ?_
  refine m_callNi cn_X5_58 [.ref (gK G 14 1), .int 0] [] (k_at (t := 14) (n := 3) l G (by decide) (ce_14 G _ _ _ _ _ _ _ _ _ 1) (by decide) 0) rfl rfl ⟨Nat.le_of_ble_eq_true rfl, Nat.le_of_ble_eq_true rfl⟩ (Nat.le_of_ble_eq_true rfl) ⟨by show 0 ≤ 1; omega, by show 0 ≤ 4; omega⟩ dX5_takesStatement_5 (fun xx σ2 hq => ?_)
  obtain rfl : xx = nI (sn0 h_ d_ p_) := hq.1.trans ((atV_in (k := 0) (by decide) (by decide)).trans hn0)
  obtain rfl := hq.2
  refine m_istore_n [(1, .int (nI (sn0 h_ d_ p_))), (0, .ref (gK G 1 1))] rfl (by decide) rfl dX5_takesStatement_8 ?_
  refine m_aload_n 1 rfl rfl dX5_takesStatement_9 ?_
  refine gf_X5_30 (by decide) dX5_takesStatement_10 ?_
  refine m_iconst 1 dX5_takesStatement_13 rfl ?_
  refine m_callNi cn_X5_58 [.ref (gK G 14 1), .int 1] [] (k_at (t := 14) (n := 3) l G (by decide) (ce_14 G _ _ _ _ _ _ _ _ _ 1) (by decide) 1) rfl rfl ⟨Nat.le_of_ble_eq_true rfl, Nat.le_of_ble_eq_true rfl⟩ (Nat.le_of_ble_eq_true rfl) ⟨by show 0 ≤ 1; omega, by show 0 ≤ 4; omega⟩ dX5_takesStatement_14 (fun xx σ2 hq => ?_)
  obtain rfl : xx = nI (sn1 h_ d_ p_) := hq.1.trans ((atV_in (k := 1) (by decide) (by decide)).trans hn1)
  obtain rfl := hq.2
  refine m_istore_n [(2, .int (nI (sn1 h_ d_ p_))), (1, .int (nI (sn0 h_ d_ p_))), (0, .ref (gK G 1 1))] rfl (by decide) rfl dX5_takesStatement_17 ?_
  refine m_aload_n 2 rfl rfl dX5_takesStatement_18 ?_
  refine gf_X5_30 (by decide) dX5_takesStatement_19 ?_
  refine m_iconst 2 dX5_takesStatement_22 rfl ?_
  refine m_callNi cn_X5_58 [.ref (gK G 14 1), .int 2] [] (k_at (t := 14) (n := 3) l G (by decide) (ce_14 G _ _ _ _ _ _ _ _ _ 1) (by decide) 2) rfl rfl ⟨Nat.le_of_ble_eq_true rfl, Nat.le_of_ble_eq_true rfl⟩ (Nat.le_of_ble_eq_true rfl) ⟨by show 0 ≤ 1; omega, by show 0 ≤ 4; omega⟩ dX5_takesStatement_23 (fun xx σ2 hq => ?_)
  obtain rfl : xx = nI (sn2 h_ d_ p_) := hq.1.trans ((atV_in (k := 2) (by decide) (by decide)).trans hn22)
  obtain rfl := hq.2
  refine m_istore_n [(3, .int (nI (sn2 h_ d_ p_))), (2, .int (nI (sn1 h_ d_ p_))), (1, .int (nI (sn0 h_ d_ p_))), (0, .ref (gK G 1 1))] rfl (by decide) rfl dX5_takesStatement_26 ?_
  refine m_aload_n 3 rfl rfl dX5_takesStatement_27 ?_
  refine gf_X5_82 (by decide) dX5_takesStatement_28 ?_
  refine m_topi hlet ?_
  refine m_topi hsg ?_
  refine m_lookup 56 dX5_takesStatement_31 (by decide) (by rfl) (by decide) ?_
  refine m_aload_n 3 rfl rfl dX5_takesStatement_56 ?_
  refine m_iload_n 2 rfl rfl dX5_takesStatement_57 ?_
  refine m_aload_n 3 rfl rfl dX5_takesStatement_58 ?_
  refine gf_X5_33 (by decide) dX5_takesStatement_59 ?_
  refine m_topi hR.1 ?_
  refine m_iload_n 1 rfl rfl dX5_takesStatement_62 ?_
  refine m_iload_n 0 rfl rfl dX5_takesStatement_63 ?_
  rcases Nat.lt_or_ge (sn0 h_ d_ p_) 8 with hk8 | hk8
  ·
    refine m_callSra cs_X5_102 [.int (nI (sn0 h_ d_ p_)), .int (nI (aN a_)), .int (nI (sn1 h_ d_ p_)), .int (nI (sn2 h_ d_ p_))] [.ref (gK G 1 1)] (k_madeWay l G (sn0 h_ d_ p_) hk8 (nI (aN a_)) (nI (sn1 h_ d_ p_)) (nI (sn2 h_ d_ p_))) rfl rfl ⟨Nat.le_of_ble_eq_true rfl, Nat.le_of_ble_eq_true rfl⟩ (Nat.le_of_ble_eq_true rfl) ⟨by show 0 + 1 ≤ 1; omega, by show 0 + 4 ≤ 4; omega⟩ dX5_takesStatement_64 (fun xx σ2 hq => ?_)
    obtain ⟨ad, rfl, hPn, rfl⟩ := hq
    have hP9 : upP P ad (sn0 h_ d_ p_, nI (aN a_), nI (sn1 h_ d_ p_), nI (sn2 h_ d_ p_)) ad = some (sn0 h_ d_ p_, nI (aN a_), nI (sn1 h_ d_ p_), nI (sn2 h_ d_ p_)) := if_pos rfl
    have hpx : PX P (upP P ad (sn0 h_ d_ p_, nI (aN a_), nI (sn1 h_ d_ p_), nI (sn2 h_ d_ p_))) := PX_up hPn
    refine m_callVi cv_X5_106 [.ref ad] [] (k_c_takesWay l G a_ ho_ (hR.P hpx) (hyk.P hpx) ad (sn0 h_ d_ p_) (sn1 h_ d_ p_) (sn2 h_ d_ p_) hz2 hk8 hP9) (by decide) (ce_1 G _ _ _ _ _ _ _ _ _ _) rfl rfl rfl ⟨Nat.le_of_ble_eq_true rfl, Nat.le_of_ble_eq_true rfl⟩ (Nat.le_of_ble_eq_true rfl) ⟨by show (0 + 1) ≤ 1; omega, by show (0 + 4) ≤ 4; omega⟩ dX5_takesStatement_67 (fun xx σ2 hq => ?_)
    obtain ⟨rfl, A1, Y2, rfl, hs1, hy1, hR2, hyk2⟩ := hq
    exact m_zret dX5_takesStatement_70 (by omega) (by omega) (bI_nar _) (⟨by unfold tfB; rw [if_pos hsg, show (decide (sn0 h_ d_ p_ ≤ 7 ∧ 1 ≤ sn2 h_ d_ p_ ∧ aN a_ < 10)) = decide (1 ≤ sn2 h_ d_ p_ ∧ aN a_ < 10) from decide_eq_decide.mpr ⟨fun q_ => q_.2, fun q_ => ⟨by omega, q_⟩⟩], A1, Y2, _, rfl, hs1, hy1, hpx, by unfold tfB tfA; rw [if_pos hsg, if_pos hsg]; rw [show (decide (sn0 h_ d_ p_ ≤ 7 ∧ 1 ≤ sn2 h_ d_ p_ ∧ aN a_ < 10)) = decide (1 ≤ sn2 h_ d_ p_ ∧ aN a_ < 10) from decide_eq_decide.mpr ⟨fun q_ => q_.2, fun q_ => ⟨by omega, q_⟩⟩, fin]; exact hR2, hyk2⟩)
  · rcases (show sn0 h_ d_ p_ = 8 ∨ sn0 h_ d_ p_ = 9 by omega) with h89 | h89
    · rw [h89]
      refine m_callSra cs_X5_102 [.int (nI (8)), .int (nI (aN a_)), .int (nI (sn1 h_ d_ p_)), .int (nI (sn2 h_ d_ p_))] [.ref (gK G 1 1)] (k_madeWay_8 l G (nI (aN a_)) (nI (sn1 h_ d_ p_)) (nI (sn2 h_ d_ p_))) rfl rfl ⟨Nat.le_of_ble_eq_true rfl, Nat.le_of_ble_eq_true rfl⟩ (Nat.le_of_ble_eq_true rfl) ⟨by show 0 + 1 ≤ 1; omega, by show 0 + 4 ≤ 4; omega⟩ dX5_takesStatement_64 (fun xx σ2 hq => ?_)
      obtain ⟨rfl, rfl⟩ := hq
      refine m_callVi cv_X5_106 [.null] [] (k_c_takesWay_n l G) (by decide) (ce_1 G _ _ _ _ _ _ _ _ _ _) rfl rfl rfl ⟨Nat.le_of_ble_eq_true rfl, Nat.le_of_ble_eq_true rfl⟩ (Nat.le_of_ble_eq_true rfl) ⟨by show (0 + 1) ≤ 1; omega, by show (0 + 4) ≤ 4; omega⟩ dX5_takesStatement_67 (fun xx σ2 hq => ?_)
      obtain ⟨rfl, rfl⟩ := hq
      exact m_zret dX5_takesStatement_70 (by omega) (by omega) nar0 (⟨by unfold tfB; rw [if_pos hsg, show (decide (sn0 h_ d_ p_ ≤ 7 ∧ 1 ≤ sn2 h_ d_ p_ ∧ aN a_ < 10)) = false from decide_eq_false (fun q_ => by omega)]; rfl, A, Y, P, rfl, sfr_rf, yfr_rf, PX_rf, by unfold tfB tfA; rw [if_pos hsg, if_pos hsg]; rw [show (decide (sn0 h_ d_ p_ ≤ 7 ∧ 1 ≤ sn2 h_ d_ p_ ∧ aN a_ < 10)) = false from decide_eq_false (fun q_ => by omega)]; exact hR, hyk⟩)
    · rw [h89]
      refine m_callSra cs_X5_102 [.int (nI (9)), .int (nI (aN a_)), .int (nI (sn1 h_ d_ p_)), .int (nI (sn2 h_ d_ p_))] [.ref (gK G 1 1)] (k_madeWay_9 l G (nI (aN a_)) (nI (sn1 h_ d_ p_)) (nI (sn2 h_ d_ p_))) rfl rfl ⟨Nat.le_of_ble_eq_true rfl, Nat.le_of_ble_eq_true rfl⟩ (Nat.le_of_ble_eq_true rfl) ⟨by show 0 + 1 ≤ 1; omega, by show 0 + 4 ≤ 4; omega⟩ dX5_takesStatement_64 (fun xx σ2 hq => ?_)
      obtain ⟨rfl, rfl⟩ := hq
      refine m_callVi cv_X5_106 [.null] [] (k_c_takesWay_n l G) (by decide) (ce_1 G _ _ _ _ _ _ _ _ _ _) rfl rfl rfl ⟨Nat.le_of_ble_eq_true rfl, Nat.le_of_ble_eq_true rfl⟩ (Nat.le_of_ble_eq_true rfl) ⟨by show (0 + 1) ≤ 1; omega, by show (0 + 4) ≤ 4; omega⟩ dX5_takesStatement_67 (fun xx σ2 hq => ?_)
      obtain ⟨rfl, rfl⟩ := hq
      exact m_zret dX5_takesStatement_70 (by omega) (by omega) nar0 (⟨by unfold tfB; rw [if_pos hsg, show (decide (sn0 h_ d_ p_ ≤ 7 ∧ 1 ≤ sn2 h_ d_ p_ ∧ aN a_ < 10)) = false from decide_eq_false (fun q_ => by omega)]; rfl, A, Y, P, rfl, sfr_rf, yfr_rf, PX_rf, by unfold tfB tfA; rw [if_pos hsg, if_pos hsg]; rw [show (decide (sn0 h_ d_ p_ ≤ 7 ∧ 1 ≤ sn2 h_ d_ p_ ∧ aN a_ < 10)) = false from decide_eq_false (fun q_ => by omega)]; exact hR, hyk⟩)
set_option maxRecDepth 100000 in
set_option maxHeartbeats 4000000 in
theorem k_c_takes_107 (l : Launch) (G : owG) {A S Z B T V : owF} {J : Nat → Nat → Int64} {Y : Nat → Nat → Nat → Option Nat} {P : Nat → Option owW} (a_ : owK) (ho_ : aOk a_) (hR : RX A Y P 1 a_) (hyk : YOk Y P) (h_ : owH) (d_ p_ : Nat) (hq : (stS h_ d_ p_).1 = true) (hlet : S 1 1 8 = sgI h_ d_ p_) (hn0 : S 14 1 0 = nI (sn0 h_ d_ p_)) (hn1 : S 14 1 1 = nI (sn1 h_ d_ p_)) (hn2 : sgI h_ d_ p_ ≠ 107 → S 14 1 2 = nI (sn2 h_ d_ p_)) (hsg : sgI h_ d_ p_ = 107) : Ct l G yX5_takesStatement cX5_takesStatement 4 ((some .boolean)) 8 1 4 [.ref (gK G 1 1)] (A, S, Z, B, T, V, J, Y, P) (qI (fun r_ σ => r_ = bI (tfB h_ d_ p_ a_) ∧ ∃ (A2 : owF) (Y2 : Nat → Nat → Nat → Option Nat) (P2 : Nat → Option owW), σ = (A2, S, Z, B, T, V, J, Y2, P2) ∧ sfr 1 A A2 ∧ yfr 1 Y Y2 ∧ PX P P2 ∧ RX A2 Y2 P2 1 (if tfB h_ d_ p_ a_ = true then tfA h_ d_ p_ a_ else a_) ∧ YOk Y2 P2)) := by
  refine ct_of (by decide +kernel) (Nat.le_of_ble_eq_true rfl) ?_
  have h10 := ho_.1
  have h8_ := ho_.2.1
  have hzy := stS_y hq
  have hzz := stS_z hq
  have hz0 : sn0 h_ d_ p_ ≤ 99 := by omega
  have hz1 : sn1 h_ d_ p_ ≤ 99 := by omega
  have hz2 : sn2 h_ d_ p_ ≤ 99 := by omega
  have fin : ∀ {c_ : Prop} [Decidable c_] {x_ y_ : owK}, (if decide c_ = true then x_ else y_) = if c_ then x_ else y_ := fun {c_} _ {x_ y_} => by by_cases w_ : c_ <;> simp [w_]
  show Wm l G cX5_takesStatement 4 RX5 ((some .boolean)) (rmk 8 1 4) (fun _ => True) (QfM G (qI (fun r_ σ => r_ = bI (tfB h_ d_ p_ a_) ∧ ∃ (A2 : owF) (Y2 : Nat → Nat → Nat → Option Nat) (P2 : Nat → Option owW), σ = (A2, S, Z, B, T, V, J, Y2, P2) ∧ sfr 1 A A2 ∧ yfr 1 Y Y2 ∧ PX P P2 ∧ RX A2 Y2 P2 1 (if tfB h_ d_ p_ a_ = true then tfA h_ d_ p_ a_ else a_) ∧ YOk Y2 P2)) 1 4) 0 [(0, .ref (gK G 1 1))] [] (A, S, Z, B, T, V, J, Y, P) 0 0
  refine m_aload_n 0 rfl rfl dX5_takesStatement_0 ?_
  refine gf_X5_30 (by decide) dX5_takesStatement_1 ?_
  refine m_iconst 0 dX5_takesStatement_4 rfl ?_
  refine m_callNi cn_X5_58 [.ref (gK G 14 1), .int 0] [] (k_at (t := 14) (n := 3) l G (by decide) (ce_14 G _ _ _ _ _ _ _ _ _ 1) (by decide) 0) rfl rfl ⟨Nat.le_of_ble_eq_true rfl, Nat.le_of_ble_eq_true rfl⟩ (Nat.le_of_ble_eq_true rfl) ⟨by show 0 ≤ 1; omega, by show 0 ≤ 4; omega⟩ dX5_takesStatement_5 (fun xx σ2 hq => ?_)
  obtain rfl : xx = nI (sn0 h_ d_ p_) := hq.1.trans ((atV_in (k := 0) (by decide) (by decide)).trans hn0)
  obtain rfl := hq.2
  refine m_istore_n [(1, .int (nI (sn0 h_ d_ p_))), (0, .ref (gK G 1 1))] rfl (by decide) rfl dX5_takesStatement_8 ?_
  refine m_aload_n 1 rfl rfl dX5_takesStatement_9 ?_
  refine gf_X5_30 (by decide) dX5_takesStatement_10 ?_
  refine m_iconst 1 dX5_takesStatement_13 rfl ?_
  refine m_callNi cn_X5_58 [.ref (gK G 14 1), .int 1] [] (k_at (t := 14) (n := 3) l G (by decide) (ce_14 G _ _ _ _ _ _ _ _ _ 1) (by decide) 1) rfl rfl ⟨Nat.le_of_ble_eq_true rfl, Nat.le_of_ble_eq_true rfl⟩ (Nat.le_of_ble_eq_true rfl) ⟨by show 0 ≤ 1; omega, by show 0 ≤ 4; omega⟩ dX5_takesStatement_14 (fun xx σ2 hq => ?_)
  obtain rfl : xx = nI (sn1 h_ d_ p_) := hq.1.trans ((atV_in (k := 1) (by decide) (by decide)).trans hn1)
  obtain rfl := hq.2
  refine m_istore_n [(2, .int (nI (sn1 h_ d_ p_))), (1, .int (nI (sn0 h_ d_ p_))), (0, .ref (gK G 1 1))] rfl (by decide) rfl dX5_takesStatement_17 ?_
  refine m_aload_n 2 rfl rfl dX5_takesStatement_18 ?_
  refine gf_X5_30 (by decide) dX5_takesStatement_19 ?_
  refine m_iconst 2 dX5_takesStatement_22 rfl ?_
  refine m_callNi cn_X5_58 [.ref (gK G 14 1), .int 2] [] (k_at (t := 14) (n := 3) l G (by decide) (ce_14 G _ _ _ _ _ _ _ _ _ 1) (by decide) 2) rfl rfl ⟨Nat.le_of_ble_eq_true rfl, Nat.le_of_ble_eq_true rfl⟩ (Nat.le_of_ble_eq_true rfl) ⟨by show 0 ≤ 1; omega, by show 0 ≤ 4; omega⟩ dX5_takesStatement_23 (fun xx σ2 hq => ?_)
  obtain rfl : xx = S 14 1 2 := hq.1.trans (atV_in (k := 2) (by decide) (by decide))
  obtain rfl := hq.2
  refine m_istore_n [(3, .int (S 14 1 2)), (2, .int (nI (sn1 h_ d_ p_))), (1, .int (nI (sn0 h_ d_ p_))), (0, .ref (gK G 1 1))] rfl (by decide) rfl dX5_takesStatement_26 ?_
  refine m_aload_n 3 rfl rfl dX5_takesStatement_27 ?_
  refine gf_X5_82 (by decide) dX5_takesStatement_28 ?_
  refine m_topi hlet ?_
  refine m_topi hsg ?_
  refine m_lookup 71 dX5_takesStatement_31 (by decide) (by rfl) (by decide) ?_
  refine m_aload_n 3 rfl rfl dX5_takesStatement_71 ?_
  refine m_iload_n 2 rfl rfl dX5_takesStatement_72 ?_
  refine m_iload_n 1 rfl rfl dX5_takesStatement_73 ?_
  refine m_callVi cv_X5_110 [.int (nI (sn0 h_ d_ p_)), .int (nI (sn1 h_ d_ p_))] [] (k_c_takesChild l G a_ ho_ hR (sn0 h_ d_ p_) (sn1 h_ d_ p_) hz0 hz1) (by decide) (ce_1 G _ _ _ _ _ _ _ _ _ _) rfl rfl rfl ⟨Nat.le_of_ble_eq_true rfl, Nat.le_of_ble_eq_true rfl⟩ (Nat.le_of_ble_eq_true rfl) ⟨by show 0 ≤ 1; omega, by show 0 ≤ 4; omega⟩ dX5_takesStatement_74 (fun xx σ2 hq => ?_)
  obtain ⟨rfl, A1, rfl, hs1, hR2⟩ := hq
  exact m_zret dX5_takesStatement_77 (by omega) (by omega) (bI_nar _) (⟨by unfold tfB; rw [if_neg (by rw [hsg]; decide), if_pos hsg], A1, Y, P, rfl, hs1, yfr_rf, PX_rf, by rw [show tfB h_ d_ p_ a_ = decide (sn0 h_ d_ p_ < aN a_ ∧ sn1 h_ d_ p_ ≤ 50 ∧ aC a_ < 8) from by unfold tfB; rw [if_neg (by rw [hsg]; decide), if_pos hsg], show tfA h_ d_ p_ a_ = adC a_ (sn0 h_ d_ p_) (sn1 h_ d_ p_) from by unfold tfA; rw [if_neg (by rw [hsg]; decide), if_pos hsg], fin]; exact hR2, hyk⟩)
set_option maxRecDepth 100000 in
set_option maxHeartbeats 4000000 in
theorem k_c_takes_116 (l : Launch) (G : owG) {A S Z B T V : owF} {J : Nat → Nat → Int64} {Y : Nat → Nat → Nat → Option Nat} {P : Nat → Option owW} (a_ : owK) (ho_ : aOk a_) (hR : RX A Y P 1 a_) (hyk : YOk Y P) (h_ : owH) (d_ p_ : Nat) (hq : (stS h_ d_ p_).1 = true) (hlet : S 1 1 8 = sgI h_ d_ p_) (hn0 : S 14 1 0 = nI (sn0 h_ d_ p_)) (hn1 : S 14 1 1 = nI (sn1 h_ d_ p_)) (hn2 : sgI h_ d_ p_ ≠ 107 → S 14 1 2 = nI (sn2 h_ d_ p_)) (hsg : sgI h_ d_ p_ = 116) : Ct l G yX5_takesStatement cX5_takesStatement 4 ((some .boolean)) 8 1 4 [.ref (gK G 1 1)] (A, S, Z, B, T, V, J, Y, P) (qI (fun r_ σ => r_ = bI (tfB h_ d_ p_ a_) ∧ ∃ (A2 : owF) (Y2 : Nat → Nat → Nat → Option Nat) (P2 : Nat → Option owW), σ = (A2, S, Z, B, T, V, J, Y2, P2) ∧ sfr 1 A A2 ∧ yfr 1 Y Y2 ∧ PX P P2 ∧ RX A2 Y2 P2 1 (if tfB h_ d_ p_ a_ = true then tfA h_ d_ p_ a_ else a_) ∧ YOk Y2 P2)) := by
  refine ct_of (by decide +kernel) (Nat.le_of_ble_eq_true rfl) ?_
  have h10 := ho_.1
  have h8_ := ho_.2.1
  have hzy := stS_y hq
  have hzz := stS_z hq
  have hz0 : sn0 h_ d_ p_ ≤ 99 := by omega
  have hz1 : sn1 h_ d_ p_ ≤ 99 := by omega
  have hz2 : sn2 h_ d_ p_ ≤ 99 := by omega
  have fin : ∀ {c_ : Prop} [Decidable c_] {x_ y_ : owK}, (if decide c_ = true then x_ else y_) = if c_ then x_ else y_ := fun {c_} _ {x_ y_} => by by_cases w_ : c_ <;> simp [w_]
  have hn22 := hn2 (by rw [hsg]; decide)
  show Wm l G cX5_takesStatement 4 RX5 ((some .boolean)) (rmk 8 1 4) (fun _ => True) (QfM G (qI (fun r_ σ => r_ = bI (tfB h_ d_ p_ a_) ∧ ∃ (A2 : owF) (Y2 : Nat → Nat → Nat → Option Nat) (P2 : Nat → Option owW), σ = (A2, S, Z, B, T, V, J, Y2, P2) ∧ sfr 1 A A2 ∧ yfr 1 Y Y2 ∧ PX P P2 ∧ RX A2 Y2 P2 1 (if tfB h_ d_ p_ a_ = true then tfA h_ d_ p_ a_ else a_) ∧ YOk Y2 P2)) 1 4) 0 [(0, .ref (gK G 1 1))] [] (A, S, Z, B, T, V, J, Y, P) 0 0
  refine m_aload_n 0 rfl rfl dX5_takesStatement_0 ?_
  refine gf_X5_30 (by decide) dX5_takesStatement_1 ?_
  refine m_iconst 0 dX5_takesStatement_4 rfl ?_
  refine m_callNi cn_X5_58 [.ref (gK G 14 1), .int 0] [] (k_at (t := 14) (n := 3) l G (by decide) (ce_14 G _ _ _ _ _ _ _ _ _ 1) (by decide) 0) rfl rfl ⟨Nat.le_of_ble_eq_true rfl, Nat.le_of_ble_eq_true rfl⟩ (Nat.le_of_ble_eq_true rfl) ⟨by show 0 ≤ 1; omega, by show 0 ≤ 4; omega⟩ dX5_takesStatement_5 (fun xx σ2 hq => ?_)
  obtain rfl : xx = nI (sn0 h_ d_ p_) := hq.1.trans ((atV_in (k := 0) (by decide) (by decide)).trans hn0)
  obtain rfl := hq.2
  refine m_istore_n [(1, .int (nI (sn0 h_ d_ p_))), (0, .ref (gK G 1 1))] rfl (by decide) rfl dX5_takesStatement_8 ?_
  refine m_aload_n 1 rfl rfl dX5_takesStatement_9 ?_
  refine gf_X5_30 (by decide) dX5_takesStatement_10 ?_
  refine m_iconst 1 dX5_takesStatement_13 rfl ?_
  refine m_callNi cn_X5_58 [.ref (gK G 14 1), .int 1] [] (k_at (t := 14) (n := 3) l G (by decide) (ce_14 G _ _ _ _ _ _ _ _ _ 1) (by decide) 1) rfl rfl ⟨Nat.le_of_ble_eq_true rfl, Nat.le_of_ble_eq_true rfl⟩ (Nat.le_of_ble_eq_true rfl) ⟨by show 0 ≤ 1; omega, by show 0 ≤ 4; omega⟩ dX5_takesStatement_14 (fun xx σ2 hq => ?_)
  obtain rfl : xx = nI (sn1 h_ d_ p_) := hq.1.trans ((atV_in (k := 1) (by decide) (by decide)).trans hn1)
  obtain rfl := hq.2
  refine m_istore_n [(2, .int (nI (sn1 h_ d_ p_))), (1, .int (nI (sn0 h_ d_ p_))), (0, .ref (gK G 1 1))] rfl (by decide) rfl dX5_takesStatement_17 ?_
  refine m_aload_n 2 rfl rfl dX5_takesStatement_18 ?_
  refine gf_X5_30 (by decide) dX5_takesStatement_19 ?_
  refine m_iconst 2 dX5_takesStatement_22 rfl ?_
  refine m_callNi cn_X5_58 [.ref (gK G 14 1), .int 2] [] (k_at (t := 14) (n := 3) l G (by decide) (ce_14 G _ _ _ _ _ _ _ _ _ 1) (by decide) 2) rfl rfl ⟨Nat.le_of_ble_eq_true rfl, Nat.le_of_ble_eq_true rfl⟩ (Nat.le_of_ble_eq_true rfl) ⟨by show 0 ≤ 1; omega, by show 0 ≤ 4; omega⟩ dX5_takesStatement_23 (fun xx σ2 hq => ?_)
  obtain rfl : xx = nI (sn2 h_ d_ p_) := hq.1.trans ((atV_in (k := 2) (by decide) (by decide)).trans hn22)
  obtain rfl := hq.2
  refine m_istore_n [(3, .int (nI (sn2 h_ d_ p_))), (2, .int (nI (sn1 h_ d_ p_))), (1, .int (nI (sn0 h_ d_ p_))), (0, .ref (gK G 1 1))] rfl (by decide) rfl dX5_takesStatement_26 ?_
  refine m_aload_n 3 rfl rfl dX5_takesStatement_27 ?_
  refine gf_X5_82 (by decide) dX5_takesStatement_28 ?_
  refine m_topi hlet ?_
  refine m_topi hsg ?_
  refine m_lookup 78 dX5_takesStatement_31 (by decide) (by rfl) (by decide) ?_
  refine m_aload_n 3 rfl rfl dX5_takesStatement_78 ?_
  refine m_iload_n 0 rfl rfl dX5_takesStatement_79 ?_
  refine m_iload_n 2 rfl rfl dX5_takesStatement_80 ?_
  refine m_iload_n 1 rfl rfl dX5_takesStatement_81 ?_
  refine m_callVi cv_X5_114 [.int (nI (sn2 h_ d_ p_)), .int (nI (sn0 h_ d_ p_)), .int (nI (sn1 h_ d_ p_))] [] (k_c_takesSaying l G a_ ho_ hR (sn2 h_ d_ p_) (sn0 h_ d_ p_) (sn1 h_ d_ p_) (Nat.lt_succ_of_le (hzz.2 hsg)) hz0 hz1) (by decide) (ce_1 G _ _ _ _ _ _ _ _ _ _) rfl rfl rfl ⟨Nat.le_of_ble_eq_true rfl, Nat.le_of_ble_eq_true rfl⟩ (Nat.le_of_ble_eq_true rfl) ⟨by show 0 ≤ 1; omega, by show 0 ≤ 4; omega⟩ dX5_takesStatement_82 (fun xx σ2 hq => ?_)
  obtain ⟨rfl, A1, rfl, hs1, hR2⟩ := hq
  exact m_zret dX5_takesStatement_85 (by omega) (by omega) (bI_nar _) (⟨by unfold tfB; rw [if_neg (by rw [hsg]; decide), if_neg (by rw [hsg]; decide)], A1, Y, P, rfl, hs1, yfr_rf, PX_rf, by rw [show tfB h_ d_ p_ a_ = decide (sn0 h_ d_ p_ < aN a_ ∧ sn1 h_ d_ p_ < aN a_) from by unfold tfB; rw [if_neg (by rw [hsg]; decide), if_neg (by rw [hsg]; decide)], show tfA h_ d_ p_ a_ = adT a_ (sn2 h_ d_ p_) (sn0 h_ d_ p_) (sn1 h_ d_ p_) from by unfold tfA; rw [if_neg (by rw [hsg]; decide), if_neg (by rw [hsg]; decide)], fin]; exact hR2, hyk⟩)
theorem k_c_takes (l : Launch) (G : owG) {A S Z B T V : owF} {J : Nat → Nat → Int64} {Y : Nat → Nat → Nat → Option Nat} {P : Nat → Option owW} (a_ : owK) (ho_ : aOk a_) (hR : RX A Y P 1 a_) (hyk : YOk Y P) (h_ : owH) (d_ p_ : Nat) (hq : (stS h_ d_ p_).1 = true) (hlet : S 1 1 8 = sgI h_ d_ p_) (hn0 : S 14 1 0 = nI (sn0 h_ d_ p_)) (hn1 : S 14 1 1 = nI (sn1 h_ d_ p_)) (hn2 : sgI h_ d_ p_ ≠ 107 → S 14 1 2 = nI (sn2 h_ d_ p_)) : Ct l G yX5_takesStatement cX5_takesStatement 4 (some .boolean) 8 1 4 [.ref (gK G 1 1)] (A, S, Z, B, T, V, J, Y, P) (qI (fun r_ σ => r_ = bI (tfB h_ d_ p_ a_) ∧ ∃ (A2 : owF) (Y2 : Nat → Nat → Nat → Option Nat) (P2 : Nat → Option owW), σ = (A2, S, Z, B, T, V, J, Y2, P2) ∧ sfr 1 A A2 ∧ yfr 1 Y Y2 ∧ PX P P2 ∧ RX A2 Y2 P2 1 (if tfB h_ d_ p_ a_ = true then tfA h_ d_ p_ a_ else a_) ∧ YOk Y2 P2)) := by
  rcases (stS_y hq).2.2.2.1 with e_ | e_ | e_
  · exact k_c_takes_121 l G a_ ho_ hR hyk h_ d_ p_ hq hlet hn0 hn1 hn2 e_
  · exact k_c_takes_107 l G a_ ho_ hR hyk h_ d_ p_ hq hlet hn0 hn1 hn2 e_
  · exact k_c_takes_116 l G a_ ho_ hR hyk h_ d_ p_ hq hlet hn0 hn1 hn2 e_
