theorem m_hasf {l : Launch} {G : owG} {cc : ByteArray} {nL : Nat} {rt : Option FieldType} {R : Room} {Ex : State → Prop} {Qf : List Frame → Array Value → State → State → Prop} {pc : Nat} {lv : List (Nat × Value)} {rest : List Value} {cells slots : Nat} {A S Z B T V : owF} {J : Nat → Nat → Int64} {Y : Nat → Nat → Nat → Option Nat} {P : Nat → Option owW} {ad kd_ fg_ : Nat} {wn ww : Int32} (hkd : kd_ < 8) (hfg : fg_ ≤ 9) (ha_ : P ad = some (kd_, wn, nI fg_, ww)) (hR : 4 ≤ R.frames ∧ 120 ≤ R.locals) (hW : (rest.map fun v_ => v_.category).sum ≤ 8) (hf : cells ≤ R.cells ∧ slots ≤ R.slots) (hd_ : decode cc pc = .ok (.invokevirtual 320, 3)) (kk : Wm l G cc nL RX11 rt R Ex Qf (pc + 3) lv (.int (bI (failW kd_ fg_)) :: rest) (A, S, Z, B, T, V, J, Y, P) cells slots) : Wm l G cc nL RX11 rt R Ex Qf pc lv (.ref ad :: rest) (A, S, Z, B, T, V, J, Y, P) cells slots := by
  match kd_, hkd with
  | 0, _ => exact m_callUi cu_X11_320_0 [] rest (k_hf_0 l G ad fg_ wn ww ha_ hfg) ha_ rfl rfl rfl ⟨by omega, by omega⟩ hW hf hd_ (fun xx σ2 hq => by obtain ⟨rfl, rfl⟩ := hq; exact kk)
  | 1, _ => exact m_callUi cu_X11_320_1 [] rest (k_hf_1 l G ad fg_ wn ww ha_ hfg) ha_ rfl rfl rfl ⟨by omega, by omega⟩ hW hf hd_ (fun xx σ2 hq => by obtain ⟨rfl, rfl⟩ := hq; exact kk)
  | 2, _ => exact m_callUi cu_X11_320_2 [] rest (k_hf_2 l G ad fg_ wn ww ha_ hfg) ha_ rfl rfl rfl ⟨by omega, by omega⟩ hW hf hd_ (fun xx σ2 hq => by obtain ⟨rfl, rfl⟩ := hq; exact kk)
  | 3, _ => exact m_callUi cu_X11_320_3 [] rest (k_hf_3 l G ad fg_ wn ww ha_ hfg) ha_ rfl rfl rfl ⟨by omega, by omega⟩ hW hf hd_ (fun xx σ2 hq => by obtain ⟨rfl, rfl⟩ := hq; exact kk)
  | 4, _ => exact m_callUi cu_X11_320_4 [] rest (k_hf_4 l G ad fg_ wn ww ha_ hfg) ha_ rfl rfl rfl ⟨by omega, by omega⟩ hW hf hd_ (fun xx σ2 hq => by obtain ⟨rfl, rfl⟩ := hq; exact kk)
  | 5, _ => exact m_callUi cu_X11_320_5 [] rest (k_hf_5 l G ad fg_ wn ww ha_ hfg) ha_ rfl rfl rfl ⟨by omega, by omega⟩ hW hf hd_ (fun xx σ2 hq => by obtain ⟨rfl, rfl⟩ := hq; exact kk)
  | 6, _ => exact m_callUi cu_X11_320_6 [] rest (k_hf_6 l G ad fg_ wn ww ha_ hfg) ha_ rfl rfl rfl ⟨by omega, by omega⟩ hW hf hd_ (fun xx σ2 hq => by obtain ⟨rfl, rfl⟩ := hq; exact kk)
  | 7, _ => exact m_callUi cu_X11_320_7 [] rest (k_hf_7 l G ad fg_ wn ww ha_ hfg) ha_ rfl rfl rfl ⟨by omega, by omega⟩ hW hf hd_ (fun xx σ2 hq => by obtain ⟨rfl, rfl⟩ := hq; exact kk)
theorem cw_X11_323 : cwOk RX11 323 yX11_caughtFrom cX11_caughtFrom 2 (some .int) [(0, 4, 7, 355), (0, 4, 17, 282), (0, 4, 26, 289)] 1 := ⟨owTB_of (by decide +kernel) rfl, owTB_of (by decide +kernel) rfl, owTB_of (by decide +kernel) rfl, owTB_of (by decide +kernel) rfl, by decide, by decide, by decide +kernel⟩
set_option maxRecDepth 100000 in
set_option maxHeartbeats 4000000 in
theorem k_toss (l : Launch) (G : owG) {A S Z B T V : owF} {J : Nat → Nat → Int64} {Y : Nat → Nat → Nat → Option Nat} {P : Nat → Option owW} (hl_ : l.stackTraces = false) (h_ : owH) (hRS : allRS A Y P h_) (x_ : Int32) : CtE l G yX11_toss cX11_toss 4 ((some .int)) 8 1 6 [.ref (gK G 0 0), .int x_] (A, S, Z, B, T, V, J, Y, P) (qI (fun r_ σ => r_ = tossP h_ x_ ∧ ∃ (S2 Z2 : owF) (J2 : Nat → Nat → Int64), σ = (A, S2, Z2, B, T, V, J2, Y, P))) := by
  refine cte_of (by decide +kernel) (Nat.le_of_ble_eq_true rfl) ?_
  show Wm l G cX11_toss 4 RX11 ((some .int)) (rmk 8 1 6) (XOk G) (QfM G (qI (fun r_ σ => r_ = tossP h_ x_ ∧ ∃ (S2 Z2 : owF) (J2 : Nat → Nat → Int64), σ = (A, S2, Z2, B, T, V, J2, Y, P))) 1 6) 0 [(0, .ref (gK G 0 0)), (1, .int x_)] [] (A, S, Z, B, T, V, J, Y, P) 0 0
  refine m_aload_n 0 rfl rfl dX11_toss_0 ?_
  refine m_iload_n 1 rfl rfl dX11_toss_1 ?_
  cases hDx : isD x_ with
  | false =>
    refine m_callVr cv_X11_59 [.int x_] [] (k_shelfAt_n l G x_ hDx) (by decide) (ce_0 G _ _ _ _ _ _ _ _ _ _) rfl rfl rfl ⟨Nat.le_of_ble_eq_true rfl, Nat.le_of_ble_eq_true rfl⟩ (Nat.le_of_ble_eq_true rfl) ⟨Nat.zero_le _, Nat.zero_le _⟩ dX11_toss_2 (fun xx σ2 hq => ?_)
    obtain ⟨rfl, rfl⟩ := hq
    refine m_astore_nN [(2, .null), (0, .ref (gK G 0 0)), (1, .int x_)] rfl (by decide) rfl dX11_toss_5 ?_
    refine m_aload_nN 0 rfl rfl dX11_toss_6 ?_
    refine m_ifnonnullN dX11_toss_7 ?_
    refine m_iconst (-1) dX11_toss_10 rfl ?_
    exact m_iret dX11_toss_11 (by omega) (by omega) (⟨by unfold tossP; rw [hDx]; rfl, _, _, _, rfl⟩)
  | true =>
    obtain ⟨nx, hnx, rfl⟩ := isD_nat hDx
    refine m_callVr cv_X11_59 [.int (nI nx)] [] (k_shelfAt_s l G nx hnx) (by decide) (ce_0 G _ _ _ _ _ _ _ _ _ _) rfl rfl rfl ⟨Nat.le_of_ble_eq_true rfl, Nat.le_of_ble_eq_true rfl⟩ (Nat.le_of_ble_eq_true rfl) ⟨Nat.zero_le _, Nat.zero_le _⟩ dX11_toss_2 (fun xx σ2 hq => ?_)
    obtain ⟨rfl, rfl⟩ := hq
    have hi_nx : nx < owN 3 := hnx
    have hRS_nx := hRS nx hnx
    refine m_astore_n [(2, .ref (gK G 3 nx)), (0, .ref (gK G 0 0)), (1, .int (nI (nx)))] rfl (by decide) rfl dX11_toss_5 ?_
    refine m_aload_n 0 rfl rfl dX11_toss_6 ?_
    refine m_ifnonnull 12 dX11_toss_7 (by decide) ?_
    have hRSx := hRS_nx
    rcases hRSx with hq | hq | hq
    ·
      have hY0 := hq.2.1
      have hK0 := hq.1
      refine m_aload_n 0 rfl rfl dX11_toss_12 ?_
      refine gf_X11_313 hi_nx dX11_toss_13 ?_
      refine m_topr hY0 ?_
      refine m_astore_nN [(3, .null), (2, .ref (gK G 3 nx)), (0, .ref (gK G 0 0)), (1, .int (nI (nx)))] rfl (by decide) rfl dX11_toss_16 ?_
      refine m_aload_nN 0 rfl rfl dX11_toss_17 ?_
      refine m_ifnonnullN dX11_toss_18 ?_
      refine m_aload_n 1 rfl rfl dX11_toss_21 ?_
      refine m_callVi cv_X11_317 [] [] (k_wayRefusal l G nx hi_nx h_ hRS_nx) hi_nx (ce_3 G _ _ _ _ _ _ _ _ _ _) rfl rfl rfl ⟨Nat.le_of_ble_eq_true rfl, Nat.le_of_ble_eq_true rfl⟩ (Nat.le_of_ble_eq_true rfl) ⟨by show 0 ≤ 1; omega, by show 0 ≤ 6; omega⟩ dX11_toss_22 (fun xx σ2 hq => ?_)
      obtain ⟨rfl, rfl⟩ := hq
      exact m_iret dX11_toss_25 (by omega) (by omega) (⟨by unfold tossP; rw [hDx, if_pos rfl, isD_clamp hnx, if_neg (by rw [hK0]; decide)], _, _, _, rfl⟩)
    ·
      obtain ⟨hK0, ⟨ad, wt, hY0, hP0⟩, hk8, hf9, hn10, hA0⟩ := hq
      refine m_aload_n 0 rfl rfl dX11_toss_12 ?_
      refine gf_X11_313 hi_nx dX11_toss_13 ?_
      refine m_topr hY0 ?_
      refine m_astore_n [(3, .ref ad), (2, .ref (gK G 3 nx)), (0, .ref (gK G 0 0)), (1, .int (nI (nx)))] rfl (by decide) rfl dX11_toss_16 ?_
      refine m_aload_n 0 rfl rfl dX11_toss_17 ?_
      refine m_ifnonnull 26 dX11_toss_18 (by decide) ?_
      refine m_aload_n 0 rfl rfl dX11_toss_26 ?_
      refine m_hasf hk8 hf9 hP0 ⟨Nat.le_of_ble_eq_true rfl, Nat.le_of_ble_eq_true rfl⟩ (Nat.le_of_ble_eq_true rfl) ⟨Nat.zero_le _, Nat.zero_le _⟩ dX11_toss_27 ?_
      refine m_ifeq_b 40 dX11_toss_30 (by decide) (fun c1_ => ?_) (fun c1_ => ?_)
      ·
        refine m_bipush (-15) dX11_toss_40 rfl ?_
        exact m_iret dX11_toss_42 (by omega) (by omega) (⟨by unfold tossP; rw [hDx, if_pos rfl, isD_clamp hnx, if_pos hK0]; unfold tossI; rw [if_neg (by rw [c1_]; decide)], _, _, _, rfl⟩)
      ·
        refine m_aload_n 0 rfl rfl dX11_toss_33 ?_
        refine m_callSW (fun _ h_ => h_) cw_X11_323 [.ref ad] [] (k_caught l G hl_ ad (hW h_ nx) (hn h_ nx) (hf h_ nx) hk8 hf9 hn10 wt hP0) rfl rfl ⟨Nat.le_of_ble_eq_true rfl, Nat.le_of_ble_eq_true rfl⟩ (Nat.le_of_ble_eq_true rfl) ⟨Nat.le_of_ble_eq_true rfl, Nat.le_of_ble_eq_true rfl⟩ dX11_toss_34 (fun rr σ2 hq => ?_)
        obtain ⟨xx, rfl, rfl, rfl⟩ := hq
        show Wm l G cX11_toss 4 RX11 ((some .int)) (rmk 8 1 6) (XOk G) (QfM G (qI (fun r_ σ => r_ = tossP h_ (nI nx) ∧ ∃ (S2 Z2 : owF) (J2 : Nat → Nat → Int64), σ = (A, S2, Z2, B, T, V, J2, Y, P))) 1 6) 37 [(3, .ref ad), (2, .ref (gK G 3 nx)), (0, .ref (gK G 0 0)), (1, .int (nI (nx)))] [.int (caughtI (hW h_ nx) (hn h_ nx) (hf h_ nx))] (A, S, Z, B, T, V, J, Y, P) (0 + 1) (0 + 6)
        refine m_goto 42 dX11_toss_37 (by decide) ?_
        exact m_iret dX11_toss_42 (by omega) (by omega) (⟨by unfold tossP; rw [hDx, if_pos rfl, isD_clamp hnx, if_pos hK0]; unfold tossI; rw [if_pos c1_]; rfl, _, _, _, rfl⟩)
    ·
      have hY0 := hq.2.1
      have hK0 := hq.1
      refine m_aload_n 0 rfl rfl dX11_toss_12 ?_
      refine gf_X11_313 hi_nx dX11_toss_13 ?_
      refine m_topr hY0 ?_
      refine m_astore_nN [(3, .null), (2, .ref (gK G 3 nx)), (0, .ref (gK G 0 0)), (1, .int (nI (nx)))] rfl (by decide) rfl dX11_toss_16 ?_
      refine m_aload_nN 0 rfl rfl dX11_toss_17 ?_
      refine m_ifnonnullN dX11_toss_18 ?_
      refine m_aload_n 1 rfl rfl dX11_toss_21 ?_
      refine m_callVi cv_X11_317 [] [] (k_wayRefusal l G nx hi_nx h_ hRS_nx) hi_nx (ce_3 G _ _ _ _ _ _ _ _ _ _) rfl rfl rfl ⟨Nat.le_of_ble_eq_true rfl, Nat.le_of_ble_eq_true rfl⟩ (Nat.le_of_ble_eq_true rfl) ⟨by show 0 ≤ 1; omega, by show 0 ≤ 6; omega⟩ dX11_toss_22 (fun xx σ2 hq => ?_)
      obtain ⟨rfl, rfl⟩ := hq
      exact m_iret dX11_toss_25 (by omega) (by omega) (⟨by unfold tossP; rw [hDx, if_pos rfl, isD_clamp hnx, if_neg (by rw [hK0]; decide)], _, _, _, rfl⟩)
theorem wf_el1 : xThr "OwnWays" 282 286 xA := ⟨owTB_of (by decide +kernel) rfl, owTB_of (by decide +kernel) rfl, by decide +kernel, by decide +kernel, by decide +kernel, by decide +kernel, by decide +kernel⟩
theorem wf_el2 : xThr "OwnWays" 289 293 xS := ⟨owTB_of (by decide +kernel) rfl, owTB_of (by decide +kernel) rfl, by decide +kernel, by decide +kernel, by decide +kernel, by decide +kernel, by decide +kernel⟩
theorem rowRef_0 {h_ : owH} {d_ : Nat} (q_ : rowRef h_ d_ = 0) : hK h_ d_ = 2 := by
  unfold rowRef at q_
  by_cases z_ : hK h_ d_ = 0
  · rw [if_pos z_] at q_; exact absurd q_ (by decide)
  · rw [if_neg z_] at q_
    by_cases w_ : hK h_ d_ = 2
    · exact w_
    · rw [if_neg w_] at q_; exact absurd q_ (by decide)
set_option maxRecDepth 100000 in
set_option maxHeartbeats 4000000 in
theorem k_element (l : Launch) (G : owG) {A S Z B T V : owF} {J : Nat → Nat → Int64} {Y : Nat → Nat → Nat → Option Nat} {P : Nat → Option owW} (hl_ : l.stackTraces = false) (h_ : owH) (hRS : allRS A Y P h_) (x_ i8 : Int32) : CtX l G yX11_element cX11_element 4 ((some .long)) 6 1 6 [.ref (gK G 0 0), .int x_, .int i8] (A, S, Z, B, T, V, J, Y, P) (qL (fun r_ σ => r_ = elV h_ x_ i8 ∧ elT h_ x_ i8 = 0 ∧ ∃ (S2 Z2 : owF) (J2 : Nat → Nat → Int64), σ = (A, S2, Z2, B, T, V, J2, Y, P))) (fun E_ σ2 => (E_ = xA ∧ elT h_ x_ i8 = 1 ∨ E_ = xS ∧ elT h_ x_ i8 = 2) ∧ ∃ (S2 Z2 : owF) (J2 : Nat → Nat → Int64), σ2 = (A, S2, Z2, B, T, V, J2, Y, P)) := by
  refine ctx_of (by decide +kernel) (Nat.le_of_ble_eq_true rfl) ?_
  show Wm l G cX11_element 4 RX11 ((some .long)) (rmk 6 1 6) (ExX G []) (QfX G (qL (fun r_ σ => r_ = elV h_ x_ i8 ∧ elT h_ x_ i8 = 0 ∧ ∃ (S2 Z2 : owF) (J2 : Nat → Nat → Int64), σ = (A, S2, Z2, B, T, V, J2, Y, P))) (fun E_ σ2 => (E_ = xA ∧ elT h_ x_ i8 = 1 ∨ E_ = xS ∧ elT h_ x_ i8 = 2) ∧ ∃ (S2 Z2 : owF) (J2 : Nat → Nat → Int64), σ2 = (A, S2, Z2, B, T, V, J2, Y, P)) 1 6) 0 [(0, .ref (gK G 0 0)), (1, .int x_), (2, .int i8)] [] (A, S, Z, B, T, V, J, Y, P) 0 0
  refine m_aload_n 0 rfl rfl dX11_element_0 ?_
  refine m_iload_n 1 rfl rfl dX11_element_1 ?_
  cases hDx : isD x_ with
  | false =>
    refine m_callVr cv_X11_59 [.int x_] [] (k_shelfAt_n l G x_ hDx) (by decide) (ce_0 G _ _ _ _ _ _ _ _ _ _) rfl rfl rfl ⟨Nat.le_of_ble_eq_true rfl, Nat.le_of_ble_eq_true rfl⟩ (Nat.le_of_ble_eq_true rfl) ⟨Nat.zero_le _, Nat.zero_le _⟩ dX11_element_2 (fun xx σ2 hq => ?_)
    obtain ⟨rfl, rfl⟩ := hq
    refine m_astore_nN [(3, .null), (0, .ref (gK G 0 0)), (1, .int x_), (2, .int i8)] rfl (by decide) rfl dX11_element_5 ?_
    refine m_aload_nN 0 rfl rfl dX11_element_6 ?_
    refine m_ifnonnullN dX11_element_7 ?_
    exact m_throwSW (cls := xA) (text := xT11) hl_ wf_el1 (by decide) ⟨Nat.le_of_ble_eq_true rfl, Nat.le_of_ble_eq_true rfl, Nat.le_of_ble_eq_true rfl, Nat.le_of_ble_eq_true rfl⟩ ⟨Nat.le_of_ble_eq_true rfl, Nat.le_of_ble_eq_true rfl⟩ dX11_element_10 dX11_element_13 dX11_element_14 dX11_element_17 dX11_element_20 (⟨Or.inl ⟨rfl, by unfold elT; rw [if_neg (by rw [hDx]; decide)]⟩, _, _, _, rfl⟩)
  | true =>
    obtain ⟨nx, hnx, rfl⟩ := isD_nat hDx
    refine m_callVr cv_X11_59 [.int (nI nx)] [] (k_shelfAt_s l G nx hnx) (by decide) (ce_0 G _ _ _ _ _ _ _ _ _ _) rfl rfl rfl ⟨Nat.le_of_ble_eq_true rfl, Nat.le_of_ble_eq_true rfl⟩ (Nat.le_of_ble_eq_true rfl) ⟨Nat.zero_le _, Nat.zero_le _⟩ dX11_element_2 (fun xx σ2 hq => ?_)
    obtain ⟨rfl, rfl⟩ := hq
    have hi_nx : nx < owN 3 := hnx
    have hRS_nx := hRS nx hnx
    refine m_astore_n [(3, .ref (gK G 3 nx)), (0, .ref (gK G 0 0)), (1, .int (nI (nx))), (2, .int i8)] rfl (by decide) rfl dX11_element_5 ?_
    refine m_aload_n 0 rfl rfl dX11_element_6 ?_
    refine m_ifnonnull 21 dX11_element_7 (by decide) ?_
    refine m_aload_n 0 rfl rfl dX11_element_21 ?_
    refine m_callVi cv_X11_247 [] [] (k_rowRefusal l G nx hi_nx h_ hRS_nx) hi_nx (ce_3 G _ _ _ _ _ _ _ _ _ _) rfl rfl rfl ⟨Nat.le_of_ble_eq_true rfl, Nat.le_of_ble_eq_true rfl⟩ (Nat.le_of_ble_eq_true rfl) ⟨by show 0 ≤ 1; omega, by show 0 ≤ 6; omega⟩ dX11_element_22 (fun xx σ2 hq => ?_)
    obtain ⟨rfl, rfl⟩ := hq
    refine m_if_ne 36 dX11_element_25 (by decide) (fun c1_ => ?_) (fun c1_ => ?_)
    ·
      exact m_throwSW (cls := xS) (text := xT12) hl_ wf_el2 (by decide) ⟨Nat.le_of_ble_eq_true rfl, Nat.le_of_ble_eq_true rfl, Nat.le_of_ble_eq_true rfl, Nat.le_of_ble_eq_true rfl⟩ ⟨Nat.le_of_ble_eq_true rfl, Nat.le_of_ble_eq_true rfl⟩ dX11_element_36 dX11_element_39 dX11_element_40 dX11_element_43 dX11_element_46 (⟨Or.inr ⟨rfl, by unfold elT; rw [hDx, if_pos rfl, isD_clamp hnx, if_neg (fun q_ => c1_ q_.1)]⟩, _, _, _, rfl⟩)
    ·
      have hr0 := c1_
      have hKx := rowRef_0 c1_
      have hrowx := hRS_nx.row hKx
      have hrow := hrowx
      refine m_aload_n 0 rfl rfl dX11_element_28 ?_
      refine m_iload_n 3 rfl rfl dX11_element_29 ?_
      refine m_callVi cv_X11_279 [.int i8] [] (k_hasPlace l G nx hi_nx h_ hrowx i8) hi_nx (ce_3 G _ _ _ _ _ _ _ _ _ _) rfl rfl rfl ⟨Nat.le_of_ble_eq_true rfl, Nat.le_of_ble_eq_true rfl⟩ (Nat.le_of_ble_eq_true rfl) ⟨by show 0 ≤ 1; omega, by show 0 ≤ 6; omega⟩ dX11_element_30 (fun xx σ2 hq => ?_)
      obtain ⟨rfl, rfl⟩ := hq
      refine m_ifne_b 47 dX11_element_33 (by decide) (fun c2_ => ?_) (fun c2_ => ?_)
      ·
        refine m_aload_n 0 rfl rfl dX11_element_47 ?_
        refine m_iload_n 3 rfl rfl dX11_element_48 ?_
        refine m_callVi cv_X11_253 [.int i8] [] (k_get l G nx hi_nx h_ hrow i8) hi_nx (ce_3 G _ _ _ _ _ _ _ _ _ _) rfl rfl rfl ⟨Nat.le_of_ble_eq_true rfl, Nat.le_of_ble_eq_true rfl⟩ (Nat.le_of_ble_eq_true rfl) ⟨by show 0 ≤ 1; omega, by show 0 ≤ 6; omega⟩ dX11_element_49 (fun xx σ2 hq => ?_)
        obtain ⟨rfl, rfl⟩ := hq
        refine m_i2l dX11_element_52 ?_
        refine m_retX ?_
        exact m_lret dX11_element_53 (by omega) (by omega) (⟨by unfold elV; rw [show elT h_ (nI nx) i8 = 0 from by unfold elT; rw [hDx, if_pos rfl, isD_clamp hnx, if_pos ⟨hr0, c2_⟩], if_pos rfl, isD_clamp hnx]; unfold getI; rw [if_pos c2_], by unfold elT; rw [hDx, if_pos rfl, isD_clamp hnx, if_pos ⟨hr0, c2_⟩], _, _, _, rfl⟩)
      ·
        exact m_throwSW (cls := xS) (text := xT12) hl_ wf_el2 (by decide) ⟨Nat.le_of_ble_eq_true rfl, Nat.le_of_ble_eq_true rfl, Nat.le_of_ble_eq_true rfl, Nat.le_of_ble_eq_true rfl⟩ ⟨Nat.le_of_ble_eq_true rfl, Nat.le_of_ble_eq_true rfl⟩ dX11_element_36 dX11_element_39 dX11_element_40 dX11_element_43 dX11_element_46 (⟨Or.inr ⟨rfl, by unfold elT; rw [hDx, if_pos rfl, isD_clamp hnx, if_neg (fun q_ => by rw [q_.2] at c2_; exact absurd c2_ (by decide))]⟩, _, _, _, rfl⟩)
