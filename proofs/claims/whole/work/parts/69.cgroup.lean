/-! the class's answer to a text -/
theorem le_t1 : ∀ k, k < 102 → -1000 - nI k ≤ 0 := by decide +kernel
theorem le_t2 : ∀ k, k < 102 → -2000 - nI k ≤ 0 := by decide +kernel
theorem lt_t3 : ∀ k, k < 102 → 0 < k → ¬ nI k ≤ 0 := by decide +kernel
theorem p1R_b {h : owH} {d : Nat} : ∀ f p c, p ≤ hN h d → ((p1R h d f p c).1 = true → c ≤ (p1R h d f p c).2 ∧ (p1R h d f p c).2 ≤ c + f ∧ (f ≠ 0 → c + 1 ≤ (p1R h d f p c).2)) ∧ ((p1R h d f p c).1 = false → (p1R h d f p c).2 ≤ hN h d)
  | 0, _, c, _ => ⟨fun _ => ⟨Nat.le_refl _, Nat.le_refl _, fun z => absurd rfl z⟩, fun q => absurd (show true = false from q) (by decide)⟩
  | f + 1, p, c, hp => by
    unfold p1R
    cases hs : (stS h d p).1 with
    | false =>
      rw [if_neg (by decide)]
      exact ⟨fun q => absurd (show false = true from q) (by decide), fun _ => stS_le hp⟩
    | true =>
      rw [if_pos rfl]
      by_cases z : (stS h d p).2 < hN h d
      · rw [if_pos z]
        have i := p1R_b (h := h) (d := d) f (stS h d p).2 (c + 1) (stS_le hp)
        exact ⟨fun q => ⟨by have := (i.1 q).1; omega, by have := (i.1 q).2.1; omega, fun _ => (i.1 q).1⟩, i.2⟩
      · rw [if_neg z]
        exact ⟨fun _ => ⟨Nat.le_succ _, by show c + 1 ≤ _; omega, fun _ => Nat.le_refl _⟩, fun q => absurd (show true = false from q) (by decide)⟩
theorem p2R_b {h : owH} {d : Nat} {m : Nat} : ∀ f p b, (p2R h d f p b).1 = some m → m < hN h d
  | 0, _, _, q => absurd (show none = some m from q) (by simp)
  | f + 1, p, b, q => by
    unfold p2R at q
    by_cases z : p < hN h d
    · rw [if_pos z] at q
      cases t : tfB h d p b with
      | true => rw [t, if_pos rfl] at q; exact p2R_b f _ _ q
      | false =>
        rw [t, if_neg (by decide)] at q
        obtain rfl := Option.some.inj (show some p = some m from q)
        exact z
    · rw [if_neg z] at q
      exact absurd (show none = some m from q) (by simp)
theorem gpI_p {h : owH} {d : Nat} {a : owK} (hn : hN h d ≤ 100) (q : ¬ gpI h d a ≤ 0) : gpA h d a = true := by
  have b := p1R_b (h := h) (d := d) 101 0 0 (Nat.zero_le _)
  unfold gpI at q
  unfold gpA
  cases h1 : (p1R h d 101 0 0).1 with
  | false =>
    rw [h1, if_neg (by decide)] at q
    exact absurd (le_t1 _ (by have := b.2 h1; omega)) q
  | true =>
    rw [h1, if_pos rfl] at q
    cases h2 : (p2R h d 101 0 a).1 with
    | none => rfl
    | some m =>
      rw [h2] at q
      exact absurd (le_t2 m (by have := p2R_b _ _ _ h2; omega)) q
theorem gpI_n {h : owH} {d : Nat} {a : owK} (q : gpI h d a ≤ 0) : gpA h d a = false := by
  have b := p1R_b (h := h) (d := d) 101 0 0 (Nat.zero_le _)
  unfold gpI at q
  unfold gpA
  cases h1 : (p1R h d 101 0 0).1 with
  | false => rfl
  | true =>
    rw [h1, if_pos rfl] at q
    cases h2 : (p2R h d 101 0 a).1 with
    | some m => rfl
    | none =>
      rw [h2] at q
      obtain ⟨b1, b2, b3⟩ := b.1 h1
      have b4 := b3 (by decide)
      exact absurd q (lt_t3 _ (by omega) (by omega))
theorem sortRef_0 {h : owH} {d so : Nat} (q : sortRef h d so = 0) : hK h d = 2 ∧ hSo h d = so := by
  unfold sortRef at q
  by_cases z : hK h d = 0
  · rw [if_pos z] at q; exact absurd q (by decide)
  · rw [if_neg z] at q
    by_cases w : hK h d = 2 ∧ hSo h d = so
    · exact w
    · rw [if_neg w] at q; exact absurd q (by decide)
set_option maxRecDepth 100000 in
set_option maxHeartbeats 4000000 in
theorem k_group (l : Launch) (G : owG) {A S Z B T V : owF} {J : Nat → Nat → Int64} {Y : Nat → Nat → Nat → Option Nat} {P : Nat → Option owW} (a_ : owK) (ho_ : aOk a_) (im : Option owK) (h_ : owH) (hC : CR A Y P a_ im h_) (x_ : Int32) : Ct l G yX11_group cX11_group 5 ((some .int)) 10 25 100 [.ref (gK G 0 0), .int x_] (A, S, Z, B, T, V, J, Y, P) (qI (fun r_ σ => r_ = groupI a_ h_ x_ ∧ ∃ (A2 S2 Z2 : owF) (J2 : Nat → Nat → Int64) (Y2 : Nat → Nat → Nat → Option Nat) (P2 : Nat → Option owW), σ = (A2, S2, Z2, B, T, V, J2, Y2, P2) ∧ PX P P2 ∧ CR A2 Y2 P2 (groupA a_ h_ x_) im h_ ∧ aOk (groupA a_ h_ x_))) := by
  refine ct_of (by decide +kernel) (Nat.le_of_ble_eq_true rfl) ?_
  have h10 := ho_.1
  have h8_ := ho_.2.1
  have hR := hC.1
  have hRS := hC.2.2.2.1
  show Wm l G cX11_group 5 RX11 ((some .int)) (rmk 10 25 100) (fun _ => True) (QfM G (qI (fun r_ σ => r_ = groupI a_ h_ x_ ∧ ∃ (A2 S2 Z2 : owF) (J2 : Nat → Nat → Int64) (Y2 : Nat → Nat → Nat → Option Nat) (P2 : Nat → Option owW), σ = (A2, S2, Z2, B, T, V, J2, Y2, P2) ∧ PX P P2 ∧ CR A2 Y2 P2 (groupA a_ h_ x_) im h_ ∧ aOk (groupA a_ h_ x_))) 25 100) 0 [(0, .ref (gK G 0 0)), (1, .int x_)] [] (A, S, Z, B, T, V, J, Y, P) 0 0
  refine m_aload_n 0 rfl rfl dX11_group_0 ?_
  refine m_iload_n 1 rfl rfl dX11_group_1 ?_
  cases hDx : isD x_ with
  | false =>
    refine m_callVr cv_X11_59 [.int x_] [] (k_shelfAt_n l G x_ hDx) (by decide) (ce_0 G _ _ _ _ _ _ _ _ _ _) rfl rfl rfl ⟨Nat.le_of_ble_eq_true rfl, Nat.le_of_ble_eq_true rfl⟩ (Nat.le_of_ble_eq_true rfl) ⟨Nat.zero_le _, Nat.zero_le _⟩ dX11_group_2 (fun xx σ2 hq => ?_)
    obtain ⟨rfl, rfl⟩ := hq
    refine m_astore_nN [(2, .null), (0, .ref (gK G 0 0)), (1, .int x_)] rfl (by decide) rfl dX11_group_5 ?_
    refine m_aload_nN 0 rfl rfl dX11_group_6 ?_
    refine m_ifnonnullN dX11_group_7 ?_
    refine m_iconst (-1) dX11_group_10 rfl ?_
    exact m_iret dX11_group_11 (by omega) (by omega) (⟨by unfold groupI; rw [if_neg (by rw [hDx]; decide)], A, S, Z, J, Y, P, rfl, PX_rf, by unfold groupA; rw [if_neg (by unfold groupB; rw [hDx, Bool.false_and]; decide)]; exact ⟨hC, ho_⟩⟩)
  | true =>
    obtain ⟨nx, hnx, rfl⟩ := isD_nat hDx
    refine m_callVr cv_X11_59 [.int (nI nx)] [] (k_shelfAt_s l G nx hnx) (by decide) (ce_0 G _ _ _ _ _ _ _ _ _ _) rfl rfl rfl ⟨Nat.le_of_ble_eq_true rfl, Nat.le_of_ble_eq_true rfl⟩ (Nat.le_of_ble_eq_true rfl) ⟨Nat.zero_le _, Nat.zero_le _⟩ dX11_group_2 (fun xx σ2 hq => ?_)
    obtain ⟨rfl, rfl⟩ := hq
    have hi_nx : nx < owN 3 := hnx
    have hRS_nx := hRS nx hnx
    refine m_astore_n [(2, .ref (gK G 3 nx)), (0, .ref (gK G 0 0)), (1, .int (nI (nx)))] rfl (by decide) rfl dX11_group_5 ?_
    refine m_aload_n 0 rfl rfl dX11_group_6 ?_
    refine m_ifnonnull 12 dX11_group_7 (by decide) ?_
    refine m_aload_n 0 rfl rfl dX11_group_12 ?_
    refine m_iconst 0 dX11_group_13 rfl ?_
    refine m_callVi cv_X11_63 [.int 0] [] (k_sortRefusal l G nx hi_nx h_ hRS_nx 0 (by decide)) hi_nx (ce_3 G _ _ _ _ _ _ _ _ _ _) rfl rfl rfl ⟨Nat.le_of_ble_eq_true rfl, Nat.le_of_ble_eq_true rfl⟩ (Nat.le_of_ble_eq_true rfl) ⟨by show 0 ≤ 25; omega, by show 0 ≤ 100; omega⟩ dX11_group_14 (fun xx σ2 hq => ?_)
    obtain ⟨rfl, rfl⟩ := hq
    refine m_istore_n [(3, .int (sortRef h_ nx 0)), (2, .ref (gK G 3 nx)), (0, .ref (gK G 0 0)), (1, .int (nI (nx)))] rfl (by decide) rfl dX11_group_17 ?_
    refine m_iload_n 0 rfl rfl dX11_group_18 ?_
    refine m_if_eq 24 dX11_group_19 (by decide) (fun c1_ => ?_) (fun c1_ => ?_)
    ·
      have hsr := c1_
      have hrow := hRS_nx.row (sortRef_0 c1_).1
      have hn100 := hrow.2.2.2.2.2.1
      refine m_aload_n 2 rfl rfl dX11_group_24 ?_
      refine gf_X11_16 dX11_group_25 ?_
      refine m_aload_n 2 rfl rfl dX11_group_28 ?_
      refine gf_X11_10 dX11_group_29 ?_
      refine m_callVv cv_X11_67 [.ref (gK G 1 0)] [] (k_becomes l G 1 0 (by decide) (by decide) (by decide) a_ ho_ hR hC.2.2.2.2) (by decide) (ce_1 G _ _ _ _ _ _ _ _ _ _) rfl rfl rfl ⟨Nat.le_of_ble_eq_true rfl, Nat.le_of_ble_eq_true rfl⟩ (Nat.le_of_ble_eq_true rfl) ⟨by show 0 ≤ 25; omega, by show 0 ≤ 100; omega⟩ dX11_group_32 (fun σ2 hq => ?_)
      obtain ⟨A2, Y3, rfl, hRb, hsfb, hyfb, hykb⟩ := hq
      refine m_aload_n 2 rfl rfl dX11_group_35 ?_
      refine gf_X11_16 dX11_group_36 ?_
      refine m_aload_n 1 rfl rfl dX11_group_39 ?_
      refine m_callVia cv_X11_71 [.ref (gK G 3 nx)] [] (k_c_readFrom l G nx hnx h_ (row_sfr hrow hsfb hyfb) a_ ho_ hRb hykb) (by decide) (ce_1 G _ _ _ _ _ _ _ _ _ _) rfl rfl rfl ⟨Nat.le_of_ble_eq_true rfl, Nat.le_of_ble_eq_true rfl⟩ (Nat.le_of_ble_eq_true rfl) ⟨by show 0 + 25 ≤ 25; omega, by show 0 + 100 ≤ 100; omega⟩ dX11_group_40 (fun xx σ2 hq => ?_)
      obtain ⟨rfl, A4, S5, Y6, P7, rfl, hs2, hy2, hp2, hyk2, hgr⟩ := hq
      refine m_istore [(4, .int (gpI h_ nx a_)), (3, .int (sortRef h_ nx 0)), (2, .ref (gK G 3 nx)), (0, .ref (gK G 0 0)), (1, .int (nI (nx)))] (by decide) rfl dX11_group_43 ?_
      refine m_iload 0 rfl dX11_group_45 ?_
      refine m_if_le 61 dX11_group_47 (by decide) (fun c8_ => ?_) (fun c8_ => ?_)
      ·
        have hgp := gpI_n (h := h_) (d := nx) (a := a_) c8_
        refine m_iload 0 rfl dX11_group_61 ?_
        exact m_iret dX11_group_63 (by omega) (by omega) (⟨by unfold groupI; rw [if_pos hDx, isD_clamp hnx, if_pos hsr], A4, S5, Z, J, Y6, P7, rfl, hp2, by unfold groupA; rw [if_neg (by unfold groupB; rw [isD_clamp hnx, hgp]; simp)]; exact ⟨hC.other (sfr_tr hsfb hs2) (yfr_tr hyfb hy2) hp2 hyk2, ho_⟩⟩)
      ·
        have hgp := gpI_p (h := h_) (d := nx) (a := a_) hn100 (by first | exact Int32.not_le.mpr c8_ | exact c8_)
        refine m_aload_n 3 rfl rfl dX11_group_50 ?_
        refine gf_X11_10 dX11_group_51 ?_
        refine m_aload_n 3 rfl rfl dX11_group_54 ?_
        refine gf_X11_16 dX11_group_55 ?_
        refine m_callVv cv_X11_67 [.ref (gK G 1 1)] [] (k_becomes l G 0 1 (by decide) (by decide) (by decide) (p2R h_ nx 101 0 a_).2 (hgr hgp).2 (hgr hgp).1 hyk2) (by decide) (ce_1 G _ _ _ _ _ _ _ _ _ _) rfl rfl rfl ⟨Nat.le_of_ble_eq_true rfl, Nat.le_of_ble_eq_true rfl⟩ (Nat.le_of_ble_eq_true rfl) ⟨by show (0 + 25) ≤ 25; omega, by show (0 + 100) ≤ 100; omega⟩ dX11_group_58 (fun σ2 hq => ?_)
        obtain ⟨A9, Y10, rfl, hRc, hsfc, hyfc, hykc⟩ := hq
        refine m_iload 0 rfl dX11_group_61 ?_
        exact m_iret dX11_group_63 (by omega) (by omega) (⟨by unfold groupI; rw [if_pos hDx, isD_clamp hnx, if_pos hsr], A9, S5, Z, J, Y10, P7, rfl, hp2, by unfold groupA; rw [if_pos (by unfold groupB; rw [isD_clamp hnx, hgp, hDx, decide_eq_true hsr]; rfl), isD_clamp hnx]; exact ⟨(hC.other (sfr_tr hsfb hs2) (yfr_tr hyfb hy2) hp2 hyk2).sch0 hsfc hyfc hykc hRc, (hgr hgp).2⟩⟩)
    ·
      refine m_iload_n 0 rfl rfl dX11_group_22 ?_
      exact m_iret dX11_group_23 (by omega) (by omega) (⟨by unfold groupI; rw [if_pos hDx, isD_clamp hnx, if_neg c1_], A, S, Z, J, Y, P, rfl, PX_rf, by unfold groupA; rw [if_neg (by unfold groupB; rw [isD_clamp hnx, decide_eq_false c1_]; simp)]; exact ⟨hC, ho_⟩⟩)
