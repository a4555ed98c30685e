theorem wl_13 : Cond.classLink "OwnWaysLaw" 13 xA ∈ owTB := owTB_of (by decide +kernel) rfl
theorem wl_15 : Cond.classLink "OwnWaysLaw" 15 xS ∈ owTB := owTB_of (by decide +kernel) rfl
set_option maxRecDepth 100000 in
set_option maxHeartbeats 4000000 in
theorem k_law_element (l : Launch) (G : owG) {A S Z B T V : owF} {J : Nat → Nat → Int64} {Y : Nat → Nat → Nat → Option Nat} {P : Nat → Option owW} (hl_ : l.stackTraces = false) (h_ : owH) (hRS : allRS A Y P h_) (x_ i8 : Int32) : CtW l G yL_element cL_element 5 ((some .int)) [(0, 9, 12, 13), (0, 9, 16, 15)] 7 1 6 [.ref (gK G 0 0), .int x_, .int i8, .ref (gK G 60 0)] (A, S, Z, B, T, V, J, Y, P) (qI (fun r_ σ => r_ = elT h_ x_ i8 ∧ ∃ (S2 Z2 : owF) (J2 : Nat → Nat → Int64), σ = (A, S2, Z2, B, T, V, J2, Y, P) ∧ (elT h_ x_ i8 = 0 → J2 60 0 = elV h_ x_ i8))) := by
  refine ctw_of (by decide +kernel) (Nat.le_of_ble_eq_true rfl) ?_
  show Wm l G cL_element 5 RL ((some .int)) (rmk 7 1 6) (ExX G (tableOf [(0, 9, 12, 13), (0, 9, 16, 15)])) (QfM G (qI (fun r_ σ => r_ = elT h_ x_ i8 ∧ ∃ (S2 Z2 : owF) (J2 : Nat → Nat → Int64), σ = (A, S2, Z2, B, T, V, J2, Y, P) ∧ (elT h_ x_ i8 = 0 → J2 60 0 = elV h_ x_ i8))) 1 6) 0 [(0, .ref (gK G 0 0)), (1, .int x_), (2, .int i8), (3, .ref (gK G 60 0))] [] (A, S, Z, B, T, V, J, Y, P) 0 0
  refine m_aload_n 3 rfl rfl dL_element_0 ?_
  refine m_iconst 0 dL_element_1 rfl ?_
  refine m_aload_n 0 rfl rfl dL_element_2 ?_
  refine m_iload_n 1 rfl rfl dL_element_3 ?_
  refine m_iload_n 2 rfl rfl dL_element_4 ?_
  refine m_callVX (fun _ h_ => h_.1) cv_L_7 [.int x_, .int i8] [.int 0, .ref (gK G 60 0)] (k_element l G hl_ h_ hRS x_ i8) (by decide) (ce_0 G _ _ _ _ _ _ _ _ _ _) rfl rfl rfl ⟨Nat.le_of_ble_eq_true rfl, Nat.le_of_ble_eq_true rfl⟩ (Nat.le_of_ble_eq_true rfl) ⟨Nat.le_of_ble_eq_true rfl, Nat.le_of_ble_eq_true rfl⟩ dL_element_5 (fun E_ σ2 hq => ?_) (fun rr σ2 hq => ?_)
  · obtain ⟨hE, S2, Z2, J2, rfl⟩ := hq
    rcases hE with ⟨rfl, he_⟩ | ⟨rfl, he_⟩
    ·
      refine m_catch (tl := tableOf [(0, 9, 12, 13), (0, 9, 16, 15)]) (name := xA) [] ⟨0, 9, 12, 13⟩ [⟨0, 9, 16, 15⟩] (fun _ h_ => h_) rfl (fun _ h_ => nomatch h_) rfl (by decide) wl_13 (by decide) (fun qx => ?_)
      show Wm l G cL_element 5 RL ((some .int)) (rmk 7 1 6) (ExX G (tableOf [(0, 9, 12, 13), (0, 9, 16, 15)])) (QfM G (qI (fun r_ σ => r_ = elT h_ x_ i8 ∧ ∃ (S2 Z2 : owF) (J2 : Nat → Nat → Int64), σ = (A, S2, Z2, B, T, V, J2, Y, P) ∧ (elT h_ x_ i8 = 0 → J2 60 0 = elV h_ x_ i8))) 1 6) 12 [(0, .ref (gK G 0 0)), (1, .int x_), (2, .int i8), (3, .ref (gK G 60 0))] [.ref qx] (A, S2, Z2, B, T, V, J2, Y, P) (0 + 1) (0 + 6)
      refine m_astore [(4, .ref qx), (0, .ref (gK G 0 0)), (1, .int x_), (2, .int i8), (3, .ref (gK G 60 0))] (by decide) rfl dL_element_12 ?_
      refine m_iconst 1 dL_element_14 rfl ?_
      exact m_iret dL_element_15 (by omega) (by omega) (⟨he_.symm, _, _, _, rfl, fun q_ => absurd (he_.symm.trans q_) (by decide)⟩)
    ·
      refine m_catch (tl := tableOf [(0, 9, 12, 13), (0, 9, 16, 15)]) (name := xS) [⟨0, 9, 12, 13⟩] ⟨0, 9, 16, 15⟩ [] (fun _ h_ => h_) rfl (fun z_ h_ => by rw [List.mem_singleton.mp h_]; exact Or.inr ⟨by decide, xA, wl_13, by decide⟩) rfl (by decide) wl_15 (by decide) (fun qx => ?_)
      show Wm l G cL_element 5 RL ((some .int)) (rmk 7 1 6) (ExX G (tableOf [(0, 9, 12, 13), (0, 9, 16, 15)])) (QfM G (qI (fun r_ σ => r_ = elT h_ x_ i8 ∧ ∃ (S2 Z2 : owF) (J2 : Nat → Nat → Int64), σ = (A, S2, Z2, B, T, V, J2, Y, P) ∧ (elT h_ x_ i8 = 0 → J2 60 0 = elV h_ x_ i8))) 1 6) 16 [(0, .ref (gK G 0 0)), (1, .int x_), (2, .int i8), (3, .ref (gK G 60 0))] [.ref qx] (A, S2, Z2, B, T, V, J2, Y, P) (0 + 1) (0 + 6)
      refine m_astore [(4, .ref qx), (0, .ref (gK G 0 0)), (1, .int x_), (2, .int i8), (3, .ref (gK G 60 0))] (by decide) rfl dL_element_16 ?_
      refine m_iconst 2 dL_element_18 rfl ?_
      exact m_iret dL_element_19 (by omega) (by omega) (⟨he_.symm, _, _, _, rfl, fun q_ => absurd (he_.symm.trans q_) (by decide)⟩)
  · obtain ⟨xx, rfl, rfl, he_, S2, Z2, J2, rfl⟩ := hq
    show Wm l G cL_element 5 RL ((some .int)) (rmk 7 1 6) (ExX G (tableOf [(0, 9, 12, 13), (0, 9, 16, 15)])) (QfM G (qI (fun r_ σ => r_ = elT h_ x_ i8 ∧ ∃ (S2 Z2 : owF) (J2 : Nat → Nat → Int64), σ = (A, S2, Z2, B, T, V, J2, Y, P) ∧ (elT h_ x_ i8 = 0 → J2 60 0 = elV h_ x_ i8))) 1 6) 8 [(0, .ref (gK G 0 0)), (1, .int x_), (2, .int i8), (3, .ref (gK G 60 0))] [.long (elV h_ x_ i8), .int 0, .ref (gK G 60 0)] (A, S2, Z2, B, T, V, J2, Y, P) (0 + 1) (0 + 6)
    refine as_60 0 rfl (by omega) dL_element_8 (fun J1 hJ1 => ?_)
    refine m_goto 20 dL_element_9 (by decide) ?_
    refine m_iconst 0 dL_element_20 rfl ?_
    exact m_iret dL_element_21 (by omega) (by omega) (⟨he_.symm, _, _, _, rfl, fun _ => up2_e hJ1⟩)
