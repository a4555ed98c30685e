/-! what a statement tells, kept -/
theorem stS_z {h : owH} {d p : Nat} (q : (stS h d p).1 = true) : (sgI h d p ≠ 107 → sn1 h d p ≤ 9) ∧ (sgI h d p = 116 → sn2 h d p ≤ 9) := by
  have hop : ∀ r, opV h d r ≤ 9 := fun r => by
    unfold opV
    cases hd : dgB h d r with
    | false => exact Nat.zero_le _
    | true => exact (dg_v hd).2.1
  refine ⟨fun c => ?_, fun c => ?_⟩
  · unfold sn1
    rw [if_neg c]
    have hdd : dgB h d (p + 2) = true := by
      cases d2 : dgB h d (p + 2) with
      | true => rfl
      | false =>
        unfold stS stY stT at q
        rw [if_neg c, d2] at q
        simp at q
        by_cases c1 : sgI h d p = 121
        · rw [if_pos c1] at q; split at q <;> exact absurd q (by simp)
        · rw [if_neg c1] at q
          by_cases c3 : sgI h d p = 116
          · rw [if_pos c3] at q; split at q <;> exact absurd q (by simp)
          · rw [if_neg c3] at q; exact absurd q (by simp)
    exact (dg_v hdd).2.1
  · unfold sn2
    rw [if_neg (by rw [c]; decide)]
    exact hop _
theorem aOk.adW {b : owK} {x0 x1 x2 : Nat} (ho : aOk b) (h0 : x0 ≤ 7) (h1 : x1 ≤ 9) (h2 : 1 ≤ x2) (h3 : x2 ≤ 99) (hN : aN b < 10) : aOk (adW b x0 x1 x2) := by
  refine ⟨by show aN b + 1 ≤ 10; omega, ho.2.1, fun w hw => ?_, fun c hc => ?_, fun k w hk hw => ?_⟩
  · have hw' : w < aN b + 1 := hw
    show (if w = aN b then (x0, x1, x2) else b.2.1 w).1 < 8 ∧ (if w = aN b then (x0, x1, x2) else b.2.1 w).2.1 ≤ 9 ∧ 1 ≤ (if w = aN b then (x0, x1, x2) else b.2.1 w).2.2 ∧ (if w = aN b then (x0, x1, x2) else b.2.1 w).2.2 ≤ 99
    by_cases c : w = aN b
    · rw [if_pos c]; exact ⟨by show x0 < 8; omega, h1, h2, h3⟩
    · rw [if_neg c]; exact ho.2.2.1 w (by omega)
  · have q := ho.2.2.2.1 c hc
    exact ⟨Nat.lt_succ_of_lt q.1, q.2.1, Nat.lt_succ_of_lt q.2.2⟩
  · have q := ho.2.2.2.2 k w hk hw
    exact ⟨Nat.le_succ_of_le q.1, fun z => q.2 (Nat.le_of_succ_le z)⟩
theorem aOk.adC {b : owK} {x0 x1 : Nat} (ho : aOk b) (h0 : x0 < aN b) (h1 : x1 ≤ 50) (hC : aC b < 8) : aOk (adC b x0 x1) := by
  refine ⟨ho.1, by show aC b + 1 ≤ 8; omega, ho.2.2.1, fun c hc => ?_, ho.2.2.2.2⟩
  have hc' : c < aC b + 1 := hc
  show (if c = aC b then (x0, x1, x0) else b.2.2.2.1 c).1 < aN b ∧ (if c = aC b then (x0, x1, x0) else b.2.2.2.1 c).2.1 ≤ 50 ∧ (if c = aC b then (x0, x1, x0) else b.2.2.2.1 c).2.2 < aN b
  by_cases z : c = aC b
  · rw [if_pos z]; exact ⟨h0, h1, h0⟩
  · rw [if_neg z]; exact ho.2.2.2.1 c (by omega)
theorem aOk.adT {b : owK} {k x0 x1 : Nat} (ho : aOk b) (h0 : x0 < aN b) (h1 : x1 < aN b) : aOk (adT b k x0 x1) := by
  refine ⟨ho.1, ho.2.1, ho.2.2.1, ho.2.2.2.1, fun k2 w hk hw => ?_⟩
  have q := ho.2.2.2.2 k2 w hk hw
  show (if k2 = k ∧ w = x0 then x1 + 1 else aT b k2 w) ≤ aN b ∧ (aN b ≤ w → (if k2 = k ∧ w = x0 then x1 + 1 else aT b k2 w) = 0)
  by_cases z : k2 = k ∧ w = x0
  · rw [if_pos z]; exact ⟨by omega, fun z2 => by omega⟩
  · rw [if_neg z]; exact q
theorem MX.adW {f f2 : Nat → Int32} {b : owK} {x0 x1 x2 : Nat} (ho : aOk b) (hN : aN b < 10) (h : MX f b) (h0 : f2 0 = nI (aN b + 1)) (e0 : f2 ((2 + (3 * aN b)) + 0) = nI x0) (e1 : f2 ((2 + (3 * aN b)) + 1) = nI x1) (e2 : f2 ((2 + (3 * aN b)) + 2) = nI x2) (hf : ∀ j, j ≠ 0 → ¬ (2 + 3 * aN b ≤ j ∧ j < 2 + 3 * aN b + 3) → f2 j = f j) : MX f2 (adW b x0 x1 x2) := by
  have h8 := ho.2.1
  refine ⟨h0, (hf 1 (by decide) (by omega)).trans h.2.1, fun w hw k hk => ?_, fun c hc k hk => (hf _ (by omega) (by omega)).trans (h.2.2.2.1 c hc k hk), fun k w hk hw => (hf _ (by omega) (by omega)).trans (h.2.2.2.2 k w hk hw)⟩
  have hw' : w < aN b + 1 := hw
  by_cases c : w = aN b
  · subst c
    have g : ∀ j, mG (COwnWaysLaw_law_r6735_8123bf.adW b x0 x1 x2) (aN b) j = if j = 0 then x0 else if j = 1 then x1 else x2 := fun j => by
      unfold mG aK aF aG
      show (if j = 0 then (if aN b = aN b then (x0, x1, x2) else b.2.1 (aN b)).1 else if j = 1 then (if aN b = aN b then (x0, x1, x2) else b.2.1 (aN b)).2.1 else (if aN b = aN b then (x0, x1, x2) else b.2.1 (aN b)).2.2) = _
      rw [if_pos rfl]
    rw [g]
    rcases (show k = 0 ∨ k = 1 ∨ k = 2 by omega) with z | z | z <;> subst z
    · exact e0
    · exact e1
    · exact e2
  · have g : mG (COwnWaysLaw_law_r6735_8123bf.adW b x0 x1 x2) w k = mG b w k := by
      unfold mG aK aF aG
      show (if k = 0 then (if w = aN b then (x0, x1, x2) else b.2.1 w).1 else if k = 1 then (if w = aN b then (x0, x1, x2) else b.2.1 w).2.1 else (if w = aN b then (x0, x1, x2) else b.2.1 w).2.2) = _
      rw [if_neg c]
    rw [g]
    exact (hf _ (by omega) (by omega)).trans (h.2.2.1 w (by omega) k hk)
theorem MX.adC {f f2 : Nat → Int32} {b : owK} {x0 x1 : Nat} (ho : aOk b) (hC : aC b < 8) (h : MX f b) (h0 : f2 1 = nI (aC b + 1)) (e0 : f2 (32 + (3 * aC b)) = nI x0) (e1 : f2 ((32 + (3 * aC b)) + 1) = nI x1) (e2 : f2 ((32 + (3 * aC b)) + 2) = nI x0) (hf : ∀ j, j ≠ 1 → ¬ (32 + 3 * aC b ≤ j ∧ j < 32 + 3 * aC b + 3) → f2 j = f j) : MX f2 (adC b x0 x1) := by
  have h10 := ho.1
  refine ⟨(hf 0 (by decide) (by omega)).trans h.1, h0, fun w hw k hk => ?_, fun c hc k hk => ?_, fun k w hk hw => (hf _ (by omega) (by omega)).trans (h.2.2.2.2 k w hk hw)⟩
  · have hw' : w < aN b := hw
    exact (hf _ (by omega) (by omega)).trans (h.2.2.1 w hw k hk)
  have hc' : c < aC b + 1 := hc
  by_cases z : c = aC b
  · subst z
    have g : ∀ j, mO (COwnWaysLaw_law_r6735_8123bf.adC b x0 x1) (aC b) j = if j = 0 then x0 else if j = 1 then x1 else x0 := fun j => by
      unfold mO aH aS aI
      show (if j = 0 then (if aC b = aC b then (x0, x1, x0) else b.2.2.2.1 (aC b)).1 else if j = 1 then (if aC b = aC b then (x0, x1, x0) else b.2.2.2.1 (aC b)).2.1 else (if aC b = aC b then (x0, x1, x0) else b.2.2.2.1 (aC b)).2.2) = _
      rw [if_pos rfl]
    rw [g]
    rcases (show k = 0 ∨ k = 1 ∨ k = 2 by omega) with z | z | z <;> subst z
    · exact e0
    · exact e1
    · exact e2
  · have g : mO (COwnWaysLaw_law_r6735_8123bf.adC b x0 x1) c k = mO b c k := by
      unfold mO aH aS aI
      show (if k = 0 then (if c = aC b then (x0, x1, x0) else b.2.2.2.1 c).1 else if k = 1 then (if c = aC b then (x0, x1, x0) else b.2.2.2.1 c).2.1 else (if c = aC b then (x0, x1, x0) else b.2.2.2.1 c).2.2) = _
      rw [if_neg z]
    rw [g]
    exact (hf _ (by omega) (by omega)).trans (h.2.2.2.1 c (by omega) k hk)
theorem MX.adT {f f2 : Nat → Int32} {b : owK} {k x0 x1 : Nat} (ho : aOk b) (hk : k < 10) (h0 : x0 < aN b) (h : MX f b) (e : ∀ j, f2 j = if j = (56 + (10 * k)) + x0 then nI x1 else f j) : MX f2 (adT b k x0 x1) := by
  have h10 := ho.1
  have h8 := ho.2.1
  refine ⟨by rw [e, if_neg (by omega)]; exact h.1, by rw [e, if_neg (by omega)]; exact h.2.1, fun w hw k hk => by have hw' : w < aN b := hw; rw [e, if_neg (by omega)]; exact h.2.2.1 w hw k hk, fun c hc k hk => by have hc' : c < aC b := hc; rw [e, if_neg (by omega)]; exact h.2.2.2.1 c hc k hk, fun k2 w hk2 hw => ?_⟩
  rw [e]
  show _ = sdI (if k2 = k ∧ w = x0 then x1 + 1 else aT b k2 w)
  by_cases z : k2 = k ∧ w = x0
  · rw [if_pos z, if_pos (by omega)]
    rfl
  · rw [if_neg z, if_neg (by omega)]
    exact h.2.2.2.2 k2 w hk2 hw
theorem p1R_s {h : owH} {d c p : Nat} {R : Bool × Nat} (hc : c ≤ 100) (e : p1R h d (101 - c) p c = R) : (if (stS h d p).1 then (if (stS h d p).2 < hN h d then p1R h d (101 - (c + 1)) (stS h d p).2 (c + 1) else (true, c + 1)) else (false, (stS h d p).2)) = R := by
  rw [← e, show 101 - c = (100 - c) + 1 by omega, show 101 - (c + 1) = 100 - c by omega]
  rfl
theorem p2R_s {h : owH} {d c p : Nat} {b : owK} {R : Option Nat × owK} (hc : c ≤ 100) (e : p2R h d (101 - c) p b = R) : (if p < hN h d then (if tfB h d p b then p2R h d (101 - (c + 1)) (stS h d p).2 (tfA h d p b) else (some p, b)) else (none, b)) = R := by
  rw [← e, show 101 - c = (100 - c) + 1 by omega, show 101 - (c + 1) = 100 - c by omega]
  rfl
theorem tfA_ok {h : owH} {d p : Nat} {b : owK} (ho : aOk b) (q : (stS h d p).1 = true) (t : tfB h d p b = true) : aOk (tfA h d p b) := by
  have y := stS_y q
  have z := stS_z q
  unfold tfB at t
  unfold tfA
  by_cases c1 : sgI h d p = 121
  · rw [if_pos c1] at t ⊢
    have t2 := of_decide_eq_true t
    exact ho.adW t2.1 (z.1 (by rw [c1]; decide)) t2.2.1 y.2.2.2.2.2.2 t2.2.2
  rw [if_neg c1] at t ⊢
  by_cases c2 : sgI h d p = 107
  · rw [if_pos c2] at t ⊢
    have t2 := of_decide_eq_true t
    exact ho.adC t2.1 t2.2.1 t2.2.2
  · rw [if_neg c2] at t ⊢
    have t2 := of_decide_eq_true t
    exact ho.adT t2.1 t2.2
set_option maxRecDepth 100000 in
set_option maxHeartbeats 4000000 in
theorem k_m_tells_y (l : Launch) (G : owG) {A S Z B T V : owF} {J : Nat → Nat → Int64} {Y : Nat → Nat → Nat → Option Nat} {P : Nat → Option owW} (b_ : owK) (ho_ : aOk b_) (hX : MX (T 42 0) b_) (x0 x1 x2 : Nat) (hx0 : x0 ≤ 9) (hx1 : x1 ≤ 99) (hx2 : x2 ≤ 99) (hn0 : T 49 0 0 = nI x0) (hn1 : T 49 0 1 = nI x1) (hn2 : T 49 0 2 = nI x2) : Ct l G yX12_tells cX12_tells 5 ((some .boolean)) 0 0 0 [.ref (gK G 4 0), .int 121] (A, S, Z, B, T, V, J, Y, P) (qI (fun r_ σ => r_ = bI (decide (x0 ≤ 7 ∧ 1 ≤ x2 ∧ aN b_ < 10)) ∧ ∃ T2 : owF, σ = (A, S, Z, B, T2, V, J, Y, P) ∧ (∀ j_, T2 4 0 j_ = T 4 0 j_) ∧ MX (T2 42 0) (if x0 ≤ 7 ∧ 1 ≤ x2 ∧ aN b_ < 10 then adW b_ x0 x1 x2 else b_))) := by
  refine ct_of (by decide +kernel) (Nat.le_of_ble_eq_true rfl) ?_
  have h10 := ho_.1
  have h8_ := ho_.2.1
  show Wm l G cX12_tells 5 RX12 ((some .boolean)) (rmk 0 0 0) (fun _ => True) (QfM G (qI (fun r_ σ => r_ = bI (decide (x0 ≤ 7 ∧ 1 ≤ x2 ∧ aN b_ < 10)) ∧ ∃ T2 : owF, σ = (A, S, Z, B, T2, V, J, Y, P) ∧ (∀ j_, T2 4 0 j_ = T 4 0 j_) ∧ MX (T2 42 0) (if x0 ≤ 7 ∧ 1 ≤ x2 ∧ aN b_ < 10 then adW b_ x0 x1 x2 else b_))) 0 0) 0 [(0, .ref (gK G 4 0)), (1, .int 121)] [] (A, S, Z, B, T, V, J, Y, P) 0 0
  refine m_aload_n 0 rfl rfl dX12_tells_0 ?_
  refine gf_X12_37 dX12_tells_1 ?_
  refine m_iconst 0 dX12_tells_4 rfl ?_
  refine al_49 0 rfl (by omega) dX12_tells_5 ?_
  refine m_topi hn0 ?_
  refine m_istore_n [(2, .int (nI (x0))), (0, .ref (gK G 4 0)), (1, .int 121)] rfl (by decide) rfl dX12_tells_6 ?_
  refine m_aload_n 1 rfl rfl dX12_tells_7 ?_
  refine gf_X12_37 dX12_tells_8 ?_
  refine m_iconst 1 dX12_tells_11 rfl ?_
  refine al_49 1 rfl (by omega) dX12_tells_12 ?_
  refine m_topi hn1 ?_
  refine m_istore_n [(3, .int (nI (x1))), (2, .int (nI (x0))), (0, .ref (gK G 4 0)), (1, .int 121)] rfl (by decide) rfl dX12_tells_13 ?_
  refine m_iload_n 3 rfl rfl dX12_tells_14 ?_
  refine m_lookup 40 dX12_tells_15 (by decide) (by rfl) (by decide) ?_
  refine m_iload_n 1 rfl rfl dX12_tells_40 ?_
  refine m_bipush (7) dX12_tells_41 rfl ?_
  refine m_icmpn_gt x0 7 67 (by omega) (by decide) dX12_tells_43 (by decide) (fun c1_ => ?_) (fun c1_ => ?_)
  ·
    refine m_iconst 0 dX12_tells_67 rfl ?_
    exact m_zret dX12_tells_68 (Nat.le_refl _) (Nat.le_refl _) nar0 (⟨by rw [decide_eq_false (by omega)]; rfl, T, rfl, fun _ => rfl, by rw [if_neg (by omega)]; exact hX⟩)
  ·
    refine m_aload_n 2 rfl rfl dX12_tells_46 ?_
    refine gf_X12_37 dX12_tells_47 ?_
    refine m_iconst 2 dX12_tells_50 rfl ?_
    refine al_49 2 rfl (by omega) dX12_tells_51 ?_
    refine m_topi hn2 ?_
    refine m_iconst 1 dX12_tells_52 rfl ?_
    refine m_icmpn_lt x2 1 67 (by omega) (by decide) dX12_tells_53 (by decide) (fun c2_ => ?_) (fun c2_ => ?_)
    ·
      refine m_iconst 0 dX12_tells_67 rfl ?_
      exact m_zret dX12_tells_68 (Nat.le_refl _) (Nat.le_refl _) nar0 (⟨by rw [decide_eq_false (by omega)]; rfl, T, rfl, fun _ => rfl, by rw [if_neg (by omega)]; exact hX⟩)
    ·
      refine m_aload_n 2 rfl rfl dX12_tells_56 ?_
      refine gf_X12_16 dX12_tells_57 ?_
      refine m_iconst 0 dX12_tells_60 rfl ?_
      refine al_42 0 rfl (by omega) dX12_tells_61 ?_
      refine m_topi hX.1 ?_
      refine m_bipush (10) dX12_tells_62 rfl ?_
      refine m_icmpn_ne (aN b_) 10 69 (by omega) (by decide) dX12_tells_64 (by decide) (fun c3_ => ?_) (fun c3_ => ?_)
      ·
        refine m_iconst 0 dX12_tells_69 rfl ?_
        refine m_istore [(4, .int 0), (3, .int (nI (x1))), (2, .int (nI (x0))), (0, .ref (gK G 4 0)), (1, .int 121)] (by decide) rfl dX12_tells_70 ?_
        refine m_iload 0 rfl dX12_tells_72 ?_
        refine m_iconst 3 dX12_tells_74 rfl ?_
        refine m_icmp_ge 109 dX12_tells_75 (by decide) (fun c4_ => absurd c4_ (by decide)) (fun _ => ?_)
        refine m_aload_n 3 rfl rfl dX12_tells_78 ?_
        refine gf_X12_16 dX12_tells_79 ?_
        refine m_iconst 2 dX12_tells_82 rfl ?_
        refine m_iconst 3 dX12_tells_83 rfl ?_
        refine m_aload_n 3 rfl rfl dX12_tells_84 ?_
        refine gf_X12_16 dX12_tells_85 ?_
        refine m_iconst 0 dX12_tells_88 rfl ?_
        refine al_42 0 rfl (by omega) dX12_tells_89 ?_
        refine m_topi hX.1 ?_
        refine m_imul dX12_tells_90 ?_
        refine m_topi (show 3 * (nI (aN b_)) = nI (3 * (aN b_)) from pk_mul _ _) ?_
        refine m_iadd dX12_tells_91 ?_
        refine m_topi (show 2 + (nI (3 * (aN b_))) = nI (2 + (3 * (aN b_))) from nI_add _ _) ?_
        refine m_iload 0 rfl dX12_tells_92 ?_
        refine m_iadd dX12_tells_94 ?_
        refine m_topi (show (nI (2 + (3 * (aN b_)))) + 0 = nI ((2 + (3 * (aN b_))) + 0) from nI_add _ _) ?_
        refine m_aload_n 3 rfl rfl dX12_tells_95 ?_
        refine gf_X12_37 dX12_tells_96 ?_
        refine m_iload 0 rfl dX12_tells_99 ?_
        refine al_49 0 rfl (by omega) dX12_tells_101 ?_
        refine m_topi hn0 ?_
        refine as_42 ((2 + (3 * (aN b_))) + 0) rfl (by omega) dX12_tells_102 (fun T5 hT5 => ?_)
        refine m_iinc (1) 0 [(4, .int 1), (3, .int (nI (x1))), (2, .int (nI (x0))), (0, .ref (gK G 4 0)), (1, .int 121)] rfl rfl (by decide) rfl dX12_tells_103 ?_
        refine m_goto 72 dX12_tells_106 (by decide) ?_
        refine m_iload 0 rfl dX12_tells_72 ?_
        refine m_iconst 3 dX12_tells_74 rfl ?_
        refine m_icmp_ge 109 dX12_tells_75 (by decide) (fun c6_ => absurd c6_ (by decide)) (fun _ => ?_)
        refine m_aload_n 3 rfl rfl dX12_tells_78 ?_
        refine gf_X12_16 dX12_tells_79 ?_
        refine m_iconst 2 dX12_tells_82 rfl ?_
        refine m_iconst 3 dX12_tells_83 rfl ?_
        refine m_aload_n 3 rfl rfl dX12_tells_84 ?_
        refine gf_X12_16 dX12_tells_85 ?_
        refine m_iconst 0 dX12_tells_88 rfl ?_
        refine al_42 0 rfl (by omega) dX12_tells_89 ?_
        refine m_topi ((up3_o hT5 42 0 0 (by omega)).trans hX.1) ?_
        refine m_imul dX12_tells_90 ?_
        refine m_topi (show 3 * (nI (aN b_)) = nI (3 * (aN b_)) from pk_mul _ _) ?_
        refine m_iadd dX12_tells_91 ?_
        refine m_topi (show 2 + (nI (3 * (aN b_))) = nI (2 + (3 * (aN b_))) from nI_add _ _) ?_
        refine m_iload 0 rfl dX12_tells_92 ?_
        refine m_iadd dX12_tells_94 ?_
        refine m_topi (show (nI (2 + (3 * (aN b_)))) + 1 = nI ((2 + (3 * (aN b_))) + 1) from nI_add _ _) ?_
        refine m_aload_n 3 rfl rfl dX12_tells_95 ?_
        refine gf_X12_37 dX12_tells_96 ?_
        refine m_iload 0 rfl dX12_tells_99 ?_
        refine al_49 1 rfl (by omega) dX12_tells_101 ?_
        refine m_topi (up3_t hT5 (by decide) hn1) ?_
        refine as_42 ((2 + (3 * (aN b_))) + 1) rfl (by omega) dX12_tells_102 (fun T7 hT7 => ?_)
        refine m_iinc (2) 0 [(4, .int 2), (3, .int (nI (x1))), (2, .int (nI (x0))), (0, .ref (gK G 4 0)), (1, .int 121)] rfl rfl (by decide) rfl dX12_tells_103 ?_
        refine m_goto 72 dX12_tells_106 (by decide) ?_
        refine m_iload 0 rfl dX12_tells_72 ?_
        refine m_iconst 3 dX12_tells_74 rfl ?_
        refine m_icmp_ge 109 dX12_tells_75 (by decide) (fun c8_ => absurd c8_ (by decide)) (fun _ => ?_)
        refine m_aload_n 3 rfl rfl dX12_tells_78 ?_
        refine gf_X12_16 dX12_tells_79 ?_
        refine m_iconst 2 dX12_tells_82 rfl ?_
        refine m_iconst 3 dX12_tells_83 rfl ?_
        refine m_aload_n 3 rfl rfl dX12_tells_84 ?_
        refine gf_X12_16 dX12_tells_85 ?_
        refine m_iconst 0 dX12_tells_88 rfl ?_
        refine al_42 0 rfl (by omega) dX12_tells_89 ?_
        refine m_topi ((up3_o hT7 42 0 0 (by omega)).trans ((up3_o hT5 42 0 0 (by omega)).trans hX.1)) ?_
        refine m_imul dX12_tells_90 ?_
        refine m_topi (show 3 * (nI (aN b_)) = nI (3 * (aN b_)) from pk_mul _ _) ?_
        refine m_iadd dX12_tells_91 ?_
        refine m_topi (show 2 + (nI (3 * (aN b_))) = nI (2 + (3 * (aN b_))) from nI_add _ _) ?_
        refine m_iload 0 rfl dX12_tells_92 ?_
        refine m_iadd dX12_tells_94 ?_
        refine m_topi (show (nI (2 + (3 * (aN b_)))) + 2 = nI ((2 + (3 * (aN b_))) + 2) from nI_add _ _) ?_
        refine m_aload_n 3 rfl rfl dX12_tells_95 ?_
        refine gf_X12_37 dX12_tells_96 ?_
        refine m_iload 0 rfl dX12_tells_99 ?_
        refine al_49 2 rfl (by omega) dX12_tells_101 ?_
        refine m_topi (up3_t hT7 (by decide) (up3_t hT5 (by decide) hn2)) ?_
        refine as_42 ((2 + (3 * (aN b_))) + 2) rfl (by omega) dX12_tells_102 (fun T9 hT9 => ?_)
        refine m_iinc (3) 0 [(4, .int 3), (3, .int (nI (x1))), (2, .int (nI (x0))), (0, .ref (gK G 4 0)), (1, .int 121)] rfl rfl (by decide) rfl dX12_tells_103 ?_
        refine m_goto 72 dX12_tells_106 (by decide) ?_
        refine m_iload 0 rfl dX12_tells_72 ?_
        refine m_iconst 3 dX12_tells_74 rfl ?_
        refine m_icmp_ge 109 dX12_tells_75 (by decide) (fun _ => ?_) (fun c10_ => absurd c10_ (by decide))
        refine m_aload_n 3 rfl rfl dX12_tells_109 ?_
        refine gf_X12_16 dX12_tells_110 ?_
        refine m_iconst 0 dX12_tells_113 rfl ?_
        refine m_dup2 rfl rfl dX12_tells_114 ?_
        refine al_42 0 rfl (by omega) dX12_tells_115 ?_
        refine m_topi ((up3_o hT9 42 0 0 (by omega)).trans ((up3_o hT7 42 0 0 (by omega)).trans ((up3_o hT5 42 0 0 (by omega)).trans hX.1))) ?_
        refine m_iconst 1 dX12_tells_116 rfl ?_
        refine m_iadd dX12_tells_117 ?_
        refine m_topi (show (nI (aN b_)) + 1 = nI ((aN b_) + 1) from nI_add _ _) ?_
        refine as_42 0 rfl (by omega) dX12_tells_118 (fun T11 hT11 => ?_)
        refine m_iconst 1 dX12_tells_119 rfl ?_
        exact m_zret dX12_tells_120 (Nat.le_refl _) (Nat.le_refl _) nar1 (⟨by rw [decide_eq_true (by omega)]; rfl, T11, rfl, fun j_ => ((up3_o hT11 4 0 j_ (fun z_ => absurd z_.1 (by decide))).trans ((up3_o hT9 4 0 j_ (fun z_ => absurd z_.1 (by decide))).trans ((up3_o hT7 4 0 j_ (fun z_ => absurd z_.1 (by decide))).trans ((up3_o hT5 4 0 j_ (fun z_ => absurd z_.1 (by decide))).trans rfl)))), by rw [if_pos (by omega)]; exact MX.adW ho_ (by omega) hX (up3_e hT11) ((up3_o hT11 42 0 ((2 + (3 * (aN b_))) + 0) (by omega)).trans ((up3_o hT9 42 0 ((2 + (3 * (aN b_))) + 0) (by omega)).trans ((up3_o hT7 42 0 ((2 + (3 * (aN b_))) + 0) (by omega)).trans (up3_e hT5)))) ((up3_o hT11 42 0 ((2 + (3 * (aN b_))) + 1) (by omega)).trans ((up3_o hT9 42 0 ((2 + (3 * (aN b_))) + 1) (by omega)).trans (up3_e hT7))) ((up3_o hT11 42 0 ((2 + (3 * (aN b_))) + 2) (by omega)).trans (up3_e hT9)) (fun j_ hj1 hj2 => ((up3_o hT11 42 0 j_ (by omega)).trans ((up3_o hT9 42 0 j_ (by omega)).trans ((up3_o hT7 42 0 j_ (by omega)).trans ((up3_o hT5 42 0 j_ (by omega)).trans rfl)))))⟩)
      ·
        refine m_iconst 0 dX12_tells_67 rfl ?_
        exact m_zret dX12_tells_68 (Nat.le_refl _) (Nat.le_refl _) nar0 (⟨by rw [decide_eq_false (by omega)]; rfl, T, rfl, fun _ => rfl, by rw [if_neg (by omega)]; exact hX⟩)
set_option maxRecDepth 100000 in
set_option maxHeartbeats 4000000 in
theorem k_m_tells_k (l : Launch) (G : owG) {A S Z B T V : owF} {J : Nat → Nat → Int64} {Y : Nat → Nat → Nat → Option Nat} {P : Nat → Option owW} (b_ : owK) (ho_ : aOk b_) (hX : MX (T 42 0) b_) (x0 x1 x2 : Nat) (hx0 : x0 ≤ 9) (hx1 : x1 ≤ 99) (hx2 : x2 ≤ 99) (hn0 : T 49 0 0 = nI x0) (hn1 : T 49 0 1 = nI x1)  : Ct l G yX12_tells cX12_tells 5 ((some .boolean)) 0 0 0 [.ref (gK G 4 0), .int 107] (A, S, Z, B, T, V, J, Y, P) (qI (fun r_ σ => r_ = bI (decide (x0 < aN b_ ∧ x1 ≤ 50 ∧ aC b_ < 8)) ∧ ∃ T2 : owF, σ = (A, S, Z, B, T2, V, J, Y, P) ∧ (∀ j_, T2 4 0 j_ = T 4 0 j_) ∧ MX (T2 42 0) (if x0 < aN b_ ∧ x1 ≤ 50 ∧ aC b_ < 8 then adC b_ x0 x1 else b_))) := by
  refine ct_of (by decide +kernel) (Nat.le_of_ble_eq_true rfl) ?_
  have h10 := ho_.1
  have h8_ := ho_.2.1
  show Wm l G cX12_tells 5 RX12 ((some .boolean)) (rmk 0 0 0) (fun _ => True) (QfM G (qI (fun r_ σ => r_ = bI (decide (x0 < aN b_ ∧ x1 ≤ 50 ∧ aC b_ < 8)) ∧ ∃ T2 : owF, σ = (A, S, Z, B, T2, V, J, Y, P) ∧ (∀ j_, T2 4 0 j_ = T 4 0 j_) ∧ MX (T2 42 0) (if x0 < aN b_ ∧ x1 ≤ 50 ∧ aC b_ < 8 then adC b_ x0 x1 else b_))) 0 0) 0 [(0, .ref (gK G 4 0)), (1, .int 107)] [] (A, S, Z, B, T, V, J, Y, P) 0 0
  refine m_aload_n 0 rfl rfl dX12_tells_0 ?_
  refine gf_X12_37 dX12_tells_1 ?_
  refine m_iconst 0 dX12_tells_4 rfl ?_
  refine al_49 0 rfl (by omega) dX12_tells_5 ?_
  refine m_topi hn0 ?_
  refine m_istore_n [(2, .int (nI (x0))), (0, .ref (gK G 4 0)), (1, .int 107)] rfl (by decide) rfl dX12_tells_6 ?_
  refine m_aload_n 1 rfl rfl dX12_tells_7 ?_
  refine gf_X12_37 dX12_tells_8 ?_
  refine m_iconst 1 dX12_tells_11 rfl ?_
  refine al_49 1 rfl (by omega) dX12_tells_12 ?_
  refine m_topi hn1 ?_
  refine m_istore_n [(3, .int (nI (x1))), (2, .int (nI (x0))), (0, .ref (gK G 4 0)), (1, .int 107)] rfl (by decide) rfl dX12_tells_13 ?_
  refine m_iload_n 3 rfl rfl dX12_tells_14 ?_
  refine m_lookup 121 dX12_tells_15 (by decide) (by rfl) (by decide) ?_
  refine m_iload_n 1 rfl rfl dX12_tells_121 ?_
  refine m_aload_n 2 rfl rfl dX12_tells_122 ?_
  refine gf_X12_16 dX12_tells_123 ?_
  refine m_iconst 0 dX12_tells_126 rfl ?_
  refine al_42 0 rfl (by omega) dX12_tells_127 ?_
  refine m_topi hX.1 ?_
  refine m_icmpn_ge x0 (aN b_) 148 (by omega) (by omega) dX12_tells_128 (by decide) (fun c1_ => ?_) (fun c1_ => ?_)
  ·
    refine m_iconst 0 dX12_tells_148 rfl ?_
    exact m_zret dX12_tells_149 (Nat.le_refl _) (Nat.le_refl _) nar0 (⟨by rw [decide_eq_false (by omega)]; rfl, T, rfl, fun _ => rfl, by rw [if_neg (by omega)]; exact hX⟩)
  ·
    refine m_iload_n 0 rfl rfl dX12_tells_131 ?_
    refine m_bipush (50) dX12_tells_132 rfl ?_
    refine m_icmpn_gt x1 50 148 (by omega) (by decide) dX12_tells_134 (by decide) (fun c2_ => ?_) (fun c2_ => ?_)
    ·
      refine m_iconst 0 dX12_tells_148 rfl ?_
      exact m_zret dX12_tells_149 (Nat.le_refl _) (Nat.le_refl _) nar0 (⟨by rw [decide_eq_false (by omega)]; rfl, T, rfl, fun _ => rfl, by rw [if_neg (by omega)]; exact hX⟩)
    ·
      refine m_aload_n 2 rfl rfl dX12_tells_137 ?_
      refine gf_X12_16 dX12_tells_138 ?_
      refine m_iconst 1 dX12_tells_141 rfl ?_
      refine al_42 1 rfl (by omega) dX12_tells_142 ?_
      refine m_topi hX.2.1 ?_
      refine m_bipush (8) dX12_tells_143 rfl ?_
      refine m_icmpn_ne (aC b_) 8 150 (by omega) (by decide) dX12_tells_145 (by decide) (fun c3_ => ?_) (fun c3_ => ?_)
      ·
        refine m_bipush (32) dX12_tells_150 rfl ?_
        refine m_iconst 3 dX12_tells_152 rfl ?_
        refine m_aload_n 2 rfl rfl dX12_tells_153 ?_
        refine gf_X12_16 dX12_tells_154 ?_
        refine m_iconst 1 dX12_tells_157 rfl ?_
        refine al_42 1 rfl (by omega) dX12_tells_158 ?_
        refine m_topi hX.2.1 ?_
        refine m_imul dX12_tells_159 ?_
        refine m_topi (show 3 * (nI (aC b_)) = nI (3 * (aC b_)) from pk_mul _ _) ?_
        refine m_iadd dX12_tells_160 ?_
        refine m_topi (show 32 + (nI (3 * (aC b_))) = nI (32 + (3 * (aC b_))) from nI_add _ _) ?_
        refine m_istore [(4, .int (nI (32 + (3 * (aC b_))))), (3, .int (nI (x1))), (2, .int (nI (x0))), (0, .ref (gK G 4 0)), (1, .int 107)] (by decide) rfl dX12_tells_161 ?_
        refine m_aload_n 3 rfl rfl dX12_tells_163 ?_
        refine gf_X12_16 dX12_tells_164 ?_
        refine m_iload 0 rfl dX12_tells_167 ?_
        refine m_iload_n 2 rfl rfl dX12_tells_169 ?_
        refine as_42 (32 + (3 * (aC b_))) rfl (by omega) dX12_tells_170 (fun T4 hT4 => ?_)
        refine m_aload_n 3 rfl rfl dX12_tells_171 ?_
        refine gf_X12_16 dX12_tells_172 ?_
        refine m_iload 0 rfl dX12_tells_175 ?_
        refine m_iconst 1 dX12_tells_177 rfl ?_
        refine m_iadd dX12_tells_178 ?_
        refine m_topi (show (nI (32 + (3 * (aC b_)))) + 1 = nI ((32 + (3 * (aC b_))) + 1) from nI_add _ _) ?_
        refine m_iload_n 1 rfl rfl dX12_tells_179 ?_
        refine as_42 ((32 + (3 * (aC b_))) + 1) rfl (by omega) dX12_tells_180 (fun T5 hT5 => ?_)
        refine m_aload_n 3 rfl rfl dX12_tells_181 ?_
        refine gf_X12_16 dX12_tells_182 ?_
        refine m_iload 0 rfl dX12_tells_185 ?_
        refine m_iconst 2 dX12_tells_187 rfl ?_
        refine m_iadd dX12_tells_188 ?_
        refine m_topi (show (nI (32 + (3 * (aC b_)))) + 2 = nI ((32 + (3 * (aC b_))) + 2) from nI_add _ _) ?_
        refine m_iload_n 2 rfl rfl dX12_tells_189 ?_
        refine as_42 ((32 + (3 * (aC b_))) + 2) rfl (by omega) dX12_tells_190 (fun T6 hT6 => ?_)
        refine m_aload_n 3 rfl rfl dX12_tells_191 ?_
        refine gf_X12_16 dX12_tells_192 ?_
        refine m_iconst 1 dX12_tells_195 rfl ?_
        refine m_dup2 rfl rfl dX12_tells_196 ?_
        refine al_42 1 rfl (by omega) dX12_tells_197 ?_
        refine m_topi ((up3_o hT6 42 0 1 (by omega)).trans ((up3_o hT5 42 0 1 (by omega)).trans ((up3_o hT4 42 0 1 (by omega)).trans hX.2.1))) ?_
        refine m_iconst 1 dX12_tells_198 rfl ?_
        refine m_iadd dX12_tells_199 ?_
        refine m_topi (show (nI (aC b_)) + 1 = nI ((aC b_) + 1) from nI_add _ _) ?_
        refine as_42 1 rfl (by omega) dX12_tells_200 (fun T7 hT7 => ?_)
        refine m_iconst 1 dX12_tells_201 rfl ?_
        exact m_zret dX12_tells_202 (Nat.le_refl _) (Nat.le_refl _) nar1 (⟨by rw [decide_eq_true (by omega)]; rfl, T7, rfl, fun j_ => ((up3_o hT7 4 0 j_ (fun z_ => absurd z_.1 (by decide))).trans ((up3_o hT6 4 0 j_ (fun z_ => absurd z_.1 (by decide))).trans ((up3_o hT5 4 0 j_ (fun z_ => absurd z_.1 (by decide))).trans ((up3_o hT4 4 0 j_ (fun z_ => absurd z_.1 (by decide))).trans rfl)))), by rw [if_pos (by omega)]; exact MX.adC ho_ (by omega) hX (up3_e hT7) ((up3_o hT7 42 0 (32 + (3 * (aC b_))) (by omega)).trans ((up3_o hT6 42 0 (32 + (3 * (aC b_))) (by omega)).trans ((up3_o hT5 42 0 (32 + (3 * (aC b_))) (by omega)).trans (up3_e hT4)))) ((up3_o hT7 42 0 ((32 + (3 * (aC b_))) + 1) (by omega)).trans ((up3_o hT6 42 0 ((32 + (3 * (aC b_))) + 1) (by omega)).trans (up3_e hT5))) ((up3_o hT7 42 0 ((32 + (3 * (aC b_))) + 2) (by omega)).trans (up3_e hT6)) (fun j_ hj1 hj2 => ((up3_o hT7 42 0 j_ (by omega)).trans ((up3_o hT6 42 0 j_ (by omega)).trans ((up3_o hT5 42 0 j_ (by omega)).trans ((up3_o hT4 42 0 j_ (by omega)).trans rfl)))))⟩)
      ·
        refine m_iconst 0 dX12_tells_148 rfl ?_
        exact m_zret dX12_tells_149 (Nat.le_refl _) (Nat.le_refl _) nar0 (⟨by rw [decide_eq_false (by omega)]; rfl, T, rfl, fun _ => rfl, by rw [if_neg (by omega)]; exact hX⟩)
set_option maxRecDepth 100000 in
set_option maxHeartbeats 4000000 in
theorem k_m_tells_t (l : Launch) (G : owG) {A S Z B T V : owF} {J : Nat → Nat → Int64} {Y : Nat → Nat → Nat → Option Nat} {P : Nat → Option owW} (b_ : owK) (ho_ : aOk b_) (hX : MX (T 42 0) b_) (x0 x1 x2 : Nat) (hx0 : x0 ≤ 9) (hx1 : x1 ≤ 99) (hx2 : x2 ≤ 99) (hn0 : T 49 0 0 = nI x0) (hn1 : T 49 0 1 = nI x1) (hn2 : T 49 0 2 = nI x2) (hx29 : x2 < 10) : Ct l G yX12_tells cX12_tells 5 ((some .boolean)) 0 0 0 [.ref (gK G 4 0), .int 116] (A, S, Z, B, T, V, J, Y, P) (qI (fun r_ σ => r_ = bI (decide (x0 < aN b_ ∧ x1 < aN b_)) ∧ ∃ T2 : owF, σ = (A, S, Z, B, T2, V, J, Y, P) ∧ (∀ j_, T2 4 0 j_ = T 4 0 j_) ∧ MX (T2 42 0) (if x0 < aN b_ ∧ x1 < aN b_ then adT b_ x2 x0 x1 else b_))) := by
  refine ct_of (by decide +kernel) (Nat.le_of_ble_eq_true rfl) ?_
  have h10 := ho_.1
  have h8_ := ho_.2.1
  show Wm l G cX12_tells 5 RX12 ((some .boolean)) (rmk 0 0 0) (fun _ => True) (QfM G (qI (fun r_ σ => r_ = bI (decide (x0 < aN b_ ∧ x1 < aN b_)) ∧ ∃ T2 : owF, σ = (A, S, Z, B, T2, V, J, Y, P) ∧ (∀ j_, T2 4 0 j_ = T 4 0 j_) ∧ MX (T2 42 0) (if x0 < aN b_ ∧ x1 < aN b_ then adT b_ x2 x0 x1 else b_))) 0 0) 0 [(0, .ref (gK G 4 0)), (1, .int 116)] [] (A, S, Z, B, T, V, J, Y, P) 0 0
  refine m_aload_n 0 rfl rfl dX12_tells_0 ?_
  refine gf_X12_37 dX12_tells_1 ?_
  refine m_iconst 0 dX12_tells_4 rfl ?_
  refine al_49 0 rfl (by omega) dX12_tells_5 ?_
  refine m_topi hn0 ?_
  refine m_istore_n [(2, .int (nI (x0))), (0, .ref (gK G 4 0)), (1, .int 116)] rfl (by decide) rfl dX12_tells_6 ?_
  refine m_aload_n 1 rfl rfl dX12_tells_7 ?_
  refine gf_X12_37 dX12_tells_8 ?_
  refine m_iconst 1 dX12_tells_11 rfl ?_
  refine al_49 1 rfl (by omega) dX12_tells_12 ?_
  refine m_topi hn1 ?_
  refine m_istore_n [(3, .int (nI (x1))), (2, .int (nI (x0))), (0, .ref (gK G 4 0)), (1, .int 116)] rfl (by decide) rfl dX12_tells_13 ?_
  refine m_iload_n 3 rfl rfl dX12_tells_14 ?_
  refine m_lookup 203 dX12_tells_15 (by decide) (by rfl) (by decide) ?_
  refine m_iload_n 1 rfl rfl dX12_tells_203 ?_
  refine m_aload_n 2 rfl rfl dX12_tells_204 ?_
  refine gf_X12_16 dX12_tells_205 ?_
  refine m_iconst 0 dX12_tells_208 rfl ?_
  refine al_42 0 rfl (by omega) dX12_tells_209 ?_
  refine m_topi hX.1 ?_
  refine m_icmpn_ge x0 (aN b_) 223 (by omega) (by omega) dX12_tells_210 (by decide) (fun c1_ => ?_) (fun c1_ => ?_)
  ·
    refine m_iconst 0 dX12_tells_223 rfl ?_
    exact m_zret dX12_tells_224 (Nat.le_refl _) (Nat.le_refl _) nar0 (⟨by rw [decide_eq_false (by omega)]; rfl, T, rfl, fun _ => rfl, by rw [if_neg (by omega)]; exact hX⟩)
  ·
    refine m_iload_n 0 rfl rfl dX12_tells_213 ?_
    refine m_aload_n 2 rfl rfl dX12_tells_214 ?_
    refine gf_X12_16 dX12_tells_215 ?_
    refine m_iconst 0 dX12_tells_218 rfl ?_
    refine al_42 0 rfl (by omega) dX12_tells_219 ?_
    refine m_topi hX.1 ?_
    refine m_icmpn_lt x1 (aN b_) 225 (by omega) (by omega) dX12_tells_220 (by decide) (fun c2_ => ?_) (fun c2_ => ?_)
    ·
      refine m_aload_n 2 rfl rfl dX12_tells_225 ?_
      refine gf_X12_16 dX12_tells_226 ?_
      refine m_bipush (56) dX12_tells_229 rfl ?_
      refine m_bipush (10) dX12_tells_231 rfl ?_
      refine m_aload_n 2 rfl rfl dX12_tells_233 ?_
      refine gf_X12_37 dX12_tells_234 ?_
      refine m_iconst 2 dX12_tells_237 rfl ?_
      refine al_49 2 rfl (by omega) dX12_tells_238 ?_
      refine m_topi hn2 ?_
      refine m_imul dX12_tells_239 ?_
      refine m_topi (show 10 * (nI (x2)) = nI (10 * x2) from pk_mul _ _) ?_
      refine m_iadd dX12_tells_240 ?_
      refine m_topi (show 56 + (nI (10 * x2)) = nI (56 + (10 * x2)) from nI_add _ _) ?_
      refine m_iload_n 1 rfl rfl dX12_tells_241 ?_
      refine m_iadd dX12_tells_242 ?_
      refine m_topi (show (nI (56 + (10 * x2))) + (nI (x0)) = nI ((56 + (10 * x2)) + x0) from nI_add _ _) ?_
      refine m_iload_n 0 rfl rfl dX12_tells_243 ?_
      refine as_42 ((56 + (10 * x2)) + x0) rfl (by omega) dX12_tells_244 (fun T3 hT3 => ?_)
      refine m_iconst 1 dX12_tells_245 rfl ?_
      exact m_zret dX12_tells_246 (Nat.le_refl _) (Nat.le_refl _) nar1 (⟨by rw [decide_eq_true (by omega)]; rfl, T3, rfl, fun j_ => ((up3_o hT3 4 0 j_ (fun z_ => absurd z_.1 (by decide))).trans rfl), by rw [if_pos (by omega)]; exact MX.adT ho_ hx29 (by omega) hX (fun j_ => (congrFun (congrFun (congrFun hT3 42) 0) j_).trans (by unfold up3; simp))⟩)
    ·
      refine m_iconst 0 dX12_tells_223 rfl ?_
      exact m_zret dX12_tells_224 (Nat.le_refl _) (Nat.le_refl _) nar0 (⟨by rw [decide_eq_false (by omega)]; rfl, T, rfl, fun _ => rfl, by rw [if_neg (by omega)]; exact hX⟩)
theorem k_m_tells (l : Launch) (G : owG) {A S Z B T V : owF} {J : Nat → Nat → Int64} {Y : Nat → Nat → Nat → Option Nat} {P : Nat → Option owW} (h_ : owH) (d_ p_ : Nat) (b_ : owK) (ho_ : aOk b_) (hX : MX (T 42 0) b_) (hq_ : (stS h_ d_ p_).1 = true) (hn0 : T 49 0 0 = nI (sn0 h_ d_ p_)) (hn1 : T 49 0 1 = nI (sn1 h_ d_ p_)) (hn2 : sgI h_ d_ p_ ≠ 107 → T 49 0 2 = nI (sn2 h_ d_ p_)) : Ct l G yX12_tells cX12_tells 5 (some .boolean) 0 0 0 [.ref (gK G 4 0), .int (sgI h_ d_ p_)] (A, S, Z, B, T, V, J, Y, P) (qI (fun r_ σ => r_ = bI (tfB h_ d_ p_ b_) ∧ ∃ T2 : owF, σ = (A, S, Z, B, T2, V, J, Y, P) ∧ (∀ j_, T2 4 0 j_ = T 4 0 j_) ∧ MX (T2 42 0) (if tfB h_ d_ p_ b_ = true then tfA h_ d_ p_ b_ else b_))) := by
  have y_ := stS_y hq_
  have z_ := stS_z hq_
  have fin : ∀ {c_ : Prop} [Decidable c_] {x_ y_ : owK}, (if decide c_ = true then x_ else y_) = if c_ then x_ else y_ := fun {c_} _ {x_ y_} => by by_cases w_ : c_ <;> simp [w_]
  unfold tfB tfA
  rcases y_.2.2.2.1 with e_ | e_ | e_
  · rw [e_]
    refine ct_imp (k_m_tells_y l G b_ ho_ hX _ _ _ y_.2.2.2.2.1 y_.2.2.2.2.2.1 y_.2.2.2.2.2.2 hn0 hn1 (hn2 (by rw [e_]; decide))) (fun r_ σ2 => ?_)
    rintro ⟨x_, h1_, h2_, T2, h3_, h4_, h5_⟩
    refine ⟨x_, h1_, ?_⟩
    simp only [if_true, fin]
    exact ⟨h2_, T2, h3_, h4_, h5_⟩
  · rw [e_]
    refine ct_imp (k_m_tells_k l G b_ ho_ hX _ _ 0 y_.2.2.2.2.1 y_.2.2.2.2.2.1 (by decide) hn0 hn1) (fun r_ σ2 => ?_)
    rintro ⟨x_, h1_, h2_, T2, h3_, h4_, h5_⟩
    refine ⟨x_, h1_, ?_⟩
    simp only [if_neg (show ¬ (107 : Int32) = 121 by decide), if_true, fin]
    exact ⟨h2_, T2, h3_, h4_, h5_⟩
  · rw [e_]
    refine ct_imp (k_m_tells_t l G b_ ho_ hX _ _ _ y_.2.2.2.2.1 y_.2.2.2.2.2.1 y_.2.2.2.2.2.2 hn0 hn1 (hn2 (by rw [e_]; decide)) (Nat.lt_succ_of_le (z_.2 e_))) (fun r_ σ2 => ?_)
    rintro ⟨x_, h1_, h2_, T2, h3_, h4_, h5_⟩
    refine ⟨x_, h1_, ?_⟩
    simp only [if_neg (show ¬ (116 : Int32) = 121 by decide), if_neg (show ¬ (116 : Int32) = 107 by decide), fin]
    exact ⟨h2_, T2, h3_, h4_, h5_⟩
