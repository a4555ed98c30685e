set_option maxRecDepth 100000 in
set_option maxHeartbeats 4000000 in
theorem k_isSum (l : Launch) (G : owG) {A S Z B T V : owF} {J : Nat → Nat → Int64} {Y : Nat → Nat → Nat → Option Nat} {P : Nat → Option owW} (a_ b_ : Int32) : Ct l G yX11_isSum cX11_isSum 2 ((some .boolean)) 0 0 0 [.int a_, .int b_] (A, S, Z, B, T, V, J, Y, P) (qI (fun x_ σ => x_ = bI (isSumB a_ b_) ∧ σ = (A, S, Z, B, T, V, J, Y, P))) := by
  refine ct_of (by decide +kernel) (Nat.le_of_ble_eq_true rfl) ?_
  show Wm l G cX11_isSum 2 RX11 ((some .boolean)) (rmk 0 0 0) (fun _ => True) (QfM G (qI (fun x_ σ => x_ = bI (isSumB a_ b_) ∧ σ = (A, S, Z, B, T, V, J, Y, P))) 0 0) 0 [(0, .int a_), (1, .int b_)] [] (A, S, Z, B, T, V, J, Y, P) 0 0
  refine m_iload_n 1 rfl rfl dX11_isSum_0 ?_
  refine m_if_lt 20 dX11_isSum_1 (by decide) (fun c1_ => ?_) (fun c1_ => ?_)
  ·
    refine m_iconst 0 dX11_isSum_20 rfl ?_
    exact m_zret dX11_isSum_21 (Nat.le_refl _) (Nat.le_refl _) nar0 (⟨by grind [isSumB, is01, isAnsB, amongB, bI], rfl⟩)
  ·
    refine m_iload_n 1 rfl rfl dX11_isSum_4 ?_
    refine m_iload_n 0 rfl rfl dX11_isSum_5 ?_
    refine m_icmp_gt 20 dX11_isSum_6 (by decide) (fun c2_ => ?_) (fun c2_ => ?_)
    ·
      refine m_iconst 0 dX11_isSum_20 rfl ?_
      exact m_zret dX11_isSum_21 (Nat.le_refl _) (Nat.le_refl _) nar0 (⟨by grind [isSumB, is01, isAnsB, amongB, bI], rfl⟩)
    ·
      refine m_iload_n 0 rfl rfl dX11_isSum_9 ?_
      refine m_sipush (9999) dX11_isSum_10 rfl ?_
      refine m_icmp_gt 20 dX11_isSum_13 (by decide) (fun c3_ => ?_) (fun c3_ => ?_)
      ·
        refine m_iconst 0 dX11_isSum_20 rfl ?_
        exact m_zret dX11_isSum_21 (Nat.le_refl _) (Nat.le_refl _) nar0 (⟨by grind [isSumB, is01, isAnsB, amongB, bI], rfl⟩)
      ·
        refine m_iconst 1 dX11_isSum_16 rfl ?_
        refine m_goto 21 dX11_isSum_17 (by decide) ?_
        exact m_zret dX11_isSum_21 (Nat.le_refl _) (Nat.le_refl _) nar1 (⟨by grind [isSumB, is01, isAnsB, amongB, bI], rfl⟩)
set_option maxRecDepth 100000 in
set_option maxHeartbeats 4000000 in
theorem k_is01 (l : Launch) (G : owG) {A S Z B T V : owF} {J : Nat → Nat → Int64} {Y : Nat → Nat → Nat → Option Nat} {P : Nat → Option owW} (a_ : Int32) : Ct l G yX11_isZeroOrOne cX11_isZeroOrOne 1 ((some .boolean)) 0 0 0 [.int a_] (A, S, Z, B, T, V, J, Y, P) (qI (fun x_ σ => x_ = bI (is01 a_) ∧ σ = (A, S, Z, B, T, V, J, Y, P))) := by
  refine ct_of (by decide +kernel) (Nat.le_of_ble_eq_true rfl) ?_
  show Wm l G cX11_isZeroOrOne 1 RX11 ((some .boolean)) (rmk 0 0 0) (fun _ => True) (QfM G (qI (fun x_ σ => x_ = bI (is01 a_) ∧ σ = (A, S, Z, B, T, V, J, Y, P))) 0 0) 0 [(0, .int a_)] [] (A, S, Z, B, T, V, J, Y, P) 0 0
  refine m_iload_n 0 rfl rfl dX11_isZeroOrOne_0 ?_
  refine m_if_eq 9 dX11_isZeroOrOne_1 (by decide) (fun c1_ => ?_) (fun c1_ => ?_)
  ·
    refine m_iconst 1 dX11_isZeroOrOne_9 rfl ?_
    refine m_goto 14 dX11_isZeroOrOne_10 (by decide) ?_
    exact m_zret dX11_isZeroOrOne_14 (Nat.le_refl _) (Nat.le_refl _) nar1 (⟨by grind [isSumB, is01, isAnsB, amongB, bI], rfl⟩)
  ·
    refine m_iload_n 0 rfl rfl dX11_isZeroOrOne_4 ?_
    refine m_iconst 1 dX11_isZeroOrOne_5 rfl ?_
    refine m_icmp_ne 13 dX11_isZeroOrOne_6 (by decide) (fun c2_ => ?_) (fun c2_ => ?_)
    ·
      refine m_iconst 0 dX11_isZeroOrOne_13 rfl ?_
      exact m_zret dX11_isZeroOrOne_14 (Nat.le_refl _) (Nat.le_refl _) nar0 (⟨by grind [isSumB, is01, isAnsB, amongB, bI], rfl⟩)
    ·
      refine m_iconst 1 dX11_isZeroOrOne_9 rfl ?_
      refine m_goto 14 dX11_isZeroOrOne_10 (by decide) ?_
      exact m_zret dX11_isZeroOrOne_14 (Nat.le_refl _) (Nat.le_refl _) nar1 (⟨by grind [isSumB, is01, isAnsB, amongB, bI], rfl⟩)
set_option maxRecDepth 100000 in
set_option maxHeartbeats 4000000 in
theorem k_isAns (l : Launch) (G : owG) {A S Z B T V : owF} {J : Nat → Nat → Int64} {Y : Nat → Nat → Nat → Option Nat} {P : Nat → Option owW} (a_ : Int32) : Ct l G yX11_isAnswer cX11_isAnswer 1 ((some .boolean)) 0 0 0 [.int a_] (A, S, Z, B, T, V, J, Y, P) (qI (fun x_ σ => x_ = bI (isAnsB a_) ∧ σ = (A, S, Z, B, T, V, J, Y, P))) := by
  refine ct_of (by decide +kernel) (Nat.le_of_ble_eq_true rfl) ?_
  show Wm l G cX11_isAnswer 1 RX11 ((some .boolean)) (rmk 0 0 0) (fun _ => True) (QfM G (qI (fun x_ σ => x_ = bI (isAnsB a_) ∧ σ = (A, S, Z, B, T, V, J, Y, P))) 0 0) 0 [(0, .int a_)] [] (A, S, Z, B, T, V, J, Y, P) 0 0
  refine m_iload_n 0 rfl rfl dX11_isAnswer_0 ?_
  refine m_if_lt 15 dX11_isAnswer_1 (by decide) (fun c1_ => ?_) (fun c1_ => ?_)
  ·
    refine m_iconst 0 dX11_isAnswer_15 rfl ?_
    exact m_zret dX11_isAnswer_16 (Nat.le_refl _) (Nat.le_refl _) nar0 (⟨by grind [isSumB, is01, isAnsB, amongB, bI], rfl⟩)
  ·
    refine m_iload_n 0 rfl rfl dX11_isAnswer_4 ?_
    refine m_sipush (9999) dX11_isAnswer_5 rfl ?_
    refine m_icmp_gt 15 dX11_isAnswer_8 (by decide) (fun c2_ => ?_) (fun c2_ => ?_)
    ·
      refine m_iconst 0 dX11_isAnswer_15 rfl ?_
      exact m_zret dX11_isAnswer_16 (Nat.le_refl _) (Nat.le_refl _) nar0 (⟨by grind [isSumB, is01, isAnsB, amongB, bI], rfl⟩)
    ·
      refine m_iconst 1 dX11_isAnswer_11 rfl ?_
      refine m_goto 16 dX11_isAnswer_12 (by decide) ?_
      exact m_zret dX11_isAnswer_16 (Nat.le_refl _) (Nat.le_refl _) nar1 (⟨by grind [isSumB, is01, isAnsB, amongB, bI], rfl⟩)
set_option maxRecDepth 100000 in
set_option maxHeartbeats 4000000 in
theorem k_among (l : Launch) (G : owG) {A S Z B T V : owF} {J : Nat → Nat → Int64} {Y : Nat → Nat → Nat → Option Nat} {P : Nat → Option owW} (a_ b_ : Int32) : Ct l G yX11_isAmong cX11_isAmong 2 ((some .boolean)) 0 0 0 [.int a_, .int b_] (A, S, Z, B, T, V, J, Y, P) (qI (fun x_ σ => x_ = bI (amongB a_ b_) ∧ σ = (A, S, Z, B, T, V, J, Y, P))) := by
  refine ct_of (by decide +kernel) (Nat.le_of_ble_eq_true rfl) ?_
  show Wm l G cX11_isAmong 2 RX11 ((some .boolean)) (rmk 0 0 0) (fun _ => True) (QfM G (qI (fun x_ σ => x_ = bI (amongB a_ b_) ∧ σ = (A, S, Z, B, T, V, J, Y, P))) 0 0) 0 [(0, .int a_), (1, .int b_)] [] (A, S, Z, B, T, V, J, Y, P) 0 0
  refine m_iload_n 0 rfl rfl dX11_isAmong_0 ?_
  refine m_iload_n 1 rfl rfl dX11_isAmong_1 ?_
  refine m_ishr dX11_isAmong_2 ?_
  refine m_iconst 1 dX11_isAmong_3 rfl ?_
  refine m_iand dX11_isAmong_4 ?_
  refine m_iconst 1 dX11_isAmong_5 rfl ?_
  refine m_icmp_ne 13 dX11_isAmong_6 (by decide) (fun c1_ => ?_) (fun c1_ => ?_)
  ·
    refine m_iconst 0 dX11_isAmong_13 rfl ?_
    exact m_zret dX11_isAmong_14 (Nat.le_refl _) (Nat.le_refl _) nar0 (⟨by grind [isSumB, is01, isAnsB, amongB, bI], rfl⟩)
  ·
    refine m_iconst 1 dX11_isAmong_9 rfl ?_
    refine m_goto 14 dX11_isAmong_10 (by decide) ?_
    exact m_zret dX11_isAmong_14 (Nat.le_refl _) (Nat.le_refl _) nar1 (⟨by grind [isSumB, is01, isAnsB, amongB, bI], rfl⟩)
set_option maxRecDepth 100000 in
set_option maxHeartbeats 4000000 in
theorem k_layOut_20 (l : Launch) (G : owG) {A S Z B T V : owF} {J : Nat → Nat → Int64} {Y : Nat → Nat → Nat → Option Nat} {P : Nat → Option owW} (x_ : Nat) (hx_ : x_ ≤ 9999) : Ct l G yX3_layOut cX3_layOut 4 ((none : Option Jvm.ClassFile.FieldType)) 0 0 0 [.ref (gK G 20 0), .int (nI (x_))] (A, S, Z, B, T, V, J, Y, P) (qV (fun σ => ∃ Z2 : owF, σ = (A, S, Z2, B, T, V, J, Y, P) ∧ (∀ j_, j_ < 4 → Z2 20 0 j_ = nI (dg x_ j_)) ∧ zfr 20 Z Z2)) := by
  refine ct_of (by decide +kernel) (Nat.le_of_ble_eq_true rfl) ?_
  show Wm l G cX3_layOut 4 RX3 ((none : Option Jvm.ClassFile.FieldType)) (rmk 0 0 0) (fun _ => True) (QfM G (qV (fun σ => ∃ Z2 : owF, σ = (A, S, Z2, B, T, V, J, Y, P) ∧ (∀ j_, j_ < 4 → Z2 20 0 j_ = nI (dg x_ j_)) ∧ zfr 20 Z Z2)) 0 0) 0 [(0, .ref (gK G 20 0)), (1, .int (nI (x_)))] [] (A, S, Z, B, T, V, J, Y, P) 0 0
  refine m_iload_n 1 rfl rfl dX3_layOut_0 ?_
  refine m_istore_n [(2, .int (nI (x_))), (0, .ref (gK G 20 0)), (1, .int (nI (x_)))] rfl (by decide) rfl dX3_layOut_1 ?_
  refine m_iconst 0 dX3_layOut_2 rfl ?_
  refine m_istore_n [(3, .int 0), (2, .int (nI (x_))), (0, .ref (gK G 20 0)), (1, .int (nI (x_)))] rfl (by decide) rfl dX3_layOut_3 ?_
  refine m_iload_n 0 rfl rfl dX3_layOut_4 ?_
  refine m_aload_n 2 rfl rfl dX3_layOut_5 ?_
  refine ln_20 dX3_layOut_6 ?_
  refine m_icmp_ge 28 dX3_layOut_7 (by decide) (fun c1_ => absurd c1_ (by decide)) (fun _ => ?_)
  refine m_aload_n 2 rfl rfl dX3_layOut_10 ?_
  refine m_iload_n 0 rfl rfl dX3_layOut_11 ?_
  refine m_iload_n 1 rfl rfl dX3_layOut_12 ?_
  refine m_bipush (10) dX3_layOut_13 rfl ?_
  refine m_irem (by decide) dX3_layOut_15 ?_
  refine m_topi (show (nI (x_)) - (nI (x_)) / 10 * 10 = nI (x_ % 10) from pk_rem (by omega) (by decide) (by decide)) ?_
  refine as_20 0 rfl (by omega) dX3_layOut_16 (fun Z2 hZ2 => ?_)
  refine m_iload_n 1 rfl rfl dX3_layOut_17 ?_
  refine m_bipush (10) dX3_layOut_18 rfl ?_
  refine m_idiv (by decide) dX3_layOut_20 ?_
  refine m_topi (show (nI (x_)) / 10 = nI (x_ / 10) from pk_div (by omega) (by decide) (by decide)) ?_
  refine m_istore_n [(2, .int (nI (x_ / 10))), (3, .int 0), (0, .ref (gK G 20 0)), (1, .int (nI (x_)))] rfl (by decide) rfl dX3_layOut_21 ?_
  refine m_iinc (1) 1 [(3, .int 1), (2, .int (nI (x_ / 10))), (0, .ref (gK G 20 0)), (1, .int (nI (x_)))] rfl rfl (by decide) rfl dX3_layOut_22 ?_
  refine m_goto 4 dX3_layOut_25 (by decide) ?_
  refine m_iload_n 0 rfl rfl dX3_layOut_4 ?_
  refine m_aload_n 2 rfl rfl dX3_layOut_5 ?_
  refine ln_20 dX3_layOut_6 ?_
  refine m_icmp_ge 28 dX3_layOut_7 (by decide) (fun c3_ => absurd c3_ (by decide)) (fun _ => ?_)
  refine m_aload_n 2 rfl rfl dX3_layOut_10 ?_
  refine m_iload_n 0 rfl rfl dX3_layOut_11 ?_
  refine m_iload_n 1 rfl rfl dX3_layOut_12 ?_
  refine m_bipush (10) dX3_layOut_13 rfl ?_
  refine m_irem (by decide) dX3_layOut_15 ?_
  refine m_topi (show (nI (x_ / 10)) - (nI (x_ / 10)) / 10 * 10 = nI ((x_ / 10) % 10) from pk_rem (by omega) (by decide) (by decide)) ?_
  refine as_20 1 rfl (by omega) dX3_layOut_16 (fun Z4 hZ4 => ?_)
  refine m_iload_n 1 rfl rfl dX3_layOut_17 ?_
  refine m_bipush (10) dX3_layOut_18 rfl ?_
  refine m_idiv (by decide) dX3_layOut_20 ?_
  refine m_topi (show (nI (x_ / 10)) / 10 = nI ((x_ / 10) / 10) from pk_div (by omega) (by decide) (by decide)) ?_
  refine m_istore_n [(2, .int (nI ((x_ / 10) / 10))), (3, .int 1), (0, .ref (gK G 20 0)), (1, .int (nI (x_)))] rfl (by decide) rfl dX3_layOut_21 ?_
  refine m_iinc (2) 1 [(3, .int 2), (2, .int (nI ((x_ / 10) / 10))), (0, .ref (gK G 20 0)), (1, .int (nI (x_)))] rfl rfl (by decide) rfl dX3_layOut_22 ?_
  refine m_goto 4 dX3_layOut_25 (by decide) ?_
  refine m_iload_n 0 rfl rfl dX3_layOut_4 ?_
  refine m_aload_n 2 rfl rfl dX3_layOut_5 ?_
  refine ln_20 dX3_layOut_6 ?_
  refine m_icmp_ge 28 dX3_layOut_7 (by decide) (fun c5_ => absurd c5_ (by decide)) (fun _ => ?_)
  refine m_aload_n 2 rfl rfl dX3_layOut_10 ?_
  refine m_iload_n 0 rfl rfl dX3_layOut_11 ?_
  refine m_iload_n 1 rfl rfl dX3_layOut_12 ?_
  refine m_bipush (10) dX3_layOut_13 rfl ?_
  refine m_irem (by decide) dX3_layOut_15 ?_
  refine m_topi (show (nI ((x_ / 10) / 10)) - (nI ((x_ / 10) / 10)) / 10 * 10 = nI (((x_ / 10) / 10) % 10) from pk_rem (by omega) (by decide) (by decide)) ?_
  refine as_20 2 rfl (by omega) dX3_layOut_16 (fun Z6 hZ6 => ?_)
  refine m_iload_n 1 rfl rfl dX3_layOut_17 ?_
  refine m_bipush (10) dX3_layOut_18 rfl ?_
  refine m_idiv (by decide) dX3_layOut_20 ?_
  refine m_topi (show (nI ((x_ / 10) / 10)) / 10 = nI (((x_ / 10) / 10) / 10) from pk_div (by omega) (by decide) (by decide)) ?_
  refine m_istore_n [(2, .int (nI (((x_ / 10) / 10) / 10))), (3, .int 2), (0, .ref (gK G 20 0)), (1, .int (nI (x_)))] rfl (by decide) rfl dX3_layOut_21 ?_
  refine m_iinc (3) 1 [(3, .int 3), (2, .int (nI (((x_ / 10) / 10) / 10))), (0, .ref (gK G 20 0)), (1, .int (nI (x_)))] rfl rfl (by decide) rfl dX3_layOut_22 ?_
  refine m_goto 4 dX3_layOut_25 (by decide) ?_
  refine m_iload_n 0 rfl rfl dX3_layOut_4 ?_
  refine m_aload_n 2 rfl rfl dX3_layOut_5 ?_
  refine ln_20 dX3_layOut_6 ?_
  refine m_icmp_ge 28 dX3_layOut_7 (by decide) (fun c7_ => absurd c7_ (by decide)) (fun _ => ?_)
  refine m_aload_n 2 rfl rfl dX3_layOut_10 ?_
  refine m_iload_n 0 rfl rfl dX3_layOut_11 ?_
  refine m_iload_n 1 rfl rfl dX3_layOut_12 ?_
  refine m_bipush (10) dX3_layOut_13 rfl ?_
  refine m_irem (by decide) dX3_layOut_15 ?_
  refine m_topi (show (nI (((x_ / 10) / 10) / 10)) - (nI (((x_ / 10) / 10) / 10)) / 10 * 10 = nI ((((x_ / 10) / 10) / 10) % 10) from pk_rem (by omega) (by decide) (by decide)) ?_
  refine as_20 3 rfl (by omega) dX3_layOut_16 (fun Z8 hZ8 => ?_)
  refine m_iload_n 1 rfl rfl dX3_layOut_17 ?_
  refine m_bipush (10) dX3_layOut_18 rfl ?_
  refine m_idiv (by decide) dX3_layOut_20 ?_
  refine m_topi (show (nI (((x_ / 10) / 10) / 10)) / 10 = nI ((((x_ / 10) / 10) / 10) / 10) from pk_div (by omega) (by decide) (by decide)) ?_
  refine m_istore_n [(2, .int (nI ((((x_ / 10) / 10) / 10) / 10))), (3, .int 3), (0, .ref (gK G 20 0)), (1, .int (nI (x_)))] rfl (by decide) rfl dX3_layOut_21 ?_
  refine m_iinc (4) 1 [(3, .int 4), (2, .int (nI ((((x_ / 10) / 10) / 10) / 10))), (0, .ref (gK G 20 0)), (1, .int (nI (x_)))] rfl rfl (by decide) rfl dX3_layOut_22 ?_
  refine m_goto 4 dX3_layOut_25 (by decide) ?_
  refine m_iload_n 0 rfl rfl dX3_layOut_4 ?_
  refine m_aload_n 2 rfl rfl dX3_layOut_5 ?_
  refine ln_20 dX3_layOut_6 ?_
  refine m_icmp_ge 28 dX3_layOut_7 (by decide) (fun _ => ?_) (fun c9_ => absurd c9_ (by decide))
  exact m_vret dX3_layOut_28 (Nat.le_refl _) (Nat.le_refl _) (⟨Z8, rfl, lt4 (p := fun j_ => Z8 20 0 j_ = nI (dg x_ j_)) ((up3_j hZ8 (by decide) (up3_j hZ6 (by decide) (up3_j hZ4 (by decide) (up3_e hZ2)))).trans (congrArg nI (show x_ % 10 = dg x_ 0 by (simp only [dg]) <;> omega))) ((up3_j hZ8 (by decide) (up3_j hZ6 (by decide) (up3_e hZ4))).trans (congrArg nI (show (x_ / 10) % 10 = dg x_ 1 by (simp only [dg]) <;> omega))) ((up3_j hZ8 (by decide) (up3_e hZ6)).trans (congrArg nI (show ((x_ / 10) / 10) % 10 = dg x_ 2 by (simp only [dg]) <;> omega))) ((up3_e hZ8).trans (congrArg nI (show (((x_ / 10) / 10) / 10) % 10 = dg x_ 3 by (simp only [dg]) <;> omega))), (zfr_up (zfr_up (zfr_up (zfr_up zfr_rf hZ2) hZ4) hZ6) hZ8)⟩)
set_option maxRecDepth 100000 in
set_option maxHeartbeats 4000000 in
theorem k_layOut_21 (l : Launch) (G : owG) {A S Z B T V : owF} {J : Nat → Nat → Int64} {Y : Nat → Nat → Nat → Option Nat} {P : Nat → Option owW} (x_ : Nat) (hx_ : x_ ≤ 9999) : Ct l G yX3_layOut cX3_layOut 4 ((none : Option Jvm.ClassFile.FieldType)) 0 0 0 [.ref (gK G 21 0), .int (nI (x_))] (A, S, Z, B, T, V, J, Y, P) (qV (fun σ => ∃ Z2 : owF, σ = (A, S, Z2, B, T, V, J, Y, P) ∧ (∀ j_, j_ < 4 → Z2 21 0 j_ = nI (dg x_ j_)) ∧ zfr 21 Z Z2)) := by
  refine ct_of (by decide +kernel) (Nat.le_of_ble_eq_true rfl) ?_
  show Wm l G cX3_layOut 4 RX3 ((none : Option Jvm.ClassFile.FieldType)) (rmk 0 0 0) (fun _ => True) (QfM G (qV (fun σ => ∃ Z2 : owF, σ = (A, S, Z2, B, T, V, J, Y, P) ∧ (∀ j_, j_ < 4 → Z2 21 0 j_ = nI (dg x_ j_)) ∧ zfr 21 Z Z2)) 0 0) 0 [(0, .ref (gK G 21 0)), (1, .int (nI (x_)))] [] (A, S, Z, B, T, V, J, Y, P) 0 0
  refine m_iload_n 1 rfl rfl dX3_layOut_0 ?_
  refine m_istore_n [(2, .int (nI (x_))), (0, .ref (gK G 21 0)), (1, .int (nI (x_)))] rfl (by decide) rfl dX3_layOut_1 ?_
  refine m_iconst 0 dX3_layOut_2 rfl ?_
  refine m_istore_n [(3, .int 0), (2, .int (nI (x_))), (0, .ref (gK G 21 0)), (1, .int (nI (x_)))] rfl (by decide) rfl dX3_layOut_3 ?_
  refine m_iload_n 0 rfl rfl dX3_layOut_4 ?_
  refine m_aload_n 2 rfl rfl dX3_layOut_5 ?_
  refine ln_21 dX3_layOut_6 ?_
  refine m_icmp_ge 28 dX3_layOut_7 (by decide) (fun c1_ => absurd c1_ (by decide)) (fun _ => ?_)
  refine m_aload_n 2 rfl rfl dX3_layOut_10 ?_
  refine m_iload_n 0 rfl rfl dX3_layOut_11 ?_
  refine m_iload_n 1 rfl rfl dX3_layOut_12 ?_
  refine m_bipush (10) dX3_layOut_13 rfl ?_
  refine m_irem (by decide) dX3_layOut_15 ?_
  refine m_topi (show (nI (x_)) - (nI (x_)) / 10 * 10 = nI (x_ % 10) from pk_rem (by omega) (by decide) (by decide)) ?_
  refine as_21 0 rfl (by omega) dX3_layOut_16 (fun Z2 hZ2 => ?_)
  refine m_iload_n 1 rfl rfl dX3_layOut_17 ?_
  refine m_bipush (10) dX3_layOut_18 rfl ?_
  refine m_idiv (by decide) dX3_layOut_20 ?_
  refine m_topi (show (nI (x_)) / 10 = nI (x_ / 10) from pk_div (by omega) (by decide) (by decide)) ?_
  refine m_istore_n [(2, .int (nI (x_ / 10))), (3, .int 0), (0, .ref (gK G 21 0)), (1, .int (nI (x_)))] rfl (by decide) rfl dX3_layOut_21 ?_
  refine m_iinc (1) 1 [(3, .int 1), (2, .int (nI (x_ / 10))), (0, .ref (gK G 21 0)), (1, .int (nI (x_)))] rfl rfl (by decide) rfl dX3_layOut_22 ?_
  refine m_goto 4 dX3_layOut_25 (by decide) ?_
  refine m_iload_n 0 rfl rfl dX3_layOut_4 ?_
  refine m_aload_n 2 rfl rfl dX3_layOut_5 ?_
  refine ln_21 dX3_layOut_6 ?_
  refine m_icmp_ge 28 dX3_layOut_7 (by decide) (fun c3_ => absurd c3_ (by decide)) (fun _ => ?_)
  refine m_aload_n 2 rfl rfl dX3_layOut_10 ?_
  refine m_iload_n 0 rfl rfl dX3_layOut_11 ?_
  refine m_iload_n 1 rfl rfl dX3_layOut_12 ?_
  refine m_bipush (10) dX3_layOut_13 rfl ?_
  refine m_irem (by decide) dX3_layOut_15 ?_
  refine m_topi (show (nI (x_ / 10)) - (nI (x_ / 10)) / 10 * 10 = nI ((x_ / 10) % 10) from pk_rem (by omega) (by decide) (by decide)) ?_
  refine as_21 1 rfl (by omega) dX3_layOut_16 (fun Z4 hZ4 => ?_)
  refine m_iload_n 1 rfl rfl dX3_layOut_17 ?_
  refine m_bipush (10) dX3_layOut_18 rfl ?_
  refine m_idiv (by decide) dX3_layOut_20 ?_
  refine m_topi (show (nI (x_ / 10)) / 10 = nI ((x_ / 10) / 10) from pk_div (by omega) (by decide) (by decide)) ?_
  refine m_istore_n [(2, .int (nI ((x_ / 10) / 10))), (3, .int 1), (0, .ref (gK G 21 0)), (1, .int (nI (x_)))] rfl (by decide) rfl dX3_layOut_21 ?_
  refine m_iinc (2) 1 [(3, .int 2), (2, .int (nI ((x_ / 10) / 10))), (0, .ref (gK G 21 0)), (1, .int (nI (x_)))] rfl rfl (by decide) rfl dX3_layOut_22 ?_
  refine m_goto 4 dX3_layOut_25 (by decide) ?_
  refine m_iload_n 0 rfl rfl dX3_layOut_4 ?_
  refine m_aload_n 2 rfl rfl dX3_layOut_5 ?_
  refine ln_21 dX3_layOut_6 ?_
  refine m_icmp_ge 28 dX3_layOut_7 (by decide) (fun c5_ => absurd c5_ (by decide)) (fun _ => ?_)
  refine m_aload_n 2 rfl rfl dX3_layOut_10 ?_
  refine m_iload_n 0 rfl rfl dX3_layOut_11 ?_
  refine m_iload_n 1 rfl rfl dX3_layOut_12 ?_
  refine m_bipush (10) dX3_layOut_13 rfl ?_
  refine m_irem (by decide) dX3_layOut_15 ?_
  refine m_topi (show (nI ((x_ / 10) / 10)) - (nI ((x_ / 10) / 10)) / 10 * 10 = nI (((x_ / 10) / 10) % 10) from pk_rem (by omega) (by decide) (by decide)) ?_
  refine as_21 2 rfl (by omega) dX3_layOut_16 (fun Z6 hZ6 => ?_)
  refine m_iload_n 1 rfl rfl dX3_layOut_17 ?_
  refine m_bipush (10) dX3_layOut_18 rfl ?_
  refine m_idiv (by decide) dX3_layOut_20 ?_
  refine m_topi (show (nI ((x_ / 10) / 10)) / 10 = nI (((x_ / 10) / 10) / 10) from pk_div (by omega) (by decide) (by decide)) ?_
  refine m_istore_n [(2, .int (nI (((x_ / 10) / 10) / 10))), (3, .int 2), (0, .ref (gK G 21 0)), (1, .int (nI (x_)))] rfl (by decide) rfl dX3_layOut_21 ?_
  refine m_iinc (3) 1 [(3, .int 3), (2, .int (nI (((x_ / 10) / 10) / 10))), (0, .ref (gK G 21 0)), (1, .int (nI (x_)))] rfl rfl (by decide) rfl dX3_layOut_22 ?_
  refine m_goto 4 dX3_layOut_25 (by decide) ?_
  refine m_iload_n 0 rfl rfl dX3_layOut_4 ?_
  refine m_aload_n 2 rfl rfl dX3_layOut_5 ?_
  refine ln_21 dX3_layOut_6 ?_
  refine m_icmp_ge 28 dX3_layOut_7 (by decide) (fun c7_ => absurd c7_ (by decide)) (fun _ => ?_)
  refine m_aload_n 2 rfl rfl dX3_layOut_10 ?_
  refine m_iload_n 0 rfl rfl dX3_layOut_11 ?_
  refine m_iload_n 1 rfl rfl dX3_layOut_12 ?_
  refine m_bipush (10) dX3_layOut_13 rfl ?_
  refine m_irem (by decide) dX3_layOut_15 ?_
  refine m_topi (show (nI (((x_ / 10) / 10) / 10)) - (nI (((x_ / 10) / 10) / 10)) / 10 * 10 = nI ((((x_ / 10) / 10) / 10) % 10) from pk_rem (by omega) (by decide) (by decide)) ?_
  refine as_21 3 rfl (by omega) dX3_layOut_16 (fun Z8 hZ8 => ?_)
  refine m_iload_n 1 rfl rfl dX3_layOut_17 ?_
  refine m_bipush (10) dX3_layOut_18 rfl ?_
  refine m_idiv (by decide) dX3_layOut_20 ?_
  refine m_topi (show (nI (((x_ / 10) / 10) / 10)) / 10 = nI ((((x_ / 10) / 10) / 10) / 10) from pk_div (by omega) (by decide) (by decide)) ?_
  refine m_istore_n [(2, .int (nI ((((x_ / 10) / 10) / 10) / 10))), (3, .int 3), (0, .ref (gK G 21 0)), (1, .int (nI (x_)))] rfl (by decide) rfl dX3_layOut_21 ?_
  refine m_iinc (4) 1 [(3, .int 4), (2, .int (nI ((((x_ / 10) / 10) / 10) / 10))), (0, .ref (gK G 21 0)), (1, .int (nI (x_)))] rfl rfl (by decide) rfl dX3_layOut_22 ?_
  refine m_goto 4 dX3_layOut_25 (by decide) ?_
  refine m_iload_n 0 rfl rfl dX3_layOut_4 ?_
  refine m_aload_n 2 rfl rfl dX3_layOut_5 ?_
  refine ln_21 dX3_layOut_6 ?_
  refine m_icmp_ge 28 dX3_layOut_7 (by decide) (fun _ => ?_) (fun c9_ => absurd c9_ (by decide))
  exact m_vret dX3_layOut_28 (Nat.le_refl _) (Nat.le_refl _) (⟨Z8, rfl, lt4 (p := fun j_ => Z8 21 0 j_ = nI (dg x_ j_)) ((up3_j hZ8 (by decide) (up3_j hZ6 (by decide) (up3_j hZ4 (by decide) (up3_e hZ2)))).trans (congrArg nI (show x_ % 10 = dg x_ 0 by (simp only [dg]) <;> omega))) ((up3_j hZ8 (by decide) (up3_j hZ6 (by decide) (up3_e hZ4))).trans (congrArg nI (show (x_ / 10) % 10 = dg x_ 1 by (simp only [dg]) <;> omega))) ((up3_j hZ8 (by decide) (up3_e hZ6)).trans (congrArg nI (show ((x_ / 10) / 10) % 10 = dg x_ 2 by (simp only [dg]) <;> omega))) ((up3_e hZ8).trans (congrArg nI (show (((x_ / 10) / 10) / 10) % 10 = dg x_ 3 by (simp only [dg]) <;> omega))), (zfr_up (zfr_up (zfr_up (zfr_up zfr_rf hZ2) hZ4) hZ6) hZ8)⟩)
set_option maxRecDepth 100000 in
set_option maxHeartbeats 4000000 in
theorem k_borrowed_0_0 (l : Launch) (G : owG) {A S Z B T V : owF} {J : Nat → Nat → Int64} {Y : Nat → Nat → Nat → Option Nat} {P : Nat → Option owW} (U L : Nat → Nat) (hp : pap Z U L) : Ct l G yX3_borrowed cX3_borrowed 5 ((some .int)) 0 0 0 [.ref (gK G 2 0), .int 0, .int 0] (A, S, Z, B, T, V, J, Y, P) (qI (fun x_ σ => x_ = nI (byB false U L 0).1 ∧ ∃ Z2 : owF, σ = (A, S, Z2, B, T, V, J, Y, P) ∧ pap Z2 (byB false U L 0).2 L ∧ zfr 20 Z Z2)) := by
  refine ct_of (by decide +kernel) (Nat.le_of_ble_eq_true rfl) ?_
  have hu0 := hp.2.2.1 0 (by decide)
  have hu1 := hp.2.2.1 1 (by decide)
  have hu2 := hp.2.2.1 2 (by decide)
  have hu3 := hp.2.2.1 3 (by decide)
  have hl0 := hp.2.2.2 0 (by decide)
  show Wm l G cX3_borrowed 5 RX3 ((some .int)) (rmk 0 0 0) (fun _ => True) (QfM G (qI (fun x_ σ => x_ = nI (byB false U L 0).1 ∧ ∃ Z2 : owF, σ = (A, S, Z2, B, T, V, J, Y, P) ∧ pap Z2 (byB false U L 0).2 L ∧ zfr 20 Z Z2)) 0 0) 0 [(0, .ref (gK G 2 0)), (1, .int 0), (2, .int 0)] [] (A, S, Z, B, T, V, J, Y, P) 0 0
  refine m_iload_n 1 rfl rfl dX3_borrowed_0 ?_
  refine m_iconst 1 dX3_borrowed_1 rfl ?_
  refine m_iadd dX3_borrowed_2 ?_
  refine m_topi (show (0 : Int32) + 1 = 1 by decide) ?_
  refine m_istore_n [(3, .int 1), (0, .ref (gK G 2 0)), (1, .int 0), (2, .int 0)] rfl (by decide) rfl dX3_borrowed_3 ?_
  refine m_iload_n 2 rfl rfl dX3_borrowed_4 ?_
  refine m_if_lt 85 dX3_borrowed_5 (by decide) (fun c1_ => absurd c1_ (by decide)) (fun _ => ?_)
  refine m_iload_n 0 rfl rfl dX3_borrowed_8 ?_
  refine m_iconst 4 dX3_borrowed_9 rfl ?_
  refine m_icmp_ge 85 dX3_borrowed_10 (by decide) (fun c2_ => absurd c2_ (by decide)) (fun _ => ?_)
  refine m_aload_n 1 rfl rfl dX3_borrowed_13 ?_
  refine gf_X3_9 dX3_borrowed_14 ?_
  refine m_iload_n 0 rfl rfl dX3_borrowed_17 ?_
  refine al_20 1 rfl (by omega) dX3_borrowed_18 ?_
  refine m_topi (hp.1 1 (by decide)) ?_
  refine m_ifn_le (U 1) 79 (by omega) dX3_borrowed_19 (by decide) (fun c3_ => ?_) (fun c3_ => ?_)
  ·
    refine m_iinc (2) 0 [(3, .int 2), (0, .ref (gK G 2 0)), (1, .int 0), (2, .int 0)] rfl rfl (by decide) rfl dX3_borrowed_79 ?_
    refine m_goto 4 dX3_borrowed_82 (by decide) ?_
    refine m_iload_n 2 rfl rfl dX3_borrowed_4 ?_
    refine m_if_lt 85 dX3_borrowed_5 (by decide) (fun c4_ => absurd c4_ (by decide)) (fun _ => ?_)
    refine m_iload_n 0 rfl rfl dX3_borrowed_8 ?_
    refine m_iconst 4 dX3_borrowed_9 rfl ?_
    refine m_icmp_ge 85 dX3_borrowed_10 (by decide) (fun c5_ => absurd c5_ (by decide)) (fun _ => ?_)
    refine m_aload_n 1 rfl rfl dX3_borrowed_13 ?_
    refine gf_X3_9 dX3_borrowed_14 ?_
    refine m_iload_n 0 rfl rfl dX3_borrowed_17 ?_
    refine al_20 2 rfl (by omega) dX3_borrowed_18 ?_
    refine m_topi (hp.1 2 (by decide)) ?_
    refine m_ifn_le (U 2) 79 (by omega) dX3_borrowed_19 (by decide) (fun c6_ => ?_) (fun c6_ => ?_)
    ·
      refine m_iinc (3) 0 [(3, .int 3), (0, .ref (gK G 2 0)), (1, .int 0), (2, .int 0)] rfl rfl (by decide) rfl dX3_borrowed_79 ?_
      refine m_goto 4 dX3_borrowed_82 (by decide) ?_
      refine m_iload_n 2 rfl rfl dX3_borrowed_4 ?_
      refine m_if_lt 85 dX3_borrowed_5 (by decide) (fun c7_ => absurd c7_ (by decide)) (fun _ => ?_)
      refine m_iload_n 0 rfl rfl dX3_borrowed_8 ?_
      refine m_iconst 4 dX3_borrowed_9 rfl ?_
      refine m_icmp_ge 85 dX3_borrowed_10 (by decide) (fun c8_ => absurd c8_ (by decide)) (fun _ => ?_)
      refine m_aload_n 1 rfl rfl dX3_borrowed_13 ?_
      refine gf_X3_9 dX3_borrowed_14 ?_
      refine m_iload_n 0 rfl rfl dX3_borrowed_17 ?_
      refine al_20 3 rfl (by omega) dX3_borrowed_18 ?_
      refine m_topi (hp.1 3 (by decide)) ?_
      refine m_ifn_le (U 3) 79 (by omega) dX3_borrowed_19 (by decide) (fun c9_ => ?_) (fun c9_ => ?_)
      ·
        refine m_iinc (4) 0 [(3, .int 4), (0, .ref (gK G 2 0)), (1, .int 0), (2, .int 0)] rfl rfl (by decide) rfl dX3_borrowed_79 ?_
        refine m_goto 4 dX3_borrowed_82 (by decide) ?_
        refine m_iload_n 2 rfl rfl dX3_borrowed_4 ?_
        refine m_if_lt 85 dX3_borrowed_5 (by decide) (fun c10_ => absurd c10_ (by decide)) (fun _ => ?_)
        refine m_iload_n 0 rfl rfl dX3_borrowed_8 ?_
        refine m_iconst 4 dX3_borrowed_9 rfl ?_
        refine m_icmp_ge 85 dX3_borrowed_10 (by decide) (fun _ => ?_) (fun c11_ => absurd c11_ (by decide))
        refine m_iconst 0 dX3_borrowed_85 rfl ?_
        exact m_iret dX3_borrowed_86 (Nat.le_refl _) (Nat.le_refl _) (⟨(show 0 = nI ((byB false U L 0).1) by first | (simp_all [byB, fbW, tkW, nI_0]; done) | (grind [byB, fbW, tkW, nI_0])), Z, rfl, ⟨lt4 (p := fun j_ => Z 20 0 j_ = nI ((byB false U L 0).2 j_)) ((hp.1 0 (by decide)).trans (show nI (U 0) = nI ((byB false U L 0).2 0) by first | (simp_all [byB, fbW, tkW, nI_0]; done) | (simp_all [byB, fbW, tkW, nI_0]; omega) | (grind [byB, fbW, tkW, nI_0]))) ((hp.1 1 (by decide)).trans (show nI (U 1) = nI ((byB false U L 0).2 1) by first | (simp_all [byB, fbW, tkW, nI_0]; done) | (simp_all [byB, fbW, tkW, nI_0]; omega) | (grind [byB, fbW, tkW, nI_0]))) ((hp.1 2 (by decide)).trans (show nI (U 2) = nI ((byB false U L 0).2 2) by first | (simp_all [byB, fbW, tkW, nI_0]; done) | (simp_all [byB, fbW, tkW, nI_0]; omega) | (grind [byB, fbW, tkW, nI_0]))) ((hp.1 3 (by decide)).trans (show nI (U 3) = nI ((byB false U L 0).2 3) by first | (simp_all [byB, fbW, tkW, nI_0]; done) | (simp_all [byB, fbW, tkW, nI_0]; omega) | (grind [byB, fbW, tkW, nI_0]))), fun j_ hj => ((zfr_rf : zfr 20 Z Z) 21 0 j_ (by decide)).trans (hp.2.1 j_ hj), byB_le hp.2.2.1, hp.2.2.2⟩, zfr_rf⟩)
      ·
        refine m_aload_n 1 rfl rfl dX3_borrowed_22 ?_
        refine gf_X3_9 dX3_borrowed_23 ?_
        refine m_iload_n 0 rfl rfl dX3_borrowed_26 ?_
        refine m_dup2 rfl rfl dX3_borrowed_27 ?_
        refine al_20 3 rfl (by omega) dX3_borrowed_28 ?_
        refine m_topi (hp.1 3 (by decide)) ?_
        refine m_iconst 1 dX3_borrowed_29 rfl ?_
        refine m_isub dX3_borrowed_30 ?_
        refine m_topi ((show (nI (U 3)) - 1 = nI ((U 3) - 1) from pk_sub (b := 1) (by omega))) ?_
        refine as_20 3 rfl (by omega) dX3_borrowed_31 (fun Z12 hZ12 => ?_)
        refine m_iload_n 2 rfl rfl dX3_borrowed_32 ?_
        refine m_iconst 1 dX3_borrowed_33 rfl ?_
        refine m_iadd dX3_borrowed_34 ?_
        refine m_topi (show (0 : Int32) + 1 = 1 by decide) ?_
        refine m_istore [(4, .int 1), (3, .int 3), (0, .ref (gK G 2 0)), (1, .int 0), (2, .int 0)] (by decide) rfl dX3_borrowed_35 ?_
        refine m_iload_n 4 rfl rfl dX3_borrowed_37 ?_
        refine m_if_eq 62 dX3_borrowed_38 (by decide) (fun _ => ?_) (fun c13_ => absurd c13_ (by decide))
        refine m_aload_n 2 rfl rfl dX3_borrowed_62 ?_
        refine gf_X3_9 dX3_borrowed_63 ?_
        refine m_iload_n 3 rfl rfl dX3_borrowed_66 ?_
        refine al_20 0 rfl (by omega) dX3_borrowed_67 ?_
        refine m_topi (up3_j hZ12 (by decide) (hp.1 0 (by decide))) ?_
        refine m_bipush (10) dX3_borrowed_68 rfl ?_
        refine m_iadd dX3_borrowed_70 ?_
        refine m_topi (show (nI (U 0)) + 10 = nI ((U 0) + 10) from nI_add _ _) ?_
        refine m_aload_n 2 rfl rfl dX3_borrowed_71 ?_
        refine gf_X3_15 dX3_borrowed_72 ?_
        refine m_iload_n 3 rfl rfl dX3_borrowed_75 ?_
        refine al_21 0 rfl (by omega) dX3_borrowed_76 ?_
        refine m_topi (up3_t hZ12 (by decide) (hp.2.1 0 (by decide))) ?_
        refine m_isub dX3_borrowed_77 ?_
        refine m_topi ((show (nI ((U 0) + 10)) - (nI (L 0)) = nI (((U 0) + 10) - (L 0)) from pk_sub (by omega))) ?_
        exact m_iret dX3_borrowed_78 (Nat.le_refl _) (Nat.le_refl _) (⟨(show nI (((U 0) + 10) - (L 0)) = nI ((byB false U L 0).1) by first | (simp_all [byB, fbW, tkW, nI_0]; done) | (grind [byB, fbW, tkW, nI_0])), Z12, rfl, ⟨lt4 (p := fun j_ => Z12 20 0 j_ = nI ((byB false U L 0).2 j_)) ((up3_j hZ12 (by decide) (hp.1 0 (by decide))).trans (show nI (U 0) = nI ((byB false U L 0).2 0) by first | (simp_all [byB, fbW, tkW, nI_0]; done) | (simp_all [byB, fbW, tkW, nI_0]; omega) | (grind [byB, fbW, tkW, nI_0]))) ((up3_j hZ12 (by decide) (hp.1 1 (by decide))).trans (show nI (U 1) = nI ((byB false U L 0).2 1) by first | (simp_all [byB, fbW, tkW, nI_0]; done) | (simp_all [byB, fbW, tkW, nI_0]; omega) | (grind [byB, fbW, tkW, nI_0]))) ((up3_j hZ12 (by decide) (hp.1 2 (by decide))).trans (show nI (U 2) = nI ((byB false U L 0).2 2) by first | (simp_all [byB, fbW, tkW, nI_0]; done) | (simp_all [byB, fbW, tkW, nI_0]; omega) | (grind [byB, fbW, tkW, nI_0]))) ((up3_e hZ12).trans (show nI ((U 3) - 1) = nI ((byB false U L 0).2 3) by first | (simp_all [byB, fbW, tkW, nI_0]; done) | (simp_all [byB, fbW, tkW, nI_0]; omega) | (grind [byB, fbW, tkW, nI_0]))), fun j_ hj => (((zfr_up zfr_rf hZ12) : zfr 20 Z Z12) 21 0 j_ (by decide)).trans (hp.2.1 j_ hj), byB_le hp.2.2.1, hp.2.2.2⟩, (zfr_up zfr_rf hZ12)⟩)
    ·
      refine m_aload_n 1 rfl rfl dX3_borrowed_22 ?_
      refine gf_X3_9 dX3_borrowed_23 ?_
      refine m_iload_n 0 rfl rfl dX3_borrowed_26 ?_
      refine m_dup2 rfl rfl dX3_borrowed_27 ?_
      refine al_20 2 rfl (by omega) dX3_borrowed_28 ?_
      refine m_topi (hp.1 2 (by decide)) ?_
      refine m_iconst 1 dX3_borrowed_29 rfl ?_
      refine m_isub dX3_borrowed_30 ?_
      refine m_topi ((show (nI (U 2)) - 1 = nI ((U 2) - 1) from pk_sub (b := 1) (by omega))) ?_
      refine as_20 2 rfl (by omega) dX3_borrowed_31 (fun Z14 hZ14 => ?_)
      refine m_iload_n 2 rfl rfl dX3_borrowed_32 ?_
      refine m_iconst 1 dX3_borrowed_33 rfl ?_
      refine m_iadd dX3_borrowed_34 ?_
      refine m_topi (show (0 : Int32) + 1 = 1 by decide) ?_
      refine m_istore [(4, .int 1), (3, .int 2), (0, .ref (gK G 2 0)), (1, .int 0), (2, .int 0)] (by decide) rfl dX3_borrowed_35 ?_
      refine m_iload_n 4 rfl rfl dX3_borrowed_37 ?_
      refine m_if_eq 62 dX3_borrowed_38 (by decide) (fun _ => ?_) (fun c15_ => absurd c15_ (by decide))
      refine m_aload_n 2 rfl rfl dX3_borrowed_62 ?_
      refine gf_X3_9 dX3_borrowed_63 ?_
      refine m_iload_n 3 rfl rfl dX3_borrowed_66 ?_
      refine al_20 0 rfl (by omega) dX3_borrowed_67 ?_
      refine m_topi (up3_j hZ14 (by decide) (hp.1 0 (by decide))) ?_
      refine m_bipush (10) dX3_borrowed_68 rfl ?_
      refine m_iadd dX3_borrowed_70 ?_
      refine m_topi (show (nI (U 0)) + 10 = nI ((U 0) + 10) from nI_add _ _) ?_
      refine m_aload_n 2 rfl rfl dX3_borrowed_71 ?_
      refine gf_X3_15 dX3_borrowed_72 ?_
      refine m_iload_n 3 rfl rfl dX3_borrowed_75 ?_
      refine al_21 0 rfl (by omega) dX3_borrowed_76 ?_
      refine m_topi (up3_t hZ14 (by decide) (hp.2.1 0 (by decide))) ?_
      refine m_isub dX3_borrowed_77 ?_
      refine m_topi ((show (nI ((U 0) + 10)) - (nI (L 0)) = nI (((U 0) + 10) - (L 0)) from pk_sub (by omega))) ?_
      exact m_iret dX3_borrowed_78 (Nat.le_refl _) (Nat.le_refl _) (⟨(show nI (((U 0) + 10) - (L 0)) = nI ((byB false U L 0).1) by first | (simp_all [byB, fbW, tkW, nI_0]; done) | (grind [byB, fbW, tkW, nI_0])), Z14, rfl, ⟨lt4 (p := fun j_ => Z14 20 0 j_ = nI ((byB false U L 0).2 j_)) ((up3_j hZ14 (by decide) (hp.1 0 (by decide))).trans (show nI (U 0) = nI ((byB false U L 0).2 0) by first | (simp_all [byB, fbW, tkW, nI_0]; done) | (simp_all [byB, fbW, tkW, nI_0]; omega) | (grind [byB, fbW, tkW, nI_0]))) ((up3_j hZ14 (by decide) (hp.1 1 (by decide))).trans (show nI (U 1) = nI ((byB false U L 0).2 1) by first | (simp_all [byB, fbW, tkW, nI_0]; done) | (simp_all [byB, fbW, tkW, nI_0]; omega) | (grind [byB, fbW, tkW, nI_0]))) ((up3_e hZ14).trans (show nI ((U 2) - 1) = nI ((byB false U L 0).2 2) by first | (simp_all [byB, fbW, tkW, nI_0]; done) | (simp_all [byB, fbW, tkW, nI_0]; omega) | (grind [byB, fbW, tkW, nI_0]))) ((up3_j hZ14 (by decide) (hp.1 3 (by decide))).trans (show nI (U 3) = nI ((byB false U L 0).2 3) by first | (simp_all [byB, fbW, tkW, nI_0]; done) | (simp_all [byB, fbW, tkW, nI_0]; omega) | (grind [byB, fbW, tkW, nI_0]))), fun j_ hj => (((zfr_up zfr_rf hZ14) : zfr 20 Z Z14) 21 0 j_ (by decide)).trans (hp.2.1 j_ hj), byB_le hp.2.2.1, hp.2.2.2⟩, (zfr_up zfr_rf hZ14)⟩)
  ·
    refine m_aload_n 1 rfl rfl dX3_borrowed_22 ?_
    refine gf_X3_9 dX3_borrowed_23 ?_
    refine m_iload_n 0 rfl rfl dX3_borrowed_26 ?_
    refine m_dup2 rfl rfl dX3_borrowed_27 ?_
    refine al_20 1 rfl (by omega) dX3_borrowed_28 ?_
    refine m_topi (hp.1 1 (by decide)) ?_
    refine m_iconst 1 dX3_borrowed_29 rfl ?_
    refine m_isub dX3_borrowed_30 ?_
    refine m_topi ((show (nI (U 1)) - 1 = nI ((U 1) - 1) from pk_sub (b := 1) (by omega))) ?_
    refine as_20 1 rfl (by omega) dX3_borrowed_31 (fun Z16 hZ16 => ?_)
    refine m_iload_n 2 rfl rfl dX3_borrowed_32 ?_
    refine m_iconst 1 dX3_borrowed_33 rfl ?_
    refine m_iadd dX3_borrowed_34 ?_
    refine m_topi (show (0 : Int32) + 1 = 1 by decide) ?_
    refine m_istore [(4, .int 1), (3, .int 1), (0, .ref (gK G 2 0)), (1, .int 0), (2, .int 0)] (by decide) rfl dX3_borrowed_35 ?_
    refine m_iload_n 4 rfl rfl dX3_borrowed_37 ?_
    refine m_if_eq 62 dX3_borrowed_38 (by decide) (fun _ => ?_) (fun c17_ => absurd c17_ (by decide))
    refine m_aload_n 2 rfl rfl dX3_borrowed_62 ?_
    refine gf_X3_9 dX3_borrowed_63 ?_
    refine m_iload_n 3 rfl rfl dX3_borrowed_66 ?_
    refine al_20 0 rfl (by omega) dX3_borrowed_67 ?_
    refine m_topi (up3_j hZ16 (by decide) (hp.1 0 (by decide))) ?_
    refine m_bipush (10) dX3_borrowed_68 rfl ?_
    refine m_iadd dX3_borrowed_70 ?_
    refine m_topi (show (nI (U 0)) + 10 = nI ((U 0) + 10) from nI_add _ _) ?_
    refine m_aload_n 2 rfl rfl dX3_borrowed_71 ?_
    refine gf_X3_15 dX3_borrowed_72 ?_
    refine m_iload_n 3 rfl rfl dX3_borrowed_75 ?_
    refine al_21 0 rfl (by omega) dX3_borrowed_76 ?_
    refine m_topi (up3_t hZ16 (by decide) (hp.2.1 0 (by decide))) ?_
    refine m_isub dX3_borrowed_77 ?_
    refine m_topi ((show (nI ((U 0) + 10)) - (nI (L 0)) = nI (((U 0) + 10) - (L 0)) from pk_sub (by omega))) ?_
    exact m_iret dX3_borrowed_78 (Nat.le_refl _) (Nat.le_refl _) (⟨(show nI (((U 0) + 10) - (L 0)) = nI ((byB false U L 0).1) by first | (simp_all [byB, fbW, tkW, nI_0]; done) | (grind [byB, fbW, tkW, nI_0])), Z16, rfl, ⟨lt4 (p := fun j_ => Z16 20 0 j_ = nI ((byB false U L 0).2 j_)) ((up3_j hZ16 (by decide) (hp.1 0 (by decide))).trans (show nI (U 0) = nI ((byB false U L 0).2 0) by first | (simp_all [byB, fbW, tkW, nI_0]; done) | (simp_all [byB, fbW, tkW, nI_0]; omega) | (grind [byB, fbW, tkW, nI_0]))) ((up3_e hZ16).trans (show nI ((U 1) - 1) = nI ((byB false U L 0).2 1) by first | (simp_all [byB, fbW, tkW, nI_0]; done) | (simp_all [byB, fbW, tkW, nI_0]; omega) | (grind [byB, fbW, tkW, nI_0]))) ((up3_j hZ16 (by decide) (hp.1 2 (by decide))).trans (show nI (U 2) = nI ((byB false U L 0).2 2) by first | (simp_all [byB, fbW, tkW, nI_0]; done) | (simp_all [byB, fbW, tkW, nI_0]; omega) | (grind [byB, fbW, tkW, nI_0]))) ((up3_j hZ16 (by decide) (hp.1 3 (by decide))).trans (show nI (U 3) = nI ((byB false U L 0).2 3) by first | (simp_all [byB, fbW, tkW, nI_0]; done) | (simp_all [byB, fbW, tkW, nI_0]; omega) | (grind [byB, fbW, tkW, nI_0]))), fun j_ hj => (((zfr_up zfr_rf hZ16) : zfr 20 Z Z16) 21 0 j_ (by decide)).trans (hp.2.1 j_ hj), byB_le hp.2.2.1, hp.2.2.2⟩, (zfr_up zfr_rf hZ16)⟩)
set_option maxRecDepth 100000 in
set_option maxHeartbeats 4000000 in
theorem k_borrowed_0_1 (l : Launch) (G : owG) {A S Z B T V : owF} {J : Nat → Nat → Int64} {Y : Nat → Nat → Nat → Option Nat} {P : Nat → Option owW} (U L : Nat → Nat) (hp : pap Z U L) : Ct l G yX3_borrowed cX3_borrowed 5 ((some .int)) 0 0 0 [.ref (gK G 2 0), .int 0, .int 1] (A, S, Z, B, T, V, J, Y, P) (qI (fun x_ σ => x_ = nI (byB true U L 0).1 ∧ ∃ Z2 : owF, σ = (A, S, Z2, B, T, V, J, Y, P) ∧ pap Z2 (byB true U L 0).2 L ∧ zfr 20 Z Z2)) := by
  refine ct_of (by decide +kernel) (Nat.le_of_ble_eq_true rfl) ?_
  have hu0 := hp.2.2.1 0 (by decide)
  have hu1 := hp.2.2.1 1 (by decide)
  have hu2 := hp.2.2.1 2 (by decide)
  have hu3 := hp.2.2.1 3 (by decide)
  have hl0 := hp.2.2.2 0 (by decide)
  show Wm l G cX3_borrowed 5 RX3 ((some .int)) (rmk 0 0 0) (fun _ => True) (QfM G (qI (fun x_ σ => x_ = nI (byB true U L 0).1 ∧ ∃ Z2 : owF, σ = (A, S, Z2, B, T, V, J, Y, P) ∧ pap Z2 (byB true U L 0).2 L ∧ zfr 20 Z Z2)) 0 0) 0 [(0, .ref (gK G 2 0)), (1, .int 0), (2, .int 1)] [] (A, S, Z, B, T, V, J, Y, P) 0 0
  refine m_iload_n 1 rfl rfl dX3_borrowed_0 ?_
  refine m_iconst 1 dX3_borrowed_1 rfl ?_
  refine m_iadd dX3_borrowed_2 ?_
  refine m_topi (show (0 : Int32) + 1 = 1 by decide) ?_
  refine m_istore_n [(3, .int 1), (0, .ref (gK G 2 0)), (1, .int 0), (2, .int 1)] rfl (by decide) rfl dX3_borrowed_3 ?_
  refine m_iload_n 2 rfl rfl dX3_borrowed_4 ?_
  refine m_if_lt 85 dX3_borrowed_5 (by decide) (fun c1_ => absurd c1_ (by decide)) (fun _ => ?_)
  refine m_iload_n 0 rfl rfl dX3_borrowed_8 ?_
  refine m_iconst 4 dX3_borrowed_9 rfl ?_
  refine m_icmp_ge 85 dX3_borrowed_10 (by decide) (fun c2_ => absurd c2_ (by decide)) (fun _ => ?_)
  refine m_aload_n 1 rfl rfl dX3_borrowed_13 ?_
  refine gf_X3_9 dX3_borrowed_14 ?_
  refine m_iload_n 0 rfl rfl dX3_borrowed_17 ?_
  refine al_20 1 rfl (by omega) dX3_borrowed_18 ?_
  refine m_topi (hp.1 1 (by decide)) ?_
  refine m_ifn_le (U 1) 79 (by omega) dX3_borrowed_19 (by decide) (fun c3_ => ?_) (fun c3_ => ?_)
  ·
    refine m_iinc (2) 0 [(3, .int 2), (0, .ref (gK G 2 0)), (1, .int 0), (2, .int 1)] rfl rfl (by decide) rfl dX3_borrowed_79 ?_
    refine m_goto 4 dX3_borrowed_82 (by decide) ?_
    refine m_iload_n 2 rfl rfl dX3_borrowed_4 ?_
    refine m_if_lt 85 dX3_borrowed_5 (by decide) (fun c4_ => absurd c4_ (by decide)) (fun _ => ?_)
    refine m_iload_n 0 rfl rfl dX3_borrowed_8 ?_
    refine m_iconst 4 dX3_borrowed_9 rfl ?_
    refine m_icmp_ge 85 dX3_borrowed_10 (by decide) (fun c5_ => absurd c5_ (by decide)) (fun _ => ?_)
    refine m_aload_n 1 rfl rfl dX3_borrowed_13 ?_
    refine gf_X3_9 dX3_borrowed_14 ?_
    refine m_iload_n 0 rfl rfl dX3_borrowed_17 ?_
    refine al_20 2 rfl (by omega) dX3_borrowed_18 ?_
    refine m_topi (hp.1 2 (by decide)) ?_
    refine m_ifn_le (U 2) 79 (by omega) dX3_borrowed_19 (by decide) (fun c6_ => ?_) (fun c6_ => ?_)
    ·
      refine m_iinc (3) 0 [(3, .int 3), (0, .ref (gK G 2 0)), (1, .int 0), (2, .int 1)] rfl rfl (by decide) rfl dX3_borrowed_79 ?_
      refine m_goto 4 dX3_borrowed_82 (by decide) ?_
      refine m_iload_n 2 rfl rfl dX3_borrowed_4 ?_
      refine m_if_lt 85 dX3_borrowed_5 (by decide) (fun c7_ => absurd c7_ (by decide)) (fun _ => ?_)
      refine m_iload_n 0 rfl rfl dX3_borrowed_8 ?_
      refine m_iconst 4 dX3_borrowed_9 rfl ?_
      refine m_icmp_ge 85 dX3_borrowed_10 (by decide) (fun c8_ => absurd c8_ (by decide)) (fun _ => ?_)
      refine m_aload_n 1 rfl rfl dX3_borrowed_13 ?_
      refine gf_X3_9 dX3_borrowed_14 ?_
      refine m_iload_n 0 rfl rfl dX3_borrowed_17 ?_
      refine al_20 3 rfl (by omega) dX3_borrowed_18 ?_
      refine m_topi (hp.1 3 (by decide)) ?_
      refine m_ifn_le (U 3) 79 (by omega) dX3_borrowed_19 (by decide) (fun c9_ => ?_) (fun c9_ => ?_)
      ·
        refine m_iinc (4) 0 [(3, .int 4), (0, .ref (gK G 2 0)), (1, .int 0), (2, .int 1)] rfl rfl (by decide) rfl dX3_borrowed_79 ?_
        refine m_goto 4 dX3_borrowed_82 (by decide) ?_
        refine m_iload_n 2 rfl rfl dX3_borrowed_4 ?_
        refine m_if_lt 85 dX3_borrowed_5 (by decide) (fun c10_ => absurd c10_ (by decide)) (fun _ => ?_)
        refine m_iload_n 0 rfl rfl dX3_borrowed_8 ?_
        refine m_iconst 4 dX3_borrowed_9 rfl ?_
        refine m_icmp_ge 85 dX3_borrowed_10 (by decide) (fun _ => ?_) (fun c11_ => absurd c11_ (by decide))
        refine m_iconst 0 dX3_borrowed_85 rfl ?_
        exact m_iret dX3_borrowed_86 (Nat.le_refl _) (Nat.le_refl _) (⟨(show 0 = nI ((byB true U L 0).1) by first | (simp_all [byB, fbW, tkW, nI_0]; done) | (grind [byB, fbW, tkW, nI_0])), Z, rfl, ⟨lt4 (p := fun j_ => Z 20 0 j_ = nI ((byB true U L 0).2 j_)) ((hp.1 0 (by decide)).trans (show nI (U 0) = nI ((byB true U L 0).2 0) by first | (simp_all [byB, fbW, tkW, nI_0]; done) | (simp_all [byB, fbW, tkW, nI_0]; omega) | (grind [byB, fbW, tkW, nI_0]))) ((hp.1 1 (by decide)).trans (show nI (U 1) = nI ((byB true U L 0).2 1) by first | (simp_all [byB, fbW, tkW, nI_0]; done) | (simp_all [byB, fbW, tkW, nI_0]; omega) | (grind [byB, fbW, tkW, nI_0]))) ((hp.1 2 (by decide)).trans (show nI (U 2) = nI ((byB true U L 0).2 2) by first | (simp_all [byB, fbW, tkW, nI_0]; done) | (simp_all [byB, fbW, tkW, nI_0]; omega) | (grind [byB, fbW, tkW, nI_0]))) ((hp.1 3 (by decide)).trans (show nI (U 3) = nI ((byB true U L 0).2 3) by first | (simp_all [byB, fbW, tkW, nI_0]; done) | (simp_all [byB, fbW, tkW, nI_0]; omega) | (grind [byB, fbW, tkW, nI_0]))), fun j_ hj => ((zfr_rf : zfr 20 Z Z) 21 0 j_ (by decide)).trans (hp.2.1 j_ hj), byB_le hp.2.2.1, hp.2.2.2⟩, zfr_rf⟩)
      ·
        refine m_aload_n 1 rfl rfl dX3_borrowed_22 ?_
        refine gf_X3_9 dX3_borrowed_23 ?_
        refine m_iload_n 0 rfl rfl dX3_borrowed_26 ?_
        refine m_dup2 rfl rfl dX3_borrowed_27 ?_
        refine al_20 3 rfl (by omega) dX3_borrowed_28 ?_
        refine m_topi (hp.1 3 (by decide)) ?_
        refine m_iconst 1 dX3_borrowed_29 rfl ?_
        refine m_isub dX3_borrowed_30 ?_
        refine m_topi ((show (nI (U 3)) - 1 = nI ((U 3) - 1) from pk_sub (b := 1) (by omega))) ?_
        refine as_20 3 rfl (by omega) dX3_borrowed_31 (fun Z12 hZ12 => ?_)
        refine m_iload_n 2 rfl rfl dX3_borrowed_32 ?_
        refine m_iconst 1 dX3_borrowed_33 rfl ?_
        refine m_iadd dX3_borrowed_34 ?_
        refine m_topi (show (0 : Int32) + 1 = 1 by decide) ?_
        refine m_istore [(4, .int 1), (3, .int 3), (0, .ref (gK G 2 0)), (1, .int 0), (2, .int 1)] (by decide) rfl dX3_borrowed_35 ?_
        refine m_iload_n 4 rfl rfl dX3_borrowed_37 ?_
        refine m_if_eq 62 dX3_borrowed_38 (by decide) (fun c13_ => absurd c13_ (by decide)) (fun _ => ?_)
        refine m_iload 0 rfl dX3_borrowed_41 ?_
        refine m_iload_n 1 rfl rfl dX3_borrowed_43 ?_
        refine m_icmp_ge 62 dX3_borrowed_44 (by decide) (fun c14_ => absurd c14_ (by decide)) (fun _ => ?_)
        refine m_aload_n 2 rfl rfl dX3_borrowed_47 ?_
        refine gf_X3_9 dX3_borrowed_48 ?_
        refine m_iload 0 rfl dX3_borrowed_51 ?_
        refine m_bipush (9) dX3_borrowed_53 rfl ?_
        refine as_20 1 rfl (by omega) dX3_borrowed_55 (fun Z15 hZ15 => ?_)
        refine m_iinc (2) 0 [(4, .int 2), (3, .int 3), (0, .ref (gK G 2 0)), (1, .int 0), (2, .int 1)] rfl rfl (by decide) rfl dX3_borrowed_56 ?_
        refine m_goto 37 dX3_borrowed_59 (by decide) ?_
        refine m_iload_n 4 rfl rfl dX3_borrowed_37 ?_
        refine m_if_eq 62 dX3_borrowed_38 (by decide) (fun c16_ => absurd c16_ (by decide)) (fun _ => ?_)
        refine m_iload 0 rfl dX3_borrowed_41 ?_
        refine m_iload_n 1 rfl rfl dX3_borrowed_43 ?_
        refine m_icmp_ge 62 dX3_borrowed_44 (by decide) (fun c17_ => absurd c17_ (by decide)) (fun _ => ?_)
        refine m_aload_n 2 rfl rfl dX3_borrowed_47 ?_
        refine gf_X3_9 dX3_borrowed_48 ?_
        refine m_iload 0 rfl dX3_borrowed_51 ?_
        refine m_bipush (9) dX3_borrowed_53 rfl ?_
        refine as_20 2 rfl (by omega) dX3_borrowed_55 (fun Z18 hZ18 => ?_)
        refine m_iinc (3) 0 [(4, .int 3), (3, .int 3), (0, .ref (gK G 2 0)), (1, .int 0), (2, .int 1)] rfl rfl (by decide) rfl dX3_borrowed_56 ?_
        refine m_goto 37 dX3_borrowed_59 (by decide) ?_
        refine m_iload_n 4 rfl rfl dX3_borrowed_37 ?_
        refine m_if_eq 62 dX3_borrowed_38 (by decide) (fun c19_ => absurd c19_ (by decide)) (fun _ => ?_)
        refine m_iload 0 rfl dX3_borrowed_41 ?_
        refine m_iload_n 1 rfl rfl dX3_borrowed_43 ?_
        refine m_icmp_ge 62 dX3_borrowed_44 (by decide) (fun _ => ?_) (fun c20_ => absurd c20_ (by decide))
        refine m_aload_n 2 rfl rfl dX3_borrowed_62 ?_
        refine gf_X3_9 dX3_borrowed_63 ?_
        refine m_iload_n 3 rfl rfl dX3_borrowed_66 ?_
        refine al_20 0 rfl (by omega) dX3_borrowed_67 ?_
        refine m_topi (up3_j hZ18 (by decide) (up3_j hZ15 (by decide) (up3_j hZ12 (by decide) (hp.1 0 (by decide))))) ?_
        refine m_bipush (10) dX3_borrowed_68 rfl ?_
        refine m_iadd dX3_borrowed_70 ?_
        refine m_topi (show (nI (U 0)) + 10 = nI ((U 0) + 10) from nI_add _ _) ?_
        refine m_aload_n 2 rfl rfl dX3_borrowed_71 ?_
        refine gf_X3_15 dX3_borrowed_72 ?_
        refine m_iload_n 3 rfl rfl dX3_borrowed_75 ?_
        refine al_21 0 rfl (by omega) dX3_borrowed_76 ?_
        refine m_topi (up3_t hZ18 (by decide) (up3_t hZ15 (by decide) (up3_t hZ12 (by decide) (hp.2.1 0 (by decide))))) ?_
        refine m_isub dX3_borrowed_77 ?_
        refine m_topi ((show (nI ((U 0) + 10)) - (nI (L 0)) = nI (((U 0) + 10) - (L 0)) from pk_sub (by omega))) ?_
        exact m_iret dX3_borrowed_78 (Nat.le_refl _) (Nat.le_refl _) (⟨(show nI (((U 0) + 10) - (L 0)) = nI ((byB true U L 0).1) by first | (simp_all [byB, fbW, tkW, nI_0]; done) | (grind [byB, fbW, tkW, nI_0])), Z18, rfl, ⟨lt4 (p := fun j_ => Z18 20 0 j_ = nI ((byB true U L 0).2 j_)) ((up3_j hZ18 (by decide) (up3_j hZ15 (by decide) (up3_j hZ12 (by decide) (hp.1 0 (by decide))))).trans (show nI (U 0) = nI ((byB true U L 0).2 0) by first | (simp_all [byB, fbW, tkW, nI_0]; done) | (simp_all [byB, fbW, tkW, nI_0]; omega) | (grind [byB, fbW, tkW, nI_0]))) ((up3_j hZ18 (by decide) (up3_e hZ15)).trans (show nI 9 = nI ((byB true U L 0).2 1) by first | (simp_all [byB, fbW, tkW, nI_0]; done) | (simp_all [byB, fbW, tkW, nI_0]; omega) | (grind [byB, fbW, tkW, nI_0]))) ((up3_e hZ18).trans (show nI 9 = nI ((byB true U L 0).2 2) by first | (simp_all [byB, fbW, tkW, nI_0]; done) | (simp_all [byB, fbW, tkW, nI_0]; omega) | (grind [byB, fbW, tkW, nI_0]))) ((up3_j hZ18 (by decide) (up3_j hZ15 (by decide) (up3_e hZ12))).trans (show nI ((U 3) - 1) = nI ((byB true U L 0).2 3) by first | (simp_all [byB, fbW, tkW, nI_0]; done) | (simp_all [byB, fbW, tkW, nI_0]; omega) | (grind [byB, fbW, tkW, nI_0]))), fun j_ hj => (((zfr_up (zfr_up (zfr_up zfr_rf hZ12) hZ15) hZ18) : zfr 20 Z Z18) 21 0 j_ (by decide)).trans (hp.2.1 j_ hj), byB_le hp.2.2.1, hp.2.2.2⟩, (zfr_up (zfr_up (zfr_up zfr_rf hZ12) hZ15) hZ18)⟩)
    ·
      refine m_aload_n 1 rfl rfl dX3_borrowed_22 ?_
      refine gf_X3_9 dX3_borrowed_23 ?_
      refine m_iload_n 0 rfl rfl dX3_borrowed_26 ?_
      refine m_dup2 rfl rfl dX3_borrowed_27 ?_
      refine al_20 2 rfl (by omega) dX3_borrowed_28 ?_
      refine m_topi (hp.1 2 (by decide)) ?_
      refine m_iconst 1 dX3_borrowed_29 rfl ?_
      refine m_isub dX3_borrowed_30 ?_
      refine m_topi ((show (nI (U 2)) - 1 = nI ((U 2) - 1) from pk_sub (b := 1) (by omega))) ?_
      refine as_20 2 rfl (by omega) dX3_borrowed_31 (fun Z21 hZ21 => ?_)
      refine m_iload_n 2 rfl rfl dX3_borrowed_32 ?_
      refine m_iconst 1 dX3_borrowed_33 rfl ?_
      refine m_iadd dX3_borrowed_34 ?_
      refine m_topi (show (0 : Int32) + 1 = 1 by decide) ?_
      refine m_istore [(4, .int 1), (3, .int 2), (0, .ref (gK G 2 0)), (1, .int 0), (2, .int 1)] (by decide) rfl dX3_borrowed_35 ?_
      refine m_iload_n 4 rfl rfl dX3_borrowed_37 ?_
      refine m_if_eq 62 dX3_borrowed_38 (by decide) (fun c22_ => absurd c22_ (by decide)) (fun _ => ?_)
      refine m_iload 0 rfl dX3_borrowed_41 ?_
      refine m_iload_n 1 rfl rfl dX3_borrowed_43 ?_
      refine m_icmp_ge 62 dX3_borrowed_44 (by decide) (fun c23_ => absurd c23_ (by decide)) (fun _ => ?_)
      refine m_aload_n 2 rfl rfl dX3_borrowed_47 ?_
      refine gf_X3_9 dX3_borrowed_48 ?_
      refine m_iload 0 rfl dX3_borrowed_51 ?_
      refine m_bipush (9) dX3_borrowed_53 rfl ?_
      refine as_20 1 rfl (by omega) dX3_borrowed_55 (fun Z24 hZ24 => ?_)
      refine m_iinc (2) 0 [(4, .int 2), (3, .int 2), (0, .ref (gK G 2 0)), (1, .int 0), (2, .int 1)] rfl rfl (by decide) rfl dX3_borrowed_56 ?_
      refine m_goto 37 dX3_borrowed_59 (by decide) ?_
      refine m_iload_n 4 rfl rfl dX3_borrowed_37 ?_
      refine m_if_eq 62 dX3_borrowed_38 (by decide) (fun c25_ => absurd c25_ (by decide)) (fun _ => ?_)
      refine m_iload 0 rfl dX3_borrowed_41 ?_
      refine m_iload_n 1 rfl rfl dX3_borrowed_43 ?_
      refine m_icmp_ge 62 dX3_borrowed_44 (by decide) (fun _ => ?_) (fun c26_ => absurd c26_ (by decide))
      refine m_aload_n 2 rfl rfl dX3_borrowed_62 ?_
      refine gf_X3_9 dX3_borrowed_63 ?_
      refine m_iload_n 3 rfl rfl dX3_borrowed_66 ?_
      refine al_20 0 rfl (by omega) dX3_borrowed_67 ?_
      refine m_topi (up3_j hZ24 (by decide) (up3_j hZ21 (by decide) (hp.1 0 (by decide)))) ?_
      refine m_bipush (10) dX3_borrowed_68 rfl ?_
      refine m_iadd dX3_borrowed_70 ?_
      refine m_topi (show (nI (U 0)) + 10 = nI ((U 0) + 10) from nI_add _ _) ?_
      refine m_aload_n 2 rfl rfl dX3_borrowed_71 ?_
      refine gf_X3_15 dX3_borrowed_72 ?_
      refine m_iload_n 3 rfl rfl dX3_borrowed_75 ?_
      refine al_21 0 rfl (by omega) dX3_borrowed_76 ?_
      refine m_topi (up3_t hZ24 (by decide) (up3_t hZ21 (by decide) (hp.2.1 0 (by decide)))) ?_
      refine m_isub dX3_borrowed_77 ?_
      refine m_topi ((show (nI ((U 0) + 10)) - (nI (L 0)) = nI (((U 0) + 10) - (L 0)) from pk_sub (by omega))) ?_
      exact m_iret dX3_borrowed_78 (Nat.le_refl _) (Nat.le_refl _) (⟨(show nI (((U 0) + 10) - (L 0)) = nI ((byB true U L 0).1) by first | (simp_all [byB, fbW, tkW, nI_0]; done) | (grind [byB, fbW, tkW, nI_0])), Z24, rfl, ⟨lt4 (p := fun j_ => Z24 20 0 j_ = nI ((byB true U L 0).2 j_)) ((up3_j hZ24 (by decide) (up3_j hZ21 (by decide) (hp.1 0 (by decide)))).trans (show nI (U 0) = nI ((byB true U L 0).2 0) by first | (simp_all [byB, fbW, tkW, nI_0]; done) | (simp_all [byB, fbW, tkW, nI_0]; omega) | (grind [byB, fbW, tkW, nI_0]))) ((up3_e hZ24).trans (show nI 9 = nI ((byB true U L 0).2 1) by first | (simp_all [byB, fbW, tkW, nI_0]; done) | (simp_all [byB, fbW, tkW, nI_0]; omega) | (grind [byB, fbW, tkW, nI_0]))) ((up3_j hZ24 (by decide) (up3_e hZ21)).trans (show nI ((U 2) - 1) = nI ((byB true U L 0).2 2) by first | (simp_all [byB, fbW, tkW, nI_0]; done) | (simp_all [byB, fbW, tkW, nI_0]; omega) | (grind [byB, fbW, tkW, nI_0]))) ((up3_j hZ24 (by decide) (up3_j hZ21 (by decide) (hp.1 3 (by decide)))).trans (show nI (U 3) = nI ((byB true U L 0).2 3) by first | (simp_all [byB, fbW, tkW, nI_0]; done) | (simp_all [byB, fbW, tkW, nI_0]; omega) | (grind [byB, fbW, tkW, nI_0]))), fun j_ hj => (((zfr_up (zfr_up zfr_rf hZ21) hZ24) : zfr 20 Z Z24) 21 0 j_ (by decide)).trans (hp.2.1 j_ hj), byB_le hp.2.2.1, hp.2.2.2⟩, (zfr_up (zfr_up zfr_rf hZ21) hZ24)⟩)
  ·
    refine m_aload_n 1 rfl rfl dX3_borrowed_22 ?_
    refine gf_X3_9 dX3_borrowed_23 ?_
    refine m_iload_n 0 rfl rfl dX3_borrowed_26 ?_
    refine m_dup2 rfl rfl dX3_borrowed_27 ?_
    refine al_20 1 rfl (by omega) dX3_borrowed_28 ?_
    refine m_topi (hp.1 1 (by decide)) ?_
    refine m_iconst 1 dX3_borrowed_29 rfl ?_
    refine m_isub dX3_borrowed_30 ?_
    refine m_topi ((show (nI (U 1)) - 1 = nI ((U 1) - 1) from pk_sub (b := 1) (by omega))) ?_
    refine as_20 1 rfl (by omega) dX3_borrowed_31 (fun Z27 hZ27 => ?_)
    refine m_iload_n 2 rfl rfl dX3_borrowed_32 ?_
    refine m_iconst 1 dX3_borrowed_33 rfl ?_
    refine m_iadd dX3_borrowed_34 ?_
    refine m_topi (show (0 : Int32) + 1 = 1 by decide) ?_
    refine m_istore [(4, .int 1), (3, .int 1), (0, .ref (gK G 2 0)), (1, .int 0), (2, .int 1)] (by decide) rfl dX3_borrowed_35 ?_
    refine m_iload_n 4 rfl rfl dX3_borrowed_37 ?_
    refine m_if_eq 62 dX3_borrowed_38 (by decide) (fun c28_ => absurd c28_ (by decide)) (fun _ => ?_)
    refine m_iload 0 rfl dX3_borrowed_41 ?_
    refine m_iload_n 1 rfl rfl dX3_borrowed_43 ?_
    refine m_icmp_ge 62 dX3_borrowed_44 (by decide) (fun _ => ?_) (fun c29_ => absurd c29_ (by decide))
    refine m_aload_n 2 rfl rfl dX3_borrowed_62 ?_
    refine gf_X3_9 dX3_borrowed_63 ?_
    refine m_iload_n 3 rfl rfl dX3_borrowed_66 ?_
    refine al_20 0 rfl (by omega) dX3_borrowed_67 ?_
    refine m_topi (up3_j hZ27 (by decide) (hp.1 0 (by decide))) ?_
    refine m_bipush (10) dX3_borrowed_68 rfl ?_
    refine m_iadd dX3_borrowed_70 ?_
    refine m_topi (show (nI (U 0)) + 10 = nI ((U 0) + 10) from nI_add _ _) ?_
    refine m_aload_n 2 rfl rfl dX3_borrowed_71 ?_
    refine gf_X3_15 dX3_borrowed_72 ?_
    refine m_iload_n 3 rfl rfl dX3_borrowed_75 ?_
    refine al_21 0 rfl (by omega) dX3_borrowed_76 ?_
    refine m_topi (up3_t hZ27 (by decide) (hp.2.1 0 (by decide))) ?_
    refine m_isub dX3_borrowed_77 ?_
    refine m_topi ((show (nI ((U 0) + 10)) - (nI (L 0)) = nI (((U 0) + 10) - (L 0)) from pk_sub (by omega))) ?_
    exact m_iret dX3_borrowed_78 (Nat.le_refl _) (Nat.le_refl _) (⟨(show nI (((U 0) + 10) - (L 0)) = nI ((byB true U L 0).1) by first | (simp_all [byB, fbW, tkW, nI_0]; done) | (grind [byB, fbW, tkW, nI_0])), Z27, rfl, ⟨lt4 (p := fun j_ => Z27 20 0 j_ = nI ((byB true U L 0).2 j_)) ((up3_j hZ27 (by decide) (hp.1 0 (by decide))).trans (show nI (U 0) = nI ((byB true U L 0).2 0) by first | (simp_all [byB, fbW, tkW, nI_0]; done) | (simp_all [byB, fbW, tkW, nI_0]; omega) | (grind [byB, fbW, tkW, nI_0]))) ((up3_e hZ27).trans (show nI ((U 1) - 1) = nI ((byB true U L 0).2 1) by first | (simp_all [byB, fbW, tkW, nI_0]; done) | (simp_all [byB, fbW, tkW, nI_0]; omega) | (grind [byB, fbW, tkW, nI_0]))) ((up3_j hZ27 (by decide) (hp.1 2 (by decide))).trans (show nI (U 2) = nI ((byB true U L 0).2 2) by first | (simp_all [byB, fbW, tkW, nI_0]; done) | (simp_all [byB, fbW, tkW, nI_0]; omega) | (grind [byB, fbW, tkW, nI_0]))) ((up3_j hZ27 (by decide) (hp.1 3 (by decide))).trans (show nI (U 3) = nI ((byB true U L 0).2 3) by first | (simp_all [byB, fbW, tkW, nI_0]; done) | (simp_all [byB, fbW, tkW, nI_0]; omega) | (grind [byB, fbW, tkW, nI_0]))), fun j_ hj => (((zfr_up zfr_rf hZ27) : zfr 20 Z Z27) 21 0 j_ (by decide)).trans (hp.2.1 j_ hj), byB_le hp.2.2.1, hp.2.2.2⟩, (zfr_up zfr_rf hZ27)⟩)
set_option maxRecDepth 100000 in
set_option maxHeartbeats 4000000 in
theorem k_borrowed_1_0 (l : Launch) (G : owG) {A S Z B T V : owF} {J : Nat → Nat → Int64} {Y : Nat → Nat → Nat → Option Nat} {P : Nat → Option owW} (U L : Nat → Nat) (hp : pap Z U L) : Ct l G yX3_borrowed cX3_borrowed 5 ((some .int)) 0 0 0 [.ref (gK G 2 0), .int 1, .int 0] (A, S, Z, B, T, V, J, Y, P) (qI (fun x_ σ => x_ = nI (byB false U L 1).1 ∧ ∃ Z2 : owF, σ = (A, S, Z2, B, T, V, J, Y, P) ∧ pap Z2 (byB false U L 1).2 L ∧ zfr 20 Z Z2)) := by
  refine ct_of (by decide +kernel) (Nat.le_of_ble_eq_true rfl) ?_
  have hu0 := hp.2.2.1 0 (by decide)
  have hu1 := hp.2.2.1 1 (by decide)
  have hu2 := hp.2.2.1 2 (by decide)
  have hu3 := hp.2.2.1 3 (by decide)
  have hl0 := hp.2.2.2 1 (by decide)
  show Wm l G cX3_borrowed 5 RX3 ((some .int)) (rmk 0 0 0) (fun _ => True) (QfM G (qI (fun x_ σ => x_ = nI (byB false U L 1).1 ∧ ∃ Z2 : owF, σ = (A, S, Z2, B, T, V, J, Y, P) ∧ pap Z2 (byB false U L 1).2 L ∧ zfr 20 Z Z2)) 0 0) 0 [(0, .ref (gK G 2 0)), (1, .int 1), (2, .int 0)] [] (A, S, Z, B, T, V, J, Y, P) 0 0
  refine m_iload_n 1 rfl rfl dX3_borrowed_0 ?_
  refine m_iconst 1 dX3_borrowed_1 rfl ?_
  refine m_iadd dX3_borrowed_2 ?_
  refine m_topi (show (1 : Int32) + 1 = 2 by decide) ?_
  refine m_istore_n [(3, .int 2), (0, .ref (gK G 2 0)), (1, .int 1), (2, .int 0)] rfl (by decide) rfl dX3_borrowed_3 ?_
  refine m_iload_n 2 rfl rfl dX3_borrowed_4 ?_
  refine m_if_lt 85 dX3_borrowed_5 (by decide) (fun c1_ => absurd c1_ (by decide)) (fun _ => ?_)
  refine m_iload_n 0 rfl rfl dX3_borrowed_8 ?_
  refine m_iconst 4 dX3_borrowed_9 rfl ?_
  refine m_icmp_ge 85 dX3_borrowed_10 (by decide) (fun c2_ => absurd c2_ (by decide)) (fun _ => ?_)
  refine m_aload_n 1 rfl rfl dX3_borrowed_13 ?_
  refine gf_X3_9 dX3_borrowed_14 ?_
  refine m_iload_n 0 rfl rfl dX3_borrowed_17 ?_
  refine al_20 2 rfl (by omega) dX3_borrowed_18 ?_
  refine m_topi (hp.1 2 (by decide)) ?_
  refine m_ifn_le (U 2) 79 (by omega) dX3_borrowed_19 (by decide) (fun c3_ => ?_) (fun c3_ => ?_)
  ·
    refine m_iinc (3) 0 [(3, .int 3), (0, .ref (gK G 2 0)), (1, .int 1), (2, .int 0)] rfl rfl (by decide) rfl dX3_borrowed_79 ?_
    refine m_goto 4 dX3_borrowed_82 (by decide) ?_
    refine m_iload_n 2 rfl rfl dX3_borrowed_4 ?_
    refine m_if_lt 85 dX3_borrowed_5 (by decide) (fun c4_ => absurd c4_ (by decide)) (fun _ => ?_)
    refine m_iload_n 0 rfl rfl dX3_borrowed_8 ?_
    refine m_iconst 4 dX3_borrowed_9 rfl ?_
    refine m_icmp_ge 85 dX3_borrowed_10 (by decide) (fun c5_ => absurd c5_ (by decide)) (fun _ => ?_)
    refine m_aload_n 1 rfl rfl dX3_borrowed_13 ?_
    refine gf_X3_9 dX3_borrowed_14 ?_
    refine m_iload_n 0 rfl rfl dX3_borrowed_17 ?_
    refine al_20 3 rfl (by omega) dX3_borrowed_18 ?_
    refine m_topi (hp.1 3 (by decide)) ?_
    refine m_ifn_le (U 3) 79 (by omega) dX3_borrowed_19 (by decide) (fun c6_ => ?_) (fun c6_ => ?_)
    ·
      refine m_iinc (4) 0 [(3, .int 4), (0, .ref (gK G 2 0)), (1, .int 1), (2, .int 0)] rfl rfl (by decide) rfl dX3_borrowed_79 ?_
      refine m_goto 4 dX3_borrowed_82 (by decide) ?_
      refine m_iload_n 2 rfl rfl dX3_borrowed_4 ?_
      refine m_if_lt 85 dX3_borrowed_5 (by decide) (fun c7_ => absurd c7_ (by decide)) (fun _ => ?_)
      refine m_iload_n 0 rfl rfl dX3_borrowed_8 ?_
      refine m_iconst 4 dX3_borrowed_9 rfl ?_
      refine m_icmp_ge 85 dX3_borrowed_10 (by decide) (fun _ => ?_) (fun c8_ => absurd c8_ (by decide))
      refine m_iconst 0 dX3_borrowed_85 rfl ?_
      exact m_iret dX3_borrowed_86 (Nat.le_refl _) (Nat.le_refl _) (⟨(show 0 = nI ((byB false U L 1).1) by first | (simp_all [byB, fbW, tkW, nI_0]; done) | (grind [byB, fbW, tkW, nI_0])), Z, rfl, ⟨lt4 (p := fun j_ => Z 20 0 j_ = nI ((byB false U L 1).2 j_)) ((hp.1 0 (by decide)).trans (show nI (U 0) = nI ((byB false U L 1).2 0) by first | (simp_all [byB, fbW, tkW, nI_0]; done) | (simp_all [byB, fbW, tkW, nI_0]; omega) | (grind [byB, fbW, tkW, nI_0]))) ((hp.1 1 (by decide)).trans (show nI (U 1) = nI ((byB false U L 1).2 1) by first | (simp_all [byB, fbW, tkW, nI_0]; done) | (simp_all [byB, fbW, tkW, nI_0]; omega) | (grind [byB, fbW, tkW, nI_0]))) ((hp.1 2 (by decide)).trans (show nI (U 2) = nI ((byB false U L 1).2 2) by first | (simp_all [byB, fbW, tkW, nI_0]; done) | (simp_all [byB, fbW, tkW, nI_0]; omega) | (grind [byB, fbW, tkW, nI_0]))) ((hp.1 3 (by decide)).trans (show nI (U 3) = nI ((byB false U L 1).2 3) by first | (simp_all [byB, fbW, tkW, nI_0]; done) | (simp_all [byB, fbW, tkW, nI_0]; omega) | (grind [byB, fbW, tkW, nI_0]))), fun j_ hj => ((zfr_rf : zfr 20 Z Z) 21 0 j_ (by decide)).trans (hp.2.1 j_ hj), byB_le hp.2.2.1, hp.2.2.2⟩, zfr_rf⟩)
    ·
      refine m_aload_n 1 rfl rfl dX3_borrowed_22 ?_
      refine gf_X3_9 dX3_borrowed_23 ?_
      refine m_iload_n 0 rfl rfl dX3_borrowed_26 ?_
      refine m_dup2 rfl rfl dX3_borrowed_27 ?_
      refine al_20 3 rfl (by omega) dX3_borrowed_28 ?_
      refine m_topi (hp.1 3 (by decide)) ?_
      refine m_iconst 1 dX3_borrowed_29 rfl ?_
      refine m_isub dX3_borrowed_30 ?_
      refine m_topi ((show (nI (U 3)) - 1 = nI ((U 3) - 1) from pk_sub (b := 1) (by omega))) ?_
      refine as_20 3 rfl (by omega) dX3_borrowed_31 (fun Z9 hZ9 => ?_)
      refine m_iload_n 2 rfl rfl dX3_borrowed_32 ?_
      refine m_iconst 1 dX3_borrowed_33 rfl ?_
      refine m_iadd dX3_borrowed_34 ?_
      refine m_topi (show (1 : Int32) + 1 = 2 by decide) ?_
      refine m_istore [(4, .int 2), (3, .int 3), (0, .ref (gK G 2 0)), (1, .int 1), (2, .int 0)] (by decide) rfl dX3_borrowed_35 ?_
      refine m_iload_n 4 rfl rfl dX3_borrowed_37 ?_
      refine m_if_eq 62 dX3_borrowed_38 (by decide) (fun _ => ?_) (fun c10_ => absurd c10_ (by decide))
      refine m_aload_n 2 rfl rfl dX3_borrowed_62 ?_
      refine gf_X3_9 dX3_borrowed_63 ?_
      refine m_iload_n 3 rfl rfl dX3_borrowed_66 ?_
      refine al_20 1 rfl (by omega) dX3_borrowed_67 ?_
      refine m_topi (up3_j hZ9 (by decide) (hp.1 1 (by decide))) ?_
      refine m_bipush (10) dX3_borrowed_68 rfl ?_
      refine m_iadd dX3_borrowed_70 ?_
      refine m_topi (show (nI (U 1)) + 10 = nI ((U 1) + 10) from nI_add _ _) ?_
      refine m_aload_n 2 rfl rfl dX3_borrowed_71 ?_
      refine gf_X3_15 dX3_borrowed_72 ?_
      refine m_iload_n 3 rfl rfl dX3_borrowed_75 ?_
      refine al_21 1 rfl (by omega) dX3_borrowed_76 ?_
      refine m_topi (up3_t hZ9 (by decide) (hp.2.1 1 (by decide))) ?_
      refine m_isub dX3_borrowed_77 ?_
      refine m_topi ((show (nI ((U 1) + 10)) - (nI (L 1)) = nI (((U 1) + 10) - (L 1)) from pk_sub (by omega))) ?_
      exact m_iret dX3_borrowed_78 (Nat.le_refl _) (Nat.le_refl _) (⟨(show nI (((U 1) + 10) - (L 1)) = nI ((byB false U L 1).1) by first | (simp_all [byB, fbW, tkW, nI_0]; done) | (grind [byB, fbW, tkW, nI_0])), Z9, rfl, ⟨lt4 (p := fun j_ => Z9 20 0 j_ = nI ((byB false U L 1).2 j_)) ((up3_j hZ9 (by decide) (hp.1 0 (by decide))).trans (show nI (U 0) = nI ((byB false U L 1).2 0) by first | (simp_all [byB, fbW, tkW, nI_0]; done) | (simp_all [byB, fbW, tkW, nI_0]; omega) | (grind [byB, fbW, tkW, nI_0]))) ((up3_j hZ9 (by decide) (hp.1 1 (by decide))).trans (show nI (U 1) = nI ((byB false U L 1).2 1) by first | (simp_all [byB, fbW, tkW, nI_0]; done) | (simp_all [byB, fbW, tkW, nI_0]; omega) | (grind [byB, fbW, tkW, nI_0]))) ((up3_j hZ9 (by decide) (hp.1 2 (by decide))).trans (show nI (U 2) = nI ((byB false U L 1).2 2) by first | (simp_all [byB, fbW, tkW, nI_0]; done) | (simp_all [byB, fbW, tkW, nI_0]; omega) | (grind [byB, fbW, tkW, nI_0]))) ((up3_e hZ9).trans (show nI ((U 3) - 1) = nI ((byB false U L 1).2 3) by first | (simp_all [byB, fbW, tkW, nI_0]; done) | (simp_all [byB, fbW, tkW, nI_0]; omega) | (grind [byB, fbW, tkW, nI_0]))), fun j_ hj => (((zfr_up zfr_rf hZ9) : zfr 20 Z Z9) 21 0 j_ (by decide)).trans (hp.2.1 j_ hj), byB_le hp.2.2.1, hp.2.2.2⟩, (zfr_up zfr_rf hZ9)⟩)
  ·
    refine m_aload_n 1 rfl rfl dX3_borrowed_22 ?_
    refine gf_X3_9 dX3_borrowed_23 ?_
    refine m_iload_n 0 rfl rfl dX3_borrowed_26 ?_
    refine m_dup2 rfl rfl dX3_borrowed_27 ?_
    refine al_20 2 rfl (by omega) dX3_borrowed_28 ?_
    refine m_topi (hp.1 2 (by decide)) ?_
    refine m_iconst 1 dX3_borrowed_29 rfl ?_
    refine m_isub dX3_borrowed_30 ?_
    refine m_topi ((show (nI (U 2)) - 1 = nI ((U 2) - 1) from pk_sub (b := 1) (by omega))) ?_
    refine as_20 2 rfl (by omega) dX3_borrowed_31 (fun Z11 hZ11 => ?_)
    refine m_iload_n 2 rfl rfl dX3_borrowed_32 ?_
    refine m_iconst 1 dX3_borrowed_33 rfl ?_
    refine m_iadd dX3_borrowed_34 ?_
    refine m_topi (show (1 : Int32) + 1 = 2 by decide) ?_
    refine m_istore [(4, .int 2), (3, .int 2), (0, .ref (gK G 2 0)), (1, .int 1), (2, .int 0)] (by decide) rfl dX3_borrowed_35 ?_
    refine m_iload_n 4 rfl rfl dX3_borrowed_37 ?_
    refine m_if_eq 62 dX3_borrowed_38 (by decide) (fun _ => ?_) (fun c12_ => absurd c12_ (by decide))
    refine m_aload_n 2 rfl rfl dX3_borrowed_62 ?_
    refine gf_X3_9 dX3_borrowed_63 ?_
    refine m_iload_n 3 rfl rfl dX3_borrowed_66 ?_
    refine al_20 1 rfl (by omega) dX3_borrowed_67 ?_
    refine m_topi (up3_j hZ11 (by decide) (hp.1 1 (by decide))) ?_
    refine m_bipush (10) dX3_borrowed_68 rfl ?_
    refine m_iadd dX3_borrowed_70 ?_
    refine m_topi (show (nI (U 1)) + 10 = nI ((U 1) + 10) from nI_add _ _) ?_
    refine m_aload_n 2 rfl rfl dX3_borrowed_71 ?_
    refine gf_X3_15 dX3_borrowed_72 ?_
    refine m_iload_n 3 rfl rfl dX3_borrowed_75 ?_
    refine al_21 1 rfl (by omega) dX3_borrowed_76 ?_
    refine m_topi (up3_t hZ11 (by decide) (hp.2.1 1 (by decide))) ?_
    refine m_isub dX3_borrowed_77 ?_
    refine m_topi ((show (nI ((U 1) + 10)) - (nI (L 1)) = nI (((U 1) + 10) - (L 1)) from pk_sub (by omega))) ?_
    exact m_iret dX3_borrowed_78 (Nat.le_refl _) (Nat.le_refl _) (⟨(show nI (((U 1) + 10) - (L 1)) = nI ((byB false U L 1).1) by first | (simp_all [byB, fbW, tkW, nI_0]; done) | (grind [byB, fbW, tkW, nI_0])), Z11, rfl, ⟨lt4 (p := fun j_ => Z11 20 0 j_ = nI ((byB false U L 1).2 j_)) ((up3_j hZ11 (by decide) (hp.1 0 (by decide))).trans (show nI (U 0) = nI ((byB false U L 1).2 0) by first | (simp_all [byB, fbW, tkW, nI_0]; done) | (simp_all [byB, fbW, tkW, nI_0]; omega) | (grind [byB, fbW, tkW, nI_0]))) ((up3_j hZ11 (by decide) (hp.1 1 (by decide))).trans (show nI (U 1) = nI ((byB false U L 1).2 1) by first | (simp_all [byB, fbW, tkW, nI_0]; done) | (simp_all [byB, fbW, tkW, nI_0]; omega) | (grind [byB, fbW, tkW, nI_0]))) ((up3_e hZ11).trans (show nI ((U 2) - 1) = nI ((byB false U L 1).2 2) by first | (simp_all [byB, fbW, tkW, nI_0]; done) | (simp_all [byB, fbW, tkW, nI_0]; omega) | (grind [byB, fbW, tkW, nI_0]))) ((up3_j hZ11 (by decide) (hp.1 3 (by decide))).trans (show nI (U 3) = nI ((byB false U L 1).2 3) by first | (simp_all [byB, fbW, tkW, nI_0]; done) | (simp_all [byB, fbW, tkW, nI_0]; omega) | (grind [byB, fbW, tkW, nI_0]))), fun j_ hj => (((zfr_up zfr_rf hZ11) : zfr 20 Z Z11) 21 0 j_ (by decide)).trans (hp.2.1 j_ hj), byB_le hp.2.2.1, hp.2.2.2⟩, (zfr_up zfr_rf hZ11)⟩)
set_option maxRecDepth 100000 in
set_option maxHeartbeats 4000000 in
theorem k_borrowed_1_1 (l : Launch) (G : owG) {A S Z B T V : owF} {J : Nat → Nat → Int64} {Y : Nat → Nat → Nat → Option Nat} {P : Nat → Option owW} (U L : Nat → Nat) (hp : pap Z U L) : Ct l G yX3_borrowed cX3_borrowed 5 ((some .int)) 0 0 0 [.ref (gK G 2 0), .int 1, .int 1] (A, S, Z, B, T, V, J, Y, P) (qI (fun x_ σ => x_ = nI (byB true U L 1).1 ∧ ∃ Z2 : owF, σ = (A, S, Z2, B, T, V, J, Y, P) ∧ pap Z2 (byB true U L 1).2 L ∧ zfr 20 Z Z2)) := by
  refine ct_of (by decide +kernel) (Nat.le_of_ble_eq_true rfl) ?_
  have hu0 := hp.2.2.1 0 (by decide)
  have hu1 := hp.2.2.1 1 (by decide)
  have hu2 := hp.2.2.1 2 (by decide)
  have hu3 := hp.2.2.1 3 (by decide)
  have hl0 := hp.2.2.2 1 (by decide)
  show Wm l G cX3_borrowed 5 RX3 ((some .int)) (rmk 0 0 0) (fun _ => True) (QfM G (qI (fun x_ σ => x_ = nI (byB true U L 1).1 ∧ ∃ Z2 : owF, σ = (A, S, Z2, B, T, V, J, Y, P) ∧ pap Z2 (byB true U L 1).2 L ∧ zfr 20 Z Z2)) 0 0) 0 [(0, .ref (gK G 2 0)), (1, .int 1), (2, .int 1)] [] (A, S, Z, B, T, V, J, Y, P) 0 0
  refine m_iload_n 1 rfl rfl dX3_borrowed_0 ?_
  refine m_iconst 1 dX3_borrowed_1 rfl ?_
  refine m_iadd dX3_borrowed_2 ?_
  refine m_topi (show (1 : Int32) + 1 = 2 by decide) ?_
  refine m_istore_n [(3, .int 2), (0, .ref (gK G 2 0)), (1, .int 1), (2, .int 1)] rfl (by decide) rfl dX3_borrowed_3 ?_
  refine m_iload_n 2 rfl rfl dX3_borrowed_4 ?_
  refine m_if_lt 85 dX3_borrowed_5 (by decide) (fun c1_ => absurd c1_ (by decide)) (fun _ => ?_)
  refine m_iload_n 0 rfl rfl dX3_borrowed_8 ?_
  refine m_iconst 4 dX3_borrowed_9 rfl ?_
  refine m_icmp_ge 85 dX3_borrowed_10 (by decide) (fun c2_ => absurd c2_ (by decide)) (fun _ => ?_)
  refine m_aload_n 1 rfl rfl dX3_borrowed_13 ?_
  refine gf_X3_9 dX3_borrowed_14 ?_
  refine m_iload_n 0 rfl rfl dX3_borrowed_17 ?_
  refine al_20 2 rfl (by omega) dX3_borrowed_18 ?_
  refine m_topi (hp.1 2 (by decide)) ?_
  refine m_ifn_le (U 2) 79 (by omega) dX3_borrowed_19 (by decide) (fun c3_ => ?_) (fun c3_ => ?_)
  ·
    refine m_iinc (3) 0 [(3, .int 3), (0, .ref (gK G 2 0)), (1, .int 1), (2, .int 1)] rfl rfl (by decide) rfl dX3_borrowed_79 ?_
    refine m_goto 4 dX3_borrowed_82 (by decide) ?_
    refine m_iload_n 2 rfl rfl dX3_borrowed_4 ?_
    refine m_if_lt 85 dX3_borrowed_5 (by decide) (fun c4_ => absurd c4_ (by decide)) (fun _ => ?_)
    refine m_iload_n 0 rfl rfl dX3_borrowed_8 ?_
    refine m_iconst 4 dX3_borrowed_9 rfl ?_
    refine m_icmp_ge 85 dX3_borrowed_10 (by decide) (fun c5_ => absurd c5_ (by decide)) (fun _ => ?_)
    refine m_aload_n 1 rfl rfl dX3_borrowed_13 ?_
    refine gf_X3_9 dX3_borrowed_14 ?_
    refine m_iload_n 0 rfl rfl dX3_borrowed_17 ?_
    refine al_20 3 rfl (by omega) dX3_borrowed_18 ?_
    refine m_topi (hp.1 3 (by decide)) ?_
    refine m_ifn_le (U 3) 79 (by omega) dX3_borrowed_19 (by decide) (fun c6_ => ?_) (fun c6_ => ?_)
    ·
      refine m_iinc (4) 0 [(3, .int 4), (0, .ref (gK G 2 0)), (1, .int 1), (2, .int 1)] rfl rfl (by decide) rfl dX3_borrowed_79 ?_
      refine m_goto 4 dX3_borrowed_82 (by decide) ?_
      refine m_iload_n 2 rfl rfl dX3_borrowed_4 ?_
      refine m_if_lt 85 dX3_borrowed_5 (by decide) (fun c7_ => absurd c7_ (by decide)) (fun _ => ?_)
      refine m_iload_n 0 rfl rfl dX3_borrowed_8 ?_
      refine m_iconst 4 dX3_borrowed_9 rfl ?_
      refine m_icmp_ge 85 dX3_borrowed_10 (by decide) (fun _ => ?_) (fun c8_ => absurd c8_ (by decide))
      refine m_iconst 0 dX3_borrowed_85 rfl ?_
      exact m_iret dX3_borrowed_86 (Nat.le_refl _) (Nat.le_refl _) (⟨(show 0 = nI ((byB true U L 1).1) by first | (simp_all [byB, fbW, tkW, nI_0]; done) | (grind [byB, fbW, tkW, nI_0])), Z, rfl, ⟨lt4 (p := fun j_ => Z 20 0 j_ = nI ((byB true U L 1).2 j_)) ((hp.1 0 (by decide)).trans (show nI (U 0) = nI ((byB true U L 1).2 0) by first | (simp_all [byB, fbW, tkW, nI_0]; done) | (simp_all [byB, fbW, tkW, nI_0]; omega) | (grind [byB, fbW, tkW, nI_0]))) ((hp.1 1 (by decide)).trans (show nI (U 1) = nI ((byB true U L 1).2 1) by first | (simp_all [byB, fbW, tkW, nI_0]; done) | (simp_all [byB, fbW, tkW, nI_0]; omega) | (grind [byB, fbW, tkW, nI_0]))) ((hp.1 2 (by decide)).trans (show nI (U 2) = nI ((byB true U L 1).2 2) by first | (simp_all [byB, fbW, tkW, nI_0]; done) | (simp_all [byB, fbW, tkW, nI_0]; omega) | (grind [byB, fbW, tkW, nI_0]))) ((hp.1 3 (by decide)).trans (show nI (U 3) = nI ((byB true U L 1).2 3) by first | (simp_all [byB, fbW, tkW, nI_0]; done) | (simp_all [byB, fbW, tkW, nI_0]; omega) | (grind [byB, fbW, tkW, nI_0]))), fun j_ hj => ((zfr_rf : zfr 20 Z Z) 21 0 j_ (by decide)).trans (hp.2.1 j_ hj), byB_le hp.2.2.1, hp.2.2.2⟩, zfr_rf⟩)
    ·
      refine m_aload_n 1 rfl rfl dX3_borrowed_22 ?_
      refine gf_X3_9 dX3_borrowed_23 ?_
      refine m_iload_n 0 rfl rfl dX3_borrowed_26 ?_
      refine m_dup2 rfl rfl dX3_borrowed_27 ?_
      refine al_20 3 rfl (by omega) dX3_borrowed_28 ?_
      refine m_topi (hp.1 3 (by decide)) ?_
      refine m_iconst 1 dX3_borrowed_29 rfl ?_
      refine m_isub dX3_borrowed_30 ?_
      refine m_topi ((show (nI (U 3)) - 1 = nI ((U 3) - 1) from pk_sub (b := 1) (by omega))) ?_
      refine as_20 3 rfl (by omega) dX3_borrowed_31 (fun Z9 hZ9 => ?_)
      refine m_iload_n 2 rfl rfl dX3_borrowed_32 ?_
      refine m_iconst 1 dX3_borrowed_33 rfl ?_
      refine m_iadd dX3_borrowed_34 ?_
      refine m_topi (show (1 : Int32) + 1 = 2 by decide) ?_
      refine m_istore [(4, .int 2), (3, .int 3), (0, .ref (gK G 2 0)), (1, .int 1), (2, .int 1)] (by decide) rfl dX3_borrowed_35 ?_
      refine m_iload_n 4 rfl rfl dX3_borrowed_37 ?_
      refine m_if_eq 62 dX3_borrowed_38 (by decide) (fun c10_ => absurd c10_ (by decide)) (fun _ => ?_)
      refine m_iload 0 rfl dX3_borrowed_41 ?_
      refine m_iload_n 1 rfl rfl dX3_borrowed_43 ?_
      refine m_icmp_ge 62 dX3_borrowed_44 (by decide) (fun c11_ => absurd c11_ (by decide)) (fun _ => ?_)
      refine m_aload_n 2 rfl rfl dX3_borrowed_47 ?_
      refine gf_X3_9 dX3_borrowed_48 ?_
      refine m_iload 0 rfl dX3_borrowed_51 ?_
      refine m_bipush (9) dX3_borrowed_53 rfl ?_
      refine as_20 2 rfl (by omega) dX3_borrowed_55 (fun Z12 hZ12 => ?_)
      refine m_iinc (3) 0 [(4, .int 3), (3, .int 3), (0, .ref (gK G 2 0)), (1, .int 1), (2, .int 1)] rfl rfl (by decide) rfl dX3_borrowed_56 ?_
      refine m_goto 37 dX3_borrowed_59 (by decide) ?_
      refine m_iload_n 4 rfl rfl dX3_borrowed_37 ?_
      refine m_if_eq 62 dX3_borrowed_38 (by decide) (fun c13_ => absurd c13_ (by decide)) (fun _ => ?_)
      refine m_iload 0 rfl dX3_borrowed_41 ?_
      refine m_iload_n 1 rfl rfl dX3_borrowed_43 ?_
      refine m_icmp_ge 62 dX3_borrowed_44 (by decide) (fun _ => ?_) (fun c14_ => absurd c14_ (by decide))
      refine m_aload_n 2 rfl rfl dX3_borrowed_62 ?_
      refine gf_X3_9 dX3_borrowed_63 ?_
      refine m_iload_n 3 rfl rfl dX3_borrowed_66 ?_
      refine al_20 1 rfl (by omega) dX3_borrowed_67 ?_
      refine m_topi (up3_j hZ12 (by decide) (up3_j hZ9 (by decide) (hp.1 1 (by decide)))) ?_
      refine m_bipush (10) dX3_borrowed_68 rfl ?_
      refine m_iadd dX3_borrowed_70 ?_
      refine m_topi (show (nI (U 1)) + 10 = nI ((U 1) + 10) from nI_add _ _) ?_
      refine m_aload_n 2 rfl rfl dX3_borrowed_71 ?_
      refine gf_X3_15 dX3_borrowed_72 ?_
      refine m_iload_n 3 rfl rfl dX3_borrowed_75 ?_
      refine al_21 1 rfl (by omega) dX3_borrowed_76 ?_
      refine m_topi (up3_t hZ12 (by decide) (up3_t hZ9 (by decide) (hp.2.1 1 (by decide)))) ?_
      refine m_isub dX3_borrowed_77 ?_
      refine m_topi ((show (nI ((U 1) + 10)) - (nI (L 1)) = nI (((U 1) + 10) - (L 1)) from pk_sub (by omega))) ?_
      exact m_iret dX3_borrowed_78 (Nat.le_refl _) (Nat.le_refl _) (⟨(show nI (((U 1) + 10) - (L 1)) = nI ((byB true U L 1).1) by first | (simp_all [byB, fbW, tkW, nI_0]; done) | (grind [byB, fbW, tkW, nI_0])), Z12, rfl, ⟨lt4 (p := fun j_ => Z12 20 0 j_ = nI ((byB true U L 1).2 j_)) ((up3_j hZ12 (by decide) (up3_j hZ9 (by decide) (hp.1 0 (by decide)))).trans (show nI (U 0) = nI ((byB true U L 1).2 0) by first | (simp_all [byB, fbW, tkW, nI_0]; done) | (simp_all [byB, fbW, tkW, nI_0]; omega) | (grind [byB, fbW, tkW, nI_0]))) ((up3_j hZ12 (by decide) (up3_j hZ9 (by decide) (hp.1 1 (by decide)))).trans (show nI (U 1) = nI ((byB true U L 1).2 1) by first | (simp_all [byB, fbW, tkW, nI_0]; done) | (simp_all [byB, fbW, tkW, nI_0]; omega) | (grind [byB, fbW, tkW, nI_0]))) ((up3_e hZ12).trans (show nI 9 = nI ((byB true U L 1).2 2) by first | (simp_all [byB, fbW, tkW, nI_0]; done) | (simp_all [byB, fbW, tkW, nI_0]; omega) | (grind [byB, fbW, tkW, nI_0]))) ((up3_j hZ12 (by decide) (up3_e hZ9)).trans (show nI ((U 3) - 1) = nI ((byB true U L 1).2 3) by first | (simp_all [byB, fbW, tkW, nI_0]; done) | (simp_all [byB, fbW, tkW, nI_0]; omega) | (grind [byB, fbW, tkW, nI_0]))), fun j_ hj => (((zfr_up (zfr_up zfr_rf hZ9) hZ12) : zfr 20 Z Z12) 21 0 j_ (by decide)).trans (hp.2.1 j_ hj), byB_le hp.2.2.1, hp.2.2.2⟩, (zfr_up (zfr_up zfr_rf hZ9) hZ12)⟩)
  ·
    refine m_aload_n 1 rfl rfl dX3_borrowed_22 ?_
    refine gf_X3_9 dX3_borrowed_23 ?_
    refine m_iload_n 0 rfl rfl dX3_borrowed_26 ?_
    refine m_dup2 rfl rfl dX3_borrowed_27 ?_
    refine al_20 2 rfl (by omega) dX3_borrowed_28 ?_
    refine m_topi (hp.1 2 (by decide)) ?_
    refine m_iconst 1 dX3_borrowed_29 rfl ?_
    refine m_isub dX3_borrowed_30 ?_
    refine m_topi ((show (nI (U 2)) - 1 = nI ((U 2) - 1) from pk_sub (b := 1) (by omega))) ?_
    refine as_20 2 rfl (by omega) dX3_borrowed_31 (fun Z15 hZ15 => ?_)
    refine m_iload_n 2 rfl rfl dX3_borrowed_32 ?_
    refine m_iconst 1 dX3_borrowed_33 rfl ?_
    refine m_iadd dX3_borrowed_34 ?_
    refine m_topi (show (1 : Int32) + 1 = 2 by decide) ?_
    refine m_istore [(4, .int 2), (3, .int 2), (0, .ref (gK G 2 0)), (1, .int 1), (2, .int 1)] (by decide) rfl dX3_borrowed_35 ?_
    refine m_iload_n 4 rfl rfl dX3_borrowed_37 ?_
    refine m_if_eq 62 dX3_borrowed_38 (by decide) (fun c16_ => absurd c16_ (by decide)) (fun _ => ?_)
    refine m_iload 0 rfl dX3_borrowed_41 ?_
    refine m_iload_n 1 rfl rfl dX3_borrowed_43 ?_
    refine m_icmp_ge 62 dX3_borrowed_44 (by decide) (fun _ => ?_) (fun c17_ => absurd c17_ (by decide))
    refine m_aload_n 2 rfl rfl dX3_borrowed_62 ?_
    refine gf_X3_9 dX3_borrowed_63 ?_
    refine m_iload_n 3 rfl rfl dX3_borrowed_66 ?_
    refine al_20 1 rfl (by omega) dX3_borrowed_67 ?_
    refine m_topi (up3_j hZ15 (by decide) (hp.1 1 (by decide))) ?_
    refine m_bipush (10) dX3_borrowed_68 rfl ?_
    refine m_iadd dX3_borrowed_70 ?_
    refine m_topi (show (nI (U 1)) + 10 = nI ((U 1) + 10) from nI_add _ _) ?_
    refine m_aload_n 2 rfl rfl dX3_borrowed_71 ?_
    refine gf_X3_15 dX3_borrowed_72 ?_
    refine m_iload_n 3 rfl rfl dX3_borrowed_75 ?_
    refine al_21 1 rfl (by omega) dX3_borrowed_76 ?_
    refine m_topi (up3_t hZ15 (by decide) (hp.2.1 1 (by decide))) ?_
    refine m_isub dX3_borrowed_77 ?_
    refine m_topi ((show (nI ((U 1) + 10)) - (nI (L 1)) = nI (((U 1) + 10) - (L 1)) from pk_sub (by omega))) ?_
    exact m_iret dX3_borrowed_78 (Nat.le_refl _) (Nat.le_refl _) (⟨(show nI (((U 1) + 10) - (L 1)) = nI ((byB true U L 1).1) by first | (simp_all [byB, fbW, tkW, nI_0]; done) | (grind [byB, fbW, tkW, nI_0])), Z15, rfl, ⟨lt4 (p := fun j_ => Z15 20 0 j_ = nI ((byB true U L 1).2 j_)) ((up3_j hZ15 (by decide) (hp.1 0 (by decide))).trans (show nI (U 0) = nI ((byB true U L 1).2 0) by first | (simp_all [byB, fbW, tkW, nI_0]; done) | (simp_all [byB, fbW, tkW, nI_0]; omega) | (grind [byB, fbW, tkW, nI_0]))) ((up3_j hZ15 (by decide) (hp.1 1 (by decide))).trans (show nI (U 1) = nI ((byB true U L 1).2 1) by first | (simp_all [byB, fbW, tkW, nI_0]; done) | (simp_all [byB, fbW, tkW, nI_0]; omega) | (grind [byB, fbW, tkW, nI_0]))) ((up3_e hZ15).trans (show nI ((U 2) - 1) = nI ((byB true U L 1).2 2) by first | (simp_all [byB, fbW, tkW, nI_0]; done) | (simp_all [byB, fbW, tkW, nI_0]; omega) | (grind [byB, fbW, tkW, nI_0]))) ((up3_j hZ15 (by decide) (hp.1 3 (by decide))).trans (show nI (U 3) = nI ((byB true U L 1).2 3) by first | (simp_all [byB, fbW, tkW, nI_0]; done) | (simp_all [byB, fbW, tkW, nI_0]; omega) | (grind [byB, fbW, tkW, nI_0]))), fun j_ hj => (((zfr_up zfr_rf hZ15) : zfr 20 Z Z15) 21 0 j_ (by decide)).trans (hp.2.1 j_ hj), byB_le hp.2.2.1, hp.2.2.2⟩, (zfr_up zfr_rf hZ15)⟩)
set_option maxRecDepth 100000 in
set_option maxHeartbeats 4000000 in
theorem k_borrowed_2_0 (l : Launch) (G : owG) {A S Z B T V : owF} {J : Nat → Nat → Int64} {Y : Nat → Nat → Nat → Option Nat} {P : Nat → Option owW} (U L : Nat → Nat) (hp : pap Z U L) : Ct l G yX3_borrowed cX3_borrowed 5 ((some .int)) 0 0 0 [.ref (gK G 2 0), .int 2, .int 0] (A, S, Z, B, T, V, J, Y, P) (qI (fun x_ σ => x_ = nI (byB false U L 2).1 ∧ ∃ Z2 : owF, σ = (A, S, Z2, B, T, V, J, Y, P) ∧ pap Z2 (byB false U L 2).2 L ∧ zfr 20 Z Z2)) := by
  refine ct_of (by decide +kernel) (Nat.le_of_ble_eq_true rfl) ?_
  have hu0 := hp.2.2.1 0 (by decide)
  have hu1 := hp.2.2.1 1 (by decide)
  have hu2 := hp.2.2.1 2 (by decide)
  have hu3 := hp.2.2.1 3 (by decide)
  have hl0 := hp.2.2.2 2 (by decide)
  show Wm l G cX3_borrowed 5 RX3 ((some .int)) (rmk 0 0 0) (fun _ => True) (QfM G (qI (fun x_ σ => x_ = nI (byB false U L 2).1 ∧ ∃ Z2 : owF, σ = (A, S, Z2, B, T, V, J, Y, P) ∧ pap Z2 (byB false U L 2).2 L ∧ zfr 20 Z Z2)) 0 0) 0 [(0, .ref (gK G 2 0)), (1, .int 2), (2, .int 0)] [] (A, S, Z, B, T, V, J, Y, P) 0 0
  refine m_iload_n 1 rfl rfl dX3_borrowed_0 ?_
  refine m_iconst 1 dX3_borrowed_1 rfl ?_
  refine m_iadd dX3_borrowed_2 ?_
  refine m_topi (show (2 : Int32) + 1 = 3 by decide) ?_
  refine m_istore_n [(3, .int 3), (0, .ref (gK G 2 0)), (1, .int 2), (2, .int 0)] rfl (by decide) rfl dX3_borrowed_3 ?_
  refine m_iload_n 2 rfl rfl dX3_borrowed_4 ?_
  refine m_if_lt 85 dX3_borrowed_5 (by decide) (fun c1_ => absurd c1_ (by decide)) (fun _ => ?_)
  refine m_iload_n 0 rfl rfl dX3_borrowed_8 ?_
  refine m_iconst 4 dX3_borrowed_9 rfl ?_
  refine m_icmp_ge 85 dX3_borrowed_10 (by decide) (fun c2_ => absurd c2_ (by decide)) (fun _ => ?_)
  refine m_aload_n 1 rfl rfl dX3_borrowed_13 ?_
  refine gf_X3_9 dX3_borrowed_14 ?_
  refine m_iload_n 0 rfl rfl dX3_borrowed_17 ?_
  refine al_20 3 rfl (by omega) dX3_borrowed_18 ?_
  refine m_topi (hp.1 3 (by decide)) ?_
  refine m_ifn_le (U 3) 79 (by omega) dX3_borrowed_19 (by decide) (fun c3_ => ?_) (fun c3_ => ?_)
  ·
    refine m_iinc (4) 0 [(3, .int 4), (0, .ref (gK G 2 0)), (1, .int 2), (2, .int 0)] rfl rfl (by decide) rfl dX3_borrowed_79 ?_
    refine m_goto 4 dX3_borrowed_82 (by decide) ?_
    refine m_iload_n 2 rfl rfl dX3_borrowed_4 ?_
    refine m_if_lt 85 dX3_borrowed_5 (by decide) (fun c4_ => absurd c4_ (by decide)) (fun _ => ?_)
    refine m_iload_n 0 rfl rfl dX3_borrowed_8 ?_
    refine m_iconst 4 dX3_borrowed_9 rfl ?_
    refine m_icmp_ge 85 dX3_borrowed_10 (by decide) (fun _ => ?_) (fun c5_ => absurd c5_ (by decide))
    refine m_iconst 0 dX3_borrowed_85 rfl ?_
    exact m_iret dX3_borrowed_86 (Nat.le_refl _) (Nat.le_refl _) (⟨(show 0 = nI ((byB false U L 2).1) by first | (simp_all [byB, fbW, tkW, nI_0]; done) | (grind [byB, fbW, tkW, nI_0])), Z, rfl, ⟨lt4 (p := fun j_ => Z 20 0 j_ = nI ((byB false U L 2).2 j_)) ((hp.1 0 (by decide)).trans (show nI (U 0) = nI ((byB false U L 2).2 0) by first | (simp_all [byB, fbW, tkW, nI_0]; done) | (simp_all [byB, fbW, tkW, nI_0]; omega) | (grind [byB, fbW, tkW, nI_0]))) ((hp.1 1 (by decide)).trans (show nI (U 1) = nI ((byB false U L 2).2 1) by first | (simp_all [byB, fbW, tkW, nI_0]; done) | (simp_all [byB, fbW, tkW, nI_0]; omega) | (grind [byB, fbW, tkW, nI_0]))) ((hp.1 2 (by decide)).trans (show nI (U 2) = nI ((byB false U L 2).2 2) by first | (simp_all [byB, fbW, tkW, nI_0]; done) | (simp_all [byB, fbW, tkW, nI_0]; omega) | (grind [byB, fbW, tkW, nI_0]))) ((hp.1 3 (by decide)).trans (show nI (U 3) = nI ((byB false U L 2).2 3) by first | (simp_all [byB, fbW, tkW, nI_0]; done) | (simp_all [byB, fbW, tkW, nI_0]; omega) | (grind [byB, fbW, tkW, nI_0]))), fun j_ hj => ((zfr_rf : zfr 20 Z Z) 21 0 j_ (by decide)).trans (hp.2.1 j_ hj), byB_le hp.2.2.1, hp.2.2.2⟩, zfr_rf⟩)
  ·
    refine m_aload_n 1 rfl rfl dX3_borrowed_22 ?_
    refine gf_X3_9 dX3_borrowed_23 ?_
    refine m_iload_n 0 rfl rfl dX3_borrowed_26 ?_
    refine m_dup2 rfl rfl dX3_borrowed_27 ?_
    refine al_20 3 rfl (by omega) dX3_borrowed_28 ?_
    refine m_topi (hp.1 3 (by decide)) ?_
    refine m_iconst 1 dX3_borrowed_29 rfl ?_
    refine m_isub dX3_borrowed_30 ?_
    refine m_topi ((show (nI (U 3)) - 1 = nI ((U 3) - 1) from pk_sub (b := 1) (by omega))) ?_
    refine as_20 3 rfl (by omega) dX3_borrowed_31 (fun Z6 hZ6 => ?_)
    refine m_iload_n 2 rfl rfl dX3_borrowed_32 ?_
    refine m_iconst 1 dX3_borrowed_33 rfl ?_
    refine m_iadd dX3_borrowed_34 ?_
    refine m_topi (show (2 : Int32) + 1 = 3 by decide) ?_
    refine m_istore [(4, .int 3), (3, .int 3), (0, .ref (gK G 2 0)), (1, .int 2), (2, .int 0)] (by decide) rfl dX3_borrowed_35 ?_
    refine m_iload_n 4 rfl rfl dX3_borrowed_37 ?_
    refine m_if_eq 62 dX3_borrowed_38 (by decide) (fun _ => ?_) (fun c7_ => absurd c7_ (by decide))
    refine m_aload_n 2 rfl rfl dX3_borrowed_62 ?_
    refine gf_X3_9 dX3_borrowed_63 ?_
    refine m_iload_n 3 rfl rfl dX3_borrowed_66 ?_
    refine al_20 2 rfl (by omega) dX3_borrowed_67 ?_
    refine m_topi (up3_j hZ6 (by decide) (hp.1 2 (by decide))) ?_
    refine m_bipush (10) dX3_borrowed_68 rfl ?_
    refine m_iadd dX3_borrowed_70 ?_
    refine m_topi (show (nI (U 2)) + 10 = nI ((U 2) + 10) from nI_add _ _) ?_
    refine m_aload_n 2 rfl rfl dX3_borrowed_71 ?_
    refine gf_X3_15 dX3_borrowed_72 ?_
    refine m_iload_n 3 rfl rfl dX3_borrowed_75 ?_
    refine al_21 2 rfl (by omega) dX3_borrowed_76 ?_
    refine m_topi (up3_t hZ6 (by decide) (hp.2.1 2 (by decide))) ?_
    refine m_isub dX3_borrowed_77 ?_
    refine m_topi ((show (nI ((U 2) + 10)) - (nI (L 2)) = nI (((U 2) + 10) - (L 2)) from pk_sub (by omega))) ?_
    exact m_iret dX3_borrowed_78 (Nat.le_refl _) (Nat.le_refl _) (⟨(show nI (((U 2) + 10) - (L 2)) = nI ((byB false U L 2).1) by first | (simp_all [byB, fbW, tkW, nI_0]; done) | (grind [byB, fbW, tkW, nI_0])), Z6, rfl, ⟨lt4 (p := fun j_ => Z6 20 0 j_ = nI ((byB false U L 2).2 j_)) ((up3_j hZ6 (by decide) (hp.1 0 (by decide))).trans (show nI (U 0) = nI ((byB false U L 2).2 0) by first | (simp_all [byB, fbW, tkW, nI_0]; done) | (simp_all [byB, fbW, tkW, nI_0]; omega) | (grind [byB, fbW, tkW, nI_0]))) ((up3_j hZ6 (by decide) (hp.1 1 (by decide))).trans (show nI (U 1) = nI ((byB false U L 2).2 1) by first | (simp_all [byB, fbW, tkW, nI_0]; done) | (simp_all [byB, fbW, tkW, nI_0]; omega) | (grind [byB, fbW, tkW, nI_0]))) ((up3_j hZ6 (by decide) (hp.1 2 (by decide))).trans (show nI (U 2) = nI ((byB false U L 2).2 2) by first | (simp_all [byB, fbW, tkW, nI_0]; done) | (simp_all [byB, fbW, tkW, nI_0]; omega) | (grind [byB, fbW, tkW, nI_0]))) ((up3_e hZ6).trans (show nI ((U 3) - 1) = nI ((byB false U L 2).2 3) by first | (simp_all [byB, fbW, tkW, nI_0]; done) | (simp_all [byB, fbW, tkW, nI_0]; omega) | (grind [byB, fbW, tkW, nI_0]))), fun j_ hj => (((zfr_up zfr_rf hZ6) : zfr 20 Z Z6) 21 0 j_ (by decide)).trans (hp.2.1 j_ hj), byB_le hp.2.2.1, hp.2.2.2⟩, (zfr_up zfr_rf hZ6)⟩)
set_option maxRecDepth 100000 in
set_option maxHeartbeats 4000000 in
theorem k_borrowed_2_1 (l : Launch) (G : owG) {A S Z B T V : owF} {J : Nat → Nat → Int64} {Y : Nat → Nat → Nat → Option Nat} {P : Nat → Option owW} (U L : Nat → Nat) (hp : pap Z U L) : Ct l G yX3_borrowed cX3_borrowed 5 ((some .int)) 0 0 0 [.ref (gK G 2 0), .int 2, .int 1] (A, S, Z, B, T, V, J, Y, P) (qI (fun x_ σ => x_ = nI (byB true U L 2).1 ∧ ∃ Z2 : owF, σ = (A, S, Z2, B, T, V, J, Y, P) ∧ pap Z2 (byB true U L 2).2 L ∧ zfr 20 Z Z2)) := by
  refine ct_of (by decide +kernel) (Nat.le_of_ble_eq_true rfl) ?_
  have hu0 := hp.2.2.1 0 (by decide)
  have hu1 := hp.2.2.1 1 (by decide)
  have hu2 := hp.2.2.1 2 (by decide)
  have hu3 := hp.2.2.1 3 (by decide)
  have hl0 := hp.2.2.2 2 (by decide)
  show Wm l G cX3_borrowed 5 RX3 ((some .int)) (rmk 0 0 0) (fun _ => True) (QfM G (qI (fun x_ σ => x_ = nI (byB true U L 2).1 ∧ ∃ Z2 : owF, σ = (A, S, Z2, B, T, V, J, Y, P) ∧ pap Z2 (byB true U L 2).2 L ∧ zfr 20 Z Z2)) 0 0) 0 [(0, .ref (gK G 2 0)), (1, .int 2), (2, .int 1)] [] (A, S, Z, B, T, V, J, Y, P) 0 0
  refine m_iload_n 1 rfl rfl dX3_borrowed_0 ?_
  refine m_iconst 1 dX3_borrowed_1 rfl ?_
  refine m_iadd dX3_borrowed_2 ?_
  refine m_topi (show (2 : Int32) + 1 = 3 by decide) ?_
  refine m_istore_n [(3, .int 3), (0, .ref (gK G 2 0)), (1, .int 2), (2, .int 1)] rfl (by decide) rfl dX3_borrowed_3 ?_
  refine m_iload_n 2 rfl rfl dX3_borrowed_4 ?_
  refine m_if_lt 85 dX3_borrowed_5 (by decide) (fun c1_ => absurd c1_ (by decide)) (fun _ => ?_)
  refine m_iload_n 0 rfl rfl dX3_borrowed_8 ?_
  refine m_iconst 4 dX3_borrowed_9 rfl ?_
  refine m_icmp_ge 85 dX3_borrowed_10 (by decide) (fun c2_ => absurd c2_ (by decide)) (fun _ => ?_)
  refine m_aload_n 1 rfl rfl dX3_borrowed_13 ?_
  refine gf_X3_9 dX3_borrowed_14 ?_
  refine m_iload_n 0 rfl rfl dX3_borrowed_17 ?_
  refine al_20 3 rfl (by omega) dX3_borrowed_18 ?_
  refine m_topi (hp.1 3 (by decide)) ?_
  refine m_ifn_le (U 3) 79 (by omega) dX3_borrowed_19 (by decide) (fun c3_ => ?_) (fun c3_ => ?_)
  ·
    refine m_iinc (4) 0 [(3, .int 4), (0, .ref (gK G 2 0)), (1, .int 2), (2, .int 1)] rfl rfl (by decide) rfl dX3_borrowed_79 ?_
    refine m_goto 4 dX3_borrowed_82 (by decide) ?_
    refine m_iload_n 2 rfl rfl dX3_borrowed_4 ?_
    refine m_if_lt 85 dX3_borrowed_5 (by decide) (fun c4_ => absurd c4_ (by decide)) (fun _ => ?_)
    refine m_iload_n 0 rfl rfl dX3_borrowed_8 ?_
    refine m_iconst 4 dX3_borrowed_9 rfl ?_
    refine m_icmp_ge 85 dX3_borrowed_10 (by decide) (fun _ => ?_) (fun c5_ => absurd c5_ (by decide))
    refine m_iconst 0 dX3_borrowed_85 rfl ?_
    exact m_iret dX3_borrowed_86 (Nat.le_refl _) (Nat.le_refl _) (⟨(show 0 = nI ((byB true U L 2).1) by first | (simp_all [byB, fbW, tkW, nI_0]; done) | (grind [byB, fbW, tkW, nI_0])), Z, rfl, ⟨lt4 (p := fun j_ => Z 20 0 j_ = nI ((byB true U L 2).2 j_)) ((hp.1 0 (by decide)).trans (show nI (U 0) = nI ((byB true U L 2).2 0) by first | (simp_all [byB, fbW, tkW, nI_0]; done) | (simp_all [byB, fbW, tkW, nI_0]; omega) | (grind [byB, fbW, tkW, nI_0]))) ((hp.1 1 (by decide)).trans (show nI (U 1) = nI ((byB true U L 2).2 1) by first | (simp_all [byB, fbW, tkW, nI_0]; done) | (simp_all [byB, fbW, tkW, nI_0]; omega) | (grind [byB, fbW, tkW, nI_0]))) ((hp.1 2 (by decide)).trans (show nI (U 2) = nI ((byB true U L 2).2 2) by first | (simp_all [byB, fbW, tkW, nI_0]; done) | (simp_all [byB, fbW, tkW, nI_0]; omega) | (grind [byB, fbW, tkW, nI_0]))) ((hp.1 3 (by decide)).trans (show nI (U 3) = nI ((byB true U L 2).2 3) by first | (simp_all [byB, fbW, tkW, nI_0]; done) | (simp_all [byB, fbW, tkW, nI_0]; omega) | (grind [byB, fbW, tkW, nI_0]))), fun j_ hj => ((zfr_rf : zfr 20 Z Z) 21 0 j_ (by decide)).trans (hp.2.1 j_ hj), byB_le hp.2.2.1, hp.2.2.2⟩, zfr_rf⟩)
  ·
    refine m_aload_n 1 rfl rfl dX3_borrowed_22 ?_
    refine gf_X3_9 dX3_borrowed_23 ?_
    refine m_iload_n 0 rfl rfl dX3_borrowed_26 ?_
    refine m_dup2 rfl rfl dX3_borrowed_27 ?_
    refine al_20 3 rfl (by omega) dX3_borrowed_28 ?_
    refine m_topi (hp.1 3 (by decide)) ?_
    refine m_iconst 1 dX3_borrowed_29 rfl ?_
    refine m_isub dX3_borrowed_30 ?_
    refine m_topi ((show (nI (U 3)) - 1 = nI ((U 3) - 1) from pk_sub (b := 1) (by omega))) ?_
    refine as_20 3 rfl (by omega) dX3_borrowed_31 (fun Z6 hZ6 => ?_)
    refine m_iload_n 2 rfl rfl dX3_borrowed_32 ?_
    refine m_iconst 1 dX3_borrowed_33 rfl ?_
    refine m_iadd dX3_borrowed_34 ?_
    refine m_topi (show (2 : Int32) + 1 = 3 by decide) ?_
    refine m_istore [(4, .int 3), (3, .int 3), (0, .ref (gK G 2 0)), (1, .int 2), (2, .int 1)] (by decide) rfl dX3_borrowed_35 ?_
    refine m_iload_n 4 rfl rfl dX3_borrowed_37 ?_
    refine m_if_eq 62 dX3_borrowed_38 (by decide) (fun c7_ => absurd c7_ (by decide)) (fun _ => ?_)
    refine m_iload 0 rfl dX3_borrowed_41 ?_
    refine m_iload_n 1 rfl rfl dX3_borrowed_43 ?_
    refine m_icmp_ge 62 dX3_borrowed_44 (by decide) (fun _ => ?_) (fun c8_ => absurd c8_ (by decide))
    refine m_aload_n 2 rfl rfl dX3_borrowed_62 ?_
    refine gf_X3_9 dX3_borrowed_63 ?_
    refine m_iload_n 3 rfl rfl dX3_borrowed_66 ?_
    refine al_20 2 rfl (by omega) dX3_borrowed_67 ?_
    refine m_topi (up3_j hZ6 (by decide) (hp.1 2 (by decide))) ?_
    refine m_bipush (10) dX3_borrowed_68 rfl ?_
    refine m_iadd dX3_borrowed_70 ?_
    refine m_topi (show (nI (U 2)) + 10 = nI ((U 2) + 10) from nI_add _ _) ?_
    refine m_aload_n 2 rfl rfl dX3_borrowed_71 ?_
    refine gf_X3_15 dX3_borrowed_72 ?_
    refine m_iload_n 3 rfl rfl dX3_borrowed_75 ?_
    refine al_21 2 rfl (by omega) dX3_borrowed_76 ?_
    refine m_topi (up3_t hZ6 (by decide) (hp.2.1 2 (by decide))) ?_
    refine m_isub dX3_borrowed_77 ?_
    refine m_topi ((show (nI ((U 2) + 10)) - (nI (L 2)) = nI (((U 2) + 10) - (L 2)) from pk_sub (by omega))) ?_
    exact m_iret dX3_borrowed_78 (Nat.le_refl _) (Nat.le_refl _) (⟨(show nI (((U 2) + 10) - (L 2)) = nI ((byB true U L 2).1) by first | (simp_all [byB, fbW, tkW, nI_0]; done) | (grind [byB, fbW, tkW, nI_0])), Z6, rfl, ⟨lt4 (p := fun j_ => Z6 20 0 j_ = nI ((byB true U L 2).2 j_)) ((up3_j hZ6 (by decide) (hp.1 0 (by decide))).trans (show nI (U 0) = nI ((byB true U L 2).2 0) by first | (simp_all [byB, fbW, tkW, nI_0]; done) | (simp_all [byB, fbW, tkW, nI_0]; omega) | (grind [byB, fbW, tkW, nI_0]))) ((up3_j hZ6 (by decide) (hp.1 1 (by decide))).trans (show nI (U 1) = nI ((byB true U L 2).2 1) by first | (simp_all [byB, fbW, tkW, nI_0]; done) | (simp_all [byB, fbW, tkW, nI_0]; omega) | (grind [byB, fbW, tkW, nI_0]))) ((up3_j hZ6 (by decide) (hp.1 2 (by decide))).trans (show nI (U 2) = nI ((byB true U L 2).2 2) by first | (simp_all [byB, fbW, tkW, nI_0]; done) | (simp_all [byB, fbW, tkW, nI_0]; omega) | (grind [byB, fbW, tkW, nI_0]))) ((up3_e hZ6).trans (show nI ((U 3) - 1) = nI ((byB true U L 2).2 3) by first | (simp_all [byB, fbW, tkW, nI_0]; done) | (simp_all [byB, fbW, tkW, nI_0]; omega) | (grind [byB, fbW, tkW, nI_0]))), fun j_ hj => (((zfr_up zfr_rf hZ6) : zfr 20 Z Z6) 21 0 j_ (by decide)).trans (hp.2.1 j_ hj), byB_le hp.2.2.1, hp.2.2.2⟩, (zfr_up zfr_rf hZ6)⟩)
set_option maxRecDepth 100000 in
set_option maxHeartbeats 4000000 in
theorem k_borrowed_3_0 (l : Launch) (G : owG) {A S Z B T V : owF} {J : Nat → Nat → Int64} {Y : Nat → Nat → Nat → Option Nat} {P : Nat → Option owW} (U L : Nat → Nat) (hp : pap Z U L) : Ct l G yX3_borrowed cX3_borrowed 5 ((some .int)) 0 0 0 [.ref (gK G 2 0), .int 3, .int 0] (A, S, Z, B, T, V, J, Y, P) (qI (fun x_ σ => x_ = nI (byB false U L 3).1 ∧ ∃ Z2 : owF, σ = (A, S, Z2, B, T, V, J, Y, P) ∧ pap Z2 (byB false U L 3).2 L ∧ zfr 20 Z Z2)) := by
  refine ct_of (by decide +kernel) (Nat.le_of_ble_eq_true rfl) ?_
  have hu0 := hp.2.2.1 0 (by decide)
  have hu1 := hp.2.2.1 1 (by decide)
  have hu2 := hp.2.2.1 2 (by decide)
  have hu3 := hp.2.2.1 3 (by decide)
  have hl0 := hp.2.2.2 3 (by decide)
  show Wm l G cX3_borrowed 5 RX3 ((some .int)) (rmk 0 0 0) (fun _ => True) (QfM G (qI (fun x_ σ => x_ = nI (byB false U L 3).1 ∧ ∃ Z2 : owF, σ = (A, S, Z2, B, T, V, J, Y, P) ∧ pap Z2 (byB false U L 3).2 L ∧ zfr 20 Z Z2)) 0 0) 0 [(0, .ref (gK G 2 0)), (1, .int 3), (2, .int 0)] [] (A, S, Z, B, T, V, J, Y, P) 0 0
  refine m_iload_n 1 rfl rfl dX3_borrowed_0 ?_
  refine m_iconst 1 dX3_borrowed_1 rfl ?_
  refine m_iadd dX3_borrowed_2 ?_
  refine m_topi (show (3 : Int32) + 1 = 4 by decide) ?_
  refine m_istore_n [(3, .int 4), (0, .ref (gK G 2 0)), (1, .int 3), (2, .int 0)] rfl (by decide) rfl dX3_borrowed_3 ?_
  refine m_iload_n 2 rfl rfl dX3_borrowed_4 ?_
  refine m_if_lt 85 dX3_borrowed_5 (by decide) (fun c1_ => absurd c1_ (by decide)) (fun _ => ?_)
  refine m_iload_n 0 rfl rfl dX3_borrowed_8 ?_
  refine m_iconst 4 dX3_borrowed_9 rfl ?_
  refine m_icmp_ge 85 dX3_borrowed_10 (by decide) (fun _ => ?_) (fun c2_ => absurd c2_ (by decide))
  refine m_iconst 0 dX3_borrowed_85 rfl ?_
  exact m_iret dX3_borrowed_86 (Nat.le_refl _) (Nat.le_refl _) (⟨(show 0 = nI ((byB false U L 3).1) by first | (simp_all [byB, fbW, tkW, nI_0]; done) | (grind [byB, fbW, tkW, nI_0])), Z, rfl, ⟨lt4 (p := fun j_ => Z 20 0 j_ = nI ((byB false U L 3).2 j_)) ((hp.1 0 (by decide)).trans (show nI (U 0) = nI ((byB false U L 3).2 0) by first | (simp_all [byB, fbW, tkW, nI_0]; done) | (simp_all [byB, fbW, tkW, nI_0]; omega) | (grind [byB, fbW, tkW, nI_0]))) ((hp.1 1 (by decide)).trans (show nI (U 1) = nI ((byB false U L 3).2 1) by first | (simp_all [byB, fbW, tkW, nI_0]; done) | (simp_all [byB, fbW, tkW, nI_0]; omega) | (grind [byB, fbW, tkW, nI_0]))) ((hp.1 2 (by decide)).trans (show nI (U 2) = nI ((byB false U L 3).2 2) by first | (simp_all [byB, fbW, tkW, nI_0]; done) | (simp_all [byB, fbW, tkW, nI_0]; omega) | (grind [byB, fbW, tkW, nI_0]))) ((hp.1 3 (by decide)).trans (show nI (U 3) = nI ((byB false U L 3).2 3) by first | (simp_all [byB, fbW, tkW, nI_0]; done) | (simp_all [byB, fbW, tkW, nI_0]; omega) | (grind [byB, fbW, tkW, nI_0]))), fun j_ hj => ((zfr_rf : zfr 20 Z Z) 21 0 j_ (by decide)).trans (hp.2.1 j_ hj), byB_le hp.2.2.1, hp.2.2.2⟩, zfr_rf⟩)
set_option maxRecDepth 100000 in
set_option maxHeartbeats 4000000 in
theorem k_borrowed_3_1 (l : Launch) (G : owG) {A S Z B T V : owF} {J : Nat → Nat → Int64} {Y : Nat → Nat → Nat → Option Nat} {P : Nat → Option owW} (U L : Nat → Nat) (hp : pap Z U L) : Ct l G yX3_borrowed cX3_borrowed 5 ((some .int)) 0 0 0 [.ref (gK G 2 0), .int 3, .int 1] (A, S, Z, B, T, V, J, Y, P) (qI (fun x_ σ => x_ = nI (byB true U L 3).1 ∧ ∃ Z2 : owF, σ = (A, S, Z2, B, T, V, J, Y, P) ∧ pap Z2 (byB true U L 3).2 L ∧ zfr 20 Z Z2)) := by
  refine ct_of (by decide +kernel) (Nat.le_of_ble_eq_true rfl) ?_
  have hu0 := hp.2.2.1 0 (by decide)
  have hu1 := hp.2.2.1 1 (by decide)
  have hu2 := hp.2.2.1 2 (by decide)
  have hu3 := hp.2.2.1 3 (by decide)
  have hl0 := hp.2.2.2 3 (by decide)
  show Wm l G cX3_borrowed 5 RX3 ((some .int)) (rmk 0 0 0) (fun _ => True) (QfM G (qI (fun x_ σ => x_ = nI (byB true U L 3).1 ∧ ∃ Z2 : owF, σ = (A, S, Z2, B, T, V, J, Y, P) ∧ pap Z2 (byB true U L 3).2 L ∧ zfr 20 Z Z2)) 0 0) 0 [(0, .ref (gK G 2 0)), (1, .int 3), (2, .int 1)] [] (A, S, Z, B, T, V, J, Y, P) 0 0
  refine m_iload_n 1 rfl rfl dX3_borrowed_0 ?_
  refine m_iconst 1 dX3_borrowed_1 rfl ?_
  refine m_iadd dX3_borrowed_2 ?_
  refine m_topi (show (3 : Int32) + 1 = 4 by decide) ?_
  refine m_istore_n [(3, .int 4), (0, .ref (gK G 2 0)), (1, .int 3), (2, .int 1)] rfl (by decide) rfl dX3_borrowed_3 ?_
  refine m_iload_n 2 rfl rfl dX3_borrowed_4 ?_
  refine m_if_lt 85 dX3_borrowed_5 (by decide) (fun c1_ => absurd c1_ (by decide)) (fun _ => ?_)
  refine m_iload_n 0 rfl rfl dX3_borrowed_8 ?_
  refine m_iconst 4 dX3_borrowed_9 rfl ?_
  refine m_icmp_ge 85 dX3_borrowed_10 (by decide) (fun _ => ?_) (fun c2_ => absurd c2_ (by decide))
  refine m_iconst 0 dX3_borrowed_85 rfl ?_
  exact m_iret dX3_borrowed_86 (Nat.le_refl _) (Nat.le_refl _) (⟨(show 0 = nI ((byB true U L 3).1) by first | (simp_all [byB, fbW, tkW, nI_0]; done) | (grind [byB, fbW, tkW, nI_0])), Z, rfl, ⟨lt4 (p := fun j_ => Z 20 0 j_ = nI ((byB true U L 3).2 j_)) ((hp.1 0 (by decide)).trans (show nI (U 0) = nI ((byB true U L 3).2 0) by first | (simp_all [byB, fbW, tkW, nI_0]; done) | (simp_all [byB, fbW, tkW, nI_0]; omega) | (grind [byB, fbW, tkW, nI_0]))) ((hp.1 1 (by decide)).trans (show nI (U 1) = nI ((byB true U L 3).2 1) by first | (simp_all [byB, fbW, tkW, nI_0]; done) | (simp_all [byB, fbW, tkW, nI_0]; omega) | (grind [byB, fbW, tkW, nI_0]))) ((hp.1 2 (by decide)).trans (show nI (U 2) = nI ((byB true U L 3).2 2) by first | (simp_all [byB, fbW, tkW, nI_0]; done) | (simp_all [byB, fbW, tkW, nI_0]; omega) | (grind [byB, fbW, tkW, nI_0]))) ((hp.1 3 (by decide)).trans (show nI (U 3) = nI ((byB true U L 3).2 3) by first | (simp_all [byB, fbW, tkW, nI_0]; done) | (simp_all [byB, fbW, tkW, nI_0]; omega) | (grind [byB, fbW, tkW, nI_0]))), fun j_ hj => ((zfr_rf : zfr 20 Z Z) 21 0 j_ (by decide)).trans (hp.2.1 j_ hj), byB_le hp.2.2.1, hp.2.2.2⟩, zfr_rf⟩)
theorem k_borrowed (l : Launch) (G : owG) {A S Z B T V : owF} {J : Nat → Nat → Int64} {Y : Nat → Nat → Nat → Option Nat} {P : Nat → Option owW} (c_ : Nat) (hc_ : c_ < 4) (nb : Bool) (U L : Nat → Nat) (hp : pap Z U L) : Ct l G yX3_borrowed cX3_borrowed 5 (some .int) 0 0 0 [.ref (gK G 2 0), .int (nI c_), .int (bI nb)] (A, S, Z, B, T, V, J, Y, P) (qI (fun x_ σ => x_ = nI (byB nb U L c_).1 ∧ ∃ Z2 : owF, σ = (A, S, Z2, B, T, V, J, Y, P) ∧ pap Z2 (byB nb U L c_).2 L ∧ zfr 20 Z Z2)) := by
  match c_, nb, hc_ with
  | 0, false, _ => exact k_borrowed_0_0 l G U L hp
  | 0, true, _ => exact k_borrowed_0_1 l G U L hp
  | 1, false, _ => exact k_borrowed_1_0 l G U L hp
  | 1, true, _ => exact k_borrowed_1_1 l G U L hp
  | 2, false, _ => exact k_borrowed_2_0 l G U L hp
  | 2, true, _ => exact k_borrowed_2_1 l G U L hp
  | 3, false, _ => exact k_borrowed_3_0 l G U L hp
  | 3, true, _ => exact k_borrowed_3_1 l G U L hp
set_option maxRecDepth 100000 in
set_option maxHeartbeats 4000000 in
theorem k_wr_0 (l : Launch) (G : owG) {A S Z B T V : owF} {J : Nat → Nat → Int64} {Y : Nat → Nat → Nat → Option Nat} {P : Nat → Option owW} (ad fg_ : Nat) (wn ww : Int32) (ha_ : P ad = some (0, wn, nI fg_, ww)) (c_ : Nat) (hc_ : c_ < 4) (U L : Nat → Nat) (hp : pap Z U L) (hs_ : U c_ < L c_) : Ct l G yX9_writes cX9_writes 5 ((some .int)) 1 0 0 [.ref ad, .ref (gK G 2 0), .int (nI (c_)), .int (nI (U c_)), .int (nI (L c_))] (A, S, Z, B, T, V, J, Y, P) (qI (fun x_ σ => x_ = nI (stuckW 0 fg_ U L c_).1 ∧ ∃ Z2 : owF, σ = (A, S, Z2, B, T, V, J, Y, P) ∧ pap Z2 (stuckW 0 fg_ U L c_).2 L ∧ zfr 20 Z Z2)) := by
  refine ct_of (by decide +kernel) (Nat.le_of_ble_eq_true rfl) ?_
  have hu := hp.2.2.1 c_ hc_
  have hl := hp.2.2.2 c_ hc_
  show Wm l G cX9_writes 5 RX9 ((some .int)) (rmk 1 0 0) (fun _ => True) (QfM G (qI (fun x_ σ => x_ = nI (stuckW 0 fg_ U L c_).1 ∧ ∃ Z2 : owF, σ = (A, S, Z2, B, T, V, J, Y, P) ∧ pap Z2 (stuckW 0 fg_ U L c_).2 L ∧ zfr 20 Z Z2)) 0 0) 0 [(0, .ref ad), (1, .ref (gK G 2 0)), (2, .int (nI (c_))), (3, .int (nI (U c_))), (4, .int (nI (L c_)))] [] (A, S, Z, B, T, V, J, Y, P) 0 0
  refine m_aload_n 1 rfl rfl dX9_writes_0 ?_
  refine m_iload_n 2 rfl rfl dX9_writes_1 ?_
  refine m_iconst 1 dX9_writes_2 rfl ?_
  refine m_callVi cv_X9_22 [.int (nI (c_)), .int 1] [] (k_borrowed l G c_ hc_ true U L hp) (by decide) (ce_2 G _ _ _ _ _ _ _ _ _ _) rfl rfl rfl ⟨Nat.le_of_ble_eq_true rfl, Nat.le_of_ble_eq_true rfl⟩ (Nat.le_of_ble_eq_true rfl) ⟨Nat.zero_le _, Nat.zero_le _⟩ dX9_writes_3 (fun xx σ2 hq => ?_)
  obtain ⟨rfl, Z1, rfl, hp2, hf2⟩ := hq
  exact m_iret dX9_writes_6 (Nat.le_refl _) (Nat.le_refl _) (⟨rfl, Z1, rfl, hp2, hf2⟩)
set_option maxRecDepth 100000 in
set_option maxHeartbeats 4000000 in
theorem k_wr_1 (l : Launch) (G : owG) {A S Z B T V : owF} {J : Nat → Nat → Int64} {Y : Nat → Nat → Nat → Option Nat} {P : Nat → Option owW} (ad fg_ : Nat) (wn ww : Int32) (ha_ : P ad = some (1, wn, nI fg_, ww)) (c_ : Nat) (hc_ : c_ < 4) (U L : Nat → Nat) (hp : pap Z U L) (hs_ : U c_ < L c_) : Ct l G yX8_writes cX8_writes 5 ((some .int)) 0 0 0 [.ref ad, .ref (gK G 2 0), .int (nI (c_)), .int (nI (U c_)), .int (nI (L c_))] (A, S, Z, B, T, V, J, Y, P) (qI (fun x_ σ => x_ = nI (stuckW 1 fg_ U L c_).1 ∧ ∃ Z2 : owF, σ = (A, S, Z2, B, T, V, J, Y, P) ∧ pap Z2 (stuckW 1 fg_ U L c_).2 L ∧ zfr 20 Z Z2)) := by
  refine ct_of (by decide +kernel) (Nat.le_of_ble_eq_true rfl) ?_
  have hu := hp.2.2.1 c_ hc_
  have hl := hp.2.2.2 c_ hc_
  show Wm l G cX8_writes 5 RX8 ((some .int)) (rmk 0 0 0) (fun _ => True) (QfM G (qI (fun x_ σ => x_ = nI (stuckW 1 fg_ U L c_).1 ∧ ∃ Z2 : owF, σ = (A, S, Z2, B, T, V, J, Y, P) ∧ pap Z2 (stuckW 1 fg_ U L c_).2 L ∧ zfr 20 Z Z2)) 0 0) 0 [(0, .ref ad), (1, .ref (gK G 2 0)), (2, .int (nI (c_))), (3, .int (nI (U c_))), (4, .int (nI (L c_)))] [] (A, S, Z, B, T, V, J, Y, P) 0 0
  refine m_iload 4 rfl dX8_writes_0 ?_
  refine m_iload_n 3 rfl rfl dX8_writes_2 ?_
  refine m_isub dX8_writes_3 ?_
  refine m_topi ((show (nI (L c_)) - (nI (U c_)) = nI ((L c_) - (U c_)) from pk_sub (by omega))) ?_
  exact m_iret dX8_writes_4 (Nat.le_refl _) (Nat.le_refl _) (⟨rfl, Z, rfl, hp, zfr_rf⟩)
set_option maxRecDepth 100000 in
set_option maxHeartbeats 4000000 in
theorem k_wr_X8_5 (l : Launch) (G : owG) {A S Z B T V : owF} {J : Nat → Nat → Int64} {Y : Nat → Nat → Nat → Option Nat} {P : Nat → Option owW} (ad fg_ : Nat) (wn ww : Int32) (ha_ : P ad = some (5, wn, nI fg_, ww)) (c_ : Nat) (hc_ : c_ < 4) (U L : Nat → Nat) (hp : pap Z U L) (hs_ : U c_ < L c_) : Ct l G yX8_writes cX8_writes 5 ((some .int)) 0 0 0 [.ref ad, .ref (gK G 2 0), .int (nI (c_)), .int (nI (U c_)), .int (nI (L c_))] (A, S, Z, B, T, V, J, Y, P) (qI (fun x_ σ => x_ = nI (stuckW 1 fg_ U L c_).1 ∧ ∃ Z2 : owF, σ = (A, S, Z2, B, T, V, J, Y, P) ∧ pap Z2 (stuckW 1 fg_ U L c_).2 L ∧ zfr 20 Z Z2)) := by
  refine ct_of (by decide +kernel) (Nat.le_of_ble_eq_true rfl) ?_
  have hu := hp.2.2.1 c_ hc_
  have hl := hp.2.2.2 c_ hc_
  show Wm l G cX8_writes 5 RX8 ((some .int)) (rmk 0 0 0) (fun _ => True) (QfM G (qI (fun x_ σ => x_ = nI (stuckW 1 fg_ U L c_).1 ∧ ∃ Z2 : owF, σ = (A, S, Z2, B, T, V, J, Y, P) ∧ pap Z2 (stuckW 1 fg_ U L c_).2 L ∧ zfr 20 Z Z2)) 0 0) 0 [(0, .ref ad), (1, .ref (gK G 2 0)), (2, .int (nI (c_))), (3, .int (nI (U c_))), (4, .int (nI (L c_)))] [] (A, S, Z, B, T, V, J, Y, P) 0 0
  refine m_iload 4 rfl dX8_writes_0 ?_
  refine m_iload_n 3 rfl rfl dX8_writes_2 ?_
  refine m_isub dX8_writes_3 ?_
  refine m_topi ((show (nI (L c_)) - (nI (U c_)) = nI ((L c_) - (U c_)) from pk_sub (by omega))) ?_
  exact m_iret dX8_writes_4 (Nat.le_refl _) (Nat.le_refl _) (⟨rfl, Z, rfl, hp, zfr_rf⟩)
set_option maxRecDepth 100000 in
set_option maxHeartbeats 4000000 in
theorem k_wr_2 (l : Launch) (G : owG) {A S Z B T V : owF} {J : Nat → Nat → Int64} {Y : Nat → Nat → Nat → Option Nat} {P : Nat → Option owW} (ad fg_ : Nat) (wn ww : Int32) (ha_ : P ad = some (2, wn, nI fg_, ww)) (c_ : Nat) (hc_ : c_ < 4) (U L : Nat → Nat) (hp : pap Z U L) (hs_ : U c_ < L c_) : Ct l G yX2_writes cX2_writes 5 ((some .int)) 0 0 0 [.ref ad, .ref (gK G 2 0), .int (nI (c_)), .int (nI (U c_)), .int (nI (L c_))] (A, S, Z, B, T, V, J, Y, P) (qI (fun x_ σ => x_ = nI (stuckW 2 fg_ U L c_).1 ∧ ∃ Z2 : owF, σ = (A, S, Z2, B, T, V, J, Y, P) ∧ pap Z2 (stuckW 2 fg_ U L c_).2 L ∧ zfr 20 Z Z2)) := by
  refine ct_of (by decide +kernel) (Nat.le_of_ble_eq_true rfl) ?_
  have hu := hp.2.2.1 c_ hc_
  have hl := hp.2.2.2 c_ hc_
  show Wm l G cX2_writes 5 RX2 ((some .int)) (rmk 0 0 0) (fun _ => True) (QfM G (qI (fun x_ σ => x_ = nI (stuckW 2 fg_ U L c_).1 ∧ ∃ Z2 : owF, σ = (A, S, Z2, B, T, V, J, Y, P) ∧ pap Z2 (stuckW 2 fg_ U L c_).2 L ∧ zfr 20 Z Z2)) 0 0) 0 [(0, .ref ad), (1, .ref (gK G 2 0)), (2, .int (nI (c_))), (3, .int (nI (U c_))), (4, .int (nI (L c_)))] [] (A, S, Z, B, T, V, J, Y, P) 0 0
  refine m_iconst 0 dX2_writes_0 rfl ?_
  exact m_iret dX2_writes_1 (Nat.le_refl _) (Nat.le_refl _) (⟨rfl, Z, rfl, hp, zfr_rf⟩)
set_option maxRecDepth 100000 in
set_option maxHeartbeats 4000000 in
theorem k_wr_3 (l : Launch) (G : owG) {A S Z B T V : owF} {J : Nat → Nat → Int64} {Y : Nat → Nat → Nat → Option Nat} {P : Nat → Option owW} (ad fg_ : Nat) (wn ww : Int32) (ha_ : P ad = some (3, wn, nI fg_, ww)) (c_ : Nat) (hc_ : c_ < 4) (U L : Nat → Nat) (hp : pap Z U L) (hs_ : U c_ < L c_) : Ct l G yX1_writes cX1_writes 5 ((some .int)) 0 0 0 [.ref ad, .ref (gK G 2 0), .int (nI (c_)), .int (nI (U c_)), .int (nI (L c_))] (A, S, Z, B, T, V, J, Y, P) (qI (fun x_ σ => x_ = nI (stuckW 3 fg_ U L c_).1 ∧ ∃ Z2 : owF, σ = (A, S, Z2, B, T, V, J, Y, P) ∧ pap Z2 (stuckW 3 fg_ U L c_).2 L ∧ zfr 20 Z Z2)) := by
  refine ct_of (by decide +kernel) (Nat.le_of_ble_eq_true rfl) ?_
  have hu := hp.2.2.1 c_ hc_
  have hl := hp.2.2.2 c_ hc_
  show Wm l G cX1_writes 5 RX1 ((some .int)) (rmk 0 0 0) (fun _ => True) (QfM G (qI (fun x_ σ => x_ = nI (stuckW 3 fg_ U L c_).1 ∧ ∃ Z2 : owF, σ = (A, S, Z2, B, T, V, J, Y, P) ∧ pap Z2 (stuckW 3 fg_ U L c_).2 L ∧ zfr 20 Z Z2)) 0 0) 0 [(0, .ref ad), (1, .ref (gK G 2 0)), (2, .int (nI (c_))), (3, .int (nI (U c_))), (4, .int (nI (L c_)))] [] (A, S, Z, B, T, V, J, Y, P) 0 0
  refine m_iload_n 3 rfl rfl dX1_writes_0 ?_
  refine m_bipush (10) dX1_writes_1 rfl ?_
  refine m_iadd dX1_writes_3 ?_
  refine m_topi (show (nI (U c_)) + 10 = nI ((U c_) + 10) from nI_add _ _) ?_
  refine m_iload 4 rfl dX1_writes_4 ?_
  refine m_isub dX1_writes_6 ?_
  refine m_topi ((show (nI ((U c_) + 10)) - (nI (L c_)) = nI (((U c_) + 10) - (L c_)) from pk_sub (by omega))) ?_
  exact m_iret dX1_writes_7 (Nat.le_refl _) (Nat.le_refl _) (⟨rfl, Z, rfl, hp, zfr_rf⟩)
set_option maxRecDepth 100000 in
set_option maxHeartbeats 4000000 in
theorem k_wr_X1_7 (l : Launch) (G : owG) {A S Z B T V : owF} {J : Nat → Nat → Int64} {Y : Nat → Nat → Nat → Option Nat} {P : Nat → Option owW} (ad fg_ : Nat) (wn ww : Int32) (ha_ : P ad = some (7, wn, nI fg_, ww)) (c_ : Nat) (hc_ : c_ < 4) (U L : Nat → Nat) (hp : pap Z U L) (hs_ : U c_ < L c_) : Ct l G yX1_writes cX1_writes 5 ((some .int)) 0 0 0 [.ref ad, .ref (gK G 2 0), .int (nI (c_)), .int (nI (U c_)), .int (nI (L c_))] (A, S, Z, B, T, V, J, Y, P) (qI (fun x_ σ => x_ = nI (stuckW 3 fg_ U L c_).1 ∧ ∃ Z2 : owF, σ = (A, S, Z2, B, T, V, J, Y, P) ∧ pap Z2 (stuckW 3 fg_ U L c_).2 L ∧ zfr 20 Z Z2)) := by
  refine ct_of (by decide +kernel) (Nat.le_of_ble_eq_true rfl) ?_
  have hu := hp.2.2.1 c_ hc_
  have hl := hp.2.2.2 c_ hc_
  show Wm l G cX1_writes 5 RX1 ((some .int)) (rmk 0 0 0) (fun _ => True) (QfM G (qI (fun x_ σ => x_ = nI (stuckW 3 fg_ U L c_).1 ∧ ∃ Z2 : owF, σ = (A, S, Z2, B, T, V, J, Y, P) ∧ pap Z2 (stuckW 3 fg_ U L c_).2 L ∧ zfr 20 Z Z2)) 0 0) 0 [(0, .ref ad), (1, .ref (gK G 2 0)), (2, .int (nI (c_))), (3, .int (nI (U c_))), (4, .int (nI (L c_)))] [] (A, S, Z, B, T, V, J, Y, P) 0 0
  refine m_iload_n 3 rfl rfl dX1_writes_0 ?_
  refine m_bipush (10) dX1_writes_1 rfl ?_
  refine m_iadd dX1_writes_3 ?_
  refine m_topi (show (nI (U c_)) + 10 = nI ((U c_) + 10) from nI_add _ _) ?_
  refine m_iload 4 rfl dX1_writes_4 ?_
  refine m_isub dX1_writes_6 ?_
  refine m_topi ((show (nI ((U c_) + 10)) - (nI (L c_)) = nI (((U c_) + 10) - (L c_)) from pk_sub (by omega))) ?_
  exact m_iret dX1_writes_7 (Nat.le_refl _) (Nat.le_refl _) (⟨rfl, Z, rfl, hp, zfr_rf⟩)
set_option maxRecDepth 100000 in
set_option maxHeartbeats 4000000 in
theorem k_wr_4 (l : Launch) (G : owG) {A S Z B T V : owF} {J : Nat → Nat → Int64} {Y : Nat → Nat → Nat → Option Nat} {P : Nat → Option owW} (ad fg_ : Nat) (wn ww : Int32) (ha_ : P ad = some (4, wn, nI fg_, ww)) (c_ : Nat) (hc_ : c_ < 4) (U L : Nat → Nat) (hp : pap Z U L) (hs_ : U c_ < L c_) : Ct l G yX0_writes cX0_writes 5 ((some .int)) 1 0 0 [.ref ad, .ref (gK G 2 0), .int (nI (c_)), .int (nI (U c_)), .int (nI (L c_))] (A, S, Z, B, T, V, J, Y, P) (qI (fun x_ σ => x_ = nI (stuckW 4 fg_ U L c_).1 ∧ ∃ Z2 : owF, σ = (A, S, Z2, B, T, V, J, Y, P) ∧ pap Z2 (stuckW 4 fg_ U L c_).2 L ∧ zfr 20 Z Z2)) := by
  refine ct_of (by decide +kernel) (Nat.le_of_ble_eq_true rfl) ?_
  have hu := hp.2.2.1 c_ hc_
  have hl := hp.2.2.2 c_ hc_
  show Wm l G cX0_writes 5 RX0 ((some .int)) (rmk 1 0 0) (fun _ => True) (QfM G (qI (fun x_ σ => x_ = nI (stuckW 4 fg_ U L c_).1 ∧ ∃ Z2 : owF, σ = (A, S, Z2, B, T, V, J, Y, P) ∧ pap Z2 (stuckW 4 fg_ U L c_).2 L ∧ zfr 20 Z Z2)) 0 0) 0 [(0, .ref ad), (1, .ref (gK G 2 0)), (2, .int (nI (c_))), (3, .int (nI (U c_))), (4, .int (nI (L c_)))] [] (A, S, Z, B, T, V, J, Y, P) 0 0
  refine m_aload_n 1 rfl rfl dX0_writes_0 ?_
  refine m_iload_n 2 rfl rfl dX0_writes_1 ?_
  refine m_iconst 0 dX0_writes_2 rfl ?_
  refine m_callVi cv_X0_11 [.int (nI (c_)), .int 0] [] (k_borrowed l G c_ hc_ false U L hp) (by decide) (ce_2 G _ _ _ _ _ _ _ _ _ _) rfl rfl rfl ⟨Nat.le_of_ble_eq_true rfl, Nat.le_of_ble_eq_true rfl⟩ (Nat.le_of_ble_eq_true rfl) ⟨Nat.zero_le _, Nat.zero_le _⟩ dX0_writes_3 (fun xx σ2 hq => ?_)
  obtain ⟨rfl, Z1, rfl, hp2, hf2⟩ := hq
  exact m_iret dX0_writes_6 (Nat.le_refl _) (Nat.le_refl _) (⟨rfl, Z1, rfl, hp2, hf2⟩)
set_option maxRecDepth 100000 in
set_option maxHeartbeats 4000000 in
theorem k_wr_X0_6 (l : Launch) (G : owG) {A S Z B T V : owF} {J : Nat → Nat → Int64} {Y : Nat → Nat → Nat → Option Nat} {P : Nat → Option owW} (ad fg_ : Nat) (wn ww : Int32) (ha_ : P ad = some (6, wn, nI fg_, ww)) (c_ : Nat) (hc_ : c_ < 4) (U L : Nat → Nat) (hp : pap Z U L) (hs_ : U c_ < L c_) : Ct l G yX0_writes cX0_writes 5 ((some .int)) 1 0 0 [.ref ad, .ref (gK G 2 0), .int (nI (c_)), .int (nI (U c_)), .int (nI (L c_))] (A, S, Z, B, T, V, J, Y, P) (qI (fun x_ σ => x_ = nI (stuckW 4 fg_ U L c_).1 ∧ ∃ Z2 : owF, σ = (A, S, Z2, B, T, V, J, Y, P) ∧ pap Z2 (stuckW 4 fg_ U L c_).2 L ∧ zfr 20 Z Z2)) := by
  refine ct_of (by decide +kernel) (Nat.le_of_ble_eq_true rfl) ?_
  have hu := hp.2.2.1 c_ hc_
  have hl := hp.2.2.2 c_ hc_
  show Wm l G cX0_writes 5 RX0 ((some .int)) (rmk 1 0 0) (fun _ => True) (QfM G (qI (fun x_ σ => x_ = nI (stuckW 4 fg_ U L c_).1 ∧ ∃ Z2 : owF, σ = (A, S, Z2, B, T, V, J, Y, P) ∧ pap Z2 (stuckW 4 fg_ U L c_).2 L ∧ zfr 20 Z Z2)) 0 0) 0 [(0, .ref ad), (1, .ref (gK G 2 0)), (2, .int (nI (c_))), (3, .int (nI (U c_))), (4, .int (nI (L c_)))] [] (A, S, Z, B, T, V, J, Y, P) 0 0
  refine m_aload_n 1 rfl rfl dX0_writes_0 ?_
  refine m_iload_n 2 rfl rfl dX0_writes_1 ?_
  refine m_iconst 0 dX0_writes_2 rfl ?_
  refine m_callVi cv_X0_11 [.int (nI (c_)), .int 0] [] (k_borrowed l G c_ hc_ false U L hp) (by decide) (ce_2 G _ _ _ _ _ _ _ _ _ _) rfl rfl rfl ⟨Nat.le_of_ble_eq_true rfl, Nat.le_of_ble_eq_true rfl⟩ (Nat.le_of_ble_eq_true rfl) ⟨Nat.zero_le _, Nat.zero_le _⟩ dX0_writes_3 (fun xx σ2 hq => ?_)
  obtain ⟨rfl, Z1, rfl, hp2, hf2⟩ := hq
  exact m_iret dX0_writes_6 (Nat.le_refl _) (Nat.le_refl _) (⟨rfl, Z1, rfl, hp2, hf2⟩)
set_option maxRecDepth 100000 in
set_option maxHeartbeats 4000000 in
theorem k_wr_5 (l : Launch) (G : owG) {A S Z B T V : owF} {J : Nat → Nat → Int64} {Y : Nat → Nat → Nat → Option Nat} {P : Nat → Option owW} (ad fg_ : Nat) (wn ww : Int32) (ha_ : P ad = some (5, wn, nI fg_, ww)) (c_ : Nat) (hc_ : c_ < 4) (U L : Nat → Nat) (hp : pap Z U L) (hs_ : U c_ < L c_) : Ct l G yX10_writes cX10_writes 5 ((some .int)) 1 0 0 [.ref ad, .ref (gK G 2 0), .int (nI (c_)), .int (nI (U c_)), .int (nI (L c_))] (A, S, Z, B, T, V, J, Y, P) (qI (fun x_ σ => x_ = nI (stuckW 5 fg_ U L c_).1 ∧ ∃ Z2 : owF, σ = (A, S, Z2, B, T, V, J, Y, P) ∧ pap Z2 (stuckW 5 fg_ U L c_).2 L ∧ zfr 20 Z Z2)) := by
  refine ct_of (by decide +kernel) (Nat.le_of_ble_eq_true rfl) ?_
  have hu := hp.2.2.1 c_ hc_
  have hl := hp.2.2.2 c_ hc_
  show Wm l G cX10_writes 5 RX10 ((some .int)) (rmk 1 0 0) (fun _ => True) (QfM G (qI (fun x_ σ => x_ = nI (stuckW 5 fg_ U L c_).1 ∧ ∃ Z2 : owF, σ = (A, S, Z2, B, T, V, J, Y, P) ∧ pap Z2 (stuckW 5 fg_ U L c_).2 L ∧ zfr 20 Z Z2)) 0 0) 0 [(0, .ref ad), (1, .ref (gK G 2 0)), (2, .int (nI (c_))), (3, .int (nI (U c_))), (4, .int (nI (L c_)))] [] (A, S, Z, B, T, V, J, Y, P) 0 0
  refine m_iload_n 3 rfl rfl dX10_writes_0 ?_
  refine m_ifn_ne (U c_) 16 (by omega) dX10_writes_1 (by decide) (fun c1_ => ?_) (fun c1_ => ?_)
  ·
    refine m_aload_n 1 rfl rfl dX10_writes_16 ?_
    refine m_iload_n 2 rfl rfl dX10_writes_17 ?_
    refine m_iconst 1 dX10_writes_18 rfl ?_
    refine m_callVi cv_X10_15 [.int (nI (c_)), .int 1] [] (k_borrowed l G c_ hc_ true U L hp) (by decide) (ce_2 G _ _ _ _ _ _ _ _ _ _) rfl rfl rfl ⟨Nat.le_of_ble_eq_true rfl, Nat.le_of_ble_eq_true rfl⟩ (Nat.le_of_ble_eq_true rfl) ⟨Nat.zero_le _, Nat.zero_le _⟩ dX10_writes_19 (fun xx σ2 hq => ?_)
    obtain ⟨rfl, Z2, rfl, hp2, hf2⟩ := hq
    exact m_iret dX10_writes_22 (Nat.le_refl _) (Nat.le_refl _) (⟨by rw [(show stuckW 5 fg_ U L c_ = byB true U L c_ by simp only [stuckW]; grind)], Z2, rfl, by rw [(show stuckW 5 fg_ U L c_ = byB true U L c_ by simp only [stuckW]; grind)]; exact hp2, hf2⟩)
  ·
    refine m_aload_n 0 rfl rfl dX10_writes_4 ?_
    refine m_aload_n 1 rfl rfl dX10_writes_5 ?_
    refine m_iload_n 2 rfl rfl dX10_writes_6 ?_
    refine m_iload_n 3 rfl rfl dX10_writes_7 ?_
    refine m_iload 4 rfl dX10_writes_8 ?_
    refine m_callSUi csu_X10_11 [.ref (gK G 2 0), .int (nI (c_)), .int (nI (U c_)), .int (nI (L c_))] [] (k_wr_X8_5 l G ad fg_ wn ww ha_ c_ hc_ U L hp hs_) ha_ rfl rfl rfl ⟨Nat.le_of_ble_eq_true rfl, Nat.le_of_ble_eq_true rfl⟩ (Nat.le_of_ble_eq_true rfl) ⟨Nat.zero_le _, Nat.zero_le _⟩ dX10_writes_10 (fun xx σ2 hq => ?_)
    obtain ⟨rfl, Z3, rfl, hp2, hf2⟩ := hq
    refine m_goto 22 dX10_writes_13 (by decide) ?_
    exact m_iret dX10_writes_22 (Nat.le_refl _) (Nat.le_refl _) (⟨by rw [(show stuckW 5 fg_ U L c_ = stuckW 1 fg_ U L c_ by simp only [stuckW]; grind)], Z3, rfl, by rw [(show stuckW 5 fg_ U L c_ = stuckW 1 fg_ U L c_ by simp only [stuckW]; grind)]; exact hp2, hf2⟩)
set_option maxRecDepth 100000 in
set_option maxHeartbeats 4000000 in
theorem k_wr_7 (l : Launch) (G : owG) {A S Z B T V : owF} {J : Nat → Nat → Int64} {Y : Nat → Nat → Nat → Option Nat} {P : Nat → Option owW} (ad fg_ : Nat) (wn ww : Int32) (ha_ : P ad = some (7, wn, nI fg_, ww)) (c_ : Nat) (hc_ : c_ < 4) (U L : Nat → Nat) (hp : pap Z U L) (hs_ : U c_ < L c_) : Ct l G yX7_writes cX7_writes 5 ((some .int)) 1 0 0 [.ref ad, .ref (gK G 2 0), .int (nI (c_)), .int (nI (U c_)), .int (nI (L c_))] (A, S, Z, B, T, V, J, Y, P) (qI (fun x_ σ => x_ = nI (stuckW 7 fg_ U L c_).1 ∧ ∃ Z2 : owF, σ = (A, S, Z2, B, T, V, J, Y, P) ∧ pap Z2 (stuckW 7 fg_ U L c_).2 L ∧ zfr 20 Z Z2)) := by
  refine ct_of (by decide +kernel) (Nat.le_of_ble_eq_true rfl) ?_
  have hu := hp.2.2.1 c_ hc_
  have hl := hp.2.2.2 c_ hc_
  show Wm l G cX7_writes 5 RX7 ((some .int)) (rmk 1 0 0) (fun _ => True) (QfM G (qI (fun x_ σ => x_ = nI (stuckW 7 fg_ U L c_).1 ∧ ∃ Z2 : owF, σ = (A, S, Z2, B, T, V, J, Y, P) ∧ pap Z2 (stuckW 7 fg_ U L c_).2 L ∧ zfr 20 Z Z2)) 0 0) 0 [(0, .ref ad), (1, .ref (gK G 2 0)), (2, .int (nI (c_))), (3, .int (nI (U c_))), (4, .int (nI (L c_)))] [] (A, S, Z, B, T, V, J, Y, P) 0 0
  refine m_iload_n 2 rfl rfl dX7_writes_0 ?_
  refine m_iconst 3 dX7_writes_1 rfl ?_
  refine m_icmpn_ne c_ 3 9 (by omega) (by decide) dX7_writes_2 (by decide) (fun c1_ => ?_) (fun c1_ => ?_)
  ·
    refine m_aload_n 0 rfl rfl dX7_writes_9 ?_
    refine m_aload_n 1 rfl rfl dX7_writes_10 ?_
    refine m_iload_n 2 rfl rfl dX7_writes_11 ?_
    refine m_iload_n 3 rfl rfl dX7_writes_12 ?_
    refine m_iload 4 rfl dX7_writes_13 ?_
    refine m_callSUi csu_X7_13 [.ref (gK G 2 0), .int (nI (c_)), .int (nI (U c_)), .int (nI (L c_))] [] (k_wr_X1_7 l G ad fg_ wn ww ha_ c_ hc_ U L hp hs_) ha_ rfl rfl rfl ⟨Nat.le_of_ble_eq_true rfl, Nat.le_of_ble_eq_true rfl⟩ (Nat.le_of_ble_eq_true rfl) ⟨Nat.zero_le _, Nat.zero_le _⟩ dX7_writes_15 (fun xx σ2 hq => ?_)
    obtain ⟨rfl, Z2, rfl, hp2, hf2⟩ := hq
    exact m_iret dX7_writes_18 (Nat.le_refl _) (Nat.le_refl _) (⟨by rw [(show stuckW 7 fg_ U L c_ = stuckW 3 fg_ U L c_ by simp only [stuckW]; grind)], Z2, rfl, by rw [(show stuckW 7 fg_ U L c_ = stuckW 3 fg_ U L c_ by simp only [stuckW]; grind)]; exact hp2, hf2⟩)
  ·
    refine m_iconst 0 dX7_writes_5 rfl ?_
    refine m_goto 18 dX7_writes_6 (by decide) ?_
    exact m_iret dX7_writes_18 (Nat.le_refl _) (Nat.le_refl _) (⟨by rw [(show stuckW 7 fg_ U L c_ = (0, U) by simp only [stuckW]; grind)]; rfl, Z, rfl, by rw [(show stuckW 7 fg_ U L c_ = (0, U) by simp only [stuckW]; grind)]; exact hp, zfr_rf⟩)
set_option maxRecDepth 100000 in
set_option maxHeartbeats 4000000 in
theorem k_wr_6 (l : Launch) (G : owG) {A S Z B T V : owF} {J : Nat → Nat → Int64} {Y : Nat → Nat → Nat → Option Nat} {P : Nat → Option owW} (ad fg_ : Nat) (hfg : fg_ ≤ 9) (wn ww : Int32) (ha_ : P ad = some (6, wn, nI fg_, ww)) (c_ : Nat) (hc_ : c_ < 4) (U L : Nat → Nat) (hp : pap Z U L) (hs_ : U c_ < L c_) : Ct l G yX4_writes cX4_writes 5 ((some .int)) 2 0 0 [.ref ad, .ref (gK G 2 0), .int (nI (c_)), .int (nI (U c_)), .int (nI (L c_))] (A, S, Z, B, T, V, J, Y, P) (qI (fun x_ σ => x_ = nI (stuckW 6 fg_ U L c_).1 ∧ ∃ Z2 : owF, σ = (A, S, Z2, B, T, V, J, Y, P) ∧ pap Z2 (stuckW 6 fg_ U L c_).2 L ∧ zfr 20 Z Z2)) := by
  refine ct_of (by decide +kernel) (Nat.le_of_ble_eq_true rfl) ?_
  have hu := hp.2.2.1 c_ hc_
  have hl := hp.2.2.2 c_ hc_
  show Wm l G cX4_writes 5 RX4 ((some .int)) (rmk 2 0 0) (fun _ => True) (QfM G (qI (fun x_ σ => x_ = nI (stuckW 6 fg_ U L c_).1 ∧ ∃ Z2 : owF, σ = (A, S, Z2, B, T, V, J, Y, P) ∧ pap Z2 (stuckW 6 fg_ U L c_).2 L ∧ zfr 20 Z Z2)) 0 0) 0 [(0, .ref ad), (1, .ref (gK G 2 0)), (2, .int (nI (c_))), (3, .int (nI (U c_))), (4, .int (nI (L c_)))] [] (A, S, Z, B, T, V, J, Y, P) 0 0
  refine m_aload_n 1 rfl rfl dX4_writes_0 ?_
  refine gf_X4_19 dX4_writes_1 ?_
  refine m_iload_n 2 rfl rfl dX4_writes_4 ?_
  refine m_iconst 1 dX4_writes_5 rfl ?_
  refine m_iadd dX4_writes_6 ?_
  refine m_topi (show (nI (c_)) + 1 = nI (c_ + 1) from nI_add _ _) ?_
  rcases Nat.lt_or_ge (c_ + 1) 4 with hc1 | hc1
  ·
    have hu1 := hp.2.2.1 (c_ + 1) hc1
    refine m_callNi cn_X4_25 [.ref (gK G 20 0), .int (nI (c_ + 1))] [] (k_at (t := 20) (n := 4) l G (by decide) (ce_20 G _ _ _ _ _ _ _ _ _ 0) (by decide) (nI (c_ + 1))) rfl rfl ⟨Nat.le_of_ble_eq_true rfl, Nat.le_of_ble_eq_true rfl⟩ (Nat.le_of_ble_eq_true rfl) ⟨Nat.zero_le _, Nat.zero_le _⟩ dX4_writes_7 (fun xx σ2 hq => ?_)
    obtain rfl : xx = Z 20 0 (c_ + 1) := hq.1.trans (atV_in (by omega) (by decide))
    obtain rfl := hq.2
    refine m_topi (hp.1 (c_ + 1) hc1) ?_
    refine m_ifn_le (U (c_ + 1)) 23 (by omega) dX4_writes_10 (by decide) (fun c2_ => ?_) (fun c2_ => ?_)
    ·
      refine m_aload_n 0 rfl rfl dX4_writes_23 ?_
      refine gw_X4_13_6 ha_ dX4_writes_24 ?_
      refine m_topi rfl ?_
      refine m_iconst 4 dX4_writes_27 rfl ?_
      refine m_irem (by decide) dX4_writes_28 ?_
      refine m_topi ((show nI fg_ - nI fg_ / 4 * 4 = nI (fg_ % 4) from pk_rem (by omega) (by decide) (by decide))) ?_
      rcases (show fg_ % 4 = 0 ∨ fg_ % 4 = 1 ∨ fg_ % 4 = 2 ∨ fg_ % 4 = 3 by omega) with hm_ | hm_ | hm_ | hm_
      · rw [hm_]
        refine m_tableIn 56 dX4_writes_29 (by decide) (by decide) (by rfl) (by decide) ?_
        refine m_iconst 0 dX4_writes_56 rfl ?_
        exact m_iret dX4_writes_57 (Nat.le_refl _) (Nat.le_refl _) (⟨by rw [(show stuckW 6 fg_ U L c_ = (0, U) by simp only [stuckW]; grind)]; rfl, Z, rfl, by rw [(show stuckW 6 fg_ U L c_ = (0, U) by simp only [stuckW]; grind)]; exact hp, zfr_rf⟩)
      · rw [hm_]
        refine m_tableIn 58 dX4_writes_29 (by decide) (by decide) (by rfl) (by decide) ?_
        refine m_iload 4 rfl dX4_writes_58 ?_
        refine m_iload_n 3 rfl rfl dX4_writes_60 ?_
        refine m_isub dX4_writes_61 ?_
        refine m_topi ((show (nI (L c_)) - (nI (U c_)) = nI ((L c_) - (U c_)) from pk_sub (by omega))) ?_
        exact m_iret dX4_writes_62 (Nat.le_refl _) (Nat.le_refl _) (⟨by rw [(show stuckW 6 fg_ U L c_ = ((L c_) - (U c_), U) by simp only [stuckW]; grind)], Z, rfl, by rw [(show stuckW 6 fg_ U L c_ = ((L c_) - (U c_), U) by simp only [stuckW]; grind)]; exact hp, zfr_rf⟩)
      · rw [hm_]
        refine m_tableIn 63 dX4_writes_29 (by decide) (by decide) (by rfl) (by decide) ?_
        refine m_iload_n 3 rfl rfl dX4_writes_63 ?_
        refine m_bipush (10) dX4_writes_64 rfl ?_
        refine m_iadd dX4_writes_66 ?_
        refine m_topi (show (nI (U c_)) + 10 = nI ((U c_) + 10) from nI_add _ _) ?_
        refine m_iload 4 rfl dX4_writes_67 ?_
        refine m_isub dX4_writes_69 ?_
        refine m_topi ((show (nI ((U c_) + 10)) - (nI (L c_)) = nI (((U c_) + 10) - (L c_)) from pk_sub (by omega))) ?_
        exact m_iret dX4_writes_70 (Nat.le_refl _) (Nat.le_refl _) (⟨by rw [(show stuckW 6 fg_ U L c_ = (((U c_) + 10) - (L c_), U) by simp only [stuckW]; grind)], Z, rfl, by rw [(show stuckW 6 fg_ U L c_ = (((U c_) + 10) - (L c_), U) by simp only [stuckW]; grind)]; exact hp, zfr_rf⟩)
      · rw [hm_]
        refine m_tableOut 71 dX4_writes_29 (by decide) (by decide) ?_
        refine m_iload 4 rfl dX4_writes_71 ?_
        exact m_iret dX4_writes_73 (Nat.le_refl _) (Nat.le_refl _) (⟨by rw [(show stuckW 6 fg_ U L c_ = (L c_, U) by simp only [stuckW]; grind)], Z, rfl, by rw [(show stuckW 6 fg_ U L c_ = (L c_, U) by simp only [stuckW]; grind)]; exact hp, zfr_rf⟩)
    ·
      refine m_aload_n 0 rfl rfl dX4_writes_13 ?_
      refine m_aload_n 1 rfl rfl dX4_writes_14 ?_
      refine m_iload_n 2 rfl rfl dX4_writes_15 ?_
      refine m_iload_n 3 rfl rfl dX4_writes_16 ?_
      refine m_iload 4 rfl dX4_writes_17 ?_
      refine m_callSUi csu_X4_29 [.ref (gK G 2 0), .int (nI (c_)), .int (nI (U c_)), .int (nI (L c_))] [] (k_wr_X0_6 l G ad fg_ wn ww ha_ c_ hc_ U L hp hs_) ha_ rfl rfl rfl ⟨Nat.le_of_ble_eq_true rfl, Nat.le_of_ble_eq_true rfl⟩ (Nat.le_of_ble_eq_true rfl) ⟨Nat.zero_le _, Nat.zero_le _⟩ dX4_writes_19 (fun xx σ2 hq => ?_)
      obtain ⟨rfl, Z3, rfl, hp2, hf2⟩ := hq
      exact m_iret dX4_writes_22 (Nat.le_refl _) (Nat.le_refl _) (⟨by rw [(show stuckW 6 fg_ U L c_ = stuckW 4 fg_ U L c_ by simp only [stuckW]; grind)], Z3, rfl, by rw [(show stuckW 6 fg_ U L c_ = stuckW 4 fg_ U L c_ by simp only [stuckW]; grind)]; exact hp2, hf2⟩)
  ·
    refine m_callNi cn_X4_25 [.ref (gK G 20 0), .int (nI (c_ + 1))] [] (k_at (t := 20) (n := 4) l G (by decide) (ce_20 G _ _ _ _ _ _ _ _ _ 0) (by decide) (nI (c_ + 1))) rfl rfl ⟨Nat.le_of_ble_eq_true rfl, Nat.le_of_ble_eq_true rfl⟩ (Nat.le_of_ble_eq_true rfl) ⟨Nat.zero_le _, Nat.zero_le _⟩ dX4_writes_7 (fun xx σ2 hq => ?_)
    obtain rfl : xx = 0 := hq.1.trans (atV_out (by omega) (by omega))
    obtain rfl := hq.2
    refine m_if_le 23 dX4_writes_10 (by decide) (fun _ => ?_) (fun c4_ => absurd c4_ (by decide))
    refine m_aload_n 0 rfl rfl dX4_writes_23 ?_
    refine gw_X4_13_6 ha_ dX4_writes_24 ?_
    refine m_topi rfl ?_
    refine m_iconst 4 dX4_writes_27 rfl ?_
    refine m_irem (by decide) dX4_writes_28 ?_
    refine m_topi ((show nI fg_ - nI fg_ / 4 * 4 = nI (fg_ % 4) from pk_rem (by omega) (by decide) (by decide))) ?_
    rcases (show fg_ % 4 = 0 ∨ fg_ % 4 = 1 ∨ fg_ % 4 = 2 ∨ fg_ % 4 = 3 by omega) with hm_ | hm_ | hm_ | hm_
    · rw [hm_]
      refine m_tableIn 56 dX4_writes_29 (by decide) (by decide) (by rfl) (by decide) ?_
      refine m_iconst 0 dX4_writes_56 rfl ?_
      exact m_iret dX4_writes_57 (Nat.le_refl _) (Nat.le_refl _) (⟨by rw [(show stuckW 6 fg_ U L c_ = (0, U) by simp only [stuckW]; grind)]; rfl, Z, rfl, by rw [(show stuckW 6 fg_ U L c_ = (0, U) by simp only [stuckW]; grind)]; exact hp, zfr_rf⟩)
    · rw [hm_]
      refine m_tableIn 58 dX4_writes_29 (by decide) (by decide) (by rfl) (by decide) ?_
      refine m_iload 4 rfl dX4_writes_58 ?_
      refine m_iload_n 3 rfl rfl dX4_writes_60 ?_
      refine m_isub dX4_writes_61 ?_
      refine m_topi ((show (nI (L c_)) - (nI (U c_)) = nI ((L c_) - (U c_)) from pk_sub (by omega))) ?_
      exact m_iret dX4_writes_62 (Nat.le_refl _) (Nat.le_refl _) (⟨by rw [(show stuckW 6 fg_ U L c_ = ((L c_) - (U c_), U) by simp only [stuckW]; grind)], Z, rfl, by rw [(show stuckW 6 fg_ U L c_ = ((L c_) - (U c_), U) by simp only [stuckW]; grind)]; exact hp, zfr_rf⟩)
    · rw [hm_]
      refine m_tableIn 63 dX4_writes_29 (by decide) (by decide) (by rfl) (by decide) ?_
      refine m_iload_n 3 rfl rfl dX4_writes_63 ?_
      refine m_bipush (10) dX4_writes_64 rfl ?_
      refine m_iadd dX4_writes_66 ?_
      refine m_topi (show (nI (U c_)) + 10 = nI ((U c_) + 10) from nI_add _ _) ?_
      refine m_iload 4 rfl dX4_writes_67 ?_
      refine m_isub dX4_writes_69 ?_
      refine m_topi ((show (nI ((U c_) + 10)) - (nI (L c_)) = nI (((U c_) + 10) - (L c_)) from pk_sub (by omega))) ?_
      exact m_iret dX4_writes_70 (Nat.le_refl _) (Nat.le_refl _) (⟨by rw [(show stuckW 6 fg_ U L c_ = (((U c_) + 10) - (L c_), U) by simp only [stuckW]; grind)], Z, rfl, by rw [(show stuckW 6 fg_ U L c_ = (((U c_) + 10) - (L c_), U) by simp only [stuckW]; grind)]; exact hp, zfr_rf⟩)
    · rw [hm_]
      refine m_tableOut 71 dX4_writes_29 (by decide) (by decide) ?_
      refine m_iload 4 rfl dX4_writes_71 ?_
      exact m_iret dX4_writes_73 (Nat.le_refl _) (Nat.le_refl _) (⟨by rw [(show stuckW 6 fg_ U L c_ = (L c_, U) by simp only [stuckW]; grind)], Z, rfl, by rw [(show stuckW 6 fg_ U L c_ = (L c_, U) by simp only [stuckW]; grind)]; exact hp, zfr_rf⟩)
theorem m_writes {l : Launch} {G : owG} {cc : ByteArray} {nL : Nat} {rt : Option FieldType} {R : Room} {Ex : State → Prop} {Qf : List Frame → Array Value → State → State → Prop} {pc : Nat} {lv : List (Nat × Value)} {rest : List Value} {cells slots : Nat} {A S Z B T V : owF} {J : Nat → Nat → Int64} {Y : Nat → Nat → Nat → Option Nat} {P : Nat → Option owW} {ad kd_ fg_ : Nat} {wn ww : Int32} {c_ : Nat} {U L : Nat → Nat} (hkd : kd_ < 8) (hfg : fg_ ≤ 9) (ha_ : P ad = some (kd_, wn, nI fg_, ww)) (hc_ : c_ < 4) (hp : pap Z U L) (hs_ : U c_ < L c_) (hR : 4 ≤ R.frames ∧ 120 ≤ R.locals) (hW : (rest.map fun v_ => v_.category).sum ≤ 8) (hf : cells ≤ R.cells ∧ slots ≤ R.slots) (hd_ : decode cc pc = .ok (.invokevirtual 29, 3)) (kk : ∀ Z2 : owF, pap Z2 (stuckW kd_ fg_ U L c_).2 L → zfr 20 Z Z2 → Wm l G cc nL RX3 rt R Ex Qf (pc + 3) lv (.int (nI (stuckW kd_ fg_ U L c_).1) :: rest) (A, S, Z2, B, T, V, J, Y, P) cells slots) : Wm l G cc nL RX3 rt R Ex Qf pc lv (.int (nI (L c_)) :: .int (nI (U c_)) :: .int (nI c_) :: .ref (gK G 2 0) :: .ref ad :: rest) (A, S, Z, B, T, V, J, Y, P) cells slots := by
  match kd_, hkd with
  | 0, _ => exact m_callUi cu_X3_29_0 [.ref (gK G 2 0), .int (nI c_), .int (nI (U c_)), .int (nI (L c_))] rest (k_wr_0 l G ad fg_ wn ww ha_ c_ hc_ U L hp hs_) ha_ rfl rfl rfl ⟨by omega, by omega⟩ hW hf hd_ (fun xx σ2 hq => by obtain ⟨rfl, Z2, rfl, h1_, h2_⟩ := hq; exact kk Z2 h1_ h2_)
  | 1, _ => exact m_callUi cu_X3_29_1 [.ref (gK G 2 0), .int (nI c_), .int (nI (U c_)), .int (nI (L c_))] rest (k_wr_1 l G ad fg_ wn ww ha_ c_ hc_ U L hp hs_) ha_ rfl rfl rfl ⟨by omega, by omega⟩ hW hf hd_ (fun xx σ2 hq => by obtain ⟨rfl, Z2, rfl, h1_, h2_⟩ := hq; exact kk Z2 h1_ h2_)
  | 2, _ => exact m_callUi cu_X3_29_2 [.ref (gK G 2 0), .int (nI c_), .int (nI (U c_)), .int (nI (L c_))] rest (k_wr_2 l G ad fg_ wn ww ha_ c_ hc_ U L hp hs_) ha_ rfl rfl rfl ⟨by omega, by omega⟩ hW hf hd_ (fun xx σ2 hq => by obtain ⟨rfl, Z2, rfl, h1_, h2_⟩ := hq; exact kk Z2 h1_ h2_)
  | 3, _ => exact m_callUi cu_X3_29_3 [.ref (gK G 2 0), .int (nI c_), .int (nI (U c_)), .int (nI (L c_))] rest (k_wr_3 l G ad fg_ wn ww ha_ c_ hc_ U L hp hs_) ha_ rfl rfl rfl ⟨by omega, by omega⟩ hW hf hd_ (fun xx σ2 hq => by obtain ⟨rfl, Z2, rfl, h1_, h2_⟩ := hq; exact kk Z2 h1_ h2_)
  | 4, _ => exact m_callUi cu_X3_29_4 [.ref (gK G 2 0), .int (nI c_), .int (nI (U c_)), .int (nI (L c_))] rest (k_wr_4 l G ad fg_ wn ww ha_ c_ hc_ U L hp hs_) ha_ rfl rfl rfl ⟨by omega, by omega⟩ hW hf hd_ (fun xx σ2 hq => by obtain ⟨rfl, Z2, rfl, h1_, h2_⟩ := hq; exact kk Z2 h1_ h2_)
  | 5, _ => exact m_callUi cu_X3_29_5 [.ref (gK G 2 0), .int (nI c_), .int (nI (U c_)), .int (nI (L c_))] rest (k_wr_5 l G ad fg_ wn ww ha_ c_ hc_ U L hp hs_) ha_ rfl rfl rfl ⟨by omega, by omega⟩ hW hf hd_ (fun xx σ2 hq => by obtain ⟨rfl, Z2, rfl, h1_, h2_⟩ := hq; exact kk Z2 h1_ h2_)
  | 6, _ => exact m_callUi cu_X3_29_6 [.ref (gK G 2 0), .int (nI c_), .int (nI (U c_)), .int (nI (L c_))] rest (k_wr_6 l G ad fg_ hfg wn ww ha_ c_ hc_ U L hp hs_) ha_ rfl rfl rfl ⟨by omega, by omega⟩ hW hf hd_ (fun xx σ2 hq => by obtain ⟨rfl, Z2, rfl, h1_, h2_⟩ := hq; exact kk Z2 h1_ h2_)
  | 7, _ => exact m_callUi cu_X3_29_7 [.ref (gK G 2 0), .int (nI c_), .int (nI (U c_)), .int (nI (L c_))] rest (k_wr_7 l G ad fg_ wn ww ha_ c_ hc_ U L hp hs_) ha_ rfl rfl rfl ⟨by omega, by omega⟩ hW hf hd_ (fun xx σ2 hq => by obtain ⟨rfl, Z2, rfl, h1_, h2_⟩ := hq; exact kk Z2 h1_ h2_)
set_option maxRecDepth 100000 in
set_option maxHeartbeats 4000000 in
theorem k_tc_X9_0 (l : Launch) (G : owG) {A S Z B T V : owF} {J : Nat → Nat → Int64} {Y : Nat → Nat → Nat → Option Nat} {P : Nat → Option owW} (ad fg_ : Nat) (wn ww : Int32) (ha_ : P ad = some (0, wn, nI fg_, ww)) : Ct l G yX9_teachingCost cX9_teachingCost 1 ((some .int)) 0 0 0 [.ref ad] (A, S, Z, B, T, V, J, Y, P) (qI (fun x_ σ => x_ = 0 ∧ σ = (A, S, Z, B, T, V, J, Y, P))) := by
  refine ct_of (by decide +kernel) (Nat.le_of_ble_eq_true rfl) ?_
  show Wm l G cX9_teachingCost 1 RX9 ((some .int)) (rmk 0 0 0) (fun _ => True) (QfM G (qI (fun x_ σ => x_ = 0 ∧ σ = (A, S, Z, B, T, V, J, Y, P))) 0 0) 0 [(0, .ref ad)] [] (A, S, Z, B, T, V, J, Y, P) 0 0
  refine m_iconst 0 dX9_teachingCost_0 rfl ?_
  exact m_iret dX9_teachingCost_1 (Nat.le_refl _) (Nat.le_refl _) (⟨rfl, rfl⟩)
set_option maxRecDepth 100000 in
set_option maxHeartbeats 4000000 in
theorem k_tc_X9_1 (l : Launch) (G : owG) {A S Z B T V : owF} {J : Nat → Nat → Int64} {Y : Nat → Nat → Nat → Option Nat} {P : Nat → Option owW} (ad fg_ : Nat) (wn ww : Int32) (ha_ : P ad = some (1, wn, nI fg_, ww)) : Ct l G yX9_teachingCost cX9_teachingCost 1 ((some .int)) 0 0 0 [.ref ad] (A, S, Z, B, T, V, J, Y, P) (qI (fun x_ σ => x_ = 0 ∧ σ = (A, S, Z, B, T, V, J, Y, P))) := by
  refine ct_of (by decide +kernel) (Nat.le_of_ble_eq_true rfl) ?_
  show Wm l G cX9_teachingCost 1 RX9 ((some .int)) (rmk 0 0 0) (fun _ => True) (QfM G (qI (fun x_ σ => x_ = 0 ∧ σ = (A, S, Z, B, T, V, J, Y, P))) 0 0) 0 [(0, .ref ad)] [] (A, S, Z, B, T, V, J, Y, P) 0 0
  refine m_iconst 0 dX9_teachingCost_0 rfl ?_
  exact m_iret dX9_teachingCost_1 (Nat.le_refl _) (Nat.le_refl _) (⟨rfl, rfl⟩)
set_option maxRecDepth 100000 in
set_option maxHeartbeats 4000000 in
theorem k_tc_X9_2 (l : Launch) (G : owG) {A S Z B T V : owF} {J : Nat → Nat → Int64} {Y : Nat → Nat → Nat → Option Nat} {P : Nat → Option owW} (ad fg_ : Nat) (wn ww : Int32) (ha_ : P ad = some (2, wn, nI fg_, ww)) : Ct l G yX9_teachingCost cX9_teachingCost 1 ((some .int)) 0 0 0 [.ref ad] (A, S, Z, B, T, V, J, Y, P) (qI (fun x_ σ => x_ = 0 ∧ σ = (A, S, Z, B, T, V, J, Y, P))) := by
  refine ct_of (by decide +kernel) (Nat.le_of_ble_eq_true rfl) ?_
  show Wm l G cX9_teachingCost 1 RX9 ((some .int)) (rmk 0 0 0) (fun _ => True) (QfM G (qI (fun x_ σ => x_ = 0 ∧ σ = (A, S, Z, B, T, V, J, Y, P))) 0 0) 0 [(0, .ref ad)] [] (A, S, Z, B, T, V, J, Y, P) 0 0
  refine m_iconst 0 dX9_teachingCost_0 rfl ?_
  exact m_iret dX9_teachingCost_1 (Nat.le_refl _) (Nat.le_refl _) (⟨rfl, rfl⟩)
set_option maxRecDepth 100000 in
set_option maxHeartbeats 4000000 in
theorem k_tc_X9_3 (l : Launch) (G : owG) {A S Z B T V : owF} {J : Nat → Nat → Int64} {Y : Nat → Nat → Nat → Option Nat} {P : Nat → Option owW} (ad fg_ : Nat) (wn ww : Int32) (ha_ : P ad = some (3, wn, nI fg_, ww)) : Ct l G yX9_teachingCost cX9_teachingCost 1 ((some .int)) 0 0 0 [.ref ad] (A, S, Z, B, T, V, J, Y, P) (qI (fun x_ σ => x_ = 0 ∧ σ = (A, S, Z, B, T, V, J, Y, P))) := by
  refine ct_of (by decide +kernel) (Nat.le_of_ble_eq_true rfl) ?_
  show Wm l G cX9_teachingCost 1 RX9 ((some .int)) (rmk 0 0 0) (fun _ => True) (QfM G (qI (fun x_ σ => x_ = 0 ∧ σ = (A, S, Z, B, T, V, J, Y, P))) 0 0) 0 [(0, .ref ad)] [] (A, S, Z, B, T, V, J, Y, P) 0 0
  refine m_iconst 0 dX9_teachingCost_0 rfl ?_
  exact m_iret dX9_teachingCost_1 (Nat.le_refl _) (Nat.le_refl _) (⟨rfl, rfl⟩)
set_option maxRecDepth 100000 in
set_option maxHeartbeats 4000000 in
theorem k_tc_X9_4 (l : Launch) (G : owG) {A S Z B T V : owF} {J : Nat → Nat → Int64} {Y : Nat → Nat → Nat → Option Nat} {P : Nat → Option owW} (ad fg_ : Nat) (wn ww : Int32) (ha_ : P ad = some (4, wn, nI fg_, ww)) : Ct l G yX9_teachingCost cX9_teachingCost 1 ((some .int)) 0 0 0 [.ref ad] (A, S, Z, B, T, V, J, Y, P) (qI (fun x_ σ => x_ = 0 ∧ σ = (A, S, Z, B, T, V, J, Y, P))) := by
  refine ct_of (by decide +kernel) (Nat.le_of_ble_eq_true rfl) ?_
  show Wm l G cX9_teachingCost 1 RX9 ((some .int)) (rmk 0 0 0) (fun _ => True) (QfM G (qI (fun x_ σ => x_ = 0 ∧ σ = (A, S, Z, B, T, V, J, Y, P))) 0 0) 0 [(0, .ref ad)] [] (A, S, Z, B, T, V, J, Y, P) 0 0
  refine m_iconst 0 dX9_teachingCost_0 rfl ?_
  exact m_iret dX9_teachingCost_1 (Nat.le_refl _) (Nat.le_refl _) (⟨rfl, rfl⟩)
set_option maxRecDepth 100000 in
set_option maxHeartbeats 4000000 in
theorem k_tc_X9_5 (l : Launch) (G : owG) {A S Z B T V : owF} {J : Nat → Nat → Int64} {Y : Nat → Nat → Nat → Option Nat} {P : Nat → Option owW} (ad fg_ : Nat) (wn ww : Int32) (ha_ : P ad = some (5, wn, nI fg_, ww)) : Ct l G yX9_teachingCost cX9_teachingCost 1 ((some .int)) 0 0 0 [.ref ad] (A, S, Z, B, T, V, J, Y, P) (qI (fun x_ σ => x_ = 0 ∧ σ = (A, S, Z, B, T, V, J, Y, P))) := by
  refine ct_of (by decide +kernel) (Nat.le_of_ble_eq_true rfl) ?_
  show Wm l G cX9_teachingCost 1 RX9 ((some .int)) (rmk 0 0 0) (fun _ => True) (QfM G (qI (fun x_ σ => x_ = 0 ∧ σ = (A, S, Z, B, T, V, J, Y, P))) 0 0) 0 [(0, .ref ad)] [] (A, S, Z, B, T, V, J, Y, P) 0 0
  refine m_iconst 0 dX9_teachingCost_0 rfl ?_
  exact m_iret dX9_teachingCost_1 (Nat.le_refl _) (Nat.le_refl _) (⟨rfl, rfl⟩)
set_option maxRecDepth 100000 in
set_option maxHeartbeats 4000000 in
theorem k_tc_X9_6 (l : Launch) (G : owG) {A S Z B T V : owF} {J : Nat → Nat → Int64} {Y : Nat → Nat → Nat → Option Nat} {P : Nat → Option owW} (ad fg_ : Nat) (wn ww : Int32) (ha_ : P ad = some (6, wn, nI fg_, ww)) : Ct l G yX9_teachingCost cX9_teachingCost 1 ((some .int)) 0 0 0 [.ref ad] (A, S, Z, B, T, V, J, Y, P) (qI (fun x_ σ => x_ = 0 ∧ σ = (A, S, Z, B, T, V, J, Y, P))) := by
  refine ct_of (by decide +kernel) (Nat.le_of_ble_eq_true rfl) ?_
  show Wm l G cX9_teachingCost 1 RX9 ((some .int)) (rmk 0 0 0) (fun _ => True) (QfM G (qI (fun x_ σ => x_ = 0 ∧ σ = (A, S, Z, B, T, V, J, Y, P))) 0 0) 0 [(0, .ref ad)] [] (A, S, Z, B, T, V, J, Y, P) 0 0
  refine m_iconst 0 dX9_teachingCost_0 rfl ?_
  exact m_iret dX9_teachingCost_1 (Nat.le_refl _) (Nat.le_refl _) (⟨rfl, rfl⟩)
set_option maxRecDepth 100000 in
set_option maxHeartbeats 4000000 in
theorem k_tc_X9_7 (l : Launch) (G : owG) {A S Z B T V : owF} {J : Nat → Nat → Int64} {Y : Nat → Nat → Nat → Option Nat} {P : Nat → Option owW} (ad fg_ : Nat) (wn ww : Int32) (ha_ : P ad = some (7, wn, nI fg_, ww)) : Ct l G yX9_teachingCost cX9_teachingCost 1 ((some .int)) 0 0 0 [.ref ad] (A, S, Z, B, T, V, J, Y, P) (qI (fun x_ σ => x_ = 0 ∧ σ = (A, S, Z, B, T, V, J, Y, P))) := by
  refine ct_of (by decide +kernel) (Nat.le_of_ble_eq_true rfl) ?_
  show Wm l G cX9_teachingCost 1 RX9 ((some .int)) (rmk 0 0 0) (fun _ => True) (QfM G (qI (fun x_ σ => x_ = 0 ∧ σ = (A, S, Z, B, T, V, J, Y, P))) 0 0) 0 [(0, .ref ad)] [] (A, S, Z, B, T, V, J, Y, P) 0 0
  refine m_iconst 0 dX9_teachingCost_0 rfl ?_
  exact m_iret dX9_teachingCost_1 (Nat.le_refl _) (Nat.le_refl _) (⟨rfl, rfl⟩)
set_option maxRecDepth 100000 in
set_option maxHeartbeats 4000000 in
theorem k_tc_X8_1 (l : Launch) (G : owG) {A S Z B T V : owF} {J : Nat → Nat → Int64} {Y : Nat → Nat → Nat → Option Nat} {P : Nat → Option owW} (ad fg_ : Nat) (wn ww : Int32) (ha_ : P ad = some (1, wn, nI fg_, ww)) : Ct l G yX8_teachingCost cX8_teachingCost 1 ((some .int)) 1 0 0 [.ref ad] (A, S, Z, B, T, V, J, Y, P) (qI (fun x_ σ => x_ = 8 ∧ σ = (A, S, Z, B, T, V, J, Y, P))) := by
  refine ct_of (by decide +kernel) (Nat.le_of_ble_eq_true rfl) ?_
  show Wm l G cX8_teachingCost 1 RX8 ((some .int)) (rmk 1 0 0) (fun _ => True) (QfM G (qI (fun x_ σ => x_ = 8 ∧ σ = (A, S, Z, B, T, V, J, Y, P))) 0 0) 0 [(0, .ref ad)] [] (A, S, Z, B, T, V, J, Y, P) 0 0
  refine m_aload_n 0 rfl rfl dX8_teachingCost_0 ?_
  refine m_callSUi csu_X8_7 [] [] (k_tc_X9_1 l G ad fg_ wn ww ha_) ha_ rfl rfl rfl ⟨Nat.le_of_ble_eq_true rfl, Nat.le_of_ble_eq_true rfl⟩ (Nat.le_of_ble_eq_true rfl) ⟨Nat.zero_le _, Nat.zero_le _⟩ dX8_teachingCost_1 (fun xx σ2 hq => ?_)
  obtain ⟨rfl, rfl⟩ := hq
  refine m_bipush (8) dX8_teachingCost_4 rfl ?_
  refine m_iadd dX8_teachingCost_6 ?_
  refine m_topi (show (0 : Int32) + 8 = 8 by decide) ?_
  exact m_iret dX8_teachingCost_7 (Nat.le_refl _) (Nat.le_refl _) (⟨rfl, rfl⟩)
set_option maxRecDepth 100000 in
set_option maxHeartbeats 4000000 in
theorem k_tc_X8_5 (l : Launch) (G : owG) {A S Z B T V : owF} {J : Nat → Nat → Int64} {Y : Nat → Nat → Nat → Option Nat} {P : Nat → Option owW} (ad fg_ : Nat) (wn ww : Int32) (ha_ : P ad = some (5, wn, nI fg_, ww)) : Ct l G yX8_teachingCost cX8_teachingCost 1 ((some .int)) 1 0 0 [.ref ad] (A, S, Z, B, T, V, J, Y, P) (qI (fun x_ σ => x_ = 8 ∧ σ = (A, S, Z, B, T, V, J, Y, P))) := by
  refine ct_of (by decide +kernel) (Nat.le_of_ble_eq_true rfl) ?_
  show Wm l G cX8_teachingCost 1 RX8 ((some .int)) (rmk 1 0 0) (fun _ => True) (QfM G (qI (fun x_ σ => x_ = 8 ∧ σ = (A, S, Z, B, T, V, J, Y, P))) 0 0) 0 [(0, .ref ad)] [] (A, S, Z, B, T, V, J, Y, P) 0 0
  refine m_aload_n 0 rfl rfl dX8_teachingCost_0 ?_
  refine m_callSUi csu_X8_7 [] [] (k_tc_X9_5 l G ad fg_ wn ww ha_) ha_ rfl rfl rfl ⟨Nat.le_of_ble_eq_true rfl, Nat.le_of_ble_eq_true rfl⟩ (Nat.le_of_ble_eq_true rfl) ⟨Nat.zero_le _, Nat.zero_le _⟩ dX8_teachingCost_1 (fun xx σ2 hq => ?_)
  obtain ⟨rfl, rfl⟩ := hq
  refine m_bipush (8) dX8_teachingCost_4 rfl ?_
  refine m_iadd dX8_teachingCost_6 ?_
  refine m_topi (show (0 : Int32) + 8 = 8 by decide) ?_
  exact m_iret dX8_teachingCost_7 (Nat.le_refl _) (Nat.le_refl _) (⟨rfl, rfl⟩)
set_option maxRecDepth 100000 in
set_option maxHeartbeats 4000000 in
theorem k_tc_X2_2 (l : Launch) (G : owG) {A S Z B T V : owF} {J : Nat → Nat → Int64} {Y : Nat → Nat → Nat → Option Nat} {P : Nat → Option owW} (ad fg_ : Nat) (wn ww : Int32) (ha_ : P ad = some (2, wn, nI fg_, ww)) : Ct l G yX2_teachingCost cX2_teachingCost 1 ((some .int)) 1 0 0 [.ref ad] (A, S, Z, B, T, V, J, Y, P) (qI (fun x_ σ => x_ = 5 ∧ σ = (A, S, Z, B, T, V, J, Y, P))) := by
  refine ct_of (by decide +kernel) (Nat.le_of_ble_eq_true rfl) ?_
  show Wm l G cX2_teachingCost 1 RX2 ((some .int)) (rmk 1 0 0) (fun _ => True) (QfM G (qI (fun x_ σ => x_ = 5 ∧ σ = (A, S, Z, B, T, V, J, Y, P))) 0 0) 0 [(0, .ref ad)] [] (A, S, Z, B, T, V, J, Y, P) 0 0
  refine m_aload_n 0 rfl rfl dX2_teachingCost_0 ?_
  refine m_callSUi csu_X2_7 [] [] (k_tc_X9_2 l G ad fg_ wn ww ha_) ha_ rfl rfl rfl ⟨Nat.le_of_ble_eq_true rfl, Nat.le_of_ble_eq_true rfl⟩ (Nat.le_of_ble_eq_true rfl) ⟨Nat.zero_le _, Nat.zero_le _⟩ dX2_teachingCost_1 (fun xx σ2 hq => ?_)
  obtain ⟨rfl, rfl⟩ := hq
  refine m_iconst 5 dX2_teachingCost_4 rfl ?_
  refine m_iadd dX2_teachingCost_5 ?_
  refine m_topi (show (0 : Int32) + 5 = 5 by decide) ?_
  exact m_iret dX2_teachingCost_6 (Nat.le_refl _) (Nat.le_refl _) (⟨rfl, rfl⟩)
set_option maxRecDepth 100000 in
set_option maxHeartbeats 4000000 in
theorem k_tc_X0_4 (l : Launch) (G : owG) {A S Z B T V : owF} {J : Nat → Nat → Int64} {Y : Nat → Nat → Nat → Option Nat} {P : Nat → Option owW} (ad fg_ : Nat) (wn ww : Int32) (ha_ : P ad = some (4, wn, nI fg_, ww)) : Ct l G yX0_teachingCost cX0_teachingCost 1 ((some .int)) 1 0 0 [.ref ad] (A, S, Z, B, T, V, J, Y, P) (qI (fun x_ σ => x_ = 12 ∧ σ = (A, S, Z, B, T, V, J, Y, P))) := by
  refine ct_of (by decide +kernel) (Nat.le_of_ble_eq_true rfl) ?_
  show Wm l G cX0_teachingCost 1 RX0 ((some .int)) (rmk 1 0 0) (fun _ => True) (QfM G (qI (fun x_ σ => x_ = 12 ∧ σ = (A, S, Z, B, T, V, J, Y, P))) 0 0) 0 [(0, .ref ad)] [] (A, S, Z, B, T, V, J, Y, P) 0 0
  refine m_aload_n 0 rfl rfl dX0_teachingCost_0 ?_
  refine m_callSUi csu_X0_7 [] [] (k_tc_X9_4 l G ad fg_ wn ww ha_) ha_ rfl rfl rfl ⟨Nat.le_of_ble_eq_true rfl, Nat.le_of_ble_eq_true rfl⟩ (Nat.le_of_ble_eq_true rfl) ⟨Nat.zero_le _, Nat.zero_le _⟩ dX0_teachingCost_1 (fun xx σ2 hq => ?_)
  obtain ⟨rfl, rfl⟩ := hq
  refine m_bipush (12) dX0_teachingCost_4 rfl ?_
  refine m_iadd dX0_teachingCost_6 ?_
  refine m_topi (show (0 : Int32) + 12 = 12 by decide) ?_
  exact m_iret dX0_teachingCost_7 (Nat.le_refl _) (Nat.le_refl _) (⟨rfl, rfl⟩)
set_option maxRecDepth 100000 in
set_option maxHeartbeats 4000000 in
theorem k_tc_X0_6 (l : Launch) (G : owG) {A S Z B T V : owF} {J : Nat → Nat → Int64} {Y : Nat → Nat → Nat → Option Nat} {P : Nat → Option owW} (ad fg_ : Nat) (wn ww : Int32) (ha_ : P ad = some (6, wn, nI fg_, ww)) : Ct l G yX0_teachingCost cX0_teachingCost 1 ((some .int)) 1 0 0 [.ref ad] (A, S, Z, B, T, V, J, Y, P) (qI (fun x_ σ => x_ = 12 ∧ σ = (A, S, Z, B, T, V, J, Y, P))) := by
  refine ct_of (by decide +kernel) (Nat.le_of_ble_eq_true rfl) ?_
  show Wm l G cX0_teachingCost 1 RX0 ((some .int)) (rmk 1 0 0) (fun _ => True) (QfM G (qI (fun x_ σ => x_ = 12 ∧ σ = (A, S, Z, B, T, V, J, Y, P))) 0 0) 0 [(0, .ref ad)] [] (A, S, Z, B, T, V, J, Y, P) 0 0
  refine m_aload_n 0 rfl rfl dX0_teachingCost_0 ?_
  refine m_callSUi csu_X0_7 [] [] (k_tc_X9_6 l G ad fg_ wn ww ha_) ha_ rfl rfl rfl ⟨Nat.le_of_ble_eq_true rfl, Nat.le_of_ble_eq_true rfl⟩ (Nat.le_of_ble_eq_true rfl) ⟨Nat.zero_le _, Nat.zero_le _⟩ dX0_teachingCost_1 (fun xx σ2 hq => ?_)
  obtain ⟨rfl, rfl⟩ := hq
  refine m_bipush (12) dX0_teachingCost_4 rfl ?_
  refine m_iadd dX0_teachingCost_6 ?_
  refine m_topi (show (0 : Int32) + 12 = 12 by decide) ?_
  exact m_iret dX0_teachingCost_7 (Nat.le_refl _) (Nat.le_refl _) (⟨rfl, rfl⟩)
set_option maxRecDepth 100000 in
set_option maxHeartbeats 4000000 in
theorem k_tc_X1_3 (l : Launch) (G : owG) {A S Z B T V : owF} {J : Nat → Nat → Int64} {Y : Nat → Nat → Nat → Option Nat} {P : Nat → Option owW} (ad fg_ : Nat) (wn ww : Int32) (ha_ : P ad = some (3, wn, nI fg_, ww)) (hfg : fg_ ≤ 9) : Ct l G yX1_teachingCost cX1_teachingCost 1 ((some .int)) 1 0 0 [.ref ad] (A, S, Z, B, T, V, J, Y, P) (qI (fun x_ σ => x_ = nI fg_ ∧ σ = (A, S, Z, B, T, V, J, Y, P))) := by
  refine ct_of (by decide +kernel) (Nat.le_of_ble_eq_true rfl) ?_
  show Wm l G cX1_teachingCost 1 RX1 ((some .int)) (rmk 1 0 0) (fun _ => True) (QfM G (qI (fun x_ σ => x_ = nI fg_ ∧ σ = (A, S, Z, B, T, V, J, Y, P))) 0 0) 0 [(0, .ref ad)] [] (A, S, Z, B, T, V, J, Y, P) 0 0
  refine m_aload_n 0 rfl rfl dX1_teachingCost_0 ?_
  refine m_callSUi csu_X1_9 [] [] (k_tc_X9_3 l G ad fg_ wn ww ha_) ha_ rfl rfl rfl ⟨Nat.le_of_ble_eq_true rfl, Nat.le_of_ble_eq_true rfl⟩ (Nat.le_of_ble_eq_true rfl) ⟨Nat.zero_le _, Nat.zero_le _⟩ dX1_teachingCost_1 (fun xx σ2 hq => ?_)
  obtain ⟨rfl, rfl⟩ := hq
  refine m_aload_n 0 rfl rfl dX1_teachingCost_4 ?_
  refine gw_X1_13_3 ha_ dX1_teachingCost_5 ?_
  refine m_topi rfl ?_
  refine m_iadd dX1_teachingCost_8 ?_
  refine m_topi (show 0 + (nI (fg_)) = nI (0 + fg_) from nI_add _ _) ?_
  exact m_iret dX1_teachingCost_9 (Nat.le_refl _) (Nat.le_refl _) (⟨(congrArg nI (by omega) : nI (0 + fg_) = nI fg_), rfl⟩)
set_option maxRecDepth 100000 in
set_option maxHeartbeats 4000000 in
theorem k_tc_X1_7 (l : Launch) (G : owG) {A S Z B T V : owF} {J : Nat → Nat → Int64} {Y : Nat → Nat → Nat → Option Nat} {P : Nat → Option owW} (ad fg_ : Nat) (wn ww : Int32) (ha_ : P ad = some (7, wn, nI fg_, ww)) (hfg : fg_ ≤ 9) : Ct l G yX1_teachingCost cX1_teachingCost 1 ((some .int)) 1 0 0 [.ref ad] (A, S, Z, B, T, V, J, Y, P) (qI (fun x_ σ => x_ = nI fg_ ∧ σ = (A, S, Z, B, T, V, J, Y, P))) := by
  refine ct_of (by decide +kernel) (Nat.le_of_ble_eq_true rfl) ?_
  show Wm l G cX1_teachingCost 1 RX1 ((some .int)) (rmk 1 0 0) (fun _ => True) (QfM G (qI (fun x_ σ => x_ = nI fg_ ∧ σ = (A, S, Z, B, T, V, J, Y, P))) 0 0) 0 [(0, .ref ad)] [] (A, S, Z, B, T, V, J, Y, P) 0 0
  refine m_aload_n 0 rfl rfl dX1_teachingCost_0 ?_
  refine m_callSUi csu_X1_9 [] [] (k_tc_X9_7 l G ad fg_ wn ww ha_) ha_ rfl rfl rfl ⟨Nat.le_of_ble_eq_true rfl, Nat.le_of_ble_eq_true rfl⟩ (Nat.le_of_ble_eq_true rfl) ⟨Nat.zero_le _, Nat.zero_le _⟩ dX1_teachingCost_1 (fun xx σ2 hq => ?_)
  obtain ⟨rfl, rfl⟩ := hq
  refine m_aload_n 0 rfl rfl dX1_teachingCost_4 ?_
  refine gw_X1_13_7 ha_ dX1_teachingCost_5 ?_
  refine m_topi rfl ?_
  refine m_iadd dX1_teachingCost_8 ?_
  refine m_topi (show 0 + (nI (fg_)) = nI (0 + fg_) from nI_add _ _) ?_
  exact m_iret dX1_teachingCost_9 (Nat.le_refl _) (Nat.le_refl _) (⟨(congrArg nI (by omega) : nI (0 + fg_) = nI fg_), rfl⟩)
set_option maxRecDepth 100000 in
set_option maxHeartbeats 4000000 in
theorem k_tc_X10_5 (l : Launch) (G : owG) {A S Z B T V : owF} {J : Nat → Nat → Int64} {Y : Nat → Nat → Nat → Option Nat} {P : Nat → Option owW} (ad fg_ : Nat) (wn ww : Int32) (ha_ : P ad = some (5, wn, nI fg_, ww)) : Ct l G yX10_teachingCost cX10_teachingCost 1 ((some .int)) 2 0 0 [.ref ad] (A, S, Z, B, T, V, J, Y, P) (qI (fun x_ σ => x_ = 4 ∧ σ = (A, S, Z, B, T, V, J, Y, P))) := by
  refine ct_of (by decide +kernel) (Nat.le_of_ble_eq_true rfl) ?_
  show Wm l G cX10_teachingCost 1 RX10 ((some .int)) (rmk 2 0 0) (fun _ => True) (QfM G (qI (fun x_ σ => x_ = 4 ∧ σ = (A, S, Z, B, T, V, J, Y, P))) 0 0) 0 [(0, .ref ad)] [] (A, S, Z, B, T, V, J, Y, P) 0 0
  refine m_aload_n 0 rfl rfl dX10_teachingCost_0 ?_
  refine m_callSUi csu_X10_7 [] [] (k_tc_X8_5 l G ad fg_ wn ww ha_) ha_ rfl rfl rfl ⟨Nat.le_of_ble_eq_true rfl, Nat.le_of_ble_eq_true rfl⟩ (Nat.le_of_ble_eq_true rfl) ⟨Nat.zero_le _, Nat.zero_le _⟩ dX10_teachingCost_1 (fun xx σ2 hq => ?_)
  obtain ⟨rfl, rfl⟩ := hq
  refine m_iconst 2 dX10_teachingCost_4 rfl ?_
  refine m_idiv (by decide) dX10_teachingCost_5 ?_
  refine m_topi ((by decide : (8 : Int32) / 2 = 4)) ?_
  exact m_iret dX10_teachingCost_6 (Nat.le_refl _) (Nat.le_refl _) (⟨rfl, rfl⟩)
set_option maxRecDepth 100000 in
set_option maxHeartbeats 4000000 in
theorem k_tc_X4_6 (l : Launch) (G : owG) {A S Z B T V : owF} {J : Nat → Nat → Int64} {Y : Nat → Nat → Nat → Option Nat} {P : Nat → Option owW} (ad fg_ : Nat) (wn ww : Int32) (ha_ : P ad = some (6, wn, nI fg_, ww)) (hfg : fg_ ≤ 9) : Ct l G yX4_teachingCost cX4_teachingCost 1 ((some .int)) 2 0 0 [.ref ad] (A, S, Z, B, T, V, J, Y, P) (qI (fun x_ σ => x_ = nI (12 + fg_) ∧ σ = (A, S, Z, B, T, V, J, Y, P))) := by
  refine ct_of (by decide +kernel) (Nat.le_of_ble_eq_true rfl) ?_
  show Wm l G cX4_teachingCost 1 RX4 ((some .int)) (rmk 2 0 0) (fun _ => True) (QfM G (qI (fun x_ σ => x_ = nI (12 + fg_) ∧ σ = (A, S, Z, B, T, V, J, Y, P))) 0 0) 0 [(0, .ref ad)] [] (A, S, Z, B, T, V, J, Y, P) 0 0
  refine m_aload_n 0 rfl rfl dX4_teachingCost_0 ?_
  refine m_callSUi csu_X4_9 [] [] (k_tc_X0_6 l G ad fg_ wn ww ha_) ha_ rfl rfl rfl ⟨Nat.le_of_ble_eq_true rfl, Nat.le_of_ble_eq_true rfl⟩ (Nat.le_of_ble_eq_true rfl) ⟨Nat.zero_le _, Nat.zero_le _⟩ dX4_teachingCost_1 (fun xx σ2 hq => ?_)
  obtain ⟨rfl, rfl⟩ := hq
  refine m_aload_n 0 rfl rfl dX4_teachingCost_4 ?_
  refine gw_X4_13_6 ha_ dX4_teachingCost_5 ?_
  refine m_topi rfl ?_
  refine m_iadd dX4_teachingCost_8 ?_
  refine m_topi (show 12 + (nI (fg_)) = nI (12 + fg_) from nI_add _ _) ?_
  exact m_iret dX4_teachingCost_9 (Nat.le_refl _) (Nat.le_refl _) (⟨(congrArg nI (by omega) : nI (12 + fg_) = nI (12 + fg_)), rfl⟩)
set_option maxRecDepth 100000 in
set_option maxHeartbeats 4000000 in
theorem k_tc_X7_7 (l : Launch) (G : owG) {A S Z B T V : owF} {J : Nat → Nat → Int64} {Y : Nat → Nat → Nat → Option Nat} {P : Nat → Option owW} (ad fg_ : Nat) (wn ww : Int32) (ha_ : P ad = some (7, wn, nI fg_, ww)) (hfg : fg_ ≤ 9) : Ct l G yX7_teachingCost cX7_teachingCost 1 ((some .int)) 2 0 0 [.ref ad] (A, S, Z, B, T, V, J, Y, P) (qI (fun x_ σ => x_ = nI (2 * fg_ + 1) ∧ σ = (A, S, Z, B, T, V, J, Y, P))) := by
  refine ct_of (by decide +kernel) (Nat.le_of_ble_eq_true rfl) ?_
  show Wm l G cX7_teachingCost 1 RX7 ((some .int)) (rmk 2 0 0) (fun _ => True) (QfM G (qI (fun x_ σ => x_ = nI (2 * fg_ + 1) ∧ σ = (A, S, Z, B, T, V, J, Y, P))) 0 0) 0 [(0, .ref ad)] [] (A, S, Z, B, T, V, J, Y, P) 0 0
  refine m_iconst 2 dX7_teachingCost_0 rfl ?_
  refine m_aload_n 0 rfl rfl dX7_teachingCost_1 ?_
  refine m_callSUi csu_X7_9 [] [.int 2] (k_tc_X1_7 l G ad fg_ wn ww ha_ hfg) ha_ rfl rfl rfl ⟨Nat.le_of_ble_eq_true rfl, Nat.le_of_ble_eq_true rfl⟩ (Nat.le_of_ble_eq_true rfl) ⟨Nat.zero_le _, Nat.zero_le _⟩ dX7_teachingCost_2 (fun xx σ2 hq => ?_)
  obtain ⟨rfl, rfl⟩ := hq
  refine m_imul dX7_teachingCost_5 ?_
  refine m_topi (show 2 * (nI (fg_)) = nI (2 * fg_) from pk_mul _ _) ?_
  refine m_iconst 1 dX7_teachingCost_6 rfl ?_
  refine m_iadd dX7_teachingCost_7 ?_
  refine m_topi (show (nI (2 * fg_)) + 1 = nI ((2 * fg_) + 1) from nI_add _ _) ?_
  exact m_iret dX7_teachingCost_8 (Nat.le_refl _) (Nat.le_refl _) (⟨(congrArg nI (by omega) : nI ((2 * fg_) + 1) = nI (2 * fg_ + 1)), rfl⟩)
theorem m_cost {l : Launch} {G : owG} {cc : ByteArray} {nL : Nat} {rt : Option FieldType} {R : Room} {Ex : State → Prop} {Qf : List Frame → Array Value → State → State → Prop} {pc : Nat} {lv : List (Nat × Value)} {rest : List Value} {cells slots : Nat} {A S Z B T V : owF} {J : Nat → Nat → Int64} {Y : Nat → Nat → Nat → Option Nat} {P : Nat → Option owW} {ad kd_ fg_ : Nat} {wn ww : Int32} (hkd : kd_ < 8) (hfg : fg_ ≤ 9) (ha_ : P ad = some (kd_, wn, nI fg_, ww)) (hR : 4 ≤ R.frames ∧ 120 ≤ R.locals) (hW : (rest.map fun v_ => v_.category).sum ≤ 8) (hf : cells ≤ R.cells ∧ slots ≤ R.slots) (hd_ : decode cc pc = .ok (.invokevirtual 91, 3)) (kk : Wm l G cc nL RX11 rt R Ex Qf (pc + 3) lv (.int (nI (costW kd_ fg_)) :: rest) (A, S, Z, B, T, V, J, Y, P) cells slots) : Wm l G cc nL RX11 rt R Ex Qf pc lv (.ref ad :: rest) (A, S, Z, B, T, V, J, Y, P) cells slots := by
  match kd_, hkd with
  | 0, _ => exact m_callUi cu_X11_91_0 [] rest (k_tc_X9_0 l G ad fg_ wn ww ha_) ha_ rfl rfl rfl ⟨by omega, by omega⟩ hW hf hd_ (fun xx σ2 hq => by obtain ⟨rfl, rfl⟩ := hq; exact kk)
  | 1, _ => exact m_callUi cu_X11_91_1 [] rest (k_tc_X8_1 l G ad fg_ wn ww ha_) ha_ rfl rfl rfl ⟨by omega, by omega⟩ hW hf hd_ (fun xx σ2 hq => by obtain ⟨rfl, rfl⟩ := hq; exact kk)
  | 2, _ => exact m_callUi cu_X11_91_2 [] rest (k_tc_X2_2 l G ad fg_ wn ww ha_) ha_ rfl rfl rfl ⟨by omega, by omega⟩ hW hf hd_ (fun xx σ2 hq => by obtain ⟨rfl, rfl⟩ := hq; exact kk)
  | 3, _ => exact m_callUi cu_X11_91_3 [] rest (k_tc_X1_3 l G ad fg_ wn ww ha_ hfg) ha_ rfl rfl rfl ⟨by omega, by omega⟩ hW hf hd_ (fun xx σ2 hq => by obtain ⟨rfl, rfl⟩ := hq; exact kk)
  | 4, _ => exact m_callUi cu_X11_91_4 [] rest (k_tc_X0_4 l G ad fg_ wn ww ha_) ha_ rfl rfl rfl ⟨by omega, by omega⟩ hW hf hd_ (fun xx σ2 hq => by obtain ⟨rfl, rfl⟩ := hq; exact kk)
  | 5, _ => exact m_callUi cu_X11_91_5 [] rest (k_tc_X10_5 l G ad fg_ wn ww ha_) ha_ rfl rfl rfl ⟨by omega, by omega⟩ hW hf hd_ (fun xx σ2 hq => by obtain ⟨rfl, rfl⟩ := hq; exact kk)
  | 6, _ => exact m_callUi cu_X11_91_6 [] rest (k_tc_X4_6 l G ad fg_ wn ww ha_ hfg) ha_ rfl rfl rfl ⟨by omega, by omega⟩ hW hf hd_ (fun xx σ2 hq => by obtain ⟨rfl, rfl⟩ := hq; exact kk)
  | 7, _ => exact m_callUi cu_X11_91_7 [] rest (k_tc_X7_7 l G ad fg_ wn ww ha_ hfg) ha_ rfl rfl rfl ⟨by omega, by omega⟩ hW hf hd_ (fun xx σ2 hq => by obtain ⟨rfl, rfl⟩ := hq; exact kk)
set_option maxRecDepth 100000 in
set_option maxHeartbeats 4000000 in
theorem k_hf_0 (l : Launch) (G : owG) {A S Z B T V : owF} {J : Nat → Nat → Int64} {Y : Nat → Nat → Nat → Option Nat} {P : Nat → Option owW} (ad fg_ : Nat) (wn ww : Int32) (ha_ : P ad = some (0, wn, nI fg_, ww)) (hfg : fg_ ≤ 9) : Ct l G yX9_hasFailure cX9_hasFailure 1 ((some .boolean)) 0 0 0 [.ref ad] (A, S, Z, B, T, V, J, Y, P) (qI (fun x_ σ => x_ = bI (failW 0 fg_) ∧ σ = (A, S, Z, B, T, V, J, Y, P))) := by
  refine ct_of (by decide +kernel) (Nat.le_of_ble_eq_true rfl) ?_
  show Wm l G cX9_hasFailure 1 RX9 ((some .boolean)) (rmk 0 0 0) (fun _ => True) (QfM G (qI (fun x_ σ => x_ = bI (failW 0 fg_) ∧ σ = (A, S, Z, B, T, V, J, Y, P))) 0 0) 0 [(0, .ref ad)] [] (A, S, Z, B, T, V, J, Y, P) 0 0
  refine m_aload_n 0 rfl rfl dX9_hasFailure_0 ?_
  refine gw_X9_16_0 ha_ dX9_hasFailure_1 ?_
  refine m_topi rfl ?_
  refine m_ifn_eq fg_ 11 (by omega) dX9_hasFailure_4 (by decide) (fun c1_ => ?_) (fun c1_ => ?_)
  ·
    refine m_iconst 0 dX9_hasFailure_11 rfl ?_
    exact m_zret dX9_hasFailure_12 (Nat.le_refl _) (Nat.le_refl _) nar0 (⟨by grind [failW, bI], rfl⟩)
  ·
    refine m_iconst 1 dX9_hasFailure_7 rfl ?_
    refine m_goto 12 dX9_hasFailure_8 (by decide) ?_
    exact m_zret dX9_hasFailure_12 (Nat.le_refl _) (Nat.le_refl _) nar1 (⟨by simp only [failW]; rw [decide_eq_true ⟨by decide, by omega⟩]; rfl, rfl⟩)
set_option maxRecDepth 100000 in
set_option maxHeartbeats 4000000 in
theorem k_hf_1 (l : Launch) (G : owG) {A S Z B T V : owF} {J : Nat → Nat → Int64} {Y : Nat → Nat → Nat → Option Nat} {P : Nat → Option owW} (ad fg_ : Nat) (wn ww : Int32) (ha_ : P ad = some (1, wn, nI fg_, ww)) (hfg : fg_ ≤ 9) : Ct l G yX9_hasFailure cX9_hasFailure 1 ((some .boolean)) 0 0 0 [.ref ad] (A, S, Z, B, T, V, J, Y, P) (qI (fun x_ σ => x_ = bI (failW 1 fg_) ∧ σ = (A, S, Z, B, T, V, J, Y, P))) := by
  refine ct_of (by decide +kernel) (Nat.le_of_ble_eq_true rfl) ?_
  show Wm l G cX9_hasFailure 1 RX9 ((some .boolean)) (rmk 0 0 0) (fun _ => True) (QfM G (qI (fun x_ σ => x_ = bI (failW 1 fg_) ∧ σ = (A, S, Z, B, T, V, J, Y, P))) 0 0) 0 [(0, .ref ad)] [] (A, S, Z, B, T, V, J, Y, P) 0 0
  refine m_aload_n 0 rfl rfl dX9_hasFailure_0 ?_
  refine gw_X9_16_1 ha_ dX9_hasFailure_1 ?_
  refine m_topi rfl ?_
  refine m_ifn_eq fg_ 11 (by omega) dX9_hasFailure_4 (by decide) (fun c1_ => ?_) (fun c1_ => ?_)
  ·
    refine m_iconst 0 dX9_hasFailure_11 rfl ?_
    exact m_zret dX9_hasFailure_12 (Nat.le_refl _) (Nat.le_refl _) nar0 (⟨by grind [failW, bI], rfl⟩)
  ·
    refine m_iconst 1 dX9_hasFailure_7 rfl ?_
    refine m_goto 12 dX9_hasFailure_8 (by decide) ?_
    exact m_zret dX9_hasFailure_12 (Nat.le_refl _) (Nat.le_refl _) nar1 (⟨by simp only [failW]; rw [decide_eq_true ⟨by decide, by omega⟩]; rfl, rfl⟩)
set_option maxRecDepth 100000 in
set_option maxHeartbeats 4000000 in
theorem k_hf_2 (l : Launch) (G : owG) {A S Z B T V : owF} {J : Nat → Nat → Int64} {Y : Nat → Nat → Nat → Option Nat} {P : Nat → Option owW} (ad fg_ : Nat) (wn ww : Int32) (ha_ : P ad = some (2, wn, nI fg_, ww)) (hfg : fg_ ≤ 9) : Ct l G yX9_hasFailure cX9_hasFailure 1 ((some .boolean)) 0 0 0 [.ref ad] (A, S, Z, B, T, V, J, Y, P) (qI (fun x_ σ => x_ = bI (failW 2 fg_) ∧ σ = (A, S, Z, B, T, V, J, Y, P))) := by
  refine ct_of (by decide +kernel) (Nat.le_of_ble_eq_true rfl) ?_
  show Wm l G cX9_hasFailure 1 RX9 ((some .boolean)) (rmk 0 0 0) (fun _ => True) (QfM G (qI (fun x_ σ => x_ = bI (failW 2 fg_) ∧ σ = (A, S, Z, B, T, V, J, Y, P))) 0 0) 0 [(0, .ref ad)] [] (A, S, Z, B, T, V, J, Y, P) 0 0
  refine m_aload_n 0 rfl rfl dX9_hasFailure_0 ?_
  refine gw_X9_16_2 ha_ dX9_hasFailure_1 ?_
  refine m_topi rfl ?_
  refine m_ifn_eq fg_ 11 (by omega) dX9_hasFailure_4 (by decide) (fun c1_ => ?_) (fun c1_ => ?_)
  ·
    refine m_iconst 0 dX9_hasFailure_11 rfl ?_
    exact m_zret dX9_hasFailure_12 (Nat.le_refl _) (Nat.le_refl _) nar0 (⟨by grind [failW, bI], rfl⟩)
  ·
    refine m_iconst 1 dX9_hasFailure_7 rfl ?_
    refine m_goto 12 dX9_hasFailure_8 (by decide) ?_
    exact m_zret dX9_hasFailure_12 (Nat.le_refl _) (Nat.le_refl _) nar1 (⟨by simp only [failW]; rw [decide_eq_true ⟨by decide, by omega⟩]; rfl, rfl⟩)
set_option maxRecDepth 100000 in
set_option maxHeartbeats 4000000 in
theorem k_hf_3 (l : Launch) (G : owG) {A S Z B T V : owF} {J : Nat → Nat → Int64} {Y : Nat → Nat → Nat → Option Nat} {P : Nat → Option owW} (ad fg_ : Nat) (wn ww : Int32) (ha_ : P ad = some (3, wn, nI fg_, ww)) (hfg : fg_ ≤ 9) : Ct l G yX9_hasFailure cX9_hasFailure 1 ((some .boolean)) 0 0 0 [.ref ad] (A, S, Z, B, T, V, J, Y, P) (qI (fun x_ σ => x_ = bI (failW 3 fg_) ∧ σ = (A, S, Z, B, T, V, J, Y, P))) := by
  refine ct_of (by decide +kernel) (Nat.le_of_ble_eq_true rfl) ?_
  show Wm l G cX9_hasFailure 1 RX9 ((some .boolean)) (rmk 0 0 0) (fun _ => True) (QfM G (qI (fun x_ σ => x_ = bI (failW 3 fg_) ∧ σ = (A, S, Z, B, T, V, J, Y, P))) 0 0) 0 [(0, .ref ad)] [] (A, S, Z, B, T, V, J, Y, P) 0 0
  refine m_aload_n 0 rfl rfl dX9_hasFailure_0 ?_
  refine gw_X9_16_3 ha_ dX9_hasFailure_1 ?_
  refine m_topi rfl ?_
  refine m_ifn_eq fg_ 11 (by omega) dX9_hasFailure_4 (by decide) (fun c1_ => ?_) (fun c1_ => ?_)
  ·
    refine m_iconst 0 dX9_hasFailure_11 rfl ?_
    exact m_zret dX9_hasFailure_12 (Nat.le_refl _) (Nat.le_refl _) nar0 (⟨by grind [failW, bI], rfl⟩)
  ·
    refine m_iconst 1 dX9_hasFailure_7 rfl ?_
    refine m_goto 12 dX9_hasFailure_8 (by decide) ?_
    exact m_zret dX9_hasFailure_12 (Nat.le_refl _) (Nat.le_refl _) nar1 (⟨by simp only [failW]; rw [decide_eq_true ⟨by decide, by omega⟩]; rfl, rfl⟩)
set_option maxRecDepth 100000 in
set_option maxHeartbeats 4000000 in
theorem k_hf_4 (l : Launch) (G : owG) {A S Z B T V : owF} {J : Nat → Nat → Int64} {Y : Nat → Nat → Nat → Option Nat} {P : Nat → Option owW} (ad fg_ : Nat) (wn ww : Int32) (ha_ : P ad = some (4, wn, nI fg_, ww)) (hfg : fg_ ≤ 9) : Ct l G yX9_hasFailure cX9_hasFailure 1 ((some .boolean)) 0 0 0 [.ref ad] (A, S, Z, B, T, V, J, Y, P) (qI (fun x_ σ => x_ = bI (failW 4 fg_) ∧ σ = (A, S, Z, B, T, V, J, Y, P))) := by
  refine ct_of (by decide +kernel) (Nat.le_of_ble_eq_true rfl) ?_
  show Wm l G cX9_hasFailure 1 RX9 ((some .boolean)) (rmk 0 0 0) (fun _ => True) (QfM G (qI (fun x_ σ => x_ = bI (failW 4 fg_) ∧ σ = (A, S, Z, B, T, V, J, Y, P))) 0 0) 0 [(0, .ref ad)] [] (A, S, Z, B, T, V, J, Y, P) 0 0
  refine m_aload_n 0 rfl rfl dX9_hasFailure_0 ?_
  refine gw_X9_16_4 ha_ dX9_hasFailure_1 ?_
  refine m_topi rfl ?_
  refine m_ifn_eq fg_ 11 (by omega) dX9_hasFailure_4 (by decide) (fun c1_ => ?_) (fun c1_ => ?_)
  ·
    refine m_iconst 0 dX9_hasFailure_11 rfl ?_
    exact m_zret dX9_hasFailure_12 (Nat.le_refl _) (Nat.le_refl _) nar0 (⟨by grind [failW, bI], rfl⟩)
  ·
    refine m_iconst 1 dX9_hasFailure_7 rfl ?_
    refine m_goto 12 dX9_hasFailure_8 (by decide) ?_
    exact m_zret dX9_hasFailure_12 (Nat.le_refl _) (Nat.le_refl _) nar1 (⟨by simp only [failW]; rw [decide_eq_true ⟨by decide, by omega⟩]; rfl, rfl⟩)
set_option maxRecDepth 100000 in
set_option maxHeartbeats 4000000 in
theorem k_hf_5 (l : Launch) (G : owG) {A S Z B T V : owF} {J : Nat → Nat → Int64} {Y : Nat → Nat → Nat → Option Nat} {P : Nat → Option owW} (ad fg_ : Nat) (wn ww : Int32) (ha_ : P ad = some (5, wn, nI fg_, ww)) (hfg : fg_ ≤ 9) : Ct l G yX10_hasFailure cX10_hasFailure 1 ((some .boolean)) 0 0 0 [.ref ad] (A, S, Z, B, T, V, J, Y, P) (qI (fun x_ σ => x_ = bI (failW 5 fg_) ∧ σ = (A, S, Z, B, T, V, J, Y, P))) := by
  refine ct_of (by decide +kernel) (Nat.le_of_ble_eq_true rfl) ?_
  show Wm l G cX10_hasFailure 1 RX10 ((some .boolean)) (rmk 0 0 0) (fun _ => True) (QfM G (qI (fun x_ σ => x_ = bI (failW 5 fg_) ∧ σ = (A, S, Z, B, T, V, J, Y, P))) 0 0) 0 [(0, .ref ad)] [] (A, S, Z, B, T, V, J, Y, P) 0 0
  refine m_iconst 0 dX10_hasFailure_0 rfl ?_
  exact m_zret dX10_hasFailure_1 (Nat.le_refl _) (Nat.le_refl _) nar0 (⟨by simp [failW, bI], rfl⟩)
set_option maxRecDepth 100000 in
set_option maxHeartbeats 4000000 in
theorem k_hf_6 (l : Launch) (G : owG) {A S Z B T V : owF} {J : Nat → Nat → Int64} {Y : Nat → Nat → Nat → Option Nat} {P : Nat → Option owW} (ad fg_ : Nat) (wn ww : Int32) (ha_ : P ad = some (6, wn, nI fg_, ww)) (hfg : fg_ ≤ 9) : Ct l G yX9_hasFailure cX9_hasFailure 1 ((some .boolean)) 0 0 0 [.ref ad] (A, S, Z, B, T, V, J, Y, P) (qI (fun x_ σ => x_ = bI (failW 6 fg_) ∧ σ = (A, S, Z, B, T, V, J, Y, P))) := by
  refine ct_of (by decide +kernel) (Nat.le_of_ble_eq_true rfl) ?_
  show Wm l G cX9_hasFailure 1 RX9 ((some .boolean)) (rmk 0 0 0) (fun _ => True) (QfM G (qI (fun x_ σ => x_ = bI (failW 6 fg_) ∧ σ = (A, S, Z, B, T, V, J, Y, P))) 0 0) 0 [(0, .ref ad)] [] (A, S, Z, B, T, V, J, Y, P) 0 0
  refine m_aload_n 0 rfl rfl dX9_hasFailure_0 ?_
  refine gw_X9_16_6 ha_ dX9_hasFailure_1 ?_
  refine m_topi rfl ?_
  refine m_ifn_eq fg_ 11 (by omega) dX9_hasFailure_4 (by decide) (fun c1_ => ?_) (fun c1_ => ?_)
  ·
    refine m_iconst 0 dX9_hasFailure_11 rfl ?_
    exact m_zret dX9_hasFailure_12 (Nat.le_refl _) (Nat.le_refl _) nar0 (⟨by grind [failW, bI], rfl⟩)
  ·
    refine m_iconst 1 dX9_hasFailure_7 rfl ?_
    refine m_goto 12 dX9_hasFailure_8 (by decide) ?_
    exact m_zret dX9_hasFailure_12 (Nat.le_refl _) (Nat.le_refl _) nar1 (⟨by simp only [failW]; rw [decide_eq_true ⟨by decide, by omega⟩]; rfl, rfl⟩)
set_option maxRecDepth 100000 in
set_option maxHeartbeats 4000000 in
theorem k_hf_7 (l : Launch) (G : owG) {A S Z B T V : owF} {J : Nat → Nat → Int64} {Y : Nat → Nat → Nat → Option Nat} {P : Nat → Option owW} (ad fg_ : Nat) (wn ww : Int32) (ha_ : P ad = some (7, wn, nI fg_, ww)) (hfg : fg_ ≤ 9) : Ct l G yX9_hasFailure cX9_hasFailure 1 ((some .boolean)) 0 0 0 [.ref ad] (A, S, Z, B, T, V, J, Y, P) (qI (fun x_ σ => x_ = bI (failW 7 fg_) ∧ σ = (A, S, Z, B, T, V, J, Y, P))) := by
  refine ct_of (by decide +kernel) (Nat.le_of_ble_eq_true rfl) ?_
  show Wm l G cX9_hasFailure 1 RX9 ((some .boolean)) (rmk 0 0 0) (fun _ => True) (QfM G (qI (fun x_ σ => x_ = bI (failW 7 fg_) ∧ σ = (A, S, Z, B, T, V, J, Y, P))) 0 0) 0 [(0, .ref ad)] [] (A, S, Z, B, T, V, J, Y, P) 0 0
  refine m_aload_n 0 rfl rfl dX9_hasFailure_0 ?_
  refine gw_X9_16_7 ha_ dX9_hasFailure_1 ?_
  refine m_topi rfl ?_
  refine m_ifn_eq fg_ 11 (by omega) dX9_hasFailure_4 (by decide) (fun c1_ => ?_) (fun c1_ => ?_)
  ·
    refine m_iconst 0 dX9_hasFailure_11 rfl ?_
    exact m_zret dX9_hasFailure_12 (Nat.le_refl _) (Nat.le_refl _) nar0 (⟨by grind [failW, bI], rfl⟩)
  ·
    refine m_iconst 1 dX9_hasFailure_7 rfl ?_
    refine m_goto 12 dX9_hasFailure_8 (by decide) ?_
    exact m_zret dX9_hasFailure_12 (Nat.le_refl _) (Nat.le_refl _) nar1 (⟨by simp only [failW]; rw [decide_eq_true ⟨by decide, by omega⟩]; rfl, rfl⟩)
set_option maxRecDepth 100000 in
set_option maxHeartbeats 4000000 in
theorem k_workedBy (l : Launch) (G : owG) {A S Z B T V : owF} {J : Nat → Nat → Int64} {Y : Nat → Nat → Nat → Option Nat} {P : Nat → Option owW} (ad kd_ fg_ : Nat) (wn ww : Int32) (ha_ : P ad = some (kd_, wn, nI fg_, ww)) (hkd : kd_ < 8) (hfg : fg_ ≤ 9) (x_ y_ : Nat) (hx_ : x_ ≤ 9999) (hy_ : y_ ≤ x_) : Ct l G yX3_workedBy cX3_workedBy 7 ((some .int)) 4 0 0 [.ref (gK G 2 0), .ref ad, .int (nI (x_)), .int (nI (y_))] (A, S, Z, B, T, V, J, Y, P) (qI (fun r_ σ => r_ = nI (ansW kd_ fg_ x_ y_) ∧ ∃ Z2 : owF, σ = (A, S, Z2, B, T, V, J, Y, P) ∧ worked Z2 kd_ fg_ x_ y_)) := by
  refine ct_of (by decide +kernel) (Nat.le_of_ble_eq_true rfl) ?_
  show Wm l G cX3_workedBy 7 RX3 ((some .int)) (rmk 4 0 0) (fun _ => True) (QfM G (qI (fun r_ σ => r_ = nI (ansW kd_ fg_ x_ y_) ∧ ∃ Z2 : owF, σ = (A, S, Z2, B, T, V, J, Y, P) ∧ worked Z2 kd_ fg_ x_ y_)) 0 0) 0 [(0, .ref (gK G 2 0)), (1, .ref ad), (2, .int (nI (x_))), (3, .int (nI (y_)))] [] (A, S, Z, B, T, V, J, Y, P) 0 0
  refine m_aload_n 1 rfl rfl dX3_workedBy_0 ?_
  refine m_ifnonnull 6 dX3_workedBy_1 (by decide) ?_
  refine m_aload_n 0 rfl rfl dX3_workedBy_6 ?_
  refine gf_X3_9 dX3_workedBy_7 ?_
  refine m_iload_n 2 rfl rfl dX3_workedBy_10 ?_
  refine m_callSv cs_X3_21 [.ref (gK G 20 0), .int (nI (x_))] [] (k_layOut_20 l G x_ (by omega)) rfl rfl ⟨Nat.le_of_ble_eq_true rfl, Nat.le_of_ble_eq_true rfl⟩ (Nat.le_of_ble_eq_true rfl) ⟨Nat.zero_le _, Nat.zero_le _⟩ dX3_workedBy_11 (fun σ2 hq => ?_)
  obtain ⟨Z1, rfl, hdZ1, hfZ1⟩ := hq
  refine m_aload_n 0 rfl rfl dX3_workedBy_14 ?_
  refine gf_X3_15 dX3_workedBy_15 ?_
  refine m_iload_n 3 rfl rfl dX3_workedBy_18 ?_
  refine m_callSv cs_X3_21 [.ref (gK G 21 0), .int (nI (y_))] [] (k_layOut_21 l G y_ (by omega)) rfl rfl ⟨Nat.le_of_ble_eq_true rfl, Nat.le_of_ble_eq_true rfl⟩ (Nat.le_of_ble_eq_true rfl) ⟨Nat.zero_le _, Nat.zero_le _⟩ dX3_workedBy_19 (fun σ2 hq => ?_)
  obtain ⟨Z2, rfl, hdZ2, hfZ2⟩ := hq
  refine m_aload_n 0 rfl rfl dX3_workedBy_22 ?_
  refine m_iconst 0 dX3_workedBy_23 rfl ?_
  refine pf_X3_25 dX3_workedBy_24 (fun Z3 hZ3 => ?_)
  refine m_iconst 0 dX3_workedBy_27 rfl ?_
  refine m_istore [(4, .int 0), (0, .ref (gK G 2 0)), (1, .ref ad), (2, .int (nI (x_))), (3, .int (nI (y_)))] (by decide) rfl dX3_workedBy_28 ?_
  refine m_iconst 1 dX3_workedBy_30 rfl ?_
  refine m_istore [(5, .int 1), (4, .int 0), (0, .ref (gK G 2 0)), (1, .ref ad), (2, .int (nI (x_))), (3, .int (nI (y_)))] (by decide) rfl dX3_workedBy_31 ?_
  refine m_iconst 0 dX3_workedBy_33 rfl ?_
  refine m_istore [(6, .int 0), (5, .int 1), (4, .int 0), (0, .ref (gK G 2 0)), (1, .ref ad), (2, .int (nI (x_))), (3, .int (nI (y_)))] (by decide) rfl dX3_workedBy_34 ?_
  have lp36 : ∀ (dd : Nat) (k_ : Nat) (Z9 : owF), k_ ≤ 4 → pap Z9 (runU kd_ fg_ x_ y_ k_) (dg y_) → (∀ j_, j_ < k_ → Z9 22 0 j_ = nI (wrW kd_ fg_ x_ y_ j_)) → Z9 2 0 3 = stkI kd_ fg_ x_ y_ k_ → 4 - k_ < dd → Wm l G cX3_workedBy 7 RX3 ((some .int)) (rmk 4 0 0) (fun _ => True) (QfM G (qI (fun r_ σ => r_ = nI (ansW kd_ fg_ x_ y_) ∧ ∃ Z2 : owF, σ = (A, S, Z2, B, T, V, J, Y, P) ∧ worked Z2 kd_ fg_ x_ y_)) 0 0) 36 [(0, .ref (gK G 2 0)), (1, .ref ad), (2, .int (nI (x_))), (3, .int (nI (y_))), (4, .int (nI (ansN kd_ fg_ x_ y_ k_))), (5, .int (nI (10 ^ k_))), (6, .int (nI (k_)))] [] (A, S, Z9, B, T, V, J, Y, P) 0 0 := by
    intro dd
    induction dd with
    | zero => intro k_ Z9 hk_ hp hw_ hst hdd; exact absurd hdd (Nat.not_lt_zero _)
    | succ dd ih36 =>
      intro k_ Z9 hk_ hp hw_ hst hdd36
      refine m_iload 6 rfl dX3_workedBy_36 ?_
      refine m_iconst 4 dX3_workedBy_38 rfl ?_
      refine m_icmpn_ge k_ 4 150 (by omega) (by decide) dX3_workedBy_39 (by decide) (fun c4_ => ?_) (fun c4_ => ?_)
      ·
        refine m_iload 4 rfl dX3_workedBy_150 ?_
        exact m_iret dX3_workedBy_152 (Nat.le_refl _) (Nat.le_refl _) ((by obtain rfl : k_ = 4 := (by omega); exact ⟨rfl, Z9, rfl, hw_, hst⟩))
      ·
        have hlt := c4_
        have hu9 := runU_le kd_ fg_ x_ y_ k_ k_ hlt
        have hd9 := dg_le y_ k_
        refine m_aload_n 0 rfl rfl dX3_workedBy_42 ?_
        refine gf_X3_18 dX3_workedBy_43 ?_
        refine m_iload 6 rfl dX3_workedBy_46 ?_
        refine m_aload_n 0 rfl rfl dX3_workedBy_48 ?_
        refine gf_X3_9 dX3_workedBy_49 ?_
        refine m_iload 6 rfl dX3_workedBy_52 ?_
        refine al_20 k_ rfl (by omega) dX3_workedBy_54 ?_
        refine m_topi (hp.1 k_ hlt) ?_
        refine m_aload_n 0 rfl rfl dX3_workedBy_55 ?_
        refine gf_X3_15 dX3_workedBy_56 ?_
        refine m_iload 6 rfl dX3_workedBy_59 ?_
        refine al_21 k_ rfl (by omega) dX3_workedBy_61 ?_
        refine m_topi (hp.2.1 k_ hlt) ?_
        refine m_isub dX3_workedBy_62 ?_
        refine as_22 k_ rfl (by omega) dX3_workedBy_63 (fun Z5 hZ5 => ?_)
        refine m_aload_n 0 rfl rfl dX3_workedBy_64 ?_
        refine gf_X3_9 dX3_workedBy_65 ?_
        refine m_iload 6 rfl dX3_workedBy_68 ?_
        refine al_20 k_ rfl (by omega) dX3_workedBy_70 ?_
        refine m_topi (up3_t hZ5 (by decide) (hp.1 k_ hlt)) ?_
        refine m_aload_n 0 rfl rfl dX3_workedBy_71 ?_
        refine gf_X3_15 dX3_workedBy_72 ?_
        refine m_iload 6 rfl dX3_workedBy_75 ?_
        refine al_21 k_ rfl (by omega) dX3_workedBy_77 ?_
        refine m_topi (up3_t hZ5 (by decide) (hp.2.1 k_ hlt)) ?_
        refine m_icmpn_ge (runU kd_ fg_ x_ y_ k_ k_) (dg y_ k_) 122 (by omega) (by omega) dX3_workedBy_78 (by decide) (fun c6_ => ?_) (fun c6_ => ?_)
        ·
          have hns := c6_
          refine m_iload 4 rfl dX3_workedBy_122 ?_
          refine m_aload_n 0 rfl rfl dX3_workedBy_124 ?_
          refine gf_X3_18 dX3_workedBy_125 ?_
          refine m_iload 6 rfl dX3_workedBy_128 ?_
          refine al_22 k_ rfl (by omega) dX3_workedBy_130 ?_
          refine m_topi ((up3_e hZ5).trans ((pk_sub c6_).trans (congrArg nI (wrW_ns c6_)))) ?_
          refine m_iload 5 rfl dX3_workedBy_131 ?_
          refine m_imul dX3_workedBy_133 ?_
          refine m_topi (show (nI (wrW kd_ fg_ x_ y_ k_)) * (nI (10 ^ k_)) = nI ((wrW kd_ fg_ x_ y_ k_) * (10 ^ k_)) from pk_mul _ _) ?_
          refine m_iadd dX3_workedBy_134 ?_
          refine m_topi (show (nI (ansN kd_ fg_ x_ y_ k_)) + (nI ((wrW kd_ fg_ x_ y_ k_) * (10 ^ k_))) = nI ((ansN kd_ fg_ x_ y_ k_) + ((wrW kd_ fg_ x_ y_ k_) * (10 ^ k_))) from nI_add _ _) ?_
          refine m_istore [(4, .int (nI ((ansN kd_ fg_ x_ y_ k_) + ((wrW kd_ fg_ x_ y_ k_) * (10 ^ k_))))), (0, .ref (gK G 2 0)), (1, .ref ad), (2, .int (nI (x_))), (3, .int (nI (y_))), (5, .int (nI (10 ^ k_))), (6, .int (nI (k_)))] (by decide) rfl dX3_workedBy_135 ?_
          refine m_iload 5 rfl dX3_workedBy_137 ?_
          refine m_bipush (10) dX3_workedBy_139 rfl ?_
          refine m_imul dX3_workedBy_141 ?_
          refine m_topi (show (nI (10 ^ k_)) * 10 = nI ((10 ^ k_) * 10) from pk_mul _ _) ?_
          refine m_istore [(5, .int (nI ((10 ^ k_) * 10))), (4, .int (nI ((ansN kd_ fg_ x_ y_ k_) + ((wrW kd_ fg_ x_ y_ k_) * (10 ^ k_))))), (0, .ref (gK G 2 0)), (1, .ref ad), (2, .int (nI (x_))), (3, .int (nI (y_))), (6, .int (nI (k_)))] (by decide) rfl dX3_workedBy_142 ?_
          refine m_iinc (nI (k_ + 1)) 6 [(6, .int (nI (k_ + 1))), (5, .int (nI ((10 ^ k_) * 10))), (4, .int (nI ((ansN kd_ fg_ x_ y_ k_) + ((wrW kd_ fg_ x_ y_ k_) * (10 ^ k_))))), (0, .ref (gK G 2 0)), (1, .ref ad), (2, .int (nI (x_))), (3, .int (nI (y_)))] rfl (nI_1 _) (by decide) rfl dX3_workedBy_144 ?_
          refine m_goto 36 dX3_workedBy_147 (by decide) ?_
          refine m_lv [(0, .ref (gK G 2 0)), (1, .ref ad), (2, .int (nI (x_))), (3, .int (nI (y_))), (4, .int (nI ((ansN kd_ fg_ x_ y_ k_) + ((wrW kd_ fg_ x_ y_ k_) * (10 ^ k_))))), (5, .int (nI ((10 ^ k_) * 10))), (6, .int (nI (k_ + 1)))] [3, 4, 5, 6, 2, 1, 0] rfl ?_
          exact ih36 (k_ + 1) Z5 (by omega) (by have q_ := (pap_up hp (by decide) (by decide) hZ5); rw [runU_ns hns] at q_; exact q_) (fun j_ hj => by rcases Nat.lt_or_ge j_ k_ with q_ | q_; exact (up3_j hZ5 (by omega) (hw_ j_ q_)); obtain rfl : k_ = j_ := (by omega); exact ((up3_e hZ5).trans ((pk_sub c6_).trans (congrArg nI (wrW_ns c6_))))) (up3_t hZ5 (by decide) (hst.trans (stkI_ns hns))) (by omega)
        ·
          have hs_ := c6_
          refine m_aload_n 0 rfl rfl dX3_workedBy_81 ?_
          refine m_dup rfl dX3_workedBy_82 ?_
          refine gf_X3_25 dX3_workedBy_83 ?_
          refine m_topi (up3_t hZ5 (by decide) hst) ?_
          refine m_iconst 1 dX3_workedBy_86 rfl ?_
          refine m_iload 6 rfl dX3_workedBy_87 ?_
          refine m_ishl dX3_workedBy_89 ?_
          refine m_ior dX3_workedBy_90 ?_
          refine pf_X3_25 dX3_workedBy_91 (fun Z7 hZ7 => ?_)
          refine m_aload_n 0 rfl rfl dX3_workedBy_94 ?_
          refine gf_X3_18 dX3_workedBy_95 ?_
          refine m_iload 6 rfl dX3_workedBy_98 ?_
          refine m_aload_n 1 rfl rfl dX3_workedBy_100 ?_
          refine m_aload_n 0 rfl rfl dX3_workedBy_101 ?_
          refine m_iload 6 rfl dX3_workedBy_102 ?_
          refine m_aload_n 0 rfl rfl dX3_workedBy_104 ?_
          refine gf_X3_9 dX3_workedBy_105 ?_
          refine m_iload 6 rfl dX3_workedBy_108 ?_
          refine al_20 k_ rfl (by omega) dX3_workedBy_110 ?_
          refine m_topi (up3_t hZ7 (by decide) (up3_t hZ5 (by decide) (hp.1 k_ hlt))) ?_
          refine m_aload_n 0 rfl rfl dX3_workedBy_111 ?_
          refine gf_X3_15 dX3_workedBy_112 ?_
          refine m_iload 6 rfl dX3_workedBy_115 ?_
          refine al_21 k_ rfl (by omega) dX3_workedBy_117 ?_
          refine m_topi (up3_t hZ7 (by decide) (up3_t hZ5 (by decide) (hp.2.1 k_ hlt))) ?_
          refine m_writes hkd hfg ha_ hlt (pap_up (pap_up hp (by decide) (by decide) hZ5) (by decide) (by decide) hZ7) hs_ ⟨Nat.le_of_ble_eq_true rfl, Nat.le_of_ble_eq_true rfl⟩ (Nat.le_of_ble_eq_true rfl) ⟨Nat.zero_le _, Nat.zero_le _⟩ dX3_workedBy_118 (fun Z8 hpZ8 hfZ8 => ?_)
          refine as_22 k_ rfl (by omega) dX3_workedBy_121 (fun Z9 hZ9 => ?_)
          refine m_iload 4 rfl dX3_workedBy_122 ?_
          refine m_aload_n 0 rfl rfl dX3_workedBy_124 ?_
          refine gf_X3_18 dX3_workedBy_125 ?_
          refine m_iload 6 rfl dX3_workedBy_128 ?_
          refine al_22 k_ rfl (by omega) dX3_workedBy_130 ?_
          refine m_topi ((up3_e hZ9).trans (congrArg nI (wrW_st hs_))) ?_
          refine m_iload 5 rfl dX3_workedBy_131 ?_
          refine m_imul dX3_workedBy_133 ?_
          refine m_topi (show (nI (wrW kd_ fg_ x_ y_ k_)) * (nI (10 ^ k_)) = nI ((wrW kd_ fg_ x_ y_ k_) * (10 ^ k_)) from pk_mul _ _) ?_
          refine m_iadd dX3_workedBy_134 ?_
          refine m_topi (show (nI (ansN kd_ fg_ x_ y_ k_)) + (nI ((wrW kd_ fg_ x_ y_ k_) * (10 ^ k_))) = nI ((ansN kd_ fg_ x_ y_ k_) + ((wrW kd_ fg_ x_ y_ k_) * (10 ^ k_))) from nI_add _ _) ?_
          refine m_istore [(4, .int (nI ((ansN kd_ fg_ x_ y_ k_) + ((wrW kd_ fg_ x_ y_ k_) * (10 ^ k_))))), (0, .ref (gK G 2 0)), (1, .ref ad), (2, .int (nI (x_))), (3, .int (nI (y_))), (5, .int (nI (10 ^ k_))), (6, .int (nI (k_)))] (by decide) rfl dX3_workedBy_135 ?_
          refine m_iload 5 rfl dX3_workedBy_137 ?_
          refine m_bipush (10) dX3_workedBy_139 rfl ?_
          refine m_imul dX3_workedBy_141 ?_
          refine m_topi (show (nI (10 ^ k_)) * 10 = nI ((10 ^ k_) * 10) from pk_mul _ _) ?_
          refine m_istore [(5, .int (nI ((10 ^ k_) * 10))), (4, .int (nI ((ansN kd_ fg_ x_ y_ k_) + ((wrW kd_ fg_ x_ y_ k_) * (10 ^ k_))))), (0, .ref (gK G 2 0)), (1, .ref ad), (2, .int (nI (x_))), (3, .int (nI (y_))), (6, .int (nI (k_)))] (by decide) rfl dX3_workedBy_142 ?_
          refine m_iinc (nI (k_ + 1)) 6 [(6, .int (nI (k_ + 1))), (5, .int (nI ((10 ^ k_) * 10))), (4, .int (nI ((ansN kd_ fg_ x_ y_ k_) + ((wrW kd_ fg_ x_ y_ k_) * (10 ^ k_))))), (0, .ref (gK G 2 0)), (1, .ref ad), (2, .int (nI (x_))), (3, .int (nI (y_)))] rfl (nI_1 _) (by decide) rfl dX3_workedBy_144 ?_
          refine m_goto 36 dX3_workedBy_147 (by decide) ?_
          refine m_lv [(0, .ref (gK G 2 0)), (1, .ref ad), (2, .int (nI (x_))), (3, .int (nI (y_))), (4, .int (nI ((ansN kd_ fg_ x_ y_ k_) + ((wrW kd_ fg_ x_ y_ k_) * (10 ^ k_))))), (5, .int (nI ((10 ^ k_) * 10))), (6, .int (nI (k_ + 1)))] [3, 4, 5, 6, 2, 1, 0] rfl ?_
          exact ih36 (k_ + 1) Z9 (by omega) (by have q_ := (pap_up hpZ8 (by decide) (by decide) hZ9); rw [runU_st hs_] at q_; exact q_) (fun j_ hj => by rcases Nat.lt_or_ge j_ k_ with q_ | q_; exact (up3_j hZ9 (by omega) ((hfZ8 _ _ _ (by decide)).trans (up3_t hZ7 (by decide) (up3_j hZ5 (by omega) (hw_ j_ q_))))); obtain rfl : k_ = j_ := (by omega); exact ((up3_e hZ9).trans (congrArg nI (wrW_st hs_)))) (up3_t hZ9 (by decide) ((hfZ8 _ _ _ (by decide)).trans ((up3_e hZ7).trans (stkI_st hs_)))) (by omega)
  refine m_lv [(0, .ref (gK G 2 0)), (1, .ref ad), (2, .int (nI (x_))), (3, .int (nI (y_))), (4, .int 0), (5, .int 1), (6, .int 0)] [3, 4, 5, 6, 2, 1, 0] rfl ?_
  exact lp36 ((4 - 0) + 1) 0 Z3 (by omega) ⟨fun j_ hj => (up3_t hZ3 (by decide) ((hfZ2 _ _ _ (by decide)).trans (hdZ1 j_ hj))), fun j_ hj => (up3_t hZ3 (by decide) (hdZ2 j_ hj)), fun j_ hj => dg_le x_ j_, fun j_ hj => dg_le y_ j_⟩ (fun j_ hj => absurd hj (Nat.not_lt_zero j_)) (up3_e hZ3) (Nat.lt_succ_self _)
set_option maxRecDepth 100000 in
set_option maxHeartbeats 4000000 in
theorem k_workedByN (l : Launch) (G : owG) {A S Z B T V : owF} {J : Nat → Nat → Int64} {Y : Nat → Nat → Nat → Option Nat} {P : Nat → Option owW} (a_ b_ : Int32) : Ct l G yX3_workedBy cX3_workedBy 7 ((some .int)) 0 0 0 [.ref (gK G 2 0), .null, .int a_, .int b_] (A, S, Z, B, T, V, J, Y, P) (qI (fun r_ σ => r_ = -1 ∧ σ = (A, S, Z, B, T, V, J, Y, P))) := by
  refine ct_of (by decide +kernel) (Nat.le_of_ble_eq_true rfl) ?_
  show Wm l G cX3_workedBy 7 RX3 ((some .int)) (rmk 0 0 0) (fun _ => True) (QfM G (qI (fun r_ σ => r_ = -1 ∧ σ = (A, S, Z, B, T, V, J, Y, P))) 0 0) 0 [(0, .ref (gK G 2 0)), (1, .null), (2, .int a_), (3, .int b_)] [] (A, S, Z, B, T, V, J, Y, P) 0 0
  refine m_aload_nN 1 rfl rfl dX3_workedBy_0 ?_
  refine m_ifnonnullN dX3_workedBy_1 ?_
  refine m_iconst (-1) dX3_workedBy_4 rfl ?_
  exact m_iret dX3_workedBy_5 (Nat.le_refl _) (Nat.le_refl _) (⟨rfl, rfl⟩)
