set_option maxRecDepth 100000 in
set_option maxHeartbeats 4000000 in
theorem k_isSum (l : Launch) (G : owG) {A S Z B T V : owF} {J : Nat → Nat → Int64} {Y : Nat → Nat → Nat → Option Nat} {P : Nat → Option owW} (a b : Int32) : Ct l G yX11_isSum cX11_isSum 2 ((some .boolean)) 0 0 0 [.int a, .int b] (A, S, Z, B, T, V, J, Y, P) (qI (fun x σ => x = bI (isSumB a b) ∧ σ = (A, S, Z, B, T, V, J, Y, P))) := by
  refine ct_of (by decide +kernel) (Nat.le_of_ble_eq_true rfl) ?_
  show Wm l G cX11_isSum 2 RX11 ((some .boolean)) (rmk 0 0 0) (fun _ => True) (QfM G (qI (fun x σ => x = bI (isSumB a b) ∧ σ = (A, S, Z, B, T, V, J, Y, P))) 0 0) 0 [(0, .int a), (1, .int b)] [] (A, S, Z, B, T, V, J, Y, P) 0 0
  refine m_iload_n 1 rfl rfl dX11_isSum_0 ?_
  refine m_if_lt 20 dX11_isSum_1 (by decide) (fun c1 => ?_) (fun c1 => ?_)
  ·
    refine m_iconst 0 dX11_isSum_20 rfl ?_
    exact m_zret dX11_isSum_21 (Nat.le_refl _) (Nat.le_refl _) nar0 (⟨by grind [isSumB, is01, isAnsB, amongB, bI], rfl⟩)
  ·
    refine m_iload_n 1 rfl rfl dX11_isSum_4 ?_
    refine m_iload_n 0 rfl rfl dX11_isSum_5 ?_
    refine m_icmp_gt 20 dX11_isSum_6 (by decide) (fun c2 => ?_) (fun c2 => ?_)
    ·
      refine m_iconst 0 dX11_isSum_20 rfl ?_
      exact m_zret dX11_isSum_21 (Nat.le_refl _) (Nat.le_refl _) nar0 (⟨by grind [isSumB, is01, isAnsB, amongB, bI], rfl⟩)
    ·
      refine m_iload_n 0 rfl rfl dX11_isSum_9 ?_
      refine m_sipush (9999) dX11_isSum_10 rfl ?_
      refine m_icmp_gt 20 dX11_isSum_13 (by decide) (fun c3 => ?_) (fun c3 => ?_)
      ·
        refine m_iconst 0 dX11_isSum_20 rfl ?_
        exact m_zret dX11_isSum_21 (Nat.le_refl _) (Nat.le_refl _) nar0 (⟨by grind [isSumB, is01, isAnsB, amongB, bI], rfl⟩)
      ·
        refine m_iconst 1 dX11_isSum_16 rfl ?_
        refine m_goto 21 dX11_isSum_17 (by decide) ?_
        exact m_zret dX11_isSum_21 (Nat.le_refl _) (Nat.le_refl _) nar1 (⟨by grind [isSumB, is01, isAnsB, amongB, bI], rfl⟩)
set_option maxRecDepth 100000 in
set_option maxHeartbeats 4000000 in
theorem k_is01 (l : Launch) (G : owG) {A S Z B T V : owF} {J : Nat → Nat → Int64} {Y : Nat → Nat → Nat → Option Nat} {P : Nat → Option owW} (a : Int32) : Ct l G yX11_isZeroOrOne cX11_isZeroOrOne 1 ((some .boolean)) 0 0 0 [.int a] (A, S, Z, B, T, V, J, Y, P) (qI (fun x σ => x = bI (is01 a) ∧ σ = (A, S, Z, B, T, V, J, Y, P))) := by
  refine ct_of (by decide +kernel) (Nat.le_of_ble_eq_true rfl) ?_
  show Wm l G cX11_isZeroOrOne 1 RX11 ((some .boolean)) (rmk 0 0 0) (fun _ => True) (QfM G (qI (fun x σ => x = bI (is01 a) ∧ σ = (A, S, Z, B, T, V, J, Y, P))) 0 0) 0 [(0, .int a)] [] (A, S, Z, B, T, V, J, Y, P) 0 0
  refine m_iload_n 0 rfl rfl dX11_isZeroOrOne_0 ?_
  refine m_if_eq 9 dX11_isZeroOrOne_1 (by decide) (fun c1 => ?_) (fun c1 => ?_)
  ·
    refine m_iconst 1 dX11_isZeroOrOne_9 rfl ?_
    refine m_goto 14 dX11_isZeroOrOne_10 (by decide) ?_
    exact m_zret dX11_isZeroOrOne_14 (Nat.le_refl _) (Nat.le_refl _) nar1 (⟨by grind [isSumB, is01, isAnsB, amongB, bI], rfl⟩)
  ·
    refine m_iload_n 0 rfl rfl dX11_isZeroOrOne_4 ?_
    refine m_iconst 1 dX11_isZeroOrOne_5 rfl ?_
    refine m_icmp_ne 13 dX11_isZeroOrOne_6 (by decide) (fun c2 => ?_) (fun c2 => ?_)
    ·
      refine m_iconst 0 dX11_isZeroOrOne_13 rfl ?_
      exact m_zret dX11_isZeroOrOne_14 (Nat.le_refl _) (Nat.le_refl _) nar0 (⟨by grind [isSumB, is01, isAnsB, amongB, bI], rfl⟩)
    ·
      refine m_iconst 1 dX11_isZeroOrOne_9 rfl ?_
      refine m_goto 14 dX11_isZeroOrOne_10 (by decide) ?_
      exact m_zret dX11_isZeroOrOne_14 (Nat.le_refl _) (Nat.le_refl _) nar1 (⟨by grind [isSumB, is01, isAnsB, amongB, bI], rfl⟩)
set_option maxRecDepth 100000 in
set_option maxHeartbeats 4000000 in
theorem k_isAns (l : Launch) (G : owG) {A S Z B T V : owF} {J : Nat → Nat → Int64} {Y : Nat → Nat → Nat → Option Nat} {P : Nat → Option owW} (a : Int32) : Ct l G yX11_isAnswer cX11_isAnswer 1 ((some .boolean)) 0 0 0 [.int a] (A, S, Z, B, T, V, J, Y, P) (qI (fun x σ => x = bI (isAnsB a) ∧ σ = (A, S, Z, B, T, V, J, Y, P))) := by
  refine ct_of (by decide +kernel) (Nat.le_of_ble_eq_true rfl) ?_
  show Wm l G cX11_isAnswer 1 RX11 ((some .boolean)) (rmk 0 0 0) (fun _ => True) (QfM G (qI (fun x σ => x = bI (isAnsB a) ∧ σ = (A, S, Z, B, T, V, J, Y, P))) 0 0) 0 [(0, .int a)] [] (A, S, Z, B, T, V, J, Y, P) 0 0
  refine m_iload_n 0 rfl rfl dX11_isAnswer_0 ?_
  refine m_if_lt 15 dX11_isAnswer_1 (by decide) (fun c1 => ?_) (fun c1 => ?_)
  ·
    refine m_iconst 0 dX11_isAnswer_15 rfl ?_
    exact m_zret dX11_isAnswer_16 (Nat.le_refl _) (Nat.le_refl _) nar0 (⟨by grind [isSumB, is01, isAnsB, amongB, bI], rfl⟩)
  ·
    refine m_iload_n 0 rfl rfl dX11_isAnswer_4 ?_
    refine m_sipush (9999) dX11_isAnswer_5 rfl ?_
    refine m_icmp_gt 15 dX11_isAnswer_8 (by decide) (fun c2 => ?_) (fun c2 => ?_)
    ·
      refine m_iconst 0 dX11_isAnswer_15 rfl ?_
      exact m_zret dX11_isAnswer_16 (Nat.le_refl _) (Nat.le_refl _) nar0 (⟨by grind [isSumB, is01, isAnsB, amongB, bI], rfl⟩)
    ·
      refine m_iconst 1 dX11_isAnswer_11 rfl ?_
      refine m_goto 16 dX11_isAnswer_12 (by decide) ?_
      exact m_zret dX11_isAnswer_16 (Nat.le_refl _) (Nat.le_refl _) nar1 (⟨by grind [isSumB, is01, isAnsB, amongB, bI], rfl⟩)
set_option maxRecDepth 100000 in
set_option maxHeartbeats 4000000 in
theorem k_among (l : Launch) (G : owG) {A S Z B T V : owF} {J : Nat → Nat → Int64} {Y : Nat → Nat → Nat → Option Nat} {P : Nat → Option owW} (a b : Int32) : Ct l G yX11_isAmong cX11_isAmong 2 ((some .boolean)) 0 0 0 [.int a, .int b] (A, S, Z, B, T, V, J, Y, P) (qI (fun x σ => x = bI (amongB a b) ∧ σ = (A, S, Z, B, T, V, J, Y, P))) := by
  refine ct_of (by decide +kernel) (Nat.le_of_ble_eq_true rfl) ?_
  show Wm l G cX11_isAmong 2 RX11 ((some .boolean)) (rmk 0 0 0) (fun _ => True) (QfM G (qI (fun x σ => x = bI (amongB a b) ∧ σ = (A, S, Z, B, T, V, J, Y, P))) 0 0) 0 [(0, .int a), (1, .int b)] [] (A, S, Z, B, T, V, J, Y, P) 0 0
  refine m_iload_n 0 rfl rfl dX11_isAmong_0 ?_
  refine m_iload_n 1 rfl rfl dX11_isAmong_1 ?_
  refine m_ishr dX11_isAmong_2 ?_
  refine m_iconst 1 dX11_isAmong_3 rfl ?_
  refine m_iand dX11_isAmong_4 ?_
  refine m_iconst 1 dX11_isAmong_5 rfl ?_
  refine m_icmp_ne 13 dX11_isAmong_6 (by decide) (fun c1 => ?_) (fun c1 => ?_)
  ·
    refine m_iconst 0 dX11_isAmong_13 rfl ?_
    exact m_zret dX11_isAmong_14 (Nat.le_refl _) (Nat.le_refl _) nar0 (⟨by grind [isSumB, is01, isAnsB, amongB, bI], rfl⟩)
  ·
    refine m_iconst 1 dX11_isAmong_9 rfl ?_
    refine m_goto 14 dX11_isAmong_10 (by decide) ?_
    exact m_zret dX11_isAmong_14 (Nat.le_refl _) (Nat.le_refl _) nar1 (⟨by grind [isSumB, is01, isAnsB, amongB, bI], rfl⟩)
set_option maxRecDepth 100000 in
set_option maxHeartbeats 4000000 in
theorem k_layOut_20 (l : Launch) (G : owG) {A S Z B T V : owF} {J : Nat → Nat → Int64} {Y : Nat → Nat → Nat → Option Nat} {P : Nat → Option owW} (x : Nat) (hx : x ≤ 9999) : Ct l G yX3_layOut cX3_layOut 4 ((none : Option Jvm.ClassFile.FieldType)) 0 0 0 [.ref (gK G 20 0), .int (nI (x))] (A, S, Z, B, T, V, J, Y, P) (qV (fun σ => ∃ Z2 : owF, σ = (A, S, Z2, B, T, V, J, Y, P) ∧ (∀ j, j < 4 → Z2 20 0 j = nI (dg x j)) ∧ zfr 20 Z Z2)) := by
  refine ct_of (by decide +kernel) (Nat.le_of_ble_eq_true rfl) ?_
  show Wm l G cX3_layOut 4 RX3 ((none : Option Jvm.ClassFile.FieldType)) (rmk 0 0 0) (fun _ => True) (QfM G (qV (fun σ => ∃ Z2 : owF, σ = (A, S, Z2, B, T, V, J, Y, P) ∧ (∀ j, j < 4 → Z2 20 0 j = nI (dg x j)) ∧ zfr 20 Z Z2)) 0 0) 0 [(0, .ref (gK G 20 0)), (1, .int (nI (x)))] [] (A, S, Z, B, T, V, J, Y, P) 0 0
  refine m_iload_n 1 rfl rfl dX3_layOut_0 ?_
  refine m_istore_n [(2, .int (nI (x))), (0, .ref (gK G 20 0)), (1, .int (nI (x)))] rfl (by decide) rfl dX3_layOut_1 ?_
  refine m_iconst 0 dX3_layOut_2 rfl ?_
  refine m_istore_n [(3, .int 0), (2, .int (nI (x))), (0, .ref (gK G 20 0)), (1, .int (nI (x)))] rfl (by decide) rfl dX3_layOut_3 ?_
  refine m_iload_n 0 rfl rfl dX3_layOut_4 ?_
  refine m_aload_n 2 rfl rfl dX3_layOut_5 ?_
  refine ln_20 dX3_layOut_6 ?_
  refine m_icmp_ge 28 dX3_layOut_7 (by decide) (fun c1 => absurd c1 (by decide)) (fun _ => ?_)
  refine m_aload_n 2 rfl rfl dX3_layOut_10 ?_
  refine m_iload_n 0 rfl rfl dX3_layOut_11 ?_
  refine m_iload_n 1 rfl rfl dX3_layOut_12 ?_
  refine m_bipush (10) dX3_layOut_13 rfl ?_
  refine m_irem (by decide) dX3_layOut_15 ?_
  refine m_topi (show (nI (x)) - (nI (x)) / 10 * 10 = nI (x % 10) from pk_rem (by omega) (by decide) (by decide)) ?_
  refine as_20 0 rfl (by omega) dX3_layOut_16 (fun Z2 hZ2 => ?_)
  refine m_iload_n 1 rfl rfl dX3_layOut_17 ?_
  refine m_bipush (10) dX3_layOut_18 rfl ?_
  refine m_idiv (by decide) dX3_layOut_20 ?_
  refine m_topi (show (nI (x)) / 10 = nI (x / 10) from pk_div (by omega) (by decide) (by decide)) ?_
  refine m_istore_n [(2, .int (nI (x / 10))), (3, .int 0), (0, .ref (gK G 20 0)), (1, .int (nI (x)))] rfl (by decide) rfl dX3_layOut_21 ?_
  refine m_iinc (1) 1 [(3, .int 1), (2, .int (nI (x / 10))), (0, .ref (gK G 20 0)), (1, .int (nI (x)))] rfl rfl (by decide) rfl dX3_layOut_22 ?_
  refine m_goto 4 dX3_layOut_25 (by decide) ?_
  refine m_iload_n 0 rfl rfl dX3_layOut_4 ?_
  refine m_aload_n 2 rfl rfl dX3_layOut_5 ?_
  refine ln_20 dX3_layOut_6 ?_
  refine m_icmp_ge 28 dX3_layOut_7 (by decide) (fun c3 => absurd c3 (by decide)) (fun _ => ?_)
  refine m_aload_n 2 rfl rfl dX3_layOut_10 ?_
  refine m_iload_n 0 rfl rfl dX3_layOut_11 ?_
  refine m_iload_n 1 rfl rfl dX3_layOut_12 ?_
  refine m_bipush (10) dX3_layOut_13 rfl ?_
  refine m_irem (by decide) dX3_layOut_15 ?_
  refine m_topi (show (nI (x / 10)) - (nI (x / 10)) / 10 * 10 = nI ((x / 10) % 10) from pk_rem (by omega) (by decide) (by decide)) ?_
  refine as_20 1 rfl (by omega) dX3_layOut_16 (fun Z4 hZ4 => ?_)
  refine m_iload_n 1 rfl rfl dX3_layOut_17 ?_
  refine m_bipush (10) dX3_layOut_18 rfl ?_
  refine m_idiv (by decide) dX3_layOut_20 ?_
  refine m_topi (show (nI (x / 10)) / 10 = nI ((x / 10) / 10) from pk_div (by omega) (by decide) (by decide)) ?_
  refine m_istore_n [(2, .int (nI ((x / 10) / 10))), (3, .int 1), (0, .ref (gK G 20 0)), (1, .int (nI (x)))] rfl (by decide) rfl dX3_layOut_21 ?_
  refine m_iinc (2) 1 [(3, .int 2), (2, .int (nI ((x / 10) / 10))), (0, .ref (gK G 20 0)), (1, .int (nI (x)))] rfl rfl (by decide) rfl dX3_layOut_22 ?_
  refine m_goto 4 dX3_layOut_25 (by decide) ?_
  refine m_iload_n 0 rfl rfl dX3_layOut_4 ?_
  refine m_aload_n 2 rfl rfl dX3_layOut_5 ?_
  refine ln_20 dX3_layOut_6 ?_
  refine m_icmp_ge 28 dX3_layOut_7 (by decide) (fun c5 => absurd c5 (by decide)) (fun _ => ?_)
  refine m_aload_n 2 rfl rfl dX3_layOut_10 ?_
  refine m_iload_n 0 rfl rfl dX3_layOut_11 ?_
  refine m_iload_n 1 rfl rfl dX3_layOut_12 ?_
  refine m_bipush (10) dX3_layOut_13 rfl ?_
  refine m_irem (by decide) dX3_layOut_15 ?_
  refine m_topi (show (nI ((x / 10) / 10)) - (nI ((x / 10) / 10)) / 10 * 10 = nI (((x / 10) / 10) % 10) from pk_rem (by omega) (by decide) (by decide)) ?_
  refine as_20 2 rfl (by omega) dX3_layOut_16 (fun Z6 hZ6 => ?_)
  refine m_iload_n 1 rfl rfl dX3_layOut_17 ?_
  refine m_bipush (10) dX3_layOut_18 rfl ?_
  refine m_idiv (by decide) dX3_layOut_20 ?_
  refine m_topi (show (nI ((x / 10) / 10)) / 10 = nI (((x / 10) / 10) / 10) from pk_div (by omega) (by decide) (by decide)) ?_
  refine m_istore_n [(2, .int (nI (((x / 10) / 10) / 10))), (3, .int 2), (0, .ref (gK G 20 0)), (1, .int (nI (x)))] rfl (by decide) rfl dX3_layOut_21 ?_
  refine m_iinc (3) 1 [(3, .int 3), (2, .int (nI (((x / 10) / 10) / 10))), (0, .ref (gK G 20 0)), (1, .int (nI (x)))] rfl rfl (by decide) rfl dX3_layOut_22 ?_
  refine m_goto 4 dX3_layOut_25 (by decide) ?_
  refine m_iload_n 0 rfl rfl dX3_layOut_4 ?_
  refine m_aload_n 2 rfl rfl dX3_layOut_5 ?_
  refine ln_20 dX3_layOut_6 ?_
  refine m_icmp_ge 28 dX3_layOut_7 (by decide) (fun c7 => absurd c7 (by decide)) (fun _ => ?_)
  refine m_aload_n 2 rfl rfl dX3_layOut_10 ?_
  refine m_iload_n 0 rfl rfl dX3_layOut_11 ?_
  refine m_iload_n 1 rfl rfl dX3_layOut_12 ?_
  refine m_bipush (10) dX3_layOut_13 rfl ?_
  refine m_irem (by decide) dX3_layOut_15 ?_
  refine m_topi (show (nI (((x / 10) / 10) / 10)) - (nI (((x / 10) / 10) / 10)) / 10 * 10 = nI ((((x / 10) / 10) / 10) % 10) from pk_rem (by omega) (by decide) (by decide)) ?_
  refine as_20 3 rfl (by omega) dX3_layOut_16 (fun Z8 hZ8 => ?_)
  refine m_iload_n 1 rfl rfl dX3_layOut_17 ?_
  refine m_bipush (10) dX3_layOut_18 rfl ?_
  refine m_idiv (by decide) dX3_layOut_20 ?_
  refine m_topi (show (nI (((x / 10) / 10) / 10)) / 10 = nI ((((x / 10) / 10) / 10) / 10) from pk_div (by omega) (by decide) (by decide)) ?_
  refine m_istore_n [(2, .int (nI ((((x / 10) / 10) / 10) / 10))), (3, .int 3), (0, .ref (gK G 20 0)), (1, .int (nI (x)))] rfl (by decide) rfl dX3_layOut_21 ?_
  refine m_iinc (4) 1 [(3, .int 4), (2, .int (nI ((((x / 10) / 10) / 10) / 10))), (0, .ref (gK G 20 0)), (1, .int (nI (x)))] rfl rfl (by decide) rfl dX3_layOut_22 ?_
  refine m_goto 4 dX3_layOut_25 (by decide) ?_
  refine m_iload_n 0 rfl rfl dX3_layOut_4 ?_
  refine m_aload_n 2 rfl rfl dX3_layOut_5 ?_
  refine ln_20 dX3_layOut_6 ?_
  refine m_icmp_ge 28 dX3_layOut_7 (by decide) (fun _ => ?_) (fun c9 => absurd c9 (by decide))
  exact m_vret dX3_layOut_28 (Nat.le_refl _) (Nat.le_refl _) (⟨Z8, rfl, lt4 (p := fun j => Z8 20 0 j = nI (dg x j)) ((up3_j hZ8 (by decide) (up3_j hZ6 (by decide) (up3_j hZ4 (by decide) (up3_e hZ2)))).trans (congrArg nI (show x % 10 = dg x 0 by (simp only [dg]) <;> omega))) ((up3_j hZ8 (by decide) (up3_j hZ6 (by decide) (up3_e hZ4))).trans (congrArg nI (show (x / 10) % 10 = dg x 1 by (simp only [dg]) <;> omega))) ((up3_j hZ8 (by decide) (up3_e hZ6)).trans (congrArg nI (show ((x / 10) / 10) % 10 = dg x 2 by (simp only [dg]) <;> omega))) ((up3_e hZ8).trans (congrArg nI (show (((x / 10) / 10) / 10) % 10 = dg x 3 by (simp only [dg]) <;> omega))), (zfr_up (zfr_up (zfr_up (zfr_up zfr_rf hZ2) hZ4) hZ6) hZ8)⟩)
set_option maxRecDepth 100000 in
set_option maxHeartbeats 4000000 in
theorem k_layOut_21 (l : Launch) (G : owG) {A S Z B T V : owF} {J : Nat → Nat → Int64} {Y : Nat → Nat → Nat → Option Nat} {P : Nat → Option owW} (x : Nat) (hx : x ≤ 9999) : Ct l G yX3_layOut cX3_layOut 4 ((none : Option Jvm.ClassFile.FieldType)) 0 0 0 [.ref (gK G 21 0), .int (nI (x))] (A, S, Z, B, T, V, J, Y, P) (qV (fun σ => ∃ Z2 : owF, σ = (A, S, Z2, B, T, V, J, Y, P) ∧ (∀ j, j < 4 → Z2 21 0 j = nI (dg x j)) ∧ zfr 21 Z Z2)) := by
  refine ct_of (by decide +kernel) (Nat.le_of_ble_eq_true rfl) ?_
  show Wm l G cX3_layOut 4 RX3 ((none : Option Jvm.ClassFile.FieldType)) (rmk 0 0 0) (fun _ => True) (QfM G (qV (fun σ => ∃ Z2 : owF, σ = (A, S, Z2, B, T, V, J, Y, P) ∧ (∀ j, j < 4 → Z2 21 0 j = nI (dg x j)) ∧ zfr 21 Z Z2)) 0 0) 0 [(0, .ref (gK G 21 0)), (1, .int (nI (x)))] [] (A, S, Z, B, T, V, J, Y, P) 0 0
  refine m_iload_n 1 rfl rfl dX3_layOut_0 ?_
  refine m_istore_n [(2, .int (nI (x))), (0, .ref (gK G 21 0)), (1, .int (nI (x)))] rfl (by decide) rfl dX3_layOut_1 ?_
  refine m_iconst 0 dX3_layOut_2 rfl ?_
  refine m_istore_n [(3, .int 0), (2, .int (nI (x))), (0, .ref (gK G 21 0)), (1, .int (nI (x)))] rfl (by decide) rfl dX3_layOut_3 ?_
  refine m_iload_n 0 rfl rfl dX3_layOut_4 ?_
  refine m_aload_n 2 rfl rfl dX3_layOut_5 ?_
  refine ln_21 dX3_layOut_6 ?_
  refine m_icmp_ge 28 dX3_layOut_7 (by decide) (fun c1 => absurd c1 (by decide)) (fun _ => ?_)
  refine m_aload_n 2 rfl rfl dX3_layOut_10 ?_
  refine m_iload_n 0 rfl rfl dX3_layOut_11 ?_
  refine m_iload_n 1 rfl rfl dX3_layOut_12 ?_
  refine m_bipush (10) dX3_layOut_13 rfl ?_
  refine m_irem (by decide) dX3_layOut_15 ?_
  refine m_topi (show (nI (x)) - (nI (x)) / 10 * 10 = nI (x % 10) from pk_rem (by omega) (by decide) (by decide)) ?_
  refine as_21 0 rfl (by omega) dX3_layOut_16 (fun Z2 hZ2 => ?_)
  refine m_iload_n 1 rfl rfl dX3_layOut_17 ?_
  refine m_bipush (10) dX3_layOut_18 rfl ?_
  refine m_idiv (by decide) dX3_layOut_20 ?_
  refine m_topi (show (nI (x)) / 10 = nI (x / 10) from pk_div (by omega) (by decide) (by decide)) ?_
  refine m_istore_n [(2, .int (nI (x / 10))), (3, .int 0), (0, .ref (gK G 21 0)), (1, .int (nI (x)))] rfl (by decide) rfl dX3_layOut_21 ?_
  refine m_iinc (1) 1 [(3, .int 1), (2, .int (nI (x / 10))), (0, .ref (gK G 21 0)), (1, .int (nI (x)))] rfl rfl (by decide) rfl dX3_layOut_22 ?_
  refine m_goto 4 dX3_layOut_25 (by decide) ?_
  refine m_iload_n 0 rfl rfl dX3_layOut_4 ?_
  refine m_aload_n 2 rfl rfl dX3_layOut_5 ?_
  refine ln_21 dX3_layOut_6 ?_
  refine m_icmp_ge 28 dX3_layOut_7 (by decide) (fun c3 => absurd c3 (by decide)) (fun _ => ?_)
  refine m_aload_n 2 rfl rfl dX3_layOut_10 ?_
  refine m_iload_n 0 rfl rfl dX3_layOut_11 ?_
  refine m_iload_n 1 rfl rfl dX3_layOut_12 ?_
  refine m_bipush (10) dX3_layOut_13 rfl ?_
  refine m_irem (by decide) dX3_layOut_15 ?_
  refine m_topi (show (nI (x / 10)) - (nI (x / 10)) / 10 * 10 = nI ((x / 10) % 10) from pk_rem (by omega) (by decide) (by decide)) ?_
  refine as_21 1 rfl (by omega) dX3_layOut_16 (fun Z4 hZ4 => ?_)
  refine m_iload_n 1 rfl rfl dX3_layOut_17 ?_
  refine m_bipush (10) dX3_layOut_18 rfl ?_
  refine m_idiv (by decide) dX3_layOut_20 ?_
  refine m_topi (show (nI (x / 10)) / 10 = nI ((x / 10) / 10) from pk_div (by omega) (by decide) (by decide)) ?_
  refine m_istore_n [(2, .int (nI ((x / 10) / 10))), (3, .int 1), (0, .ref (gK G 21 0)), (1, .int (nI (x)))] rfl (by decide) rfl dX3_layOut_21 ?_
  refine m_iinc (2) 1 [(3, .int 2), (2, .int (nI ((x / 10) / 10))), (0, .ref (gK G 21 0)), (1, .int (nI (x)))] rfl rfl (by decide) rfl dX3_layOut_22 ?_
  refine m_goto 4 dX3_layOut_25 (by decide) ?_
  refine m_iload_n 0 rfl rfl dX3_layOut_4 ?_
  refine m_aload_n 2 rfl rfl dX3_layOut_5 ?_
  refine ln_21 dX3_layOut_6 ?_
  refine m_icmp_ge 28 dX3_layOut_7 (by decide) (fun c5 => absurd c5 (by decide)) (fun _ => ?_)
  refine m_aload_n 2 rfl rfl dX3_layOut_10 ?_
  refine m_iload_n 0 rfl rfl dX3_layOut_11 ?_
  refine m_iload_n 1 rfl rfl dX3_layOut_12 ?_
  refine m_bipush (10) dX3_layOut_13 rfl ?_
  refine m_irem (by decide) dX3_layOut_15 ?_
  refine m_topi (show (nI ((x / 10) / 10)) - (nI ((x / 10) / 10)) / 10 * 10 = nI (((x / 10) / 10) % 10) from pk_rem (by omega) (by decide) (by decide)) ?_
  refine as_21 2 rfl (by omega) dX3_layOut_16 (fun Z6 hZ6 => ?_)
  refine m_iload_n 1 rfl rfl dX3_layOut_17 ?_
  refine m_bipush (10) dX3_layOut_18 rfl ?_
  refine m_idiv (by decide) dX3_layOut_20 ?_
  refine m_topi (show (nI ((x / 10) / 10)) / 10 = nI (((x / 10) / 10) / 10) from pk_div (by omega) (by decide) (by decide)) ?_
  refine m_istore_n [(2, .int (nI (((x / 10) / 10) / 10))), (3, .int 2), (0, .ref (gK G 21 0)), (1, .int (nI (x)))] rfl (by decide) rfl dX3_layOut_21 ?_
  refine m_iinc (3) 1 [(3, .int 3), (2, .int (nI (((x / 10) / 10) / 10))), (0, .ref (gK G 21 0)), (1, .int (nI (x)))] rfl rfl (by decide) rfl dX3_layOut_22 ?_
  refine m_goto 4 dX3_layOut_25 (by decide) ?_
  refine m_iload_n 0 rfl rfl dX3_layOut_4 ?_
  refine m_aload_n 2 rfl rfl dX3_layOut_5 ?_
  refine ln_21 dX3_layOut_6 ?_
  refine m_icmp_ge 28 dX3_layOut_7 (by decide) (fun c7 => absurd c7 (by decide)) (fun _ => ?_)
  refine m_aload_n 2 rfl rfl dX3_layOut_10 ?_
  refine m_iload_n 0 rfl rfl dX3_layOut_11 ?_
  refine m_iload_n 1 rfl rfl dX3_layOut_12 ?_
  refine m_bipush (10) dX3_layOut_13 rfl ?_
  refine m_irem (by decide) dX3_layOut_15 ?_
  refine m_topi (show (nI (((x / 10) / 10) / 10)) - (nI (((x / 10) / 10) / 10)) / 10 * 10 = nI ((((x / 10) / 10) / 10) % 10) from pk_rem (by omega) (by decide) (by decide)) ?_
  refine as_21 3 rfl (by omega) dX3_layOut_16 (fun Z8 hZ8 => ?_)
  refine m_iload_n 1 rfl rfl dX3_layOut_17 ?_
  refine m_bipush (10) dX3_layOut_18 rfl ?_
  refine m_idiv (by decide) dX3_layOut_20 ?_
  refine m_topi (show (nI (((x / 10) / 10) / 10)) / 10 = nI ((((x / 10) / 10) / 10) / 10) from pk_div (by omega) (by decide) (by decide)) ?_
  refine m_istore_n [(2, .int (nI ((((x / 10) / 10) / 10) / 10))), (3, .int 3), (0, .ref (gK G 21 0)), (1, .int (nI (x)))] rfl (by decide) rfl dX3_layOut_21 ?_
  refine m_iinc (4) 1 [(3, .int 4), (2, .int (nI ((((x / 10) / 10) / 10) / 10))), (0, .ref (gK G 21 0)), (1, .int (nI (x)))] rfl rfl (by decide) rfl dX3_layOut_22 ?_
  refine m_goto 4 dX3_layOut_25 (by decide) ?_
  refine m_iload_n 0 rfl rfl dX3_layOut_4 ?_
  refine m_aload_n 2 rfl rfl dX3_layOut_5 ?_
  refine ln_21 dX3_layOut_6 ?_
  refine m_icmp_ge 28 dX3_layOut_7 (by decide) (fun _ => ?_) (fun c9 => absurd c9 (by decide))
  exact m_vret dX3_layOut_28 (Nat.le_refl _) (Nat.le_refl _) (⟨Z8, rfl, lt4 (p := fun j => Z8 21 0 j = nI (dg x j)) ((up3_j hZ8 (by decide) (up3_j hZ6 (by decide) (up3_j hZ4 (by decide) (up3_e hZ2)))).trans (congrArg nI (show x % 10 = dg x 0 by (simp only [dg]) <;> omega))) ((up3_j hZ8 (by decide) (up3_j hZ6 (by decide) (up3_e hZ4))).trans (congrArg nI (show (x / 10) % 10 = dg x 1 by (simp only [dg]) <;> omega))) ((up3_j hZ8 (by decide) (up3_e hZ6)).trans (congrArg nI (show ((x / 10) / 10) % 10 = dg x 2 by (simp only [dg]) <;> omega))) ((up3_e hZ8).trans (congrArg nI (show (((x / 10) / 10) / 10) % 10 = dg x 3 by (simp only [dg]) <;> omega))), (zfr_up (zfr_up (zfr_up (zfr_up zfr_rf hZ2) hZ4) hZ6) hZ8)⟩)
set_option maxRecDepth 100000 in
set_option maxHeartbeats 4000000 in
theorem k_borrowed_0_0 (l : Launch) (G : owG) {A S Z B T V : owF} {J : Nat → Nat → Int64} {Y : Nat → Nat → Nat → Option Nat} {P : Nat → Option owW} (U L : Nat → Nat) (hp : pap Z U L) : Ct l G yX3_borrowed cX3_borrowed 5 ((some .int)) 0 0 0 [.ref (gK G 2 0), .int 0, .int 0] (A, S, Z, B, T, V, J, Y, P) (qI (fun x σ => x = nI (byB false U L 0).1 ∧ ∃ Z2 : owF, σ = (A, S, Z2, B, T, V, J, Y, P) ∧ pap Z2 (byB false U L 0).2 L ∧ zfr 20 Z Z2)) := by
  refine ct_of (by decide +kernel) (Nat.le_of_ble_eq_true rfl) ?_
  have hu0 := hp.2.2.1 0 (by decide)
  have hu1 := hp.2.2.1 1 (by decide)
  have hu2 := hp.2.2.1 2 (by decide)
  have hu3 := hp.2.2.1 3 (by decide)
  have hl0 := hp.2.2.2 0 (by decide)
  show Wm l G cX3_borrowed 5 RX3 ((some .int)) (rmk 0 0 0) (fun _ => True) (QfM G (qI (fun x σ => x = nI (byB false U L 0).1 ∧ ∃ Z2 : owF, σ = (A, S, Z2, B, T, V, J, Y, P) ∧ pap Z2 (byB false U L 0).2 L ∧ zfr 20 Z Z2)) 0 0) 0 [(0, .ref (gK G 2 0)), (1, .int 0), (2, .int 0)] [] (A, S, Z, B, T, V, J, Y, P) 0 0
  refine m_iload_n 1 rfl rfl dX3_borrowed_0 ?_
  refine m_iconst 1 dX3_borrowed_1 rfl ?_
  refine m_iadd dX3_borrowed_2 ?_
  refine m_topi (show (0 : Int32) + 1 = 1 by decide) ?_
  refine m_istore_n [(3, .int 1), (0, .ref (gK G 2 0)), (1, .int 0), (2, .int 0)] rfl (by decide) rfl dX3_borrowed_3 ?_
  refine m_iload_n 2 rfl rfl dX3_borrowed_4 ?_
  refine m_if_lt 85 dX3_borrowed_5 (by decide) (fun c1 => absurd c1 (by decide)) (fun _ => ?_)
  refine m_iload_n 0 rfl rfl dX3_borrowed_8 ?_
  refine m_iconst 4 dX3_borrowed_9 rfl ?_
  refine m_icmp_ge 85 dX3_borrowed_10 (by decide) (fun c2 => absurd c2 (by decide)) (fun _ => ?_)
  refine m_aload_n 1 rfl rfl dX3_borrowed_13 ?_
  refine gf_X3_9 dX3_borrowed_14 ?_
  refine m_iload_n 0 rfl rfl dX3_borrowed_17 ?_
  refine al_20 1 rfl (by omega) dX3_borrowed_18 ?_
  refine m_topi (hp.1 1 (by decide)) ?_
  refine m_ifn_le (U 1) 79 (by omega) dX3_borrowed_19 (by decide) (fun c3 => ?_) (fun c3 => ?_)
  ·
    refine m_iinc (2) 0 [(3, .int 2), (0, .ref (gK G 2 0)), (1, .int 0), (2, .int 0)] rfl rfl (by decide) rfl dX3_borrowed_79 ?_
    refine m_goto 4 dX3_borrowed_82 (by decide) ?_
    refine m_iload_n 2 rfl rfl dX3_borrowed_4 ?_
    refine m_if_lt 85 dX3_borrowed_5 (by decide) (fun c4 => absurd c4 (by decide)) (fun _ => ?_)
    refine m_iload_n 0 rfl rfl dX3_borrowed_8 ?_
    refine m_iconst 4 dX3_borrowed_9 rfl ?_
    refine m_icmp_ge 85 dX3_borrowed_10 (by decide) (fun c5 => absurd c5 (by decide)) (fun _ => ?_)
    refine m_aload_n 1 rfl rfl dX3_borrowed_13 ?_
    refine gf_X3_9 dX3_borrowed_14 ?_
    refine m_iload_n 0 rfl rfl dX3_borrowed_17 ?_
    refine al_20 2 rfl (by omega) dX3_borrowed_18 ?_
    refine m_topi (hp.1 2 (by decide)) ?_
    refine m_ifn_le (U 2) 79 (by omega) dX3_borrowed_19 (by decide) (fun c6 => ?_) (fun c6 => ?_)
    ·
      refine m_iinc (3) 0 [(3, .int 3), (0, .ref (gK G 2 0)), (1, .int 0), (2, .int 0)] rfl rfl (by decide) rfl dX3_borrowed_79 ?_
      refine m_goto 4 dX3_borrowed_82 (by decide) ?_
      refine m_iload_n 2 rfl rfl dX3_borrowed_4 ?_
      refine m_if_lt 85 dX3_borrowed_5 (by decide) (fun c7 => absurd c7 (by decide)) (fun _ => ?_)
      refine m_iload_n 0 rfl rfl dX3_borrowed_8 ?_
      refine m_iconst 4 dX3_borrowed_9 rfl ?_
      refine m_icmp_ge 85 dX3_borrowed_10 (by decide) (fun c8 => absurd c8 (by decide)) (fun _ => ?_)
      refine m_aload_n 1 rfl rfl dX3_borrowed_13 ?_
      refine gf_X3_9 dX3_borrowed_14 ?_
      refine m_iload_n 0 rfl rfl dX3_borrowed_17 ?_
      refine al_20 3 rfl (by omega) dX3_borrowed_18 ?_
      refine m_topi (hp.1 3 (by decide)) ?_
      refine m_ifn_le (U 3) 79 (by omega) dX3_borrowed_19 (by decide) (fun c9 => ?_) (fun c9 => ?_)
      ·
        refine m_iinc (4) 0 [(3, .int 4), (0, .ref (gK G 2 0)), (1, .int 0), (2, .int 0)] rfl rfl (by decide) rfl dX3_borrowed_79 ?_
        refine m_goto 4 dX3_borrowed_82 (by decide) ?_
        refine m_iload_n 2 rfl rfl dX3_borrowed_4 ?_
        refine m_if_lt 85 dX3_borrowed_5 (by decide) (fun c10 => absurd c10 (by decide)) (fun _ => ?_)
        refine m_iload_n 0 rfl rfl dX3_borrowed_8 ?_
        refine m_iconst 4 dX3_borrowed_9 rfl ?_
        refine m_icmp_ge 85 dX3_borrowed_10 (by decide) (fun _ => ?_) (fun c11 => absurd c11 (by decide))
        refine m_iconst 0 dX3_borrowed_85 rfl ?_
        exact m_iret dX3_borrowed_86 (Nat.le_refl _) (Nat.le_refl _) (⟨(show 0 = nI ((byB false U L 0).1) by first | (simp_all [byB, fbW, tkW, nI_0]; done) | (grind [byB, fbW, tkW, nI_0])), Z, rfl, ⟨lt4 (p := fun j => Z 20 0 j = nI ((byB false U L 0).2 j)) ((hp.1 0 (by decide)).trans (show nI (U 0) = nI ((byB false U L 0).2 0) by first | (simp_all [byB, fbW, tkW, nI_0]; done) | (simp_all [byB, fbW, tkW, nI_0]; omega) | (grind [byB, fbW, tkW, nI_0]))) ((hp.1 1 (by decide)).trans (show nI (U 1) = nI ((byB false U L 0).2 1) by first | (simp_all [byB, fbW, tkW, nI_0]; done) | (simp_all [byB, fbW, tkW, nI_0]; omega) | (grind [byB, fbW, tkW, nI_0]))) ((hp.1 2 (by decide)).trans (show nI (U 2) = nI ((byB false U L 0).2 2) by first | (simp_all [byB, fbW, tkW, nI_0]; done) | (simp_all [byB, fbW, tkW, nI_0]; omega) | (grind [byB, fbW, tkW, nI_0]))) ((hp.1 3 (by decide)).trans (show nI (U 3) = nI ((byB false U L 0).2 3) by first | (simp_all [byB, fbW, tkW, nI_0]; done) | (simp_all [byB, fbW, tkW, nI_0]; omega) | (grind [byB, fbW, tkW, nI_0]))), fun j hj => ((zfr_rf : zfr 20 Z Z) 21 0 j (by decide)).trans (hp.2.1 j hj), byB_le hp.2.2.1, hp.2.2.2⟩, zfr_rf⟩)
      ·
        refine m_aload_n 1 rfl rfl dX3_borrowed_22 ?_
        refine gf_X3_9 dX3_borrowed_23 ?_
        refine m_iload_n 0 rfl rfl dX3_borrowed_26 ?_
        refine m_dup2 rfl rfl dX3_borrowed_27 ?_
        refine al_20 3 rfl (by omega) dX3_borrowed_28 ?_
        refine m_topi (hp.1 3 (by decide)) ?_
        refine m_iconst 1 dX3_borrowed_29 rfl ?_
        refine m_isub dX3_borrowed_30 ?_
        refine m_topi ((show (nI (U 3)) - 1 = nI ((U 3) - 1) from pk_sub (b := 1) (by omega))) ?_
        refine as_20 3 rfl (by omega) dX3_borrowed_31 (fun Z12 hZ12 => ?_)
        refine m_iload_n 2 rfl rfl dX3_borrowed_32 ?_
        refine m_iconst 1 dX3_borrowed_33 rfl ?_
        refine m_iadd dX3_borrowed_34 ?_
        refine m_topi (show (0 : Int32) + 1 = 1 by decide) ?_
        refine m_istore [(4, .int 1), (3, .int 3), (0, .ref (gK G 2 0)), (1, .int 0), (2, .int 0)] (by decide) rfl dX3_borrowed_35 ?_
        refine m_iload_n 4 rfl rfl dX3_borrowed_37 ?_
        refine m_if_eq 62 dX3_borrowed_38 (by decide) (fun _ => ?_) (fun c13 => absurd c13 (by decide))
        refine m_aload_n 2 rfl rfl dX3_borrowed_62 ?_
        refine gf_X3_9 dX3_borrowed_63 ?_
        refine m_iload_n 3 rfl rfl dX3_borrowed_66 ?_
        refine al_20 0 rfl (by omega) dX3_borrowed_67 ?_
        refine m_topi (up3_j hZ12 (by decide) (hp.1 0 (by decide))) ?_
        refine m_bipush (10) dX3_borrowed_68 rfl ?_
        refine m_iadd dX3_borrowed_70 ?_
        refine m_topi (show (nI (U 0)) + 10 = nI ((U 0) + 10) from nI_add _ _) ?_
        refine m_aload_n 2 rfl rfl dX3_borrowed_71 ?_
        refine gf_X3_15 dX3_borrowed_72 ?_
        refine m_iload_n 3 rfl rfl dX3_borrowed_75 ?_
        refine al_21 0 rfl (by omega) dX3_borrowed_76 ?_
        refine m_topi (up3_t hZ12 (by decide) (hp.2.1 0 (by decide))) ?_
        refine m_isub dX3_borrowed_77 ?_
        refine m_topi ((show (nI ((U 0) + 10)) - (nI (L 0)) = nI (((U 0) + 10) - (L 0)) from pk_sub (by omega))) ?_
        exact m_iret dX3_borrowed_78 (Nat.le_refl _) (Nat.le_refl _) (⟨(show nI (((U 0) + 10) - (L 0)) = nI ((byB false U L 0).1) by first | (simp_all [byB, fbW, tkW, nI_0]; done) | (grind [byB, fbW, tkW, nI_0])), Z12, rfl, ⟨lt4 (p := fun j => Z12 20 0 j = nI ((byB false U L 0).2 j)) ((up3_j hZ12 (by decide) (hp.1 0 (by decide))).trans (show nI (U 0) = nI ((byB false U L 0).2 0) by first | (simp_all [byB, fbW, tkW, nI_0]; done) | (simp_all [byB, fbW, tkW, nI_0]; omega) | (grind [byB, fbW, tkW, nI_0]))) ((up3_j hZ12 (by decide) (hp.1 1 (by decide))).trans (show nI (U 1) = nI ((byB false U L 0).2 1) by first | (simp_all [byB, fbW, tkW, nI_0]; done) | (simp_all [byB, fbW, tkW, nI_0]; omega) | (grind [byB, fbW, tkW, nI_0]))) ((up3_j hZ12 (by decide) (hp.1 2 (by decide))).trans (show nI (U 2) = nI ((byB false U L 0).2 2) by first | (simp_all [byB, fbW, tkW, nI_0]; done) | (simp_all [byB, fbW, tkW, nI_0]; omega) | (grind [byB, fbW, tkW, nI_0]))) ((up3_e hZ12).trans (show nI ((U 3) - 1) = nI ((byB false U L 0).2 3) by first | (simp_all [byB, fbW, tkW, nI_0]; done) | (simp_all [byB, fbW, tkW, nI_0]; omega) | (grind [byB, fbW, tkW, nI_0]))), fun j hj => (((zfr_up zfr_rf hZ12) : zfr 20 Z Z12) 21 0 j (by decide)).trans (hp.2.1 j hj), byB_le hp.2.2.1, hp.2.2.2⟩, (zfr_up zfr_rf hZ12)⟩)
    ·
      refine m_aload_n 1 rfl rfl dX3_borrowed_22 ?_
      refine gf_X3_9 dX3_borrowed_23 ?_
      refine m_iload_n 0 rfl rfl dX3_borrowed_26 ?_
      refine m_dup2 rfl rfl dX3_borrowed_27 ?_
      refine al_20 2 rfl (by omega) dX3_borrowed_28 ?_
      refine m_topi (hp.1 2 (by decide)) ?_
      refine m_iconst 1 dX3_borrowed_29 rfl ?_
      refine m_isub dX3_borrowed_30 ?_
      refine m_topi ((show (nI (U 2)) - 1 = nI ((U 2) - 1) from pk_sub (b := 1) (by omega))) ?_
      refine as_20 2 rfl (by omega) dX3_borrowed_31 (fun Z14 hZ14 => ?_)
      refine m_iload_n 2 rfl rfl dX3_borrowed_32 ?_
      refine m_iconst 1 dX3_borrowed_33 rfl ?_
      refine m_iadd dX3_borrowed_34 ?_
      refine m_topi (show (0 : Int32) + 1 = 1 by decide) ?_
      refine m_istore [(4, .int 1), (3, .int 2), (0, .ref (gK G 2 0)), (1, .int 0), (2, .int 0)] (by decide) rfl dX3_borrowed_35 ?_
      refine m_iload_n 4 rfl rfl dX3_borrowed_37 ?_
      refine m_if_eq 62 dX3_borrowed_38 (by decide) (fun _ => ?_) (fun c15 => absurd c15 (by decide))
      refine m_aload_n 2 rfl rfl dX3_borrowed_62 ?_
      refine gf_X3_9 dX3_borrowed_63 ?_
      refine m_iload_n 3 rfl rfl dX3_borrowed_66 ?_
      refine al_20 0 rfl (by omega) dX3_borrowed_67 ?_
      refine m_topi (up3_j hZ14 (by decide) (hp.1 0 (by decide))) ?_
      refine m_bipush (10) dX3_borrowed_68 rfl ?_
      refine m_iadd dX3_borrowed_70 ?_
      refine m_topi (show (nI (U 0)) + 10 = nI ((U 0) + 10) from nI_add _ _) ?_
      refine m_aload_n 2 rfl rfl dX3_borrowed_71 ?_
      refine gf_X3_15 dX3_borrowed_72 ?_
      refine m_iload_n 3 rfl rfl dX3_borrowed_75 ?_
      refine al_21 0 rfl (by omega) dX3_borrowed_76 ?_
      refine m_topi (up3_t hZ14 (by decide) (hp.2.1 0 (by decide))) ?_
      refine m_isub dX3_borrowed_77 ?_
      refine m_topi ((show (nI ((U 0) + 10)) - (nI (L 0)) = nI (((U 0) + 10) - (L 0)) from pk_sub (by omega))) ?_
      exact m_iret dX3_borrowed_78 (Nat.le_refl _) (Nat.le_refl _) (⟨(show nI (((U 0) + 10) - (L 0)) = nI ((byB false U L 0).1) by first | (simp_all [byB, fbW, tkW, nI_0]; done) | (grind [byB, fbW, tkW, nI_0])), Z14, rfl, ⟨lt4 (p := fun j => Z14 20 0 j = nI ((byB false U L 0).2 j)) ((up3_j hZ14 (by decide) (hp.1 0 (by decide))).trans (show nI (U 0) = nI ((byB false U L 0).2 0) by first | (simp_all [byB, fbW, tkW, nI_0]; done) | (simp_all [byB, fbW, tkW, nI_0]; omega) | (grind [byB, fbW, tkW, nI_0]))) ((up3_j hZ14 (by decide) (hp.1 1 (by decide))).trans (show nI (U 1) = nI ((byB false U L 0).2 1) by first | (simp_all [byB, fbW, tkW, nI_0]; done) | (simp_all [byB, fbW, tkW, nI_0]; omega) | (grind [byB, fbW, tkW, nI_0]))) ((up3_e hZ14).trans (show nI ((U 2) - 1) = nI ((byB false U L 0).2 2) by first | (simp_all [byB, fbW, tkW, nI_0]; done) | (simp_all [byB, fbW, tkW, nI_0]; omega) | (grind [byB, fbW, tkW, nI_0]))) ((up3_j hZ14 (by decide) (hp.1 3 (by decide))).trans (show nI (U 3) = nI ((byB false U L 0).2 3) by first | (simp_all [byB, fbW, tkW, nI_0]; done) | (simp_all [byB, fbW, tkW, nI_0]; omega) | (grind [byB, fbW, tkW, nI_0]))), fun j hj => (((zfr_up zfr_rf hZ14) : zfr 20 Z Z14) 21 0 j (by decide)).trans (hp.2.1 j hj), byB_le hp.2.2.1, hp.2.2.2⟩, (zfr_up zfr_rf hZ14)⟩)
  ·
    refine m_aload_n 1 rfl rfl dX3_borrowed_22 ?_
    refine gf_X3_9 dX3_borrowed_23 ?_
    refine m_iload_n 0 rfl rfl dX3_borrowed_26 ?_
    refine m_dup2 rfl rfl dX3_borrowed_27 ?_
    refine al_20 1 rfl (by omega) dX3_borrowed_28 ?_
    refine m_topi (hp.1 1 (by decide)) ?_
    refine m_iconst 1 dX3_borrowed_29 rfl ?_
    refine m_isub dX3_borrowed_30 ?_
    refine m_topi ((show (nI (U 1)) - 1 = nI ((U 1) - 1) from pk_sub (b := 1) (by omega))) ?_
    refine as_20 1 rfl (by omega) dX3_borrowed_31 (fun Z16 hZ16 => ?_)
    refine m_iload_n 2 rfl rfl dX3_borrowed_32 ?_
    refine m_iconst 1 dX3_borrowed_33 rfl ?_
    refine m_iadd dX3_borrowed_34 ?_
    refine m_topi (show (0 : Int32) + 1 = 1 by decide) ?_
    refine m_istore [(4, .int 1), (3, .int 1), (0, .ref (gK G 2 0)), (1, .int 0), (2, .int 0)] (by decide) rfl dX3_borrowed_35 ?_
    refine m_iload_n 4 rfl rfl dX3_borrowed_37 ?_
    refine m_if_eq 62 dX3_borrowed_38 (by decide) (fun _ => ?_) (fun c17 => absurd c17 (by decide))
    refine m_aload_n 2 rfl rfl dX3_borrowed_62 ?_
    refine gf_X3_9 dX3_borrowed_63 ?_
    refine m_iload_n 3 rfl rfl dX3_borrowed_66 ?_
    refine al_20 0 rfl (by omega) dX3_borrowed_67 ?_
    refine m_topi (up3_j hZ16 (by decide) (hp.1 0 (by decide))) ?_
    refine m_bipush (10) dX3_borrowed_68 rfl ?_
    refine m_iadd dX3_borrowed_70 ?_
    refine m_topi (show (nI (U 0)) + 10 = nI ((U 0) + 10) from nI_add _ _) ?_
    refine m_aload_n 2 rfl rfl dX3_borrowed_71 ?_
    refine gf_X3_15 dX3_borrowed_72 ?_
    refine m_iload_n 3 rfl rfl dX3_borrowed_75 ?_
    refine al_21 0 rfl (by omega) dX3_borrowed_76 ?_
    refine m_topi (up3_t hZ16 (by decide) (hp.2.1 0 (by decide))) ?_
    refine m_isub dX3_borrowed_77 ?_
    refine m_topi ((show (nI ((U 0) + 10)) - (nI (L 0)) = nI (((U 0) + 10) - (L 0)) from pk_sub (by omega))) ?_
    exact m_iret dX3_borrowed_78 (Nat.le_refl _) (Nat.le_refl _) (⟨(show nI (((U 0) + 10) - (L 0)) = nI ((byB false U L 0).1) by first | (simp_all [byB, fbW, tkW, nI_0]; done) | (grind [byB, fbW, tkW, nI_0])), Z16, rfl, ⟨lt4 (p := fun j => Z16 20 0 j = nI ((byB false U L 0).2 j)) ((up3_j hZ16 (by decide) (hp.1 0 (by decide))).trans (show nI (U 0) = nI ((byB false U L 0).2 0) by first | (simp_all [byB, fbW, tkW, nI_0]; done) | (simp_all [byB, fbW, tkW, nI_0]; omega) | (grind [byB, fbW, tkW, nI_0]))) ((up3_e hZ16).trans (show nI ((U 1) - 1) = nI ((byB false U L 0).2 1) by first | (simp_all [byB, fbW, tkW, nI_0]; done) | (simp_all [byB, fbW, tkW, nI_0]; omega) | (grind [byB, fbW, tkW, nI_0]))) ((up3_j hZ16 (by decide) (hp.1 2 (by decide))).trans (show nI (U 2) = nI ((byB false U L 0).2 2) by first | (simp_all [byB, fbW, tkW, nI_0]; done) | (simp_all [byB, fbW, tkW, nI_0]; omega) | (grind [byB, fbW, tkW, nI_0]))) ((up3_j hZ16 (by decide) (hp.1 3 (by decide))).trans (show nI (U 3) = nI ((byB false U L 0).2 3) by first | (simp_all [byB, fbW, tkW, nI_0]; done) | (simp_all [byB, fbW, tkW, nI_0]; omega) | (grind [byB, fbW, tkW, nI_0]))), fun j hj => (((zfr_up zfr_rf hZ16) : zfr 20 Z Z16) 21 0 j (by decide)).trans (hp.2.1 j hj), byB_le hp.2.2.1, hp.2.2.2⟩, (zfr_up zfr_rf hZ16)⟩)
set_option maxRecDepth 100000 in
set_option maxHeartbeats 4000000 in
theorem k_borrowed_0_1 (l : Launch) (G : owG) {A S Z B T V : owF} {J : Nat → Nat → Int64} {Y : Nat → Nat → Nat → Option Nat} {P : Nat → Option owW} (U L : Nat → Nat) (hp : pap Z U L) : Ct l G yX3_borrowed cX3_borrowed 5 ((some .int)) 0 0 0 [.ref (gK G 2 0), .int 0, .int 1] (A, S, Z, B, T, V, J, Y, P) (qI (fun x σ => x = nI (byB true U L 0).1 ∧ ∃ Z2 : owF, σ = (A, S, Z2, B, T, V, J, Y, P) ∧ pap Z2 (byB true U L 0).2 L ∧ zfr 20 Z Z2)) := by
  refine ct_of (by decide +kernel) (Nat.le_of_ble_eq_true rfl) ?_
  have hu0 := hp.2.2.1 0 (by decide)
  have hu1 := hp.2.2.1 1 (by decide)
  have hu2 := hp.2.2.1 2 (by decide)
  have hu3 := hp.2.2.1 3 (by decide)
  have hl0 := hp.2.2.2 0 (by decide)
  show Wm l G cX3_borrowed 5 RX3 ((some .int)) (rmk 0 0 0) (fun _ => True) (QfM G (qI (fun x σ => x = nI (byB true U L 0).1 ∧ ∃ Z2 : owF, σ = (A, S, Z2, B, T, V, J, Y, P) ∧ pap Z2 (byB true U L 0).2 L ∧ zfr 20 Z Z2)) 0 0) 0 [(0, .ref (gK G 2 0)), (1, .int 0), (2, .int 1)] [] (A, S, Z, B, T, V, J, Y, P) 0 0
  refine m_iload_n 1 rfl rfl dX3_borrowed_0 ?_
  refine m_iconst 1 dX3_borrowed_1 rfl ?_
  refine m_iadd dX3_borrowed_2 ?_
  refine m_topi (show (0 : Int32) + 1 = 1 by decide) ?_
  refine m_istore_n [(3, .int 1), (0, .ref (gK G 2 0)), (1, .int 0), (2, .int 1)] rfl (by decide) rfl dX3_borrowed_3 ?_
  refine m_iload_n 2 rfl rfl dX3_borrowed_4 ?_
  refine m_if_lt 85 dX3_borrowed_5 (by decide) (fun c1 => absurd c1 (by decide)) (fun _ => ?_)
  refine m_iload_n 0 rfl rfl dX3_borrowed_8 ?_
  refine m_iconst 4 dX3_borrowed_9 rfl ?_
  refine m_icmp_ge 85 dX3_borrowed_10 (by decide) (fun c2 => absurd c2 (by decide)) (fun _ => ?_)
  refine m_aload_n 1 rfl rfl dX3_borrowed_13 ?_
  refine gf_X3_9 dX3_borrowed_14 ?_
  refine m_iload_n 0 rfl rfl dX3_borrowed_17 ?_
  refine al_20 1 rfl (by omega) dX3_borrowed_18 ?_
  refine m_topi (hp.1 1 (by decide)) ?_
  refine m_ifn_le (U 1) 79 (by omega) dX3_borrowed_19 (by decide) (fun c3 => ?_) (fun c3 => ?_)
  ·
    refine m_iinc (2) 0 [(3, .int 2), (0, .ref (gK G 2 0)), (1, .int 0), (2, .int 1)] rfl rfl (by decide) rfl dX3_borrowed_79 ?_
    refine m_goto 4 dX3_borrowed_82 (by decide) ?_
    refine m_iload_n 2 rfl rfl dX3_borrowed_4 ?_
    refine m_if_lt 85 dX3_borrowed_5 (by decide) (fun c4 => absurd c4 (by decide)) (fun _ => ?_)
    refine m_iload_n 0 rfl rfl dX3_borrowed_8 ?_
    refine m_iconst 4 dX3_borrowed_9 rfl ?_
    refine m_icmp_ge 85 dX3_borrowed_10 (by decide) (fun c5 => absurd c5 (by decide)) (fun _ => ?_)
    refine m_aload_n 1 rfl rfl dX3_borrowed_13 ?_
    refine gf_X3_9 dX3_borrowed_14 ?_
    refine m_iload_n 0 rfl rfl dX3_borrowed_17 ?_
    refine al_20 2 rfl (by omega) dX3_borrowed_18 ?_
    refine m_topi (hp.1 2 (by decide)) ?_
    refine m_ifn_le (U 2) 79 (by omega) dX3_borrowed_19 (by decide) (fun c6 => ?_) (fun c6 => ?_)
    ·
      refine m_iinc (3) 0 [(3, .int 3), (0, .ref (gK G 2 0)), (1, .int 0), (2, .int 1)] rfl rfl (by decide) rfl dX3_borrowed_79 ?_
      refine m_goto 4 dX3_borrowed_82 (by decide) ?_
      refine m_iload_n 2 rfl rfl dX3_borrowed_4 ?_
      refine m_if_lt 85 dX3_borrowed_5 (by decide) (fun c7 => absurd c7 (by decide)) (fun _ => ?_)
      refine m_iload_n 0 rfl rfl dX3_borrowed_8 ?_
      refine m_iconst 4 dX3_borrowed_9 rfl ?_
      refine m_icmp_ge 85 dX3_borrowed_10 (by decide) (fun c8 => absurd c8 (by decide)) (fun _ => ?_)
      refine m_aload_n 1 rfl rfl dX3_borrowed_13 ?_
      refine gf_X3_9 dX3_borrowed_14 ?_
      refine m_iload_n 0 rfl rfl dX3_borrowed_17 ?_
      refine al_20 3 rfl (by omega) dX3_borrowed_18 ?_
      refine m_topi (hp.1 3 (by decide)) ?_
      refine m_ifn_le (U 3) 79 (by omega) dX3_borrowed_19 (by decide) (fun c9 => ?_) (fun c9 => ?_)
      ·
        refine m_iinc (4) 0 [(3, .int 4), (0, .ref (gK G 2 0)), (1, .int 0), (2, .int 1)] rfl rfl (by decide) rfl dX3_borrowed_79 ?_
        refine m_goto 4 dX3_borrowed_82 (by decide) ?_
        refine m_iload_n 2 rfl rfl dX3_borrowed_4 ?_
        refine m_if_lt 85 dX3_borrowed_5 (by decide) (fun c10 => absurd c10 (by decide)) (fun _ => ?_)
        refine m_iload_n 0 rfl rfl dX3_borrowed_8 ?_
        refine m_iconst 4 dX3_borrowed_9 rfl ?_
        refine m_icmp_ge 85 dX3_borrowed_10 (by decide) (fun _ => ?_) (fun c11 => absurd c11 (by decide))
        refine m_iconst 0 dX3_borrowed_85 rfl ?_
        exact m_iret dX3_borrowed_86 (Nat.le_refl _) (Nat.le_refl _) (⟨(show 0 = nI ((byB true U L 0).1) by first | (simp_all [byB, fbW, tkW, nI_0]; done) | (grind [byB, fbW, tkW, nI_0])), Z, rfl, ⟨lt4 (p := fun j => Z 20 0 j = nI ((byB true U L 0).2 j)) ((hp.1 0 (by decide)).trans (show nI (U 0) = nI ((byB true U L 0).2 0) by first | (simp_all [byB, fbW, tkW, nI_0]; done) | (simp_all [byB, fbW, tkW, nI_0]; omega) | (grind [byB, fbW, tkW, nI_0]))) ((hp.1 1 (by decide)).trans (show nI (U 1) = nI ((byB true U L 0).2 1) by first | (simp_all [byB, fbW, tkW, nI_0]; done) | (simp_all [byB, fbW, tkW, nI_0]; omega) | (grind [byB, fbW, tkW, nI_0]))) ((hp.1 2 (by decide)).trans (show nI (U 2) = nI ((byB true U L 0).2 2) by first | (simp_all [byB, fbW, tkW, nI_0]; done) | (simp_all [byB, fbW, tkW, nI_0]; omega) | (grind [byB, fbW, tkW, nI_0]))) ((hp.1 3 (by decide)).trans (show nI (U 3) = nI ((byB true U L 0).2 3) by first | (simp_all [byB, fbW, tkW, nI_0]; done) | (simp_all [byB, fbW, tkW, nI_0]; omega) | (grind [byB, fbW, tkW, nI_0]))), fun j hj => ((zfr_rf : zfr 20 Z Z) 21 0 j (by decide)).trans (hp.2.1 j hj), byB_le hp.2.2.1, hp.2.2.2⟩, zfr_rf⟩)
      ·
        refine m_aload_n 1 rfl rfl dX3_borrowed_22 ?_
        refine gf_X3_9 dX3_borrowed_23 ?_
        refine m_iload_n 0 rfl rfl dX3_borrowed_26 ?_
        refine m_dup2 rfl rfl dX3_borrowed_27 ?_
        refine al_20 3 rfl (by omega) dX3_borrowed_28 ?_
        refine m_topi (hp.1 3 (by decide)) ?_
        refine m_iconst 1 dX3_borrowed_29 rfl ?_
        refine m_isub dX3_borrowed_30 ?_
        refine m_topi ((show (nI (U 3)) - 1 = nI ((U 3) - 1) from pk_sub (b := 1) (by omega))) ?_
        refine as_20 3 rfl (by omega) dX3_borrowed_31 (fun Z12 hZ12 => ?_)
        refine m_iload_n 2 rfl rfl dX3_borrowed_32 ?_
        refine m_iconst 1 dX3_borrowed_33 rfl ?_
        refine m_iadd dX3_borrowed_34 ?_
        refine m_topi (show (0 : Int32) + 1 = 1 by decide) ?_
        refine m_istore [(4, .int 1), (3, .int 3), (0, .ref (gK G 2 0)), (1, .int 0), (2, .int 1)] (by decide) rfl dX3_borrowed_35 ?_
        refine m_iload_n 4 rfl rfl dX3_borrowed_37 ?_
        refine m_if_eq 62 dX3_borrowed_38 (by decide) (fun c13 => absurd c13 (by decide)) (fun _ => ?_)
        refine m_iload 0 rfl dX3_borrowed_41 ?_
        refine m_iload_n 1 rfl rfl dX3_borrowed_43 ?_
        refine m_icmp_ge 62 dX3_borrowed_44 (by decide) (fun c14 => absurd c14 (by decide)) (fun _ => ?_)
        refine m_aload_n 2 rfl rfl dX3_borrowed_47 ?_
        refine gf_X3_9 dX3_borrowed_48 ?_
        refine m_iload 0 rfl dX3_borrowed_51 ?_
        refine m_bipush (9) dX3_borrowed_53 rfl ?_
        refine as_20 1 rfl (by omega) dX3_borrowed_55 (fun Z15 hZ15 => ?_)
        refine m_iinc (2) 0 [(4, .int 2), (3, .int 3), (0, .ref (gK G 2 0)), (1, .int 0), (2, .int 1)] rfl rfl (by decide) rfl dX3_borrowed_56 ?_
        refine m_goto 37 dX3_borrowed_59 (by decide) ?_
        refine m_iload_n 4 rfl rfl dX3_borrowed_37 ?_
        refine m_if_eq 62 dX3_borrowed_38 (by decide) (fun c16 => absurd c16 (by decide)) (fun _ => ?_)
        refine m_iload 0 rfl dX3_borrowed_41 ?_
        refine m_iload_n 1 rfl rfl dX3_borrowed_43 ?_
        refine m_icmp_ge 62 dX3_borrowed_44 (by decide) (fun c17 => absurd c17 (by decide)) (fun _ => ?_)
        refine m_aload_n 2 rfl rfl dX3_borrowed_47 ?_
        refine gf_X3_9 dX3_borrowed_48 ?_
        refine m_iload 0 rfl dX3_borrowed_51 ?_
        refine m_bipush (9) dX3_borrowed_53 rfl ?_
        refine as_20 2 rfl (by omega) dX3_borrowed_55 (fun Z18 hZ18 => ?_)
        refine m_iinc (3) 0 [(4, .int 3), (3, .int 3), (0, .ref (gK G 2 0)), (1, .int 0), (2, .int 1)] rfl rfl (by decide) rfl dX3_borrowed_56 ?_
        refine m_goto 37 dX3_borrowed_59 (by decide) ?_
        refine m_iload_n 4 rfl rfl dX3_borrowed_37 ?_
        refine m_if_eq 62 dX3_borrowed_38 (by decide) (fun c19 => absurd c19 (by decide)) (fun _ => ?_)
        refine m_iload 0 rfl dX3_borrowed_41 ?_
        refine m_iload_n 1 rfl rfl dX3_borrowed_43 ?_
        refine m_icmp_ge 62 dX3_borrowed_44 (by decide) (fun _ => ?_) (fun c20 => absurd c20 (by decide))
        refine m_aload_n 2 rfl rfl dX3_borrowed_62 ?_
        refine gf_X3_9 dX3_borrowed_63 ?_
        refine m_iload_n 3 rfl rfl dX3_borrowed_66 ?_
        refine al_20 0 rfl (by omega) dX3_borrowed_67 ?_
        refine m_topi (up3_j hZ18 (by decide) (up3_j hZ15 (by decide) (up3_j hZ12 (by decide) (hp.1 0 (by decide))))) ?_
        refine m_bipush (10) dX3_borrowed_68 rfl ?_
        refine m_iadd dX3_borrowed_70 ?_
        refine m_topi (show (nI (U 0)) + 10 = nI ((U 0) + 10) from nI_add _ _) ?_
        refine m_aload_n 2 rfl rfl dX3_borrowed_71 ?_
        refine gf_X3_15 dX3_borrowed_72 ?_
        refine m_iload_n 3 rfl rfl dX3_borrowed_75 ?_
        refine al_21 0 rfl (by omega) dX3_borrowed_76 ?_
        refine m_topi (up3_t hZ18 (by decide) (up3_t hZ15 (by decide) (up3_t hZ12 (by decide) (hp.2.1 0 (by decide))))) ?_
        refine m_isub dX3_borrowed_77 ?_
        refine m_topi ((show (nI ((U 0) + 10)) - (nI (L 0)) = nI (((U 0) + 10) - (L 0)) from pk_sub (by omega))) ?_
        exact m_iret dX3_borrowed_78 (Nat.le_refl _) (Nat.le_refl _) (⟨(show nI (((U 0) + 10) - (L 0)) = nI ((byB true U L 0).1) by first | (simp_all [byB, fbW, tkW, nI_0]; done) | (grind [byB, fbW, tkW, nI_0])), Z18, rfl, ⟨lt4 (p := fun j => Z18 20 0 j = nI ((byB true U L 0).2 j)) ((up3_j hZ18 (by decide) (up3_j hZ15 (by decide) (up3_j hZ12 (by decide) (hp.1 0 (by decide))))).trans (show nI (U 0) = nI ((byB true U L 0).2 0) by first | (simp_all [byB, fbW, tkW, nI_0]; done) | (simp_all [byB, fbW, tkW, nI_0]; omega) | (grind [byB, fbW, tkW, nI_0]))) ((up3_j hZ18 (by decide) (up3_e hZ15)).trans (show nI 9 = nI ((byB true U L 0).2 1) by first | (simp_all [byB, fbW, tkW, nI_0]; done) | (simp_all [byB, fbW, tkW, nI_0]; omega) | (grind [byB, fbW, tkW, nI_0]))) ((up3_e hZ18).trans (show nI 9 = nI ((byB true U L 0).2 2) by first | (simp_all [byB, fbW, tkW, nI_0]; done) | (simp_all [byB, fbW, tkW, nI_0]; omega) | (grind [byB, fbW, tkW, nI_0]))) ((up3_j hZ18 (by decide) (up3_j hZ15 (by decide) (up3_e hZ12))).trans (show nI ((U 3) - 1) = nI ((byB true U L 0).2 3) by first | (simp_all [byB, fbW, tkW, nI_0]; done) | (simp_all [byB, fbW, tkW, nI_0]; omega) | (grind [byB, fbW, tkW, nI_0]))), fun j hj => (((zfr_up (zfr_up (zfr_up zfr_rf hZ12) hZ15) hZ18) : zfr 20 Z Z18) 21 0 j (by decide)).trans (hp.2.1 j hj), byB_le hp.2.2.1, hp.2.2.2⟩, (zfr_up (zfr_up (zfr_up zfr_rf hZ12) hZ15) hZ18)⟩)
    ·
      refine m_aload_n 1 rfl rfl dX3_borrowed_22 ?_
      refine gf_X3_9 dX3_borrowed_23 ?_
      refine m_iload_n 0 rfl rfl dX3_borrowed_26 ?_
      refine m_dup2 rfl rfl dX3_borrowed_27 ?_
      refine al_20 2 rfl (by omega) dX3_borrowed_28 ?_
      refine m_topi (hp.1 2 (by decide)) ?_
      refine m_iconst 1 dX3_borrowed_29 rfl ?_
      refine m_isub dX3_borrowed_30 ?_
      refine m_topi ((show (nI (U 2)) - 1 = nI ((U 2) - 1) from pk_sub (b := 1) (by omega))) ?_
      refine as_20 2 rfl (by omega) dX3_borrowed_31 (fun Z21 hZ21 => ?_)
      refine m_iload_n 2 rfl rfl dX3_borrowed_32 ?_
      refine m_iconst 1 dX3_borrowed_33 rfl ?_
      refine m_iadd dX3_borrowed_34 ?_
      refine m_topi (show (0 : Int32) + 1 = 1 by decide) ?_
      refine m_istore [(4, .int 1), (3, .int 2), (0, .ref (gK G 2 0)), (1, .int 0), (2, .int 1)] (by decide) rfl dX3_borrowed_35 ?_
      refine m_iload_n 4 rfl rfl dX3_borrowed_37 ?_
      refine m_if_eq 62 dX3_borrowed_38 (by decide) (fun c22 => absurd c22 (by decide)) (fun _ => ?_)
      refine m_iload 0 rfl dX3_borrowed_41 ?_
      refine m_iload_n 1 rfl rfl dX3_borrowed_43 ?_
      refine m_icmp_ge 62 dX3_borrowed_44 (by decide) (fun c23 => absurd c23 (by decide)) (fun _ => ?_)
      refine m_aload_n 2 rfl rfl dX3_borrowed_47 ?_
      refine gf_X3_9 dX3_borrowed_48 ?_
      refine m_iload 0 rfl dX3_borrowed_51 ?_
      refine m_bipush (9) dX3_borrowed_53 rfl ?_
      refine as_20 1 rfl (by omega) dX3_borrowed_55 (fun Z24 hZ24 => ?_)
      refine m_iinc (2) 0 [(4, .int 2), (3, .int 2), (0, .ref (gK G 2 0)), (1, .int 0), (2, .int 1)] rfl rfl (by decide) rfl dX3_borrowed_56 ?_
      refine m_goto 37 dX3_borrowed_59 (by decide) ?_
      refine m_iload_n 4 rfl rfl dX3_borrowed_37 ?_
      refine m_if_eq 62 dX3_borrowed_38 (by decide) (fun c25 => absurd c25 (by decide)) (fun _ => ?_)
      refine m_iload 0 rfl dX3_borrowed_41 ?_
      refine m_iload_n 1 rfl rfl dX3_borrowed_43 ?_
      refine m_icmp_ge 62 dX3_borrowed_44 (by decide) (fun _ => ?_) (fun c26 => absurd c26 (by decide))
      refine m_aload_n 2 rfl rfl dX3_borrowed_62 ?_
      refine gf_X3_9 dX3_borrowed_63 ?_
      refine m_iload_n 3 rfl rfl dX3_borrowed_66 ?_
      refine al_20 0 rfl (by omega) dX3_borrowed_67 ?_
      refine m_topi (up3_j hZ24 (by decide) (up3_j hZ21 (by decide) (hp.1 0 (by decide)))) ?_
      refine m_bipush (10) dX3_borrowed_68 rfl ?_
      refine m_iadd dX3_borrowed_70 ?_
      refine m_topi (show (nI (U 0)) + 10 = nI ((U 0) + 10) from nI_add _ _) ?_
      refine m_aload_n 2 rfl rfl dX3_borrowed_71 ?_
      refine gf_X3_15 dX3_borrowed_72 ?_
      refine m_iload_n 3 rfl rfl dX3_borrowed_75 ?_
      refine al_21 0 rfl (by omega) dX3_borrowed_76 ?_
      refine m_topi (up3_t hZ24 (by decide) (up3_t hZ21 (by decide) (hp.2.1 0 (by decide)))) ?_
      refine m_isub dX3_borrowed_77 ?_
      refine m_topi ((show (nI ((U 0) + 10)) - (nI (L 0)) = nI (((U 0) + 10) - (L 0)) from pk_sub (by omega))) ?_
      exact m_iret dX3_borrowed_78 (Nat.le_refl _) (Nat.le_refl _) (⟨(show nI (((U 0) + 10) - (L 0)) = nI ((byB true U L 0).1) by first | (simp_all [byB, fbW, tkW, nI_0]; done) | (grind [byB, fbW, tkW, nI_0])), Z24, rfl, ⟨lt4 (p := fun j => Z24 20 0 j = nI ((byB true U L 0).2 j)) ((up3_j hZ24 (by decide) (up3_j hZ21 (by decide) (hp.1 0 (by decide)))).trans (show nI (U 0) = nI ((byB true U L 0).2 0) by first | (simp_all [byB, fbW, tkW, nI_0]; done) | (simp_all [byB, fbW, tkW, nI_0]; omega) | (grind [byB, fbW, tkW, nI_0]))) ((up3_e hZ24).trans (show nI 9 = nI ((byB true U L 0).2 1) by first | (simp_all [byB, fbW, tkW, nI_0]; done) | (simp_all [byB, fbW, tkW, nI_0]; omega) | (grind [byB, fbW, tkW, nI_0]))) ((up3_j hZ24 (by decide) (up3_e hZ21)).trans (show nI ((U 2) - 1) = nI ((byB true U L 0).2 2) by first | (simp_all [byB, fbW, tkW, nI_0]; done) | (simp_all [byB, fbW, tkW, nI_0]; omega) | (grind [byB, fbW, tkW, nI_0]))) ((up3_j hZ24 (by decide) (up3_j hZ21 (by decide) (hp.1 3 (by decide)))).trans (show nI (U 3) = nI ((byB true U L 0).2 3) by first | (simp_all [byB, fbW, tkW, nI_0]; done) | (simp_all [byB, fbW, tkW, nI_0]; omega) | (grind [byB, fbW, tkW, nI_0]))), fun j hj => (((zfr_up (zfr_up zfr_rf hZ21) hZ24) : zfr 20 Z Z24) 21 0 j (by decide)).trans (hp.2.1 j hj), byB_le hp.2.2.1, hp.2.2.2⟩, (zfr_up (zfr_up zfr_rf hZ21) hZ24)⟩)
  ·
    refine m_aload_n 1 rfl rfl dX3_borrowed_22 ?_
    refine gf_X3_9 dX3_borrowed_23 ?_
    refine m_iload_n 0 rfl rfl dX3_borrowed_26 ?_
    refine m_dup2 rfl rfl dX3_borrowed_27 ?_
    refine al_20 1 rfl (by omega) dX3_borrowed_28 ?_
    refine m_topi (hp.1 1 (by decide)) ?_
    refine m_iconst 1 dX3_borrowed_29 rfl ?_
    refine m_isub dX3_borrowed_30 ?_
    refine m_topi ((show (nI (U 1)) - 1 = nI ((U 1) - 1) from pk_sub (b := 1) (by omega))) ?_
    refine as_20 1 rfl (by omega) dX3_borrowed_31 (fun Z27 hZ27 => ?_)
    refine m_iload_n 2 rfl rfl dX3_borrowed_32 ?_
    refine m_iconst 1 dX3_borrowed_33 rfl ?_
    refine m_iadd dX3_borrowed_34 ?_
    refine m_topi (show (0 : Int32) + 1 = 1 by decide) ?_
    refine m_istore [(4, .int 1), (3, .int 1), (0, .ref (gK G 2 0)), (1, .int 0), (2, .int 1)] (by decide) rfl dX3_borrowed_35 ?_
    refine m_iload_n 4 rfl rfl dX3_borrowed_37 ?_
    refine m_if_eq 62 dX3_borrowed_38 (by decide) (fun c28 => absurd c28 (by decide)) (fun _ => ?_)
    refine m_iload 0 rfl dX3_borrowed_41 ?_
    refine m_iload_n 1 rfl rfl dX3_borrowed_43 ?_
    refine m_icmp_ge 62 dX3_borrowed_44 (by decide) (fun _ => ?_) (fun c29 => absurd c29 (by decide))
    refine m_aload_n 2 rfl rfl dX3_borrowed_62 ?_
    refine gf_X3_9 dX3_borrowed_63 ?_
    refine m_iload_n 3 rfl rfl dX3_borrowed_66 ?_
    refine al_20 0 rfl (by omega) dX3_borrowed_67 ?_
    refine m_topi (up3_j hZ27 (by decide) (hp.1 0 (by decide))) ?_
    refine m_bipush (10) dX3_borrowed_68 rfl ?_
    refine m_iadd dX3_borrowed_70 ?_
    refine m_topi (show (nI (U 0)) + 10 = nI ((U 0) + 10) from nI_add _ _) ?_
    refine m_aload_n 2 rfl rfl dX3_borrowed_71 ?_
    refine gf_X3_15 dX3_borrowed_72 ?_
    refine m_iload_n 3 rfl rfl dX3_borrowed_75 ?_
    refine al_21 0 rfl (by omega) dX3_borrowed_76 ?_
    refine m_topi (up3_t hZ27 (by decide) (hp.2.1 0 (by decide))) ?_
    refine m_isub dX3_borrowed_77 ?_
    refine m_topi ((show (nI ((U 0) + 10)) - (nI (L 0)) = nI (((U 0) + 10) - (L 0)) from pk_sub (by omega))) ?_
    exact m_iret dX3_borrowed_78 (Nat.le_refl _) (Nat.le_refl _) (⟨(show nI (((U 0) + 10) - (L 0)) = nI ((byB true U L 0).1) by first | (simp_all [byB, fbW, tkW, nI_0]; done) | (grind [byB, fbW, tkW, nI_0])), Z27, rfl, ⟨lt4 (p := fun j => Z27 20 0 j = nI ((byB true U L 0).2 j)) ((up3_j hZ27 (by decide) (hp.1 0 (by decide))).trans (show nI (U 0) = nI ((byB true U L 0).2 0) by first | (simp_all [byB, fbW, tkW, nI_0]; done) | (simp_all [byB, fbW, tkW, nI_0]; omega) | (grind [byB, fbW, tkW, nI_0]))) ((up3_e hZ27).trans (show nI ((U 1) - 1) = nI ((byB true U L 0).2 1) by first | (simp_all [byB, fbW, tkW, nI_0]; done) | (simp_all [byB, fbW, tkW, nI_0]; omega) | (grind [byB, fbW, tkW, nI_0]))) ((up3_j hZ27 (by decide) (hp.1 2 (by decide))).trans (show nI (U 2) = nI ((byB true U L 0).2 2) by first | (simp_all [byB, fbW, tkW, nI_0]; done) | (simp_all [byB, fbW, tkW, nI_0]; omega) | (grind [byB, fbW, tkW, nI_0]))) ((up3_j hZ27 (by decide) (hp.1 3 (by decide))).trans (show nI (U 3) = nI ((byB true U L 0).2 3) by first | (simp_all [byB, fbW, tkW, nI_0]; done) | (simp_all [byB, fbW, tkW, nI_0]; omega) | (grind [byB, fbW, tkW, nI_0]))), fun j hj => (((zfr_up zfr_rf hZ27) : zfr 20 Z Z27) 21 0 j (by decide)).trans (hp.2.1 j hj), byB_le hp.2.2.1, hp.2.2.2⟩, (zfr_up zfr_rf hZ27)⟩)
set_option maxRecDepth 100000 in
set_option maxHeartbeats 4000000 in
theorem k_borrowed_1_0 (l : Launch) (G : owG) {A S Z B T V : owF} {J : Nat → Nat → Int64} {Y : Nat → Nat → Nat → Option Nat} {P : Nat → Option owW} (U L : Nat → Nat) (hp : pap Z U L) : Ct l G yX3_borrowed cX3_borrowed 5 ((some .int)) 0 0 0 [.ref (gK G 2 0), .int 1, .int 0] (A, S, Z, B, T, V, J, Y, P) (qI (fun x σ => x = nI (byB false U L 1).1 ∧ ∃ Z2 : owF, σ = (A, S, Z2, B, T, V, J, Y, P) ∧ pap Z2 (byB false U L 1).2 L ∧ zfr 20 Z Z2)) := by
  refine ct_of (by decide +kernel) (Nat.le_of_ble_eq_true rfl) ?_
  have hu0 := hp.2.2.1 0 (by decide)
  have hu1 := hp.2.2.1 1 (by decide)
  have hu2 := hp.2.2.1 2 (by decide)
  have hu3 := hp.2.2.1 3 (by decide)
  have hl0 := hp.2.2.2 1 (by decide)
  show Wm l G cX3_borrowed 5 RX3 ((some .int)) (rmk 0 0 0) (fun _ => True) (QfM G (qI (fun x σ => x = nI (byB false U L 1).1 ∧ ∃ Z2 : owF, σ = (A, S, Z2, B, T, V, J, Y, P) ∧ pap Z2 (byB false U L 1).2 L ∧ zfr 20 Z Z2)) 0 0) 0 [(0, .ref (gK G 2 0)), (1, .int 1), (2, .int 0)] [] (A, S, Z, B, T, V, J, Y, P) 0 0
  refine m_iload_n 1 rfl rfl dX3_borrowed_0 ?_
  refine m_iconst 1 dX3_borrowed_1 rfl ?_
  refine m_iadd dX3_borrowed_2 ?_
  refine m_topi (show (1 : Int32) + 1 = 2 by decide) ?_
  refine m_istore_n [(3, .int 2), (0, .ref (gK G 2 0)), (1, .int 1), (2, .int 0)] rfl (by decide) rfl dX3_borrowed_3 ?_
  refine m_iload_n 2 rfl rfl dX3_borrowed_4 ?_
  refine m_if_lt 85 dX3_borrowed_5 (by decide) (fun c1 => absurd c1 (by decide)) (fun _ => ?_)
  refine m_iload_n 0 rfl rfl dX3_borrowed_8 ?_
  refine m_iconst 4 dX3_borrowed_9 rfl ?_
  refine m_icmp_ge 85 dX3_borrowed_10 (by decide) (fun c2 => absurd c2 (by decide)) (fun _ => ?_)
  refine m_aload_n 1 rfl rfl dX3_borrowed_13 ?_
  refine gf_X3_9 dX3_borrowed_14 ?_
  refine m_iload_n 0 rfl rfl dX3_borrowed_17 ?_
  refine al_20 2 rfl (by omega) dX3_borrowed_18 ?_
  refine m_topi (hp.1 2 (by decide)) ?_
  refine m_ifn_le (U 2) 79 (by omega) dX3_borrowed_19 (by decide) (fun c3 => ?_) (fun c3 => ?_)
  ·
    refine m_iinc (3) 0 [(3, .int 3), (0, .ref (gK G 2 0)), (1, .int 1), (2, .int 0)] rfl rfl (by decide) rfl dX3_borrowed_79 ?_
    refine m_goto 4 dX3_borrowed_82 (by decide) ?_
    refine m_iload_n 2 rfl rfl dX3_borrowed_4 ?_
    refine m_if_lt 85 dX3_borrowed_5 (by decide) (fun c4 => absurd c4 (by decide)) (fun _ => ?_)
    refine m_iload_n 0 rfl rfl dX3_borrowed_8 ?_
    refine m_iconst 4 dX3_borrowed_9 rfl ?_
    refine m_icmp_ge 85 dX3_borrowed_10 (by decide) (fun c5 => absurd c5 (by decide)) (fun _ => ?_)
    refine m_aload_n 1 rfl rfl dX3_borrowed_13 ?_
    refine gf_X3_9 dX3_borrowed_14 ?_
    refine m_iload_n 0 rfl rfl dX3_borrowed_17 ?_
    refine al_20 3 rfl (by omega) dX3_borrowed_18 ?_
    refine m_topi (hp.1 3 (by decide)) ?_
    refine m_ifn_le (U 3) 79 (by omega) dX3_borrowed_19 (by decide) (fun c6 => ?_) (fun c6 => ?_)
    ·
      refine m_iinc (4) 0 [(3, .int 4), (0, .ref (gK G 2 0)), (1, .int 1), (2, .int 0)] rfl rfl (by decide) rfl dX3_borrowed_79 ?_
      refine m_goto 4 dX3_borrowed_82 (by decide) ?_
      refine m_iload_n 2 rfl rfl dX3_borrowed_4 ?_
      refine m_if_lt 85 dX3_borrowed_5 (by decide) (fun c7 => absurd c7 (by decide)) (fun _ => ?_)
      refine m_iload_n 0 rfl rfl dX3_borrowed_8 ?_
      refine m_iconst 4 dX3_borrowed_9 rfl ?_
      refine m_icmp_ge 85 dX3_borrowed_10 (by decide) (fun _ => ?_) (fun c8 => absurd c8 (by decide))
      refine m_iconst 0 dX3_borrowed_85 rfl ?_
      exact m_iret dX3_borrowed_86 (Nat.le_refl _) (Nat.le_refl _) (⟨(show 0 = nI ((byB false U L 1).1) by first | (simp_all [byB, fbW, tkW, nI_0]; done) | (grind [byB, fbW, tkW, nI_0])), Z, rfl, ⟨lt4 (p := fun j => Z 20 0 j = nI ((byB false U L 1).2 j)) ((hp.1 0 (by decide)).trans (show nI (U 0) = nI ((byB false U L 1).2 0) by first | (simp_all [byB, fbW, tkW, nI_0]; done) | (simp_all [byB, fbW, tkW, nI_0]; omega) | (grind [byB, fbW, tkW, nI_0]))) ((hp.1 1 (by decide)).trans (show nI (U 1) = nI ((byB false U L 1).2 1) by first | (simp_all [byB, fbW, tkW, nI_0]; done) | (simp_all [byB, fbW, tkW, nI_0]; omega) | (grind [byB, fbW, tkW, nI_0]))) ((hp.1 2 (by decide)).trans (show nI (U 2) = nI ((byB false U L 1).2 2) by first | (simp_all [byB, fbW, tkW, nI_0]; done) | (simp_all [byB, fbW, tkW, nI_0]; omega) | (grind [byB, fbW, tkW, nI_0]))) ((hp.1 3 (by decide)).trans (show nI (U 3) = nI ((byB false U L 1).2 3) by first | (simp_all [byB, fbW, tkW, nI_0]; done) | (simp_all [byB, fbW, tkW, nI_0]; omega) | (grind [byB, fbW, tkW, nI_0]))), fun j hj => ((zfr_rf : zfr 20 Z Z) 21 0 j (by decide)).trans (hp.2.1 j hj), byB_le hp.2.2.1, hp.2.2.2⟩, zfr_rf⟩)
    ·
      refine m_aload_n 1 rfl rfl dX3_borrowed_22 ?_
      refine gf_X3_9 dX3_borrowed_23 ?_
      refine m_iload_n 0 rfl rfl dX3_borrowed_26 ?_
      refine m_dup2 rfl rfl dX3_borrowed_27 ?_
      refine al_20 3 rfl (by omega) dX3_borrowed_28 ?_
      refine m_topi (hp.1 3 (by decide)) ?_
      refine m_iconst 1 dX3_borrowed_29 rfl ?_
      refine m_isub dX3_borrowed_30 ?_
      refine m_topi ((show (nI (U 3)) - 1 = nI ((U 3) - 1) from pk_sub (b := 1) (by omega))) ?_
      refine as_20 3 rfl (by omega) dX3_borrowed_31 (fun Z9 hZ9 => ?_)
      refine m_iload_n 2 rfl rfl dX3_borrowed_32 ?_
      refine m_iconst 1 dX3_borrowed_33 rfl ?_
      refine m_iadd dX3_borrowed_34 ?_
      refine m_topi (show (1 : Int32) + 1 = 2 by decide) ?_
      refine m_istore [(4, .int 2), (3, .int 3), (0, .ref (gK G 2 0)), (1, .int 1), (2, .int 0)] (by decide) rfl dX3_borrowed_35 ?_
      refine m_iload_n 4 rfl rfl dX3_borrowed_37 ?_
      refine m_if_eq 62 dX3_borrowed_38 (by decide) (fun _ => ?_) (fun c10 => absurd c10 (by decide))
      refine m_aload_n 2 rfl rfl dX3_borrowed_62 ?_
      refine gf_X3_9 dX3_borrowed_63 ?_
      refine m_iload_n 3 rfl rfl dX3_borrowed_66 ?_
      refine al_20 1 rfl (by omega) dX3_borrowed_67 ?_
      refine m_topi (up3_j hZ9 (by decide) (hp.1 1 (by decide))) ?_
      refine m_bipush (10) dX3_borrowed_68 rfl ?_
      refine m_iadd dX3_borrowed_70 ?_
      refine m_topi (show (nI (U 1)) + 10 = nI ((U 1) + 10) from nI_add _ _) ?_
      refine m_aload_n 2 rfl rfl dX3_borrowed_71 ?_
      refine gf_X3_15 dX3_borrowed_72 ?_
      refine m_iload_n 3 rfl rfl dX3_borrowed_75 ?_
      refine al_21 1 rfl (by omega) dX3_borrowed_76 ?_
      refine m_topi (up3_t hZ9 (by decide) (hp.2.1 1 (by decide))) ?_
      refine m_isub dX3_borrowed_77 ?_
      refine m_topi ((show (nI ((U 1) + 10)) - (nI (L 1)) = nI (((U 1) + 10) - (L 1)) from pk_sub (by omega))) ?_
      exact m_iret dX3_borrowed_78 (Nat.le_refl _) (Nat.le_refl _) (⟨(show nI (((U 1) + 10) - (L 1)) = nI ((byB false U L 1).1) by first | (simp_all [byB, fbW, tkW, nI_0]; done) | (grind [byB, fbW, tkW, nI_0])), Z9, rfl, ⟨lt4 (p := fun j => Z9 20 0 j = nI ((byB false U L 1).2 j)) ((up3_j hZ9 (by decide) (hp.1 0 (by decide))).trans (show nI (U 0) = nI ((byB false U L 1).2 0) by first | (simp_all [byB, fbW, tkW, nI_0]; done) | (simp_all [byB, fbW, tkW, nI_0]; omega) | (grind [byB, fbW, tkW, nI_0]))) ((up3_j hZ9 (by decide) (hp.1 1 (by decide))).trans (show nI (U 1) = nI ((byB false U L 1).2 1) by first | (simp_all [byB, fbW, tkW, nI_0]; done) | (simp_all [byB, fbW, tkW, nI_0]; omega) | (grind [byB, fbW, tkW, nI_0]))) ((up3_j hZ9 (by decide) (hp.1 2 (by decide))).trans (show nI (U 2) = nI ((byB false U L 1).2 2) by first | (simp_all [byB, fbW, tkW, nI_0]; done) | (simp_all [byB, fbW, tkW, nI_0]; omega) | (grind [byB, fbW, tkW, nI_0]))) ((up3_e hZ9).trans (show nI ((U 3) - 1) = nI ((byB false U L 1).2 3) by first | (simp_all [byB, fbW, tkW, nI_0]; done) | (simp_all [byB, fbW, tkW, nI_0]; omega) | (grind [byB, fbW, tkW, nI_0]))), fun j hj => (((zfr_up zfr_rf hZ9) : zfr 20 Z Z9) 21 0 j (by decide)).trans (hp.2.1 j hj), byB_le hp.2.2.1, hp.2.2.2⟩, (zfr_up zfr_rf hZ9)⟩)
  ·
    refine m_aload_n 1 rfl rfl dX3_borrowed_22 ?_
    refine gf_X3_9 dX3_borrowed_23 ?_
    refine m_iload_n 0 rfl rfl dX3_borrowed_26 ?_
    refine m_dup2 rfl rfl dX3_borrowed_27 ?_
    refine al_20 2 rfl (by omega) dX3_borrowed_28 ?_
    refine m_topi (hp.1 2 (by decide)) ?_
    refine m_iconst 1 dX3_borrowed_29 rfl ?_
    refine m_isub dX3_borrowed_30 ?_
    refine m_topi ((show (nI (U 2)) - 1 = nI ((U 2) - 1) from pk_sub (b := 1) (by omega))) ?_
    refine as_20 2 rfl (by omega) dX3_borrowed_31 (fun Z11 hZ11 => ?_)
    refine m_iload_n 2 rfl rfl dX3_borrowed_32 ?_
    refine m_iconst 1 dX3_borrowed_33 rfl ?_
    refine m_iadd dX3_borrowed_34 ?_
    refine m_topi (show (1 : Int32) + 1 = 2 by decide) ?_
    refine m_istore [(4, .int 2), (3, .int 2), (0, .ref (gK G 2 0)), (1, .int 1), (2, .int 0)] (by decide) rfl dX3_borrowed_35 ?_
    refine m_iload_n 4 rfl rfl dX3_borrowed_37 ?_
    refine m_if_eq 62 dX3_borrowed_38 (by decide) (fun _ => ?_) (fun c12 => absurd c12 (by decide))
    refine m_aload_n 2 rfl rfl dX3_borrowed_62 ?_
    refine gf_X3_9 dX3_borrowed_63 ?_
    refine m_iload_n 3 rfl rfl dX3_borrowed_66 ?_
    refine al_20 1 rfl (by omega) dX3_borrowed_67 ?_
    refine m_topi (up3_j hZ11 (by decide) (hp.1 1 (by decide))) ?_
    refine m_bipush (10) dX3_borrowed_68 rfl ?_
    refine m_iadd dX3_borrowed_70 ?_
    refine m_topi (show (nI (U 1)) + 10 = nI ((U 1) + 10) from nI_add _ _) ?_
    refine m_aload_n 2 rfl rfl dX3_borrowed_71 ?_
    refine gf_X3_15 dX3_borrowed_72 ?_
    refine m_iload_n 3 rfl rfl dX3_borrowed_75 ?_
    refine al_21 1 rfl (by omega) dX3_borrowed_76 ?_
    refine m_topi (up3_t hZ11 (by decide) (hp.2.1 1 (by decide))) ?_
    refine m_isub dX3_borrowed_77 ?_
    refine m_topi ((show (nI ((U 1) + 10)) - (nI (L 1)) = nI (((U 1) + 10) - (L 1)) from pk_sub (by omega))) ?_
    exact m_iret dX3_borrowed_78 (Nat.le_refl _) (Nat.le_refl _) (⟨(show nI (((U 1) + 10) - (L 1)) = nI ((byB false U L 1).1) by first | (simp_all [byB, fbW, tkW, nI_0]; done) | (grind [byB, fbW, tkW, nI_0])), Z11, rfl, ⟨lt4 (p := fun j => Z11 20 0 j = nI ((byB false U L 1).2 j)) ((up3_j hZ11 (by decide) (hp.1 0 (by decide))).trans (show nI (U 0) = nI ((byB false U L 1).2 0) by first | (simp_all [byB, fbW, tkW, nI_0]; done) | (simp_all [byB, fbW, tkW, nI_0]; omega) | (grind [byB, fbW, tkW, nI_0]))) ((up3_j hZ11 (by decide) (hp.1 1 (by decide))).trans (show nI (U 1) = nI ((byB false U L 1).2 1) by first | (simp_all [byB, fbW, tkW, nI_0]; done) | (simp_all [byB, fbW, tkW, nI_0]; omega) | (grind [byB, fbW, tkW, nI_0]))) ((up3_e hZ11).trans (show nI ((U 2) - 1) = nI ((byB false U L 1).2 2) by first | (simp_all [byB, fbW, tkW, nI_0]; done) | (simp_all [byB, fbW, tkW, nI_0]; omega) | (grind [byB, fbW, tkW, nI_0]))) ((up3_j hZ11 (by decide) (hp.1 3 (by decide))).trans (show nI (U 3) = nI ((byB false U L 1).2 3) by first | (simp_all [byB, fbW, tkW, nI_0]; done) | (simp_all [byB, fbW, tkW, nI_0]; omega) | (grind [byB, fbW, tkW, nI_0]))), fun j hj => (((zfr_up zfr_rf hZ11) : zfr 20 Z Z11) 21 0 j (by decide)).trans (hp.2.1 j hj), byB_le hp.2.2.1, hp.2.2.2⟩, (zfr_up zfr_rf hZ11)⟩)
set_option maxRecDepth 100000 in
set_option maxHeartbeats 4000000 in
theorem k_borrowed_1_1 (l : Launch) (G : owG) {A S Z B T V : owF} {J : Nat → Nat → Int64} {Y : Nat → Nat → Nat → Option Nat} {P : Nat → Option owW} (U L : Nat → Nat) (hp : pap Z U L) : Ct l G yX3_borrowed cX3_borrowed 5 ((some .int)) 0 0 0 [.ref (gK G 2 0), .int 1, .int 1] (A, S, Z, B, T, V, J, Y, P) (qI (fun x σ => x = nI (byB true U L 1).1 ∧ ∃ Z2 : owF, σ = (A, S, Z2, B, T, V, J, Y, P) ∧ pap Z2 (byB true U L 1).2 L ∧ zfr 20 Z Z2)) := by
  refine ct_of (by decide +kernel) (Nat.le_of_ble_eq_true rfl) ?_
  have hu0 := hp.2.2.1 0 (by decide)
  have hu1 := hp.2.2.1 1 (by decide)
  have hu2 := hp.2.2.1 2 (by decide)
  have hu3 := hp.2.2.1 3 (by decide)
  have hl0 := hp.2.2.2 1 (by decide)
  show Wm l G cX3_borrowed 5 RX3 ((some .int)) (rmk 0 0 0) (fun _ => True) (QfM G (qI (fun x σ => x = nI (byB true U L 1).1 ∧ ∃ Z2 : owF, σ = (A, S, Z2, B, T, V, J, Y, P) ∧ pap Z2 (byB true U L 1).2 L ∧ zfr 20 Z Z2)) 0 0) 0 [(0, .ref (gK G 2 0)), (1, .int 1), (2, .int 1)] [] (A, S, Z, B, T, V, J, Y, P) 0 0
  refine m_iload_n 1 rfl rfl dX3_borrowed_0 ?_
  refine m_iconst 1 dX3_borrowed_1 rfl ?_
  refine m_iadd dX3_borrowed_2 ?_
  refine m_topi (show (1 : Int32) + 1 = 2 by decide) ?_
  refine m_istore_n [(3, .int 2), (0, .ref (gK G 2 0)), (1, .int 1), (2, .int 1)] rfl (by decide) rfl dX3_borrowed_3 ?_
  refine m_iload_n 2 rfl rfl dX3_borrowed_4 ?_
  refine m_if_lt 85 dX3_borrowed_5 (by decide) (fun c1 => absurd c1 (by decide)) (fun _ => ?_)
  refine m_iload_n 0 rfl rfl dX3_borrowed_8 ?_
  refine m_iconst 4 dX3_borrowed_9 rfl ?_
  refine m_icmp_ge 85 dX3_borrowed_10 (by decide) (fun c2 => absurd c2 (by decide)) (fun _ => ?_)
  refine m_aload_n 1 rfl rfl dX3_borrowed_13 ?_
  refine gf_X3_9 dX3_borrowed_14 ?_
  refine m_iload_n 0 rfl rfl dX3_borrowed_17 ?_
  refine al_20 2 rfl (by omega) dX3_borrowed_18 ?_
  refine m_topi (hp.1 2 (by decide)) ?_
  refine m_ifn_le (U 2) 79 (by omega) dX3_borrowed_19 (by decide) (fun c3 => ?_) (fun c3 => ?_)
  ·
    refine m_iinc (3) 0 [(3, .int 3), (0, .ref (gK G 2 0)), (1, .int 1), (2, .int 1)] rfl rfl (by decide) rfl dX3_borrowed_79 ?_
    refine m_goto 4 dX3_borrowed_82 (by decide) ?_
    refine m_iload_n 2 rfl rfl dX3_borrowed_4 ?_
    refine m_if_lt 85 dX3_borrowed_5 (by decide) (fun c4 => absurd c4 (by decide)) (fun _ => ?_)
    refine m_iload_n 0 rfl rfl dX3_borrowed_8 ?_
    refine m_iconst 4 dX3_borrowed_9 rfl ?_
    refine m_icmp_ge 85 dX3_borrowed_10 (by decide) (fun c5 => absurd c5 (by decide)) (fun _ => ?_)
    refine m_aload_n 1 rfl rfl dX3_borrowed_13 ?_
    refine gf_X3_9 dX3_borrowed_14 ?_
    refine m_iload_n 0 rfl rfl dX3_borrowed_17 ?_
    refine al_20 3 rfl (by omega) dX3_borrowed_18 ?_
    refine m_topi (hp.1 3 (by decide)) ?_
    refine m_ifn_le (U 3) 79 (by omega) dX3_borrowed_19 (by decide) (fun c6 => ?_) (fun c6 => ?_)
    ·
      refine m_iinc (4) 0 [(3, .int 4), (0, .ref (gK G 2 0)), (1, .int 1), (2, .int 1)] rfl rfl (by decide) rfl dX3_borrowed_79 ?_
      refine m_goto 4 dX3_borrowed_82 (by decide) ?_
      refine m_iload_n 2 rfl rfl dX3_borrowed_4 ?_
      refine m_if_lt 85 dX3_borrowed_5 (by decide) (fun c7 => absurd c7 (by decide)) (fun _ => ?_)
      refine m_iload_n 0 rfl rfl dX3_borrowed_8 ?_
      refine m_iconst 4 dX3_borrowed_9 rfl ?_
      refine m_icmp_ge 85 dX3_borrowed_10 (by decide) (fun _ => ?_) (fun c8 => absurd c8 (by decide))
      refine m_iconst 0 dX3_borrowed_85 rfl ?_
      exact m_iret dX3_borrowed_86 (Nat.le_refl _) (Nat.le_refl _) (⟨(show 0 = nI ((byB true U L 1).1) by first | (simp_all [byB, fbW, tkW, nI_0]; done) | (grind [byB, fbW, tkW, nI_0])), Z, rfl, ⟨lt4 (p := fun j => Z 20 0 j = nI ((byB true U L 1).2 j)) ((hp.1 0 (by decide)).trans (show nI (U 0) = nI ((byB true U L 1).2 0) by first | (simp_all [byB, fbW, tkW, nI_0]; done) | (simp_all [byB, fbW, tkW, nI_0]; omega) | (grind [byB, fbW, tkW, nI_0]))) ((hp.1 1 (by decide)).trans (show nI (U 1) = nI ((byB true U L 1).2 1) by first | (simp_all [byB, fbW, tkW, nI_0]; done) | (simp_all [byB, fbW, tkW, nI_0]; omega) | (grind [byB, fbW, tkW, nI_0]))) ((hp.1 2 (by decide)).trans (show nI (U 2) = nI ((byB true U L 1).2 2) by first | (simp_all [byB, fbW, tkW, nI_0]; done) | (simp_all [byB, fbW, tkW, nI_0]; omega) | (grind [byB, fbW, tkW, nI_0]))) ((hp.1 3 (by decide)).trans (show nI (U 3) = nI ((byB true U L 1).2 3) by first | (simp_all [byB, fbW, tkW, nI_0]; done) | (simp_all [byB, fbW, tkW, nI_0]; omega) | (grind [byB, fbW, tkW, nI_0]))), fun j hj => ((zfr_rf : zfr 20 Z Z) 21 0 j (by decide)).trans (hp.2.1 j hj), byB_le hp.2.2.1, hp.2.2.2⟩, zfr_rf⟩)
    ·
      refine m_aload_n 1 rfl rfl dX3_borrowed_22 ?_
      refine gf_X3_9 dX3_borrowed_23 ?_
      refine m_iload_n 0 rfl rfl dX3_borrowed_26 ?_
      refine m_dup2 rfl rfl dX3_borrowed_27 ?_
      refine al_20 3 rfl (by omega) dX3_borrowed_28 ?_
      refine m_topi (hp.1 3 (by decide)) ?_
      refine m_iconst 1 dX3_borrowed_29 rfl ?_
      refine m_isub dX3_borrowed_30 ?_
      refine m_topi ((show (nI (U 3)) - 1 = nI ((U 3) - 1) from pk_sub (b := 1) (by omega))) ?_
      refine as_20 3 rfl (by omega) dX3_borrowed_31 (fun Z9 hZ9 => ?_)
      refine m_iload_n 2 rfl rfl dX3_borrowed_32 ?_
      refine m_iconst 1 dX3_borrowed_33 rfl ?_
      refine m_iadd dX3_borrowed_34 ?_
      refine m_topi (show (1 : Int32) + 1 = 2 by decide) ?_
      refine m_istore [(4, .int 2), (3, .int 3), (0, .ref (gK G 2 0)), (1, .int 1), (2, .int 1)] (by decide) rfl dX3_borrowed_35 ?_
      refine m_iload_n 4 rfl rfl dX3_borrowed_37 ?_
      refine m_if_eq 62 dX3_borrowed_38 (by decide) (fun c10 => absurd c10 (by decide)) (fun _ => ?_)
      refine m_iload 0 rfl dX3_borrowed_41 ?_
      refine m_iload_n 1 rfl rfl dX3_borrowed_43 ?_
      refine m_icmp_ge 62 dX3_borrowed_44 (by decide) (fun c11 => absurd c11 (by decide)) (fun _ => ?_)
      refine m_aload_n 2 rfl rfl dX3_borrowed_47 ?_
      refine gf_X3_9 dX3_borrowed_48 ?_
      refine m_iload 0 rfl dX3_borrowed_51 ?_
      refine m_bipush (9) dX3_borrowed_53 rfl ?_
      refine as_20 2 rfl (by omega) dX3_borrowed_55 (fun Z12 hZ12 => ?_)
      refine m_iinc (3) 0 [(4, .int 3), (3, .int 3), (0, .ref (gK G 2 0)), (1, .int 1), (2, .int 1)] rfl rfl (by decide) rfl dX3_borrowed_56 ?_
      refine m_goto 37 dX3_borrowed_59 (by decide) ?_
      refine m_iload_n 4 rfl rfl dX3_borrowed_37 ?_
      refine m_if_eq 62 dX3_borrowed_38 (by decide) (fun c13 => absurd c13 (by decide)) (fun _ => ?_)
      refine m_iload 0 rfl dX3_borrowed_41 ?_
      refine m_iload_n 1 rfl rfl dX3_borrowed_43 ?_
      refine m_icmp_ge 62 dX3_borrowed_44 (by decide) (fun _ => ?_) (fun c14 => absurd c14 (by decide))
      refine m_aload_n 2 rfl rfl dX3_borrowed_62 ?_
      refine gf_X3_9 dX3_borrowed_63 ?_
      refine m_iload_n 3 rfl rfl dX3_borrowed_66 ?_
      refine al_20 1 rfl (by omega) dX3_borrowed_67 ?_
      refine m_topi (up3_j hZ12 (by decide) (up3_j hZ9 (by decide) (hp.1 1 (by decide)))) ?_
      refine m_bipush (10) dX3_borrowed_68 rfl ?_
      refine m_iadd dX3_borrowed_70 ?_
      refine m_topi (show (nI (U 1)) + 10 = nI ((U 1) + 10) from nI_add _ _) ?_
      refine m_aload_n 2 rfl rfl dX3_borrowed_71 ?_
      refine gf_X3_15 dX3_borrowed_72 ?_
      refine m_iload_n 3 rfl rfl dX3_borrowed_75 ?_
      refine al_21 1 rfl (by omega) dX3_borrowed_76 ?_
      refine m_topi (up3_t hZ12 (by decide) (up3_t hZ9 (by decide) (hp.2.1 1 (by decide)))) ?_
      refine m_isub dX3_borrowed_77 ?_
      refine m_topi ((show (nI ((U 1) + 10)) - (nI (L 1)) = nI (((U 1) + 10) - (L 1)) from pk_sub (by omega))) ?_
      exact m_iret dX3_borrowed_78 (Nat.le_refl _) (Nat.le_refl _) (⟨(show nI (((U 1) + 10) - (L 1)) = nI ((byB true U L 1).1) by first | (simp_all [byB, fbW, tkW, nI_0]; done) | (grind [byB, fbW, tkW, nI_0])), Z12, rfl, ⟨lt4 (p := fun j => Z12 20 0 j = nI ((byB true U L 1).2 j)) ((up3_j hZ12 (by decide) (up3_j hZ9 (by decide) (hp.1 0 (by decide)))).trans (show nI (U 0) = nI ((byB true U L 1).2 0) by first | (simp_all [byB, fbW, tkW, nI_0]; done) | (simp_all [byB, fbW, tkW, nI_0]; omega) | (grind [byB, fbW, tkW, nI_0]))) ((up3_j hZ12 (by decide) (up3_j hZ9 (by decide) (hp.1 1 (by decide)))).trans (show nI (U 1) = nI ((byB true U L 1).2 1) by first | (simp_all [byB, fbW, tkW, nI_0]; done) | (simp_all [byB, fbW, tkW, nI_0]; omega) | (grind [byB, fbW, tkW, nI_0]))) ((up3_e hZ12).trans (show nI 9 = nI ((byB true U L 1).2 2) by first | (simp_all [byB, fbW, tkW, nI_0]; done) | (simp_all [byB, fbW, tkW, nI_0]; omega) | (grind [byB, fbW, tkW, nI_0]))) ((up3_j hZ12 (by decide) (up3_e hZ9)).trans (show nI ((U 3) - 1) = nI ((byB true U L 1).2 3) by first | (simp_all [byB, fbW, tkW, nI_0]; done) | (simp_all [byB, fbW, tkW, nI_0]; omega) | (grind [byB, fbW, tkW, nI_0]))), fun j hj => (((zfr_up (zfr_up zfr_rf hZ9) hZ12) : zfr 20 Z Z12) 21 0 j (by decide)).trans (hp.2.1 j hj), byB_le hp.2.2.1, hp.2.2.2⟩, (zfr_up (zfr_up zfr_rf hZ9) hZ12)⟩)
  ·
    refine m_aload_n 1 rfl rfl dX3_borrowed_22 ?_
    refine gf_X3_9 dX3_borrowed_23 ?_
    refine m_iload_n 0 rfl rfl dX3_borrowed_26 ?_
    refine m_dup2 rfl rfl dX3_borrowed_27 ?_
    refine al_20 2 rfl (by omega) dX3_borrowed_28 ?_
    refine m_topi (hp.1 2 (by decide)) ?_
    refine m_iconst 1 dX3_borrowed_29 rfl ?_
    refine m_isub dX3_borrowed_30 ?_
    refine m_topi ((show (nI (U 2)) - 1 = nI ((U 2) - 1) from pk_sub (b := 1) (by omega))) ?_
    refine as_20 2 rfl (by omega) dX3_borrowed_31 (fun Z15 hZ15 => ?_)
    refine m_iload_n 2 rfl rfl dX3_borrowed_32 ?_
    refine m_iconst 1 dX3_borrowed_33 rfl ?_
    refine m_iadd dX3_borrowed_34 ?_
    refine m_topi (show (1 : Int32) + 1 = 2 by decide) ?_
    refine m_istore [(4, .int 2), (3, .int 2), (0, .ref (gK G 2 0)), (1, .int 1), (2, .int 1)] (by decide) rfl dX3_borrowed_35 ?_
    refine m_iload_n 4 rfl rfl dX3_borrowed_37 ?_
    refine m_if_eq 62 dX3_borrowed_38 (by decide) (fun c16 => absurd c16 (by decide)) (fun _ => ?_)
    refine m_iload 0 rfl dX3_borrowed_41 ?_
    refine m_iload_n 1 rfl rfl dX3_borrowed_43 ?_
    refine m_icmp_ge 62 dX3_borrowed_44 (by decide) (fun _ => ?_) (fun c17 => absurd c17 (by decide))
    refine m_aload_n 2 rfl rfl dX3_borrowed_62 ?_
    refine gf_X3_9 dX3_borrowed_63 ?_
    refine m_iload_n 3 rfl rfl dX3_borrowed_66 ?_
    refine al_20 1 rfl (by omega) dX3_borrowed_67 ?_
    refine m_topi (up3_j hZ15 (by decide) (hp.1 1 (by decide))) ?_
    refine m_bipush (10) dX3_borrowed_68 rfl ?_
    refine m_iadd dX3_borrowed_70 ?_
    refine m_topi (show (nI (U 1)) + 10 = nI ((U 1) + 10) from nI_add _ _) ?_
    refine m_aload_n 2 rfl rfl dX3_borrowed_71 ?_
    refine gf_X3_15 dX3_borrowed_72 ?_
    refine m_iload_n 3 rfl rfl dX3_borrowed_75 ?_
    refine al_21 1 rfl (by omega) dX3_borrowed_76 ?_
    refine m_topi (up3_t hZ15 (by decide) (hp.2.1 1 (by decide))) ?_
    refine m_isub dX3_borrowed_77 ?_
    refine m_topi ((show (nI ((U 1) + 10)) - (nI (L 1)) = nI (((U 1) + 10) - (L 1)) from pk_sub (by omega))) ?_
    exact m_iret dX3_borrowed_78 (Nat.le_refl _) (Nat.le_refl _) (⟨(show nI (((U 1) + 10) - (L 1)) = nI ((byB true U L 1).1) by first | (simp_all [byB, fbW, tkW, nI_0]; done) | (grind [byB, fbW, tkW, nI_0])), Z15, rfl, ⟨lt4 (p := fun j => Z15 20 0 j = nI ((byB true U L 1).2 j)) ((up3_j hZ15 (by decide) (hp.1 0 (by decide))).trans (show nI (U 0) = nI ((byB true U L 1).2 0) by first | (simp_all [byB, fbW, tkW, nI_0]; done) | (simp_all [byB, fbW, tkW, nI_0]; omega) | (grind [byB, fbW, tkW, nI_0]))) ((up3_j hZ15 (by decide) (hp.1 1 (by decide))).trans (show nI (U 1) = nI ((byB true U L 1).2 1) by first | (simp_all [byB, fbW, tkW, nI_0]; done) | (simp_all [byB, fbW, tkW, nI_0]; omega) | (grind [byB, fbW, tkW, nI_0]))) ((up3_e hZ15).trans (show nI ((U 2) - 1) = nI ((byB true U L 1).2 2) by first | (simp_all [byB, fbW, tkW, nI_0]; done) | (simp_all [byB, fbW, tkW, nI_0]; omega) | (grind [byB, fbW, tkW, nI_0]))) ((up3_j hZ15 (by decide) (hp.1 3 (by decide))).trans (show nI (U 3) = nI ((byB true U L 1).2 3) by first | (simp_all [byB, fbW, tkW, nI_0]; done) | (simp_all [byB, fbW, tkW, nI_0]; omega) | (grind [byB, fbW, tkW, nI_0]))), fun j hj => (((zfr_up zfr_rf hZ15) : zfr 20 Z Z15) 21 0 j (by decide)).trans (hp.2.1 j hj), byB_le hp.2.2.1, hp.2.2.2⟩, (zfr_up zfr_rf hZ15)⟩)
set_option maxRecDepth 100000 in
set_option maxHeartbeats 4000000 in
theorem k_borrowed_2_0 (l : Launch) (G : owG) {A S Z B T V : owF} {J : Nat → Nat → Int64} {Y : Nat → Nat → Nat → Option Nat} {P : Nat → Option owW} (U L : Nat → Nat) (hp : pap Z U L) : Ct l G yX3_borrowed cX3_borrowed 5 ((some .int)) 0 0 0 [.ref (gK G 2 0), .int 2, .int 0] (A, S, Z, B, T, V, J, Y, P) (qI (fun x σ => x = nI (byB false U L 2).1 ∧ ∃ Z2 : owF, σ = (A, S, Z2, B, T, V, J, Y, P) ∧ pap Z2 (byB false U L 2).2 L ∧ zfr 20 Z Z2)) := by
  refine ct_of (by decide +kernel) (Nat.le_of_ble_eq_true rfl) ?_
  have hu0 := hp.2.2.1 0 (by decide)
  have hu1 := hp.2.2.1 1 (by decide)
  have hu2 := hp.2.2.1 2 (by decide)
  have hu3 := hp.2.2.1 3 (by decide)
  have hl0 := hp.2.2.2 2 (by decide)
  show Wm l G cX3_borrowed 5 RX3 ((some .int)) (rmk 0 0 0) (fun _ => True) (QfM G (qI (fun x σ => x = nI (byB false U L 2).1 ∧ ∃ Z2 : owF, σ = (A, S, Z2, B, T, V, J, Y, P) ∧ pap Z2 (byB false U L 2).2 L ∧ zfr 20 Z Z2)) 0 0) 0 [(0, .ref (gK G 2 0)), (1, .int 2), (2, .int 0)] [] (A, S, Z, B, T, V, J, Y, P) 0 0
  refine m_iload_n 1 rfl rfl dX3_borrowed_0 ?_
  refine m_iconst 1 dX3_borrowed_1 rfl ?_
  refine m_iadd dX3_borrowed_2 ?_
  refine m_topi (show (2 : Int32) + 1 = 3 by decide) ?_
  refine m_istore_n [(3, .int 3), (0, .ref (gK G 2 0)), (1, .int 2), (2, .int 0)] rfl (by decide) rfl dX3_borrowed_3 ?_
  refine m_iload_n 2 rfl rfl dX3_borrowed_4 ?_
  refine m_if_lt 85 dX3_borrowed_5 (by decide) (fun c1 => absurd c1 (by decide)) (fun _ => ?_)
  refine m_iload_n 0 rfl rfl dX3_borrowed_8 ?_
  refine m_iconst 4 dX3_borrowed_9 rfl ?_
  refine m_icmp_ge 85 dX3_borrowed_10 (by decide) (fun c2 => absurd c2 (by decide)) (fun _ => ?_)
  refine m_aload_n 1 rfl rfl dX3_borrowed_13 ?_
  refine gf_X3_9 dX3_borrowed_14 ?_
  refine m_iload_n 0 rfl rfl dX3_borrowed_17 ?_
  refine al_20 3 rfl (by omega) dX3_borrowed_18 ?_
  refine m_topi (hp.1 3 (by decide)) ?_
  refine m_ifn_le (U 3) 79 (by omega) dX3_borrowed_19 (by decide) (fun c3 => ?_) (fun c3 => ?_)
  ·
    refine m_iinc (4) 0 [(3, .int 4), (0, .ref (gK G 2 0)), (1, .int 2), (2, .int 0)] rfl rfl (by decide) rfl dX3_borrowed_79 ?_
    refine m_goto 4 dX3_borrowed_82 (by decide) ?_
    refine m_iload_n 2 rfl rfl dX3_borrowed_4 ?_
    refine m_if_lt 85 dX3_borrowed_5 (by decide) (fun c4 => absurd c4 (by decide)) (fun _ => ?_)
    refine m_iload_n 0 rfl rfl dX3_borrowed_8 ?_
    refine m_iconst 4 dX3_borrowed_9 rfl ?_
    refine m_icmp_ge 85 dX3_borrowed_10 (by decide) (fun _ => ?_) (fun c5 => absurd c5 (by decide))
    refine m_iconst 0 dX3_borrowed_85 rfl ?_
    exact m_iret dX3_borrowed_86 (Nat.le_refl _) (Nat.le_refl _) (⟨(show 0 = nI ((byB false U L 2).1) by first | (simp_all [byB, fbW, tkW, nI_0]; done) | (grind [byB, fbW, tkW, nI_0])), Z, rfl, ⟨lt4 (p := fun j => Z 20 0 j = nI ((byB false U L 2).2 j)) ((hp.1 0 (by decide)).trans (show nI (U 0) = nI ((byB false U L 2).2 0) by first | (simp_all [byB, fbW, tkW, nI_0]; done) | (simp_all [byB, fbW, tkW, nI_0]; omega) | (grind [byB, fbW, tkW, nI_0]))) ((hp.1 1 (by decide)).trans (show nI (U 1) = nI ((byB false U L 2).2 1) by first | (simp_all [byB, fbW, tkW, nI_0]; done) | (simp_all [byB, fbW, tkW, nI_0]; omega) | (grind [byB, fbW, tkW, nI_0]))) ((hp.1 2 (by decide)).trans (show nI (U 2) = nI ((byB false U L 2).2 2) by first | (simp_all [byB, fbW, tkW, nI_0]; done) | (simp_all [byB, fbW, tkW, nI_0]; omega) | (grind [byB, fbW, tkW, nI_0]))) ((hp.1 3 (by decide)).trans (show nI (U 3) = nI ((byB false U L 2).2 3) by first | (simp_all [byB, fbW, tkW, nI_0]; done) | (simp_all [byB, fbW, tkW, nI_0]; omega) | (grind [byB, fbW, tkW, nI_0]))), fun j hj => ((zfr_rf : zfr 20 Z Z) 21 0 j (by decide)).trans (hp.2.1 j hj), byB_le hp.2.2.1, hp.2.2.2⟩, zfr_rf⟩)
  ·
    refine m_aload_n 1 rfl rfl dX3_borrowed_22 ?_
    refine gf_X3_9 dX3_borrowed_23 ?_
    refine m_iload_n 0 rfl rfl dX3_borrowed_26 ?_
    refine m_dup2 rfl rfl dX3_borrowed_27 ?_
    refine al_20 3 rfl (by omega) dX3_borrowed_28 ?_
    refine m_topi (hp.1 3 (by decide)) ?_
    refine m_iconst 1 dX3_borrowed_29 rfl ?_
    refine m_isub dX3_borrowed_30 ?_
    refine m_topi ((show (nI (U 3)) - 1 = nI ((U 3) - 1) from pk_sub (b := 1) (by omega))) ?_
    refine as_20 3 rfl (by omega) dX3_borrowed_31 (fun Z6 hZ6 => ?_)
    refine m_iload_n 2 rfl rfl dX3_borrowed_32 ?_
    refine m_iconst 1 dX3_borrowed_33 rfl ?_
    refine m_iadd dX3_borrowed_34 ?_
    refine m_topi (show (2 : Int32) + 1 = 3 by decide) ?_
    refine m_istore [(4, .int 3), (3, .int 3), (0, .ref (gK G 2 0)), (1, .int 2), (2, .int 0)] (by decide) rfl dX3_borrowed_35 ?_
    refine m_iload_n 4 rfl rfl dX3_borrowed_37 ?_
    refine m_if_eq 62 dX3_borrowed_38 (by decide) (fun _ => ?_) (fun c7 => absurd c7 (by decide))
    refine m_aload_n 2 rfl rfl dX3_borrowed_62 ?_
    refine gf_X3_9 dX3_borrowed_63 ?_
    refine m_iload_n 3 rfl rfl dX3_borrowed_66 ?_
    refine al_20 2 rfl (by omega) dX3_borrowed_67 ?_
    refine m_topi (up3_j hZ6 (by decide) (hp.1 2 (by decide))) ?_
    refine m_bipush (10) dX3_borrowed_68 rfl ?_
    refine m_iadd dX3_borrowed_70 ?_
    refine m_topi (show (nI (U 2)) + 10 = nI ((U 2) + 10) from nI_add _ _) ?_
    refine m_aload_n 2 rfl rfl dX3_borrowed_71 ?_
    refine gf_X3_15 dX3_borrowed_72 ?_
    refine m_iload_n 3 rfl rfl dX3_borrowed_75 ?_
    refine al_21 2 rfl (by omega) dX3_borrowed_76 ?_
    refine m_topi (up3_t hZ6 (by decide) (hp.2.1 2 (by decide))) ?_
    refine m_isub dX3_borrowed_77 ?_
    refine m_topi ((show (nI ((U 2) + 10)) - (nI (L 2)) = nI (((U 2) + 10) - (L 2)) from pk_sub (by omega))) ?_
    exact m_iret dX3_borrowed_78 (Nat.le_refl _) (Nat.le_refl _) (⟨(show nI (((U 2) + 10) - (L 2)) = nI ((byB false U L 2).1) by first | (simp_all [byB, fbW, tkW, nI_0]; done) | (grind [byB, fbW, tkW, nI_0])), Z6, rfl, ⟨lt4 (p := fun j => Z6 20 0 j = nI ((byB false U L 2).2 j)) ((up3_j hZ6 (by decide) (hp.1 0 (by decide))).trans (show nI (U 0) = nI ((byB false U L 2).2 0) by first | (simp_all [byB, fbW, tkW, nI_0]; done) | (simp_all [byB, fbW, tkW, nI_0]; omega) | (grind [byB, fbW, tkW, nI_0]))) ((up3_j hZ6 (by decide) (hp.1 1 (by decide))).trans (show nI (U 1) = nI ((byB false U L 2).2 1) by first | (simp_all [byB, fbW, tkW, nI_0]; done) | (simp_all [byB, fbW, tkW, nI_0]; omega) | (grind [byB, fbW, tkW, nI_0]))) ((up3_j hZ6 (by decide) (hp.1 2 (by decide))).trans (show nI (U 2) = nI ((byB false U L 2).2 2) by first | (simp_all [byB, fbW, tkW, nI_0]; done) | (simp_all [byB, fbW, tkW, nI_0]; omega) | (grind [byB, fbW, tkW, nI_0]))) ((up3_e hZ6).trans (show nI ((U 3) - 1) = nI ((byB false U L 2).2 3) by first | (simp_all [byB, fbW, tkW, nI_0]; done) | (simp_all [byB, fbW, tkW, nI_0]; omega) | (grind [byB, fbW, tkW, nI_0]))), fun j hj => (((zfr_up zfr_rf hZ6) : zfr 20 Z Z6) 21 0 j (by decide)).trans (hp.2.1 j hj), byB_le hp.2.2.1, hp.2.2.2⟩, (zfr_up zfr_rf hZ6)⟩)
set_option maxRecDepth 100000 in
set_option maxHeartbeats 4000000 in
theorem k_borrowed_2_1 (l : Launch) (G : owG) {A S Z B T V : owF} {J : Nat → Nat → Int64} {Y : Nat → Nat → Nat → Option Nat} {P : Nat → Option owW} (U L : Nat → Nat) (hp : pap Z U L) : Ct l G yX3_borrowed cX3_borrowed 5 ((some .int)) 0 0 0 [.ref (gK G 2 0), .int 2, .int 1] (A, S, Z, B, T, V, J, Y, P) (qI (fun x σ => x = nI (byB true U L 2).1 ∧ ∃ Z2 : owF, σ = (A, S, Z2, B, T, V, J, Y, P) ∧ pap Z2 (byB true U L 2).2 L ∧ zfr 20 Z Z2)) := by
  refine ct_of (by decide +kernel) (Nat.le_of_ble_eq_true rfl) ?_
  have hu0 := hp.2.2.1 0 (by decide)
  have hu1 := hp.2.2.1 1 (by decide)
  have hu2 := hp.2.2.1 2 (by decide)
  have hu3 := hp.2.2.1 3 (by decide)
  have hl0 := hp.2.2.2 2 (by decide)
  show Wm l G cX3_borrowed 5 RX3 ((some .int)) (rmk 0 0 0) (fun _ => True) (QfM G (qI (fun x σ => x = nI (byB true U L 2).1 ∧ ∃ Z2 : owF, σ = (A, S, Z2, B, T, V, J, Y, P) ∧ pap Z2 (byB true U L 2).2 L ∧ zfr 20 Z Z2)) 0 0) 0 [(0, .ref (gK G 2 0)), (1, .int 2), (2, .int 1)] [] (A, S, Z, B, T, V, J, Y, P) 0 0
  refine m_iload_n 1 rfl rfl dX3_borrowed_0 ?_
  refine m_iconst 1 dX3_borrowed_1 rfl ?_
  refine m_iadd dX3_borrowed_2 ?_
  refine m_topi (show (2 : Int32) + 1 = 3 by decide) ?_
  refine m_istore_n [(3, .int 3), (0, .ref (gK G 2 0)), (1, .int 2), (2, .int 1)] rfl (by decide) rfl dX3_borrowed_3 ?_
  refine m_iload_n 2 rfl rfl dX3_borrowed_4 ?_
  refine m_if_lt 85 dX3_borrowed_5 (by decide) (fun c1 => absurd c1 (by decide)) (fun _ => ?_)
  refine m_iload_n 0 rfl rfl dX3_borrowed_8 ?_
  refine m_iconst 4 dX3_borrowed_9 rfl ?_
  refine m_icmp_ge 85 dX3_borrowed_10 (by decide) (fun c2 => absurd c2 (by decide)) (fun _ => ?_)
  refine m_aload_n 1 rfl rfl dX3_borrowed_13 ?_
  refine gf_X3_9 dX3_borrowed_14 ?_
  refine m_iload_n 0 rfl rfl dX3_borrowed_17 ?_
  refine al_20 3 rfl (by omega) dX3_borrowed_18 ?_
  refine m_topi (hp.1 3 (by decide)) ?_
  refine m_ifn_le (U 3) 79 (by omega) dX3_borrowed_19 (by decide) (fun c3 => ?_) (fun c3 => ?_)
  ·
    refine m_iinc (4) 0 [(3, .int 4), (0, .ref (gK G 2 0)), (1, .int 2), (2, .int 1)] rfl rfl (by decide) rfl dX3_borrowed_79 ?_
    refine m_goto 4 dX3_borrowed_82 (by decide) ?_
    refine m_iload_n 2 rfl rfl dX3_borrowed_4 ?_
    refine m_if_lt 85 dX3_borrowed_5 (by decide) (fun c4 => absurd c4 (by decide)) (fun _ => ?_)
    refine m_iload_n 0 rfl rfl dX3_borrowed_8 ?_
    refine m_iconst 4 dX3_borrowed_9 rfl ?_
    refine m_icmp_ge 85 dX3_borrowed_10 (by decide) (fun _ => ?_) (fun c5 => absurd c5 (by decide))
    refine m_iconst 0 dX3_borrowed_85 rfl ?_
    exact m_iret dX3_borrowed_86 (Nat.le_refl _) (Nat.le_refl _) (⟨(show 0 = nI ((byB true U L 2).1) by first | (simp_all [byB, fbW, tkW, nI_0]; done) | (grind [byB, fbW, tkW, nI_0])), Z, rfl, ⟨lt4 (p := fun j => Z 20 0 j = nI ((byB true U L 2).2 j)) ((hp.1 0 (by decide)).trans (show nI (U 0) = nI ((byB true U L 2).2 0) by first | (simp_all [byB, fbW, tkW, nI_0]; done) | (simp_all [byB, fbW, tkW, nI_0]; omega) | (grind [byB, fbW, tkW, nI_0]))) ((hp.1 1 (by decide)).trans (show nI (U 1) = nI ((byB true U L 2).2 1) by first | (simp_all [byB, fbW, tkW, nI_0]; done) | (simp_all [byB, fbW, tkW, nI_0]; omega) | (grind [byB, fbW, tkW, nI_0]))) ((hp.1 2 (by decide)).trans (show nI (U 2) = nI ((byB true U L 2).2 2) by first | (simp_all [byB, fbW, tkW, nI_0]; done) | (simp_all [byB, fbW, tkW, nI_0]; omega) | (grind [byB, fbW, tkW, nI_0]))) ((hp.1 3 (by decide)).trans (show nI (U 3) = nI ((byB true U L 2).2 3) by first | (simp_all [byB, fbW, tkW, nI_0]; done) | (simp_all [byB, fbW, tkW, nI_0]; omega) | (grind [byB, fbW, tkW, nI_0]))), fun j hj => ((zfr_rf : zfr 20 Z Z) 21 0 j (by decide)).trans (hp.2.1 j hj), byB_le hp.2.2.1, hp.2.2.2⟩, zfr_rf⟩)
  ·
    refine m_aload_n 1 rfl rfl dX3_borrowed_22 ?_
    refine gf_X3_9 dX3_borrowed_23 ?_
    refine m_iload_n 0 rfl rfl dX3_borrowed_26 ?_
    refine m_dup2 rfl rfl dX3_borrowed_27 ?_
    refine al_20 3 rfl (by omega) dX3_borrowed_28 ?_
    refine m_topi (hp.1 3 (by decide)) ?_
    refine m_iconst 1 dX3_borrowed_29 rfl ?_
    refine m_isub dX3_borrowed_30 ?_
    refine m_topi ((show (nI (U 3)) - 1 = nI ((U 3) - 1) from pk_sub (b := 1) (by omega))) ?_
    refine as_20 3 rfl (by omega) dX3_borrowed_31 (fun Z6 hZ6 => ?_)
    refine m_iload_n 2 rfl rfl dX3_borrowed_32 ?_
    refine m_iconst 1 dX3_borrowed_33 rfl ?_
    refine m_iadd dX3_borrowed_34 ?_
    refine m_topi (show (2 : Int32) + 1 = 3 by decide) ?_
    refine m_istore [(4, .int 3), (3, .int 3), (0, .ref (gK G 2 0)), (1, .int 2), (2, .int 1)] (by decide) rfl dX3_borrowed_35 ?_
    refine m_iload_n 4 rfl rfl dX3_borrowed_37 ?_
    refine m_if_eq 62 dX3_borrowed_38 (by decide) (fun c7 => absurd c7 (by decide)) (fun _ => ?_)
    refine m_iload 0 rfl dX3_borrowed_41 ?_
    refine m_iload_n 1 rfl rfl dX3_borrowed_43 ?_
    refine m_icmp_ge 62 dX3_borrowed_44 (by decide) (fun _ => ?_) (fun c8 => absurd c8 (by decide))
    refine m_aload_n 2 rfl rfl dX3_borrowed_62 ?_
    refine gf_X3_9 dX3_borrowed_63 ?_
    refine m_iload_n 3 rfl rfl dX3_borrowed_66 ?_
    refine al_20 2 rfl (by omega) dX3_borrowed_67 ?_
    refine m_topi (up3_j hZ6 (by decide) (hp.1 2 (by decide))) ?_
    refine m_bipush (10) dX3_borrowed_68 rfl ?_
    refine m_iadd dX3_borrowed_70 ?_
    refine m_topi (show (nI (U 2)) + 10 = nI ((U 2) + 10) from nI_add _ _) ?_
    refine m_aload_n 2 rfl rfl dX3_borrowed_71 ?_
    refine gf_X3_15 dX3_borrowed_72 ?_
    refine m_iload_n 3 rfl rfl dX3_borrowed_75 ?_
    refine al_21 2 rfl (by omega) dX3_borrowed_76 ?_
    refine m_topi (up3_t hZ6 (by decide) (hp.2.1 2 (by decide))) ?_
    refine m_isub dX3_borrowed_77 ?_
    refine m_topi ((show (nI ((U 2) + 10)) - (nI (L 2)) = nI (((U 2) + 10) - (L 2)) from pk_sub (by omega))) ?_
    exact m_iret dX3_borrowed_78 (Nat.le_refl _) (Nat.le_refl _) (⟨(show nI (((U 2) + 10) - (L 2)) = nI ((byB true U L 2).1) by first | (simp_all [byB, fbW, tkW, nI_0]; done) | (grind [byB, fbW, tkW, nI_0])), Z6, rfl, ⟨lt4 (p := fun j => Z6 20 0 j = nI ((byB true U L 2).2 j)) ((up3_j hZ6 (by decide) (hp.1 0 (by decide))).trans (show nI (U 0) = nI ((byB true U L 2).2 0) by first | (simp_all [byB, fbW, tkW, nI_0]; done) | (simp_all [byB, fbW, tkW, nI_0]; omega) | (grind [byB, fbW, tkW, nI_0]))) ((up3_j hZ6 (by decide) (hp.1 1 (by decide))).trans (show nI (U 1) = nI ((byB true U L 2).2 1) by first | (simp_all [byB, fbW, tkW, nI_0]; done) | (simp_all [byB, fbW, tkW, nI_0]; omega) | (grind [byB, fbW, tkW, nI_0]))) ((up3_j hZ6 (by decide) (hp.1 2 (by decide))).trans (show nI (U 2) = nI ((byB true U L 2).2 2) by first | (simp_all [byB, fbW, tkW, nI_0]; done) | (simp_all [byB, fbW, tkW, nI_0]; omega) | (grind [byB, fbW, tkW, nI_0]))) ((up3_e hZ6).trans (show nI ((U 3) - 1) = nI ((byB true U L 2).2 3) by first | (simp_all [byB, fbW, tkW, nI_0]; done) | (simp_all [byB, fbW, tkW, nI_0]; omega) | (grind [byB, fbW, tkW, nI_0]))), fun j hj => (((zfr_up zfr_rf hZ6) : zfr 20 Z Z6) 21 0 j (by decide)).trans (hp.2.1 j hj), byB_le hp.2.2.1, hp.2.2.2⟩, (zfr_up zfr_rf hZ6)⟩)
set_option maxRecDepth 100000 in
set_option maxHeartbeats 4000000 in
theorem k_borrowed_3_0 (l : Launch) (G : owG) {A S Z B T V : owF} {J : Nat → Nat → Int64} {Y : Nat → Nat → Nat → Option Nat} {P : Nat → Option owW} (U L : Nat → Nat) (hp : pap Z U L) : Ct l G yX3_borrowed cX3_borrowed 5 ((some .int)) 0 0 0 [.ref (gK G 2 0), .int 3, .int 0] (A, S, Z, B, T, V, J, Y, P) (qI (fun x σ => x = nI (byB false U L 3).1 ∧ ∃ Z2 : owF, σ = (A, S, Z2, B, T, V, J, Y, P) ∧ pap Z2 (byB false U L 3).2 L ∧ zfr 20 Z Z2)) := by
  refine ct_of (by decide +kernel) (Nat.le_of_ble_eq_true rfl) ?_
  have hu0 := hp.2.2.1 0 (by decide)
  have hu1 := hp.2.2.1 1 (by decide)
  have hu2 := hp.2.2.1 2 (by decide)
  have hu3 := hp.2.2.1 3 (by decide)
  have hl0 := hp.2.2.2 3 (by decide)
  show Wm l G cX3_borrowed 5 RX3 ((some .int)) (rmk 0 0 0) (fun _ => True) (QfM G (qI (fun x σ => x = nI (byB false U L 3).1 ∧ ∃ Z2 : owF, σ = (A, S, Z2, B, T, V, J, Y, P) ∧ pap Z2 (byB false U L 3).2 L ∧ zfr 20 Z Z2)) 0 0) 0 [(0, .ref (gK G 2 0)), (1, .int 3), (2, .int 0)] [] (A, S, Z, B, T, V, J, Y, P) 0 0
  refine m_iload_n 1 rfl rfl dX3_borrowed_0 ?_
  refine m_iconst 1 dX3_borrowed_1 rfl ?_
  refine m_iadd dX3_borrowed_2 ?_
  refine m_topi (show (3 : Int32) + 1 = 4 by decide) ?_
  refine m_istore_n [(3, .int 4), (0, .ref (gK G 2 0)), (1, .int 3), (2, .int 0)] rfl (by decide) rfl dX3_borrowed_3 ?_
  refine m_iload_n 2 rfl rfl dX3_borrowed_4 ?_
  refine m_if_lt 85 dX3_borrowed_5 (by decide) (fun c1 => absurd c1 (by decide)) (fun _ => ?_)
  refine m_iload_n 0 rfl rfl dX3_borrowed_8 ?_
  refine m_iconst 4 dX3_borrowed_9 rfl ?_
  refine m_icmp_ge 85 dX3_borrowed_10 (by decide) (fun _ => ?_) (fun c2 => absurd c2 (by decide))
  refine m_iconst 0 dX3_borrowed_85 rfl ?_
  exact m_iret dX3_borrowed_86 (Nat.le_refl _) (Nat.le_refl _) (⟨(show 0 = nI ((byB false U L 3).1) by first | (simp_all [byB, fbW, tkW, nI_0]; done) | (grind [byB, fbW, tkW, nI_0])), Z, rfl, ⟨lt4 (p := fun j => Z 20 0 j = nI ((byB false U L 3).2 j)) ((hp.1 0 (by decide)).trans (show nI (U 0) = nI ((byB false U L 3).2 0) by first | (simp_all [byB, fbW, tkW, nI_0]; done) | (simp_all [byB, fbW, tkW, nI_0]; omega) | (grind [byB, fbW, tkW, nI_0]))) ((hp.1 1 (by decide)).trans (show nI (U 1) = nI ((byB false U L 3).2 1) by first | (simp_all [byB, fbW, tkW, nI_0]; done) | (simp_all [byB, fbW, tkW, nI_0]; omega) | (grind [byB, fbW, tkW, nI_0]))) ((hp.1 2 (by decide)).trans (show nI (U 2) = nI ((byB false U L 3).2 2) by first | (simp_all [byB, fbW, tkW, nI_0]; done) | (simp_all [byB, fbW, tkW, nI_0]; omega) | (grind [byB, fbW, tkW, nI_0]))) ((hp.1 3 (by decide)).trans (show nI (U 3) = nI ((byB false U L 3).2 3) by first | (simp_all [byB, fbW, tkW, nI_0]; done) | (simp_all [byB, fbW, tkW, nI_0]; omega) | (grind [byB, fbW, tkW, nI_0]))), fun j hj => ((zfr_rf : zfr 20 Z Z) 21 0 j (by decide)).trans (hp.2.1 j hj), byB_le hp.2.2.1, hp.2.2.2⟩, zfr_rf⟩)
set_option maxRecDepth 100000 in
set_option maxHeartbeats 4000000 in
theorem k_borrowed_3_1 (l : Launch) (G : owG) {A S Z B T V : owF} {J : Nat → Nat → Int64} {Y : Nat → Nat → Nat → Option Nat} {P : Nat → Option owW} (U L : Nat → Nat) (hp : pap Z U L) : Ct l G yX3_borrowed cX3_borrowed 5 ((some .int)) 0 0 0 [.ref (gK G 2 0), .int 3, .int 1] (A, S, Z, B, T, V, J, Y, P) (qI (fun x σ => x = nI (byB true U L 3).1 ∧ ∃ Z2 : owF, σ = (A, S, Z2, B, T, V, J, Y, P) ∧ pap Z2 (byB true U L 3).2 L ∧ zfr 20 Z Z2)) := by
  refine ct_of (by decide +kernel) (Nat.le_of_ble_eq_true rfl) ?_
  have hu0 := hp.2.2.1 0 (by decide)
  have hu1 := hp.2.2.1 1 (by decide)
  have hu2 := hp.2.2.1 2 (by decide)
  have hu3 := hp.2.2.1 3 (by decide)
  have hl0 := hp.2.2.2 3 (by decide)
  show Wm l G cX3_borrowed 5 RX3 ((some .int)) (rmk 0 0 0) (fun _ => True) (QfM G (qI (fun x σ => x = nI (byB true U L 3).1 ∧ ∃ Z2 : owF, σ = (A, S, Z2, B, T, V, J, Y, P) ∧ pap Z2 (byB true U L 3).2 L ∧ zfr 20 Z Z2)) 0 0) 0 [(0, .ref (gK G 2 0)), (1, .int 3), (2, .int 1)] [] (A, S, Z, B, T, V, J, Y, P) 0 0
  refine m_iload_n 1 rfl rfl dX3_borrowed_0 ?_
  refine m_iconst 1 dX3_borrowed_1 rfl ?_
  refine m_iadd dX3_borrowed_2 ?_
  refine m_topi (show (3 : Int32) + 1 = 4 by decide) ?_
  refine m_istore_n [(3, .int 4), (0, .ref (gK G 2 0)), (1, .int 3), (2, .int 1)] rfl (by decide) rfl dX3_borrowed_3 ?_
  refine m_iload_n 2 rfl rfl dX3_borrowed_4 ?_
  refine m_if_lt 85 dX3_borrowed_5 (by decide) (fun c1 => absurd c1 (by decide)) (fun _ => ?_)
  refine m_iload_n 0 rfl rfl dX3_borrowed_8 ?_
  refine m_iconst 4 dX3_borrowed_9 rfl ?_
  refine m_icmp_ge 85 dX3_borrowed_10 (by decide) (fun _ => ?_) (fun c2 => absurd c2 (by decide))
  refine m_iconst 0 dX3_borrowed_85 rfl ?_
  exact m_iret dX3_borrowed_86 (Nat.le_refl _) (Nat.le_refl _) (⟨(show 0 = nI ((byB true U L 3).1) by first | (simp_all [byB, fbW, tkW, nI_0]; done) | (grind [byB, fbW, tkW, nI_0])), Z, rfl, ⟨lt4 (p := fun j => Z 20 0 j = nI ((byB true U L 3).2 j)) ((hp.1 0 (by decide)).trans (show nI (U 0) = nI ((byB true U L 3).2 0) by first | (simp_all [byB, fbW, tkW, nI_0]; done) | (simp_all [byB, fbW, tkW, nI_0]; omega) | (grind [byB, fbW, tkW, nI_0]))) ((hp.1 1 (by decide)).trans (show nI (U 1) = nI ((byB true U L 3).2 1) by first | (simp_all [byB, fbW, tkW, nI_0]; done) | (simp_all [byB, fbW, tkW, nI_0]; omega) | (grind [byB, fbW, tkW, nI_0]))) ((hp.1 2 (by decide)).trans (show nI (U 2) = nI ((byB true U L 3).2 2) by first | (simp_all [byB, fbW, tkW, nI_0]; done) | (simp_all [byB, fbW, tkW, nI_0]; omega) | (grind [byB, fbW, tkW, nI_0]))) ((hp.1 3 (by decide)).trans (show nI (U 3) = nI ((byB true U L 3).2 3) by first | (simp_all [byB, fbW, tkW, nI_0]; done) | (simp_all [byB, fbW, tkW, nI_0]; omega) | (grind [byB, fbW, tkW, nI_0]))), fun j hj => ((zfr_rf : zfr 20 Z Z) 21 0 j (by decide)).trans (hp.2.1 j hj), byB_le hp.2.2.1, hp.2.2.2⟩, zfr_rf⟩)
theorem k_borrowed (l : Launch) (G : owG) {A S Z B T V : owF} {J : Nat → Nat → Int64} {Y : Nat → Nat → Nat → Option Nat} {P : Nat → Option owW} (c : Nat) (hc : c < 4) (nb : Bool) (U L : Nat → Nat) (hp : pap Z U L) : Ct l G yX3_borrowed cX3_borrowed 5 (some .int) 0 0 0 [.ref (gK G 2 0), .int (nI c), .int (bI nb)] (A, S, Z, B, T, V, J, Y, P) (qI (fun x σ => x = nI (byB nb U L c).1 ∧ ∃ Z2 : owF, σ = (A, S, Z2, B, T, V, J, Y, P) ∧ pap Z2 (byB nb U L c).2 L ∧ zfr 20 Z Z2)) := by
  match c, nb, hc with
  | 0, false, _ => exact k_borrowed_0_0 l G U L hp
  | 0, true, _ => exact k_borrowed_0_1 l G U L hp
  | 1, false, _ => exact k_borrowed_1_0 l G U L hp
  | 1, true, _ => exact k_borrowed_1_1 l G U L hp
  | 2, false, _ => exact k_borrowed_2_0 l G U L hp
  | 2, true, _ => exact k_borrowed_2_1 l G U L hp
  | 3, false, _ => exact k_borrowed_3_0 l G U L hp
  | 3, true, _ => exact k_borrowed_3_1 l G U L hp
set_option maxRecDepth 100000 in
set_option maxHeartbeats 4000000 in
theorem k_wr_0 (l : Launch) (G : owG) {A S Z B T V : owF} {J : Nat → Nat → Int64} {Y : Nat → Nat → Nat → Option Nat} {P : Nat → Option owW} (ad fg : Nat) (wn ww : Int32) (ha : P ad = some (0, wn, nI fg, ww)) (c : Nat) (hc : c < 4) (U L : Nat → Nat) (hp : pap Z U L) (hs : U c < L c) : Ct l G yX9_writes cX9_writes 5 ((some .int)) 1 0 0 [.ref ad, .ref (gK G 2 0), .int (nI (c)), .int (nI (U c)), .int (nI (L c))] (A, S, Z, B, T, V, J, Y, P) (qI (fun x σ => x = nI (stuckW 0 fg U L c).1 ∧ ∃ Z2 : owF, σ = (A, S, Z2, B, T, V, J, Y, P) ∧ pap Z2 (stuckW 0 fg U L c).2 L ∧ zfr 20 Z Z2)) := by
  refine ct_of (by decide +kernel) (Nat.le_of_ble_eq_true rfl) ?_
  have hu := hp.2.2.1 c hc
  have hl := hp.2.2.2 c hc
  show Wm l G cX9_writes 5 RX9 ((some .int)) (rmk 1 0 0) (fun _ => True) (QfM G (qI (fun x σ => x = nI (stuckW 0 fg U L c).1 ∧ ∃ Z2 : owF, σ = (A, S, Z2, B, T, V, J, Y, P) ∧ pap Z2 (stuckW 0 fg U L c).2 L ∧ zfr 20 Z Z2)) 0 0) 0 [(0, .ref ad), (1, .ref (gK G 2 0)), (2, .int (nI (c))), (3, .int (nI (U c))), (4, .int (nI (L c)))] [] (A, S, Z, B, T, V, J, Y, P) 0 0
  refine m_aload_n 1 rfl rfl dX9_writes_0 ?_
  refine m_iload_n 2 rfl rfl dX9_writes_1 ?_
  refine m_iconst 1 dX9_writes_2 rfl ?_
  refine m_callVi cv_X9_22 [.int (nI (c)), .int 1] [] (k_borrowed l G c hc true U L hp) (by decide) (ce_2 G _ _ _ _ _ _ _ _ _ _) rfl rfl rfl ⟨Nat.le_of_ble_eq_true rfl, Nat.le_of_ble_eq_true rfl⟩ (Nat.le_of_ble_eq_true rfl) ⟨Nat.zero_le _, Nat.zero_le _⟩ dX9_writes_3 (fun xx σ2 hq => ?_)
  obtain ⟨rfl, Z1, rfl, hp2, hf2⟩ := hq
  exact m_iret dX9_writes_6 (Nat.le_refl _) (Nat.le_refl _) (⟨rfl, Z1, rfl, hp2, hf2⟩)
set_option maxRecDepth 100000 in
set_option maxHeartbeats 4000000 in
theorem k_wr_1 (l : Launch) (G : owG) {A S Z B T V : owF} {J : Nat → Nat → Int64} {Y : Nat → Nat → Nat → Option Nat} {P : Nat → Option owW} (ad fg : Nat) (wn ww : Int32) (ha : P ad = some (1, wn, nI fg, ww)) (c : Nat) (hc : c < 4) (U L : Nat → Nat) (hp : pap Z U L) (hs : U c < L c) : Ct l G yX8_writes cX8_writes 5 ((some .int)) 0 0 0 [.ref ad, .ref (gK G 2 0), .int (nI (c)), .int (nI (U c)), .int (nI (L c))] (A, S, Z, B, T, V, J, Y, P) (qI (fun x σ => x = nI (stuckW 1 fg U L c).1 ∧ ∃ Z2 : owF, σ = (A, S, Z2, B, T, V, J, Y, P) ∧ pap Z2 (stuckW 1 fg U L c).2 L ∧ zfr 20 Z Z2)) := by
  refine ct_of (by decide +kernel) (Nat.le_of_ble_eq_true rfl) ?_
  have hu := hp.2.2.1 c hc
  have hl := hp.2.2.2 c hc
  show Wm l G cX8_writes 5 RX8 ((some .int)) (rmk 0 0 0) (fun _ => True) (QfM G (qI (fun x σ => x = nI (stuckW 1 fg U L c).1 ∧ ∃ Z2 : owF, σ = (A, S, Z2, B, T, V, J, Y, P) ∧ pap Z2 (stuckW 1 fg U L c).2 L ∧ zfr 20 Z Z2)) 0 0) 0 [(0, .ref ad), (1, .ref (gK G 2 0)), (2, .int (nI (c))), (3, .int (nI (U c))), (4, .int (nI (L c)))] [] (A, S, Z, B, T, V, J, Y, P) 0 0
  refine m_iload 4 rfl dX8_writes_0 ?_
  refine m_iload_n 3 rfl rfl dX8_writes_2 ?_
  refine m_isub dX8_writes_3 ?_
  refine m_topi ((show (nI (L c)) - (nI (U c)) = nI ((L c) - (U c)) from pk_sub (by omega))) ?_
  exact m_iret dX8_writes_4 (Nat.le_refl _) (Nat.le_refl _) (⟨rfl, Z, rfl, hp, zfr_rf⟩)
set_option maxRecDepth 100000 in
set_option maxHeartbeats 4000000 in
theorem k_wr_X8_5 (l : Launch) (G : owG) {A S Z B T V : owF} {J : Nat → Nat → Int64} {Y : Nat → Nat → Nat → Option Nat} {P : Nat → Option owW} (ad fg : Nat) (wn ww : Int32) (ha : P ad = some (5, wn, nI fg, ww)) (c : Nat) (hc : c < 4) (U L : Nat → Nat) (hp : pap Z U L) (hs : U c < L c) : Ct l G yX8_writes cX8_writes 5 ((some .int)) 0 0 0 [.ref ad, .ref (gK G 2 0), .int (nI (c)), .int (nI (U c)), .int (nI (L c))] (A, S, Z, B, T, V, J, Y, P) (qI (fun x σ => x = nI (stuckW 1 fg U L c).1 ∧ ∃ Z2 : owF, σ = (A, S, Z2, B, T, V, J, Y, P) ∧ pap Z2 (stuckW 1 fg U L c).2 L ∧ zfr 20 Z Z2)) := by
  refine ct_of (by decide +kernel) (Nat.le_of_ble_eq_true rfl) ?_
  have hu := hp.2.2.1 c hc
  have hl := hp.2.2.2 c hc
  show Wm l G cX8_writes 5 RX8 ((some .int)) (rmk 0 0 0) (fun _ => True) (QfM G (qI (fun x σ => x = nI (stuckW 1 fg U L c).1 ∧ ∃ Z2 : owF, σ = (A, S, Z2, B, T, V, J, Y, P) ∧ pap Z2 (stuckW 1 fg U L c).2 L ∧ zfr 20 Z Z2)) 0 0) 0 [(0, .ref ad), (1, .ref (gK G 2 0)), (2, .int (nI (c))), (3, .int (nI (U c))), (4, .int (nI (L c)))] [] (A, S, Z, B, T, V, J, Y, P) 0 0
  refine m_iload 4 rfl dX8_writes_0 ?_
  refine m_iload_n 3 rfl rfl dX8_writes_2 ?_
  refine m_isub dX8_writes_3 ?_
  refine m_topi ((show (nI (L c)) - (nI (U c)) = nI ((L c) - (U c)) from pk_sub (by omega))) ?_
  exact m_iret dX8_writes_4 (Nat.le_refl _) (Nat.le_refl _) (⟨rfl, Z, rfl, hp, zfr_rf⟩)
set_option maxRecDepth 100000 in
set_option maxHeartbeats 4000000 in
theorem k_wr_2 (l : Launch) (G : owG) {A S Z B T V : owF} {J : Nat → Nat → Int64} {Y : Nat → Nat → Nat → Option Nat} {P : Nat → Option owW} (ad fg : Nat) (wn ww : Int32) (ha : P ad = some (2, wn, nI fg, ww)) (c : Nat) (hc : c < 4) (U L : Nat → Nat) (hp : pap Z U L) (hs : U c < L c) : Ct l G yX2_writes cX2_writes 5 ((some .int)) 0 0 0 [.ref ad, .ref (gK G 2 0), .int (nI (c)), .int (nI (U c)), .int (nI (L c))] (A, S, Z, B, T, V, J, Y, P) (qI (fun x σ => x = nI (stuckW 2 fg U L c).1 ∧ ∃ Z2 : owF, σ = (A, S, Z2, B, T, V, J, Y, P) ∧ pap Z2 (stuckW 2 fg U L c).2 L ∧ zfr 20 Z Z2)) := by
  refine ct_of (by decide +kernel) (Nat.le_of_ble_eq_true rfl) ?_
  have hu := hp.2.2.1 c hc
  have hl := hp.2.2.2 c hc
  show Wm l G cX2_writes 5 RX2 ((some .int)) (rmk 0 0 0) (fun _ => True) (QfM G (qI (fun x σ => x = nI (stuckW 2 fg U L c).1 ∧ ∃ Z2 : owF, σ = (A, S, Z2, B, T, V, J, Y, P) ∧ pap Z2 (stuckW 2 fg U L c).2 L ∧ zfr 20 Z Z2)) 0 0) 0 [(0, .ref ad), (1, .ref (gK G 2 0)), (2, .int (nI (c))), (3, .int (nI (U c))), (4, .int (nI (L c)))] [] (A, S, Z, B, T, V, J, Y, P) 0 0
  refine m_iconst 0 dX2_writes_0 rfl ?_
  exact m_iret dX2_writes_1 (Nat.le_refl _) (Nat.le_refl _) (⟨rfl, Z, rfl, hp, zfr_rf⟩)
set_option maxRecDepth 100000 in
set_option maxHeartbeats 4000000 in
theorem k_wr_3 (l : Launch) (G : owG) {A S Z B T V : owF} {J : Nat → Nat → Int64} {Y : Nat → Nat → Nat → Option Nat} {P : Nat → Option owW} (ad fg : Nat) (wn ww : Int32) (ha : P ad = some (3, wn, nI fg, ww)) (c : Nat) (hc : c < 4) (U L : Nat → Nat) (hp : pap Z U L) (hs : U c < L c) : Ct l G yX1_writes cX1_writes 5 ((some .int)) 0 0 0 [.ref ad, .ref (gK G 2 0), .int (nI (c)), .int (nI (U c)), .int (nI (L c))] (A, S, Z, B, T, V, J, Y, P) (qI (fun x σ => x = nI (stuckW 3 fg U L c).1 ∧ ∃ Z2 : owF, σ = (A, S, Z2, B, T, V, J, Y, P) ∧ pap Z2 (stuckW 3 fg U L c).2 L ∧ zfr 20 Z Z2)) := by
  refine ct_of (by decide +kernel) (Nat.le_of_ble_eq_true rfl) ?_
  have hu := hp.2.2.1 c hc
  have hl := hp.2.2.2 c hc
  show Wm l G cX1_writes 5 RX1 ((some .int)) (rmk 0 0 0) (fun _ => True) (QfM G (qI (fun x σ => x = nI (stuckW 3 fg U L c).1 ∧ ∃ Z2 : owF, σ = (A, S, Z2, B, T, V, J, Y, P) ∧ pap Z2 (stuckW 3 fg U L c).2 L ∧ zfr 20 Z Z2)) 0 0) 0 [(0, .ref ad), (1, .ref (gK G 2 0)), (2, .int (nI (c))), (3, .int (nI (U c))), (4, .int (nI (L c)))] [] (A, S, Z, B, T, V, J, Y, P) 0 0
  refine m_iload_n 3 rfl rfl dX1_writes_0 ?_
  refine m_bipush (10) dX1_writes_1 rfl ?_
  refine m_iadd dX1_writes_3 ?_
  refine m_topi (show (nI (U c)) + 10 = nI ((U c) + 10) from nI_add _ _) ?_
  refine m_iload 4 rfl dX1_writes_4 ?_
  refine m_isub dX1_writes_6 ?_
  refine m_topi ((show (nI ((U c) + 10)) - (nI (L c)) = nI (((U c) + 10) - (L c)) from pk_sub (by omega))) ?_
  exact m_iret dX1_writes_7 (Nat.le_refl _) (Nat.le_refl _) (⟨rfl, Z, rfl, hp, zfr_rf⟩)
set_option maxRecDepth 100000 in
set_option maxHeartbeats 4000000 in
theorem k_wr_X1_7 (l : Launch) (G : owG) {A S Z B T V : owF} {J : Nat → Nat → Int64} {Y : Nat → Nat → Nat → Option Nat} {P : Nat → Option owW} (ad fg : Nat) (wn ww : Int32) (ha : P ad = some (7, wn, nI fg, ww)) (c : Nat) (hc : c < 4) (U L : Nat → Nat) (hp : pap Z U L) (hs : U c < L c) : Ct l G yX1_writes cX1_writes 5 ((some .int)) 0 0 0 [.ref ad, .ref (gK G 2 0), .int (nI (c)), .int (nI (U c)), .int (nI (L c))] (A, S, Z, B, T, V, J, Y, P) (qI (fun x σ => x = nI (stuckW 3 fg U L c).1 ∧ ∃ Z2 : owF, σ = (A, S, Z2, B, T, V, J, Y, P) ∧ pap Z2 (stuckW 3 fg U L c).2 L ∧ zfr 20 Z Z2)) := by
  refine ct_of (by decide +kernel) (Nat.le_of_ble_eq_true rfl) ?_
  have hu := hp.2.2.1 c hc
  have hl := hp.2.2.2 c hc
  show Wm l G cX1_writes 5 RX1 ((some .int)) (rmk 0 0 0) (fun _ => True) (QfM G (qI (fun x σ => x = nI (stuckW 3 fg U L c).1 ∧ ∃ Z2 : owF, σ = (A, S, Z2, B, T, V, J, Y, P) ∧ pap Z2 (stuckW 3 fg U L c).2 L ∧ zfr 20 Z Z2)) 0 0) 0 [(0, .ref ad), (1, .ref (gK G 2 0)), (2, .int (nI (c))), (3, .int (nI (U c))), (4, .int (nI (L c)))] [] (A, S, Z, B, T, V, J, Y, P) 0 0
  refine m_iload_n 3 rfl rfl dX1_writes_0 ?_
  refine m_bipush (10) dX1_writes_1 rfl ?_
  refine m_iadd dX1_writes_3 ?_
  refine m_topi (show (nI (U c)) + 10 = nI ((U c) + 10) from nI_add _ _) ?_
  refine m_iload 4 rfl dX1_writes_4 ?_
  refine m_isub dX1_writes_6 ?_
  refine m_topi ((show (nI ((U c) + 10)) - (nI (L c)) = nI (((U c) + 10) - (L c)) from pk_sub (by omega))) ?_
  exact m_iret dX1_writes_7 (Nat.le_refl _) (Nat.le_refl _) (⟨rfl, Z, rfl, hp, zfr_rf⟩)
set_option maxRecDepth 100000 in
set_option maxHeartbeats 4000000 in
theorem k_wr_4 (l : Launch) (G : owG) {A S Z B T V : owF} {J : Nat → Nat → Int64} {Y : Nat → Nat → Nat → Option Nat} {P : Nat → Option owW} (ad fg : Nat) (wn ww : Int32) (ha : P ad = some (4, wn, nI fg, ww)) (c : Nat) (hc : c < 4) (U L : Nat → Nat) (hp : pap Z U L) (hs : U c < L c) : Ct l G yX0_writes cX0_writes 5 ((some .int)) 1 0 0 [.ref ad, .ref (gK G 2 0), .int (nI (c)), .int (nI (U c)), .int (nI (L c))] (A, S, Z, B, T, V, J, Y, P) (qI (fun x σ => x = nI (stuckW 4 fg U L c).1 ∧ ∃ Z2 : owF, σ = (A, S, Z2, B, T, V, J, Y, P) ∧ pap Z2 (stuckW 4 fg U L c).2 L ∧ zfr 20 Z Z2)) := by
  refine ct_of (by decide +kernel) (Nat.le_of_ble_eq_true rfl) ?_
  have hu := hp.2.2.1 c hc
  have hl := hp.2.2.2 c hc
  show Wm l G cX0_writes 5 RX0 ((some .int)) (rmk 1 0 0) (fun _ => True) (QfM G (qI (fun x σ => x = nI (stuckW 4 fg U L c).1 ∧ ∃ Z2 : owF, σ = (A, S, Z2, B, T, V, J, Y, P) ∧ pap Z2 (stuckW 4 fg U L c).2 L ∧ zfr 20 Z Z2)) 0 0) 0 [(0, .ref ad), (1, .ref (gK G 2 0)), (2, .int (nI (c))), (3, .int (nI (U c))), (4, .int (nI (L c)))] [] (A, S, Z, B, T, V, J, Y, P) 0 0
  refine m_aload_n 1 rfl rfl dX0_writes_0 ?_
  refine m_iload_n 2 rfl rfl dX0_writes_1 ?_
  refine m_iconst 0 dX0_writes_2 rfl ?_
  refine m_callVi cv_X0_11 [.int (nI (c)), .int 0] [] (k_borrowed l G c hc false U L hp) (by decide) (ce_2 G _ _ _ _ _ _ _ _ _ _) rfl rfl rfl ⟨Nat.le_of_ble_eq_true rfl, Nat.le_of_ble_eq_true rfl⟩ (Nat.le_of_ble_eq_true rfl) ⟨Nat.zero_le _, Nat.zero_le _⟩ dX0_writes_3 (fun xx σ2 hq => ?_)
  obtain ⟨rfl, Z1, rfl, hp2, hf2⟩ := hq
  exact m_iret dX0_writes_6 (Nat.le_refl _) (Nat.le_refl _) (⟨rfl, Z1, rfl, hp2, hf2⟩)
set_option maxRecDepth 100000 in
set_option maxHeartbeats 4000000 in
theorem k_wr_X0_6 (l : Launch) (G : owG) {A S Z B T V : owF} {J : Nat → Nat → Int64} {Y : Nat → Nat → Nat → Option Nat} {P : Nat → Option owW} (ad fg : Nat) (wn ww : Int32) (ha : P ad = some (6, wn, nI fg, ww)) (c : Nat) (hc : c < 4) (U L : Nat → Nat) (hp : pap Z U L) (hs : U c < L c) : Ct l G yX0_writes cX0_writes 5 ((some .int)) 1 0 0 [.ref ad, .ref (gK G 2 0), .int (nI (c)), .int (nI (U c)), .int (nI (L c))] (A, S, Z, B, T, V, J, Y, P) (qI (fun x σ => x = nI (stuckW 4 fg U L c).1 ∧ ∃ Z2 : owF, σ = (A, S, Z2, B, T, V, J, Y, P) ∧ pap Z2 (stuckW 4 fg U L c).2 L ∧ zfr 20 Z Z2)) := by
  refine ct_of (by decide +kernel) (Nat.le_of_ble_eq_true rfl) ?_
  have hu := hp.2.2.1 c hc
  have hl := hp.2.2.2 c hc
  show Wm l G cX0_writes 5 RX0 ((some .int)) (rmk 1 0 0) (fun _ => True) (QfM G (qI (fun x σ => x = nI (stuckW 4 fg U L c).1 ∧ ∃ Z2 : owF, σ = (A, S, Z2, B, T, V, J, Y, P) ∧ pap Z2 (stuckW 4 fg U L c).2 L ∧ zfr 20 Z Z2)) 0 0) 0 [(0, .ref ad), (1, .ref (gK G 2 0)), (2, .int (nI (c))), (3, .int (nI (U c))), (4, .int (nI (L c)))] [] (A, S, Z, B, T, V, J, Y, P) 0 0
  refine m_aload_n 1 rfl rfl dX0_writes_0 ?_
  refine m_iload_n 2 rfl rfl dX0_writes_1 ?_
  refine m_iconst 0 dX0_writes_2 rfl ?_
  refine m_callVi cv_X0_11 [.int (nI (c)), .int 0] [] (k_borrowed l G c hc false U L hp) (by decide) (ce_2 G _ _ _ _ _ _ _ _ _ _) rfl rfl rfl ⟨Nat.le_of_ble_eq_true rfl, Nat.le_of_ble_eq_true rfl⟩ (Nat.le_of_ble_eq_true rfl) ⟨Nat.zero_le _, Nat.zero_le _⟩ dX0_writes_3 (fun xx σ2 hq => ?_)
  obtain ⟨rfl, Z1, rfl, hp2, hf2⟩ := hq
  exact m_iret dX0_writes_6 (Nat.le_refl _) (Nat.le_refl _) (⟨rfl, Z1, rfl, hp2, hf2⟩)
set_option maxRecDepth 100000 in
set_option maxHeartbeats 4000000 in
theorem k_wr_5 (l : Launch) (G : owG) {A S Z B T V : owF} {J : Nat → Nat → Int64} {Y : Nat → Nat → Nat → Option Nat} {P : Nat → Option owW} (ad fg : Nat) (wn ww : Int32) (ha : P ad = some (5, wn, nI fg, ww)) (c : Nat) (hc : c < 4) (U L : Nat → Nat) (hp : pap Z U L) (hs : U c < L c) : Ct l G yX10_writes cX10_writes 5 ((some .int)) 1 0 0 [.ref ad, .ref (gK G 2 0), .int (nI (c)), .int (nI (U c)), .int (nI (L c))] (A, S, Z, B, T, V, J, Y, P) (qI (fun x σ => x = nI (stuckW 5 fg U L c).1 ∧ ∃ Z2 : owF, σ = (A, S, Z2, B, T, V, J, Y, P) ∧ pap Z2 (stuckW 5 fg U L c).2 L ∧ zfr 20 Z Z2)) := by
  refine ct_of (by decide +kernel) (Nat.le_of_ble_eq_true rfl) ?_
  have hu := hp.2.2.1 c hc
  have hl := hp.2.2.2 c hc
  show Wm l G cX10_writes 5 RX10 ((some .int)) (rmk 1 0 0) (fun _ => True) (QfM G (qI (fun x σ => x = nI (stuckW 5 fg U L c).1 ∧ ∃ Z2 : owF, σ = (A, S, Z2, B, T, V, J, Y, P) ∧ pap Z2 (stuckW 5 fg U L c).2 L ∧ zfr 20 Z Z2)) 0 0) 0 [(0, .ref ad), (1, .ref (gK G 2 0)), (2, .int (nI (c))), (3, .int (nI (U c))), (4, .int (nI (L c)))] [] (A, S, Z, B, T, V, J, Y, P) 0 0
  refine m_iload_n 3 rfl rfl dX10_writes_0 ?_
  refine m_ifn_ne (U c) 16 (by omega) dX10_writes_1 (by decide) (fun c1 => ?_) (fun c1 => ?_)
  ·
    refine m_aload_n 1 rfl rfl dX10_writes_16 ?_
    refine m_iload_n 2 rfl rfl dX10_writes_17 ?_
    refine m_iconst 1 dX10_writes_18 rfl ?_
    refine m_callVi cv_X10_15 [.int (nI (c)), .int 1] [] (k_borrowed l G c hc true U L hp) (by decide) (ce_2 G _ _ _ _ _ _ _ _ _ _) rfl rfl rfl ⟨Nat.le_of_ble_eq_true rfl, Nat.le_of_ble_eq_true rfl⟩ (Nat.le_of_ble_eq_true rfl) ⟨Nat.zero_le _, Nat.zero_le _⟩ dX10_writes_19 (fun xx σ2 hq => ?_)
    obtain ⟨rfl, Z2, rfl, hp2, hf2⟩ := hq
    exact m_iret dX10_writes_22 (Nat.le_refl _) (Nat.le_refl _) (⟨by rw [(show stuckW 5 fg U L c = byB true U L c by simp only [stuckW]; grind)], Z2, rfl, by rw [(show stuckW 5 fg U L c = byB true U L c by simp only [stuckW]; grind)]; exact hp2, hf2⟩)
  ·
    refine m_aload_n 0 rfl rfl dX10_writes_4 ?_
    refine m_aload_n 1 rfl rfl dX10_writes_5 ?_
    refine m_iload_n 2 rfl rfl dX10_writes_6 ?_
    refine m_iload_n 3 rfl rfl dX10_writes_7 ?_
    refine m_iload 4 rfl dX10_writes_8 ?_
    refine m_callSUi csu_X10_11 [.ref (gK G 2 0), .int (nI (c)), .int (nI (U c)), .int (nI (L c))] [] (k_wr_X8_5 l G ad fg wn ww ha c hc U L hp hs) ha rfl rfl rfl ⟨Nat.le_of_ble_eq_true rfl, Nat.le_of_ble_eq_true rfl⟩ (Nat.le_of_ble_eq_true rfl) ⟨Nat.zero_le _, Nat.zero_le _⟩ dX10_writes_10 (fun xx σ2 hq => ?_)
    obtain ⟨rfl, Z3, rfl, hp2, hf2⟩ := hq
    refine m_goto 22 dX10_writes_13 (by decide) ?_
    exact m_iret dX10_writes_22 (Nat.le_refl _) (Nat.le_refl _) (⟨by rw [(show stuckW 5 fg U L c = stuckW 1 fg U L c by simp only [stuckW]; grind)], Z3, rfl, by rw [(show stuckW 5 fg U L c = stuckW 1 fg U L c by simp only [stuckW]; grind)]; exact hp2, hf2⟩)
set_option maxRecDepth 100000 in
set_option maxHeartbeats 4000000 in
theorem k_wr_7 (l : Launch) (G : owG) {A S Z B T V : owF} {J : Nat → Nat → Int64} {Y : Nat → Nat → Nat → Option Nat} {P : Nat → Option owW} (ad fg : Nat) (wn ww : Int32) (ha : P ad = some (7, wn, nI fg, ww)) (c : Nat) (hc : c < 4) (U L : Nat → Nat) (hp : pap Z U L) (hs : U c < L c) : Ct l G yX7_writes cX7_writes 5 ((some .int)) 1 0 0 [.ref ad, .ref (gK G 2 0), .int (nI (c)), .int (nI (U c)), .int (nI (L c))] (A, S, Z, B, T, V, J, Y, P) (qI (fun x σ => x = nI (stuckW 7 fg U L c).1 ∧ ∃ Z2 : owF, σ = (A, S, Z2, B, T, V, J, Y, P) ∧ pap Z2 (stuckW 7 fg U L c).2 L ∧ zfr 20 Z Z2)) := by
  refine ct_of (by decide +kernel) (Nat.le_of_ble_eq_true rfl) ?_
  have hu := hp.2.2.1 c hc
  have hl := hp.2.2.2 c hc
  show Wm l G cX7_writes 5 RX7 ((some .int)) (rmk 1 0 0) (fun _ => True) (QfM G (qI (fun x σ => x = nI (stuckW 7 fg U L c).1 ∧ ∃ Z2 : owF, σ = (A, S, Z2, B, T, V, J, Y, P) ∧ pap Z2 (stuckW 7 fg U L c).2 L ∧ zfr 20 Z Z2)) 0 0) 0 [(0, .ref ad), (1, .ref (gK G 2 0)), (2, .int (nI (c))), (3, .int (nI (U c))), (4, .int (nI (L c)))] [] (A, S, Z, B, T, V, J, Y, P) 0 0
  refine m_iload_n 2 rfl rfl dX7_writes_0 ?_
  refine m_iconst 3 dX7_writes_1 rfl ?_
  refine m_icmpn_ne c 3 9 (by omega) (by decide) dX7_writes_2 (by decide) (fun c1 => ?_) (fun c1 => ?_)
  ·
    refine m_aload_n 0 rfl rfl dX7_writes_9 ?_
    refine m_aload_n 1 rfl rfl dX7_writes_10 ?_
    refine m_iload_n 2 rfl rfl dX7_writes_11 ?_
    refine m_iload_n 3 rfl rfl dX7_writes_12 ?_
    refine m_iload 4 rfl dX7_writes_13 ?_
    refine m_callSUi csu_X7_13 [.ref (gK G 2 0), .int (nI (c)), .int (nI (U c)), .int (nI (L c))] [] (k_wr_X1_7 l G ad fg wn ww ha c hc U L hp hs) ha rfl rfl rfl ⟨Nat.le_of_ble_eq_true rfl, Nat.le_of_ble_eq_true rfl⟩ (Nat.le_of_ble_eq_true rfl) ⟨Nat.zero_le _, Nat.zero_le _⟩ dX7_writes_15 (fun xx σ2 hq => ?_)
    obtain ⟨rfl, Z2, rfl, hp2, hf2⟩ := hq
    exact m_iret dX7_writes_18 (Nat.le_refl _) (Nat.le_refl _) (⟨by rw [(show stuckW 7 fg U L c = stuckW 3 fg U L c by simp only [stuckW]; grind)], Z2, rfl, by rw [(show stuckW 7 fg U L c = stuckW 3 fg U L c by simp only [stuckW]; grind)]; exact hp2, hf2⟩)
  ·
    refine m_iconst 0 dX7_writes_5 rfl ?_
    refine m_goto 18 dX7_writes_6 (by decide) ?_
    exact m_iret dX7_writes_18 (Nat.le_refl _) (Nat.le_refl _) (⟨by rw [(show stuckW 7 fg U L c = (0, U) by simp only [stuckW]; grind)]; rfl, Z, rfl, by rw [(show stuckW 7 fg U L c = (0, U) by simp only [stuckW]; grind)]; exact hp, zfr_rf⟩)
set_option maxRecDepth 100000 in
set_option maxHeartbeats 4000000 in
theorem k_wr_6 (l : Launch) (G : owG) {A S Z B T V : owF} {J : Nat → Nat → Int64} {Y : Nat → Nat → Nat → Option Nat} {P : Nat → Option owW} (ad fg : Nat) (hfg : fg ≤ 9) (wn ww : Int32) (ha : P ad = some (6, wn, nI fg, ww)) (c : Nat) (hc : c < 4) (U L : Nat → Nat) (hp : pap Z U L) (hs : U c < L c) : Ct l G yX4_writes cX4_writes 5 ((some .int)) 2 0 0 [.ref ad, .ref (gK G 2 0), .int (nI (c)), .int (nI (U c)), .int (nI (L c))] (A, S, Z, B, T, V, J, Y, P) (qI (fun x σ => x = nI (stuckW 6 fg U L c).1 ∧ ∃ Z2 : owF, σ = (A, S, Z2, B, T, V, J, Y, P) ∧ pap Z2 (stuckW 6 fg U L c).2 L ∧ zfr 20 Z Z2)) := by
  refine ct_of (by decide +kernel) (Nat.le_of_ble_eq_true rfl) ?_
  have hu := hp.2.2.1 c hc
  have hl := hp.2.2.2 c hc
  show Wm l G cX4_writes 5 RX4 ((some .int)) (rmk 2 0 0) (fun _ => True) (QfM G (qI (fun x σ => x = nI (stuckW 6 fg U L c).1 ∧ ∃ Z2 : owF, σ = (A, S, Z2, B, T, V, J, Y, P) ∧ pap Z2 (stuckW 6 fg U L c).2 L ∧ zfr 20 Z Z2)) 0 0) 0 [(0, .ref ad), (1, .ref (gK G 2 0)), (2, .int (nI (c))), (3, .int (nI (U c))), (4, .int (nI (L c)))] [] (A, S, Z, B, T, V, J, Y, P) 0 0
  refine m_aload_n 1 rfl rfl dX4_writes_0 ?_
  refine gf_X4_19 dX4_writes_1 ?_
  refine m_iload_n 2 rfl rfl dX4_writes_4 ?_
  refine m_iconst 1 dX4_writes_5 rfl ?_
  refine m_iadd dX4_writes_6 ?_
  refine m_topi (show (nI (c)) + 1 = nI (c + 1) from nI_add _ _) ?_
  rcases Nat.lt_or_ge (c + 1) 4 with hc1 | hc1
  ·
    have hu1 := hp.2.2.1 (c + 1) hc1
    refine m_callNi cn_X4_25 [.ref (gK G 20 0), .int (nI (c + 1))] [] (k_at l G (by decide) (ce_20 G _ _ _ _ _ _ _ _ _ 0) (by decide) (nI (c + 1))) rfl rfl ⟨Nat.le_of_ble_eq_true rfl, Nat.le_of_ble_eq_true rfl⟩ (Nat.le_of_ble_eq_true rfl) ⟨Nat.zero_le _, Nat.zero_le _⟩ dX4_writes_7 (fun xx σ2 hq => ?_)
    obtain rfl : xx = Z 20 0 (c + 1) := hq.1.trans (atV_in (by omega) (by decide))
    obtain rfl := hq.2
    refine m_topi (hp.1 (c + 1) hc1) ?_
    refine m_ifn_le (U (c + 1)) 23 (by omega) dX4_writes_10 (by decide) (fun c2 => ?_) (fun c2 => ?_)
    ·
      refine m_aload_n 0 rfl rfl dX4_writes_23 ?_
      refine gw_X4_13_6 ha dX4_writes_24 ?_
      refine m_topi rfl ?_
      refine m_iconst 4 dX4_writes_27 rfl ?_
      refine m_irem (by decide) dX4_writes_28 ?_
      refine m_topi ((show nI fg - nI fg / 4 * 4 = nI (fg % 4) from pk_rem (by omega) (by decide) (by decide))) ?_
      rcases (show fg % 4 = 0 ∨ fg % 4 = 1 ∨ fg % 4 = 2 ∨ fg % 4 = 3 by omega) with hm | hm | hm | hm
      · rw [hm]
        refine m_tableIn 56 dX4_writes_29 (by decide) (by decide) (by rfl) (by decide) ?_
        refine m_iconst 0 dX4_writes_56 rfl ?_
        exact m_iret dX4_writes_57 (Nat.le_refl _) (Nat.le_refl _) (⟨by rw [(show stuckW 6 fg U L c = (0, U) by simp only [stuckW]; grind)]; rfl, Z, rfl, by rw [(show stuckW 6 fg U L c = (0, U) by simp only [stuckW]; grind)]; exact hp, zfr_rf⟩)
      · rw [hm]
        refine m_tableIn 58 dX4_writes_29 (by decide) (by decide) (by rfl) (by decide) ?_
        refine m_iload 4 rfl dX4_writes_58 ?_
        refine m_iload_n 3 rfl rfl dX4_writes_60 ?_
        refine m_isub dX4_writes_61 ?_
        refine m_topi ((show (nI (L c)) - (nI (U c)) = nI ((L c) - (U c)) from pk_sub (by omega))) ?_
        exact m_iret dX4_writes_62 (Nat.le_refl _) (Nat.le_refl _) (⟨by rw [(show stuckW 6 fg U L c = ((L c) - (U c), U) by simp only [stuckW]; grind)], Z, rfl, by rw [(show stuckW 6 fg U L c = ((L c) - (U c), U) by simp only [stuckW]; grind)]; exact hp, zfr_rf⟩)
      · rw [hm]
        refine m_tableIn 63 dX4_writes_29 (by decide) (by decide) (by rfl) (by decide) ?_
        refine m_iload_n 3 rfl rfl dX4_writes_63 ?_
        refine m_bipush (10) dX4_writes_64 rfl ?_
        refine m_iadd dX4_writes_66 ?_
        refine m_topi (show (nI (U c)) + 10 = nI ((U c) + 10) from nI_add _ _) ?_
        refine m_iload 4 rfl dX4_writes_67 ?_
        refine m_isub dX4_writes_69 ?_
        refine m_topi ((show (nI ((U c) + 10)) - (nI (L c)) = nI (((U c) + 10) - (L c)) from pk_sub (by omega))) ?_
        exact m_iret dX4_writes_70 (Nat.le_refl _) (Nat.le_refl _) (⟨by rw [(show stuckW 6 fg U L c = (((U c) + 10) - (L c), U) by simp only [stuckW]; grind)], Z, rfl, by rw [(show stuckW 6 fg U L c = (((U c) + 10) - (L c), U) by simp only [stuckW]; grind)]; exact hp, zfr_rf⟩)
      · rw [hm]
        refine m_tableOut 71 dX4_writes_29 (by decide) (by decide) ?_
        refine m_iload 4 rfl dX4_writes_71 ?_
        exact m_iret dX4_writes_73 (Nat.le_refl _) (Nat.le_refl _) (⟨by rw [(show stuckW 6 fg U L c = (L c, U) by simp only [stuckW]; grind)], Z, rfl, by rw [(show stuckW 6 fg U L c = (L c, U) by simp only [stuckW]; grind)]; exact hp, zfr_rf⟩)
    ·
      refine m_aload_n 0 rfl rfl dX4_writes_13 ?_
      refine m_aload_n 1 rfl rfl dX4_writes_14 ?_
      refine m_iload_n 2 rfl rfl dX4_writes_15 ?_
      refine m_iload_n 3 rfl rfl dX4_writes_16 ?_
      refine m_iload 4 rfl dX4_writes_17 ?_
      refine m_callSUi csu_X4_29 [.ref (gK G 2 0), .int (nI (c)), .int (nI (U c)), .int (nI (L c))] [] (k_wr_X0_6 l G ad fg wn ww ha c hc U L hp hs) ha rfl rfl rfl ⟨Nat.le_of_ble_eq_true rfl, Nat.le_of_ble_eq_true rfl⟩ (Nat.le_of_ble_eq_true rfl) ⟨Nat.zero_le _, Nat.zero_le _⟩ dX4_writes_19 (fun xx σ2 hq => ?_)
      obtain ⟨rfl, Z3, rfl, hp2, hf2⟩ := hq
      exact m_iret dX4_writes_22 (Nat.le_refl _) (Nat.le_refl _) (⟨by rw [(show stuckW 6 fg U L c = stuckW 4 fg U L c by simp only [stuckW]; grind)], Z3, rfl, by rw [(show stuckW 6 fg U L c = stuckW 4 fg U L c by simp only [stuckW]; grind)]; exact hp2, hf2⟩)
  ·
    refine m_callNi cn_X4_25 [.ref (gK G 20 0), .int (nI (c + 1))] [] (k_at l G (by decide) (ce_20 G _ _ _ _ _ _ _ _ _ 0) (by decide) (nI (c + 1))) rfl rfl ⟨Nat.le_of_ble_eq_true rfl, Nat.le_of_ble_eq_true rfl⟩ (Nat.le_of_ble_eq_true rfl) ⟨Nat.zero_le _, Nat.zero_le _⟩ dX4_writes_7 (fun xx σ2 hq => ?_)
    obtain rfl : xx = 0 := hq.1.trans (atV_out (by omega) (by omega))
    obtain rfl := hq.2
    refine m_if_le 23 dX4_writes_10 (by decide) (fun _ => ?_) (fun c4 => absurd c4 (by decide))
    refine m_aload_n 0 rfl rfl dX4_writes_23 ?_
    refine gw_X4_13_6 ha dX4_writes_24 ?_
    refine m_topi rfl ?_
    refine m_iconst 4 dX4_writes_27 rfl ?_
    refine m_irem (by decide) dX4_writes_28 ?_
    refine m_topi ((show nI fg - nI fg / 4 * 4 = nI (fg % 4) from pk_rem (by omega) (by decide) (by decide))) ?_
    rcases (show fg % 4 = 0 ∨ fg % 4 = 1 ∨ fg % 4 = 2 ∨ fg % 4 = 3 by omega) with hm | hm | hm | hm
    · rw [hm]
      refine m_tableIn 56 dX4_writes_29 (by decide) (by decide) (by rfl) (by decide) ?_
      refine m_iconst 0 dX4_writes_56 rfl ?_
      exact m_iret dX4_writes_57 (Nat.le_refl _) (Nat.le_refl _) (⟨by rw [(show stuckW 6 fg U L c = (0, U) by simp only [stuckW]; grind)]; rfl, Z, rfl, by rw [(show stuckW 6 fg U L c = (0, U) by simp only [stuckW]; grind)]; exact hp, zfr_rf⟩)
    · rw [hm]
      refine m_tableIn 58 dX4_writes_29 (by decide) (by decide) (by rfl) (by decide) ?_
      refine m_iload 4 rfl dX4_writes_58 ?_
      refine m_iload_n 3 rfl rfl dX4_writes_60 ?_
      refine m_isub dX4_writes_61 ?_
      refine m_topi ((show (nI (L c)) - (nI (U c)) = nI ((L c) - (U c)) from pk_sub (by omega))) ?_
      exact m_iret dX4_writes_62 (Nat.le_refl _) (Nat.le_refl _) (⟨by rw [(show stuckW 6 fg U L c = ((L c) - (U c), U) by simp only [stuckW]; grind)], Z, rfl, by rw [(show stuckW 6 fg U L c = ((L c) - (U c), U) by simp only [stuckW]; grind)]; exact hp, zfr_rf⟩)
    · rw [hm]
      refine m_tableIn 63 dX4_writes_29 (by decide) (by decide) (by rfl) (by decide) ?_
      refine m_iload_n 3 rfl rfl dX4_writes_63 ?_
      refine m_bipush (10) dX4_writes_64 rfl ?_
      refine m_iadd dX4_writes_66 ?_
      refine m_topi (show (nI (U c)) + 10 = nI ((U c) + 10) from nI_add _ _) ?_
      refine m_iload 4 rfl dX4_writes_67 ?_
      refine m_isub dX4_writes_69 ?_
      refine m_topi ((show (nI ((U c) + 10)) - (nI (L c)) = nI (((U c) + 10) - (L c)) from pk_sub (by omega))) ?_
      exact m_iret dX4_writes_70 (Nat.le_refl _) (Nat.le_refl _) (⟨by rw [(show stuckW 6 fg U L c = (((U c) + 10) - (L c), U) by simp only [stuckW]; grind)], Z, rfl, by rw [(show stuckW 6 fg U L c = (((U c) + 10) - (L c), U) by simp only [stuckW]; grind)]; exact hp, zfr_rf⟩)
    · rw [hm]
      refine m_tableOut 71 dX4_writes_29 (by decide) (by decide) ?_
      refine m_iload 4 rfl dX4_writes_71 ?_
      exact m_iret dX4_writes_73 (Nat.le_refl _) (Nat.le_refl _) (⟨by rw [(show stuckW 6 fg U L c = (L c, U) by simp only [stuckW]; grind)], Z, rfl, by rw [(show stuckW 6 fg U L c = (L c, U) by simp only [stuckW]; grind)]; exact hp, zfr_rf⟩)
