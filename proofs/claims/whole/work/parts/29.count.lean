theorem m85 : (6148914691236517205 : Int64) = lN (rpB 85 8) := by decide +kernel
theorem m51 : (3689348814741910323 : Int64) = lN (rpB 51 8) := by decide +kernel
theorem m15 : (1085102592571150095 : Int64) = lN (rpB 15 8) := by decide +kernel
theorem nI_and127 (m : Nat) : nI m &&& 127 = nI (m % 128) := (pk_and (nI m) 7 (by decide)).trans (congrArg nI (by show (m % 2 ^ 32) % 2 ^ 7 = m % 128; omega))
theorem p1_le (n x : Nat) : p1 n x ≤ x := Nat.sub_le _ _
theorem p2_le (n x : Nat) : p2 n x ≤ x + x / 4 := Nat.add_le_add Nat.and_le_left Nat.and_le_left
theorem p3_le (n x : Nat) : p3 n x ≤ x + x / 16 := Nat.and_le_left
set_option maxRecDepth 100000 in
set_option maxHeartbeats 4000000 in
theorem k_bitL (l : Launch) (G : owG) {A S Z B T V : owF} {J : Nat → Nat → Int64} {Y : Nat → Nat → Nat → Option Nat} {P : Nat → Option owW} (n_ : Nat) (hn : n_ < 2 ^ 45) : Ct l G yJ13_bitCount_95d88 cJ13_bitCount_95d88 2 ((some .int)) 0 0 0 [.long (lN n_)] (A, S, Z, B, T, V, J, Y, P) (qI (fun r_ σ => r_ = nI (psm 8 n_) ∧ σ = (A, S, Z, B, T, V, J, Y, P))) := by
  refine ct_of (by decide +kernel) (Nat.le_of_ble_eq_true rfl) ?_
  have hq1 := p1_le 8 n_
  have hq2 := p2_le 8 (p1 8 n_)
  have hq3 := p3_le 8 (p2 8 (p1 8 n_))
  rw [p123] at hq3
  show Wm l G cJ13_bitCount_95d88 2 RJ13 ((some .int)) (rmk 0 0 0) (fun _ => True) (QfM G (qI (fun r_ σ => r_ = nI (psm 8 n_) ∧ σ = (A, S, Z, B, T, V, J, Y, P))) 0 0) 0 [(0, .long (lN n_))] [] (A, S, Z, B, T, V, J, Y, P) 0 0
  refine m_lload_n 0 rfl rfl dJ13_bitCount_95d88_0 ?_
  refine m_lload_n 0 rfl rfl dJ13_bitCount_95d88_1 ?_
  refine m_iconst 1 dJ13_bitCount_95d88_2 rfl ?_
  refine m_lushr (v := lN (n_ / 2 ^ 1)) (lN_shr (k := 1) (by omega) (by decide)) dJ13_bitCount_95d88_3 ?_
  refine m_ldc2 6148914691236517205 tw_704 dJ13_bitCount_95d88_4 ?_
  refine m_land dJ13_bitCount_95d88_7 ?_
  refine m_topl (show lN (n_ / 2 ^ 1) &&& 6148914691236517205 = lN (n_ / 2 ^ 1 &&& rpB 85 8) from by rw [m85]; exact lN_and _ _) ?_
  refine m_lsub dJ13_bitCount_95d88_8 ?_
  refine m_topl (show lN n_ - lN (n_ / 2 ^ 1 &&& rpB 85 8) = lN (p1 8 n_) from lN_sub (Nat.le_trans Nat.and_le_left (Nat.div_le_self _ _))) ?_
  refine m_lstore_n [(0, .long (lN (p1 8 n_)))] rfl (by decide) rfl dJ13_bitCount_95d88_9 ?_
  refine m_lload_n 0 rfl rfl dJ13_bitCount_95d88_10 ?_
  refine m_ldc2 3689348814741910323 tw_705 dJ13_bitCount_95d88_11 ?_
  refine m_land dJ13_bitCount_95d88_14 ?_
  refine m_topl (show lN (p1 8 n_) &&& 3689348814741910323 = lN (p1 8 n_ &&& rpB 51 8) from by rw [m51]; exact lN_and _ _) ?_
  refine m_lload_n 0 rfl rfl dJ13_bitCount_95d88_15 ?_
  refine m_iconst 2 dJ13_bitCount_95d88_16 rfl ?_
  refine m_lushr (v := lN (p1 8 n_ / 2 ^ 2)) (lN_shr (k := 2) (by omega) (by decide)) dJ13_bitCount_95d88_17 ?_
  refine m_ldc2 3689348814741910323 tw_705 dJ13_bitCount_95d88_18 ?_
  refine m_land dJ13_bitCount_95d88_21 ?_
  refine m_topl (show lN (p1 8 n_ / 2 ^ 2) &&& 3689348814741910323 = lN (p1 8 n_ / 2 ^ 2 &&& rpB 51 8) from by rw [m51]; exact lN_and _ _) ?_
  refine m_ladd dJ13_bitCount_95d88_22 ?_
  refine m_topl (show lN (p1 8 n_ &&& rpB 51 8) + lN (p1 8 n_ / 2 ^ 2 &&& rpB 51 8) = lN (p2 8 (p1 8 n_)) from lN_add _ _) ?_
  refine m_lstore_n [(0, .long (lN (p2 8 (p1 8 n_))))] rfl (by decide) rfl dJ13_bitCount_95d88_23 ?_
  refine m_lload_n 0 rfl rfl dJ13_bitCount_95d88_24 ?_
  refine m_lload_n 0 rfl rfl dJ13_bitCount_95d88_25 ?_
  refine m_iconst 4 dJ13_bitCount_95d88_26 rfl ?_
  refine m_lushr (v := lN (p2 8 (p1 8 n_) / 2 ^ 4)) (lN_shr (k := 4) (by omega) (by decide)) dJ13_bitCount_95d88_27 ?_
  refine m_ladd dJ13_bitCount_95d88_28 ?_
  refine m_topl (show lN (p2 8 (p1 8 n_)) + lN (p2 8 (p1 8 n_) / 2 ^ 4) = lN (p2 8 (p1 8 n_) + p2 8 (p1 8 n_) / 2 ^ 4) from lN_add _ _) ?_
  refine m_ldc2 1085102592571150095 tw_706 dJ13_bitCount_95d88_29 ?_
  refine m_land dJ13_bitCount_95d88_32 ?_
  refine m_topl (show lN (p2 8 (p1 8 n_) + p2 8 (p1 8 n_) / 2 ^ 4) &&& 1085102592571150095 = lN (pcS 8 n_) from by rw [m15]; exact (lN_and _ _).trans (congrArg lN (p123 8 n_))) ?_
  refine m_lstore_n [(0, .long (lN (pcS 8 n_)))] rfl (by decide) rfl dJ13_bitCount_95d88_33 ?_
  refine m_lload_n 0 rfl rfl dJ13_bitCount_95d88_34 ?_
  refine m_lload_n 0 rfl rfl dJ13_bitCount_95d88_35 ?_
  refine m_bipush (8) dJ13_bitCount_95d88_36 rfl ?_
  refine m_lushr (v := lN (pcS 8 n_ / 2 ^ 8)) (lN_shr (k := 8) (by omega) (by decide)) dJ13_bitCount_95d88_38 ?_
  refine m_ladd dJ13_bitCount_95d88_39 ?_
  refine m_topl (show lN (pcS 8 n_) + lN (pcS 8 n_ / 2 ^ 8) = lN (pcS 8 n_ + pcS 8 n_ / 2 ^ 8) from lN_add _ _) ?_
  refine m_lstore_n [(0, .long (lN (pcS 8 n_ + pcS 8 n_ / 2 ^ 8)))] rfl (by decide) rfl dJ13_bitCount_95d88_40 ?_
  refine m_lload_n 0 rfl rfl dJ13_bitCount_95d88_41 ?_
  refine m_lload_n 0 rfl rfl dJ13_bitCount_95d88_42 ?_
  refine m_bipush (16) dJ13_bitCount_95d88_43 rfl ?_
  refine m_lushr (v := lN ((pcS 8 n_ + pcS 8 n_ / 2 ^ 8) / 2 ^ 16)) (lN_shr (k := 16) (by omega) (by decide)) dJ13_bitCount_95d88_45 ?_
  refine m_ladd dJ13_bitCount_95d88_46 ?_
  refine m_topl (show lN (pcS 8 n_ + pcS 8 n_ / 2 ^ 8) + lN ((pcS 8 n_ + pcS 8 n_ / 2 ^ 8) / 2 ^ 16) = lN ((pcS 8 n_ + pcS 8 n_ / 2 ^ 8) + (pcS 8 n_ + pcS 8 n_ / 2 ^ 8) / 2 ^ 16) from lN_add _ _) ?_
  refine m_lstore_n [(0, .long (lN ((pcS 8 n_ + pcS 8 n_ / 2 ^ 8) + (pcS 8 n_ + pcS 8 n_ / 2 ^ 8) / 2 ^ 16)))] rfl (by decide) rfl dJ13_bitCount_95d88_47 ?_
  refine m_lload_n 0 rfl rfl dJ13_bitCount_95d88_48 ?_
  refine m_lload_n 0 rfl rfl dJ13_bitCount_95d88_49 ?_
  refine m_bipush (32) dJ13_bitCount_95d88_50 rfl ?_
  refine m_lushr (v := lN (((pcS 8 n_ + pcS 8 n_ / 2 ^ 8) + (pcS 8 n_ + pcS 8 n_ / 2 ^ 8) / 2 ^ 16) / 2 ^ 32)) (lN_shr (k := 32) (by omega) (by decide)) dJ13_bitCount_95d88_52 ?_
  refine m_ladd dJ13_bitCount_95d88_53 ?_
  refine m_topl (show lN ((pcS 8 n_ + pcS 8 n_ / 2 ^ 8) + (pcS 8 n_ + pcS 8 n_ / 2 ^ 8) / 2 ^ 16) + lN (((pcS 8 n_ + pcS 8 n_ / 2 ^ 8) + (pcS 8 n_ + pcS 8 n_ / 2 ^ 8) / 2 ^ 16) / 2 ^ 32) = lN (((pcS 8 n_ + pcS 8 n_ / 2 ^ 8) + (pcS 8 n_ + pcS 8 n_ / 2 ^ 8) / 2 ^ 16) + ((pcS 8 n_ + pcS 8 n_ / 2 ^ 8) + (pcS 8 n_ + pcS 8 n_ / 2 ^ 8) / 2 ^ 16) / 2 ^ 32) from lN_add _ _) ?_
  refine m_lstore_n [(0, .long (lN (((pcS 8 n_ + pcS 8 n_ / 2 ^ 8) + (pcS 8 n_ + pcS 8 n_ / 2 ^ 8) / 2 ^ 16) + ((pcS 8 n_ + pcS 8 n_ / 2 ^ 8) + (pcS 8 n_ + pcS 8 n_ / 2 ^ 8) / 2 ^ 16) / 2 ^ 32)))] rfl (by decide) rfl dJ13_bitCount_95d88_54 ?_
  refine m_lload_n 0 rfl rfl dJ13_bitCount_95d88_55 ?_
  refine m_l2i (v := nI (((pcS 8 n_ + pcS 8 n_ / 2 ^ 8) + (pcS 8 n_ + pcS 8 n_ / 2 ^ 8) / 2 ^ 16) + ((pcS 8 n_ + pcS 8 n_ / 2 ^ 8) + (pcS 8 n_ + pcS 8 n_ / 2 ^ 8) / 2 ^ 16) / 2 ^ 32)) (lN_i _) dJ13_bitCount_95d88_56 ?_
  refine m_bipush (127) dJ13_bitCount_95d88_57 rfl ?_
  refine m_iand dJ13_bitCount_95d88_59 ?_
  refine m_topi ((show nI (((pcS 8 n_ + pcS 8 n_ / 2 ^ 8) + (pcS 8 n_ + pcS 8 n_ / 2 ^ 8) / 2 ^ 16) + ((pcS 8 n_ + pcS 8 n_ / 2 ^ 8) + (pcS 8 n_ + pcS 8 n_ / 2 ^ 8) / 2 ^ 16) / 2 ^ 32) &&& 127 = nI (psm 8 n_) from (nI_and127 _).trans (congrArg nI (fold8 n_)))) ?_
  exact m_iret dJ13_bitCount_95d88_60 (Nat.le_refl _) (Nat.le_refl _) (⟨rfl, rfl⟩)
