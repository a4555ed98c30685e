/-! the model's columns -/
def papM (V : owF) (U L : Nat → Nat) : Prop := (∀ j, j < 4 → V 50 0 j = nI (U j)) ∧ (∀ j, j < 4 → V 51 0 j = nI (L j)) ∧ (∀ j, j < 4 → U j ≤ 9) ∧ ∀ j, j < 4 → L j ≤ 9
theorem papM_up {V V2 : owF} {U L : Nat → Nat} {t j : Nat} {v : Int32} (h : papM V U L) (h1 : 50 ≠ t) (h2 : 51 ≠ t) (e : V2 = up3 V t 0 j v) : papM V2 U L :=
  ⟨fun k hk => up3_t e h1 (h.1 k hk), fun k hk => up3_t e h2 (h.2.1 k hk), h.2.2.1, h.2.2.2⟩
def workedM (V : owF) (kd fg x y : Nat) : Prop := (∀ j, j < 4 → V 52 0 j = nI (wrW kd fg x y j)) ∧ V 4 0 19 = stkI kd fg x y 4
theorem byB_at {nb : Bool} {U L : Nat → Nat} {c : Nat} (hc : c < 4) : (byB nb U L c).2 c = U c := by
  unfold byB
  split
  · rfl
  · show tkW nb U c c = U c
    unfold tkW
    have : c ≠ fbW U c := by
      unfold fbW
      repeat' split
      all_goals omega
    rw [if_neg this, if_neg (by omega)]
set_option maxRecDepth 100000 in
set_option maxHeartbeats 4000000 in
theorem k_m_borrows_0_0 (l : Launch) (G : owG) {A S Z B T V : owF} {J : Nat → Nat → Int64} {Y : Nat → Nat → Nat → Option Nat} {P : Nat → Option owW} (U L : Nat → Nat) (hp : papM V U L) : Ct l G yX12_borrows cX12_borrows 5 ((some .boolean)) 0 0 0 [.ref (gK G 4 0), .int 0, .int 0] (A, S, Z, B, T, V, J, Y, P) (qI (fun x_ σ => x_ = bI (decide (fbW U 0 ≠ 4)) ∧ ∃ V2 : owF, σ = (A, S, Z, B, T, V2, J, Y, P) ∧ papM V2 (byB false U L 0).2 L ∧ zfr 50 V V2)) := by
  refine ct_of (by decide +kernel) (Nat.le_of_ble_eq_true rfl) ?_
  have hu0 := hp.2.2.1 0 (by decide)
  have hu1 := hp.2.2.1 1 (by decide)
  have hu2 := hp.2.2.1 2 (by decide)
  have hu3 := hp.2.2.1 3 (by decide)
  show Wm l G cX12_borrows 5 RX12 ((some .boolean)) (rmk 0 0 0) (fun _ => True) (QfM G (qI (fun x_ σ => x_ = bI (decide (fbW U 0 ≠ 4)) ∧ ∃ V2 : owF, σ = (A, S, Z, B, T, V2, J, Y, P) ∧ papM V2 (byB false U L 0).2 L ∧ zfr 50 V V2)) 0 0) 0 [(0, .ref (gK G 4 0)), (1, .int 0), (2, .int 0)] [] (A, S, Z, B, T, V, J, Y, P) 0 0
  refine m_iload_n 1 rfl rfl dX12_borrows_0 ?_
  refine m_iconst 1 dX12_borrows_1 rfl ?_
  refine m_iadd dX12_borrows_2 ?_
  refine m_topi (show (0 : Int32) + 1 = 1 by decide) ?_
  refine m_istore_n [(3, .int 1), (0, .ref (gK G 4 0)), (1, .int 0), (2, .int 0)] rfl (by decide) rfl dX12_borrows_3 ?_
  refine m_iload_n 0 rfl rfl dX12_borrows_4 ?_
  refine m_iconst 4 dX12_borrows_5 rfl ?_
  refine m_icmp_ge 24 dX12_borrows_6 (by decide) (fun c1_ => absurd c1_ (by decide)) (fun _ => ?_)
  refine m_aload_n 1 rfl rfl dX12_borrows_9 ?_
  refine gf_X12_40 dX12_borrows_10 ?_
  refine m_iload_n 0 rfl rfl dX12_borrows_13 ?_
  refine al_50 1 rfl (by omega) dX12_borrows_14 ?_
  refine m_topi (hp.1 1 (by decide)) ?_
  refine m_ifn_ne (U 1) 24 (by omega) dX12_borrows_15 (by decide) (fun c2_ => ?_) (fun c2_ => ?_)
  ·
    refine m_iload_n 0 rfl rfl dX12_borrows_24 ?_
    refine m_iconst 4 dX12_borrows_25 rfl ?_
    refine m_icmp_ne 31 dX12_borrows_26 (by decide) (fun _ => ?_) (fun c3_ => absurd c3_ (by decide))
    refine m_aload_n 1 rfl rfl dX12_borrows_31 ?_
    refine gf_X12_40 dX12_borrows_32 ?_
    refine m_iload_n 0 rfl rfl dX12_borrows_35 ?_
    refine m_dup2 rfl rfl dX12_borrows_36 ?_
    refine al_50 1 rfl (by omega) dX12_borrows_37 ?_
    refine m_topi (hp.1 1 (by decide)) ?_
    refine m_iconst 1 dX12_borrows_38 rfl ?_
    refine m_isub dX12_borrows_39 ?_
    refine m_topi ((show (nI (U 1)) - 1 = nI ((U 1) - 1) from pk_sub (b := 1) (by omega))) ?_
    refine as_50 1 rfl (by omega) dX12_borrows_40 (fun V4 hV4 => ?_)
    refine m_iload_n 2 rfl rfl dX12_borrows_41 ?_
    refine m_iconst 1 dX12_borrows_42 rfl ?_
    refine m_iadd dX12_borrows_43 ?_
    refine m_topi (show (0 : Int32) + 1 = 1 by decide) ?_
    refine m_istore [(4, .int 1), (3, .int 1), (0, .ref (gK G 4 0)), (1, .int 0), (2, .int 0)] (by decide) rfl dX12_borrows_44 ?_
    refine m_iload 0 rfl dX12_borrows_46 ?_
    refine m_iload_n 1 rfl rfl dX12_borrows_48 ?_
    refine m_icmp_ge 71 dX12_borrows_49 (by decide) (fun _ => ?_) (fun c5_ => absurd c5_ (by decide))
    refine m_iconst 1 dX12_borrows_71 rfl ?_
    exact m_zret dX12_borrows_72 (Nat.le_refl _) (Nat.le_refl _) nar1 (⟨(show 1 = bI (decide (fbW U 0 ≠ 4)) by first | (simp_all [fbW, bI]; done) | (grind [fbW, bI])), V4, rfl, ⟨lt4 (p := fun j_ => V4 50 0 j_ = nI ((byB false U L 0).2 j_)) ((up3_j hV4 (by decide) (hp.1 0 (by decide))).trans (show nI (U 0) = nI ((byB false U L 0).2 0) by first | (simp_all [byB, fbW, tkW, nI_0]; done) | (simp_all [byB, fbW, tkW, nI_0]; omega) | (grind [byB, fbW, tkW, nI_0]))) ((up3_e hV4).trans (show nI ((U 1) - 1) = nI ((byB false U L 0).2 1) by first | (simp_all [byB, fbW, tkW, nI_0]; done) | (simp_all [byB, fbW, tkW, nI_0]; omega) | (grind [byB, fbW, tkW, nI_0]))) ((up3_j hV4 (by decide) (hp.1 2 (by decide))).trans (show nI (U 2) = nI ((byB false U L 0).2 2) by first | (simp_all [byB, fbW, tkW, nI_0]; done) | (simp_all [byB, fbW, tkW, nI_0]; omega) | (grind [byB, fbW, tkW, nI_0]))) ((up3_j hV4 (by decide) (hp.1 3 (by decide))).trans (show nI (U 3) = nI ((byB false U L 0).2 3) by first | (simp_all [byB, fbW, tkW, nI_0]; done) | (simp_all [byB, fbW, tkW, nI_0]; omega) | (grind [byB, fbW, tkW, nI_0]))), fun j_ hj => (((zfr_up zfr_rf hV4) : zfr 50 V V4) 51 0 j_ (by decide)).trans (hp.2.1 j_ hj), byB_le hp.2.2.1, hp.2.2.2⟩, (zfr_up zfr_rf hV4)⟩)
  ·
    refine m_iinc (2) 0 [(3, .int 2), (0, .ref (gK G 4 0)), (1, .int 0), (2, .int 0)] rfl rfl (by decide) rfl dX12_borrows_18 ?_
    refine m_goto 4 dX12_borrows_21 (by decide) ?_
    refine m_iload_n 0 rfl rfl dX12_borrows_4 ?_
    refine m_iconst 4 dX12_borrows_5 rfl ?_
    refine m_icmp_ge 24 dX12_borrows_6 (by decide) (fun c6_ => absurd c6_ (by decide)) (fun _ => ?_)
    refine m_aload_n 1 rfl rfl dX12_borrows_9 ?_
    refine gf_X12_40 dX12_borrows_10 ?_
    refine m_iload_n 0 rfl rfl dX12_borrows_13 ?_
    refine al_50 2 rfl (by omega) dX12_borrows_14 ?_
    refine m_topi (hp.1 2 (by decide)) ?_
    refine m_ifn_ne (U 2) 24 (by omega) dX12_borrows_15 (by decide) (fun c7_ => ?_) (fun c7_ => ?_)
    ·
      refine m_iload_n 0 rfl rfl dX12_borrows_24 ?_
      refine m_iconst 4 dX12_borrows_25 rfl ?_
      refine m_icmp_ne 31 dX12_borrows_26 (by decide) (fun _ => ?_) (fun c8_ => absurd c8_ (by decide))
      refine m_aload_n 1 rfl rfl dX12_borrows_31 ?_
      refine gf_X12_40 dX12_borrows_32 ?_
      refine m_iload_n 0 rfl rfl dX12_borrows_35 ?_
      refine m_dup2 rfl rfl dX12_borrows_36 ?_
      refine al_50 2 rfl (by omega) dX12_borrows_37 ?_
      refine m_topi (hp.1 2 (by decide)) ?_
      refine m_iconst 1 dX12_borrows_38 rfl ?_
      refine m_isub dX12_borrows_39 ?_
      refine m_topi ((show (nI (U 2)) - 1 = nI ((U 2) - 1) from pk_sub (b := 1) (by omega))) ?_
      refine as_50 2 rfl (by omega) dX12_borrows_40 (fun V9 hV9 => ?_)
      refine m_iload_n 2 rfl rfl dX12_borrows_41 ?_
      refine m_iconst 1 dX12_borrows_42 rfl ?_
      refine m_iadd dX12_borrows_43 ?_
      refine m_topi (show (0 : Int32) + 1 = 1 by decide) ?_
      refine m_istore [(4, .int 1), (3, .int 2), (0, .ref (gK G 4 0)), (1, .int 0), (2, .int 0)] (by decide) rfl dX12_borrows_44 ?_
      refine m_iload 0 rfl dX12_borrows_46 ?_
      refine m_iload_n 1 rfl rfl dX12_borrows_48 ?_
      refine m_icmp_ge 71 dX12_borrows_49 (by decide) (fun c10_ => absurd c10_ (by decide)) (fun _ => ?_)
      refine m_iload_n 4 rfl rfl dX12_borrows_52 ?_
      refine m_if_eq 71 dX12_borrows_53 (by decide) (fun _ => ?_) (fun c11_ => absurd c11_ (by decide))
      refine m_iconst 1 dX12_borrows_71 rfl ?_
      exact m_zret dX12_borrows_72 (Nat.le_refl _) (Nat.le_refl _) nar1 (⟨(show 1 = bI (decide (fbW U 0 ≠ 4)) by first | (simp_all [fbW, bI]; done) | (grind [fbW, bI])), V9, rfl, ⟨lt4 (p := fun j_ => V9 50 0 j_ = nI ((byB false U L 0).2 j_)) ((up3_j hV9 (by decide) (hp.1 0 (by decide))).trans (show nI (U 0) = nI ((byB false U L 0).2 0) by first | (simp_all [byB, fbW, tkW, nI_0]; done) | (simp_all [byB, fbW, tkW, nI_0]; omega) | (grind [byB, fbW, tkW, nI_0]))) ((up3_j hV9 (by decide) (hp.1 1 (by decide))).trans (show nI (U 1) = nI ((byB false U L 0).2 1) by first | (simp_all [byB, fbW, tkW, nI_0]; done) | (simp_all [byB, fbW, tkW, nI_0]; omega) | (grind [byB, fbW, tkW, nI_0]))) ((up3_e hV9).trans (show nI ((U 2) - 1) = nI ((byB false U L 0).2 2) by first | (simp_all [byB, fbW, tkW, nI_0]; done) | (simp_all [byB, fbW, tkW, nI_0]; omega) | (grind [byB, fbW, tkW, nI_0]))) ((up3_j hV9 (by decide) (hp.1 3 (by decide))).trans (show nI (U 3) = nI ((byB false U L 0).2 3) by first | (simp_all [byB, fbW, tkW, nI_0]; done) | (simp_all [byB, fbW, tkW, nI_0]; omega) | (grind [byB, fbW, tkW, nI_0]))), fun j_ hj => (((zfr_up zfr_rf hV9) : zfr 50 V V9) 51 0 j_ (by decide)).trans (hp.2.1 j_ hj), byB_le hp.2.2.1, hp.2.2.2⟩, (zfr_up zfr_rf hV9)⟩)
    ·
      refine m_iinc (3) 0 [(3, .int 3), (0, .ref (gK G 4 0)), (1, .int 0), (2, .int 0)] rfl rfl (by decide) rfl dX12_borrows_18 ?_
      refine m_goto 4 dX12_borrows_21 (by decide) ?_
      refine m_iload_n 0 rfl rfl dX12_borrows_4 ?_
      refine m_iconst 4 dX12_borrows_5 rfl ?_
      refine m_icmp_ge 24 dX12_borrows_6 (by decide) (fun c12_ => absurd c12_ (by decide)) (fun _ => ?_)
      refine m_aload_n 1 rfl rfl dX12_borrows_9 ?_
      refine gf_X12_40 dX12_borrows_10 ?_
      refine m_iload_n 0 rfl rfl dX12_borrows_13 ?_
      refine al_50 3 rfl (by omega) dX12_borrows_14 ?_
      refine m_topi (hp.1 3 (by decide)) ?_
      refine m_ifn_ne (U 3) 24 (by omega) dX12_borrows_15 (by decide) (fun c13_ => ?_) (fun c13_ => ?_)
      ·
        refine m_iload_n 0 rfl rfl dX12_borrows_24 ?_
        refine m_iconst 4 dX12_borrows_25 rfl ?_
        refine m_icmp_ne 31 dX12_borrows_26 (by decide) (fun _ => ?_) (fun c14_ => absurd c14_ (by decide))
        refine m_aload_n 1 rfl rfl dX12_borrows_31 ?_
        refine gf_X12_40 dX12_borrows_32 ?_
        refine m_iload_n 0 rfl rfl dX12_borrows_35 ?_
        refine m_dup2 rfl rfl dX12_borrows_36 ?_
        refine al_50 3 rfl (by omega) dX12_borrows_37 ?_
        refine m_topi (hp.1 3 (by decide)) ?_
        refine m_iconst 1 dX12_borrows_38 rfl ?_
        refine m_isub dX12_borrows_39 ?_
        refine m_topi ((show (nI (U 3)) - 1 = nI ((U 3) - 1) from pk_sub (b := 1) (by omega))) ?_
        refine as_50 3 rfl (by omega) dX12_borrows_40 (fun V15 hV15 => ?_)
        refine m_iload_n 2 rfl rfl dX12_borrows_41 ?_
        refine m_iconst 1 dX12_borrows_42 rfl ?_
        refine m_iadd dX12_borrows_43 ?_
        refine m_topi (show (0 : Int32) + 1 = 1 by decide) ?_
        refine m_istore [(4, .int 1), (3, .int 3), (0, .ref (gK G 4 0)), (1, .int 0), (2, .int 0)] (by decide) rfl dX12_borrows_44 ?_
        refine m_iload 0 rfl dX12_borrows_46 ?_
        refine m_iload_n 1 rfl rfl dX12_borrows_48 ?_
        refine m_icmp_ge 71 dX12_borrows_49 (by decide) (fun c16_ => absurd c16_ (by decide)) (fun _ => ?_)
        refine m_iload_n 4 rfl rfl dX12_borrows_52 ?_
        refine m_if_eq 71 dX12_borrows_53 (by decide) (fun _ => ?_) (fun c17_ => absurd c17_ (by decide))
        refine m_iconst 1 dX12_borrows_71 rfl ?_
        exact m_zret dX12_borrows_72 (Nat.le_refl _) (Nat.le_refl _) nar1 (⟨(show 1 = bI (decide (fbW U 0 ≠ 4)) by first | (simp_all [fbW, bI]; done) | (grind [fbW, bI])), V15, rfl, ⟨lt4 (p := fun j_ => V15 50 0 j_ = nI ((byB false U L 0).2 j_)) ((up3_j hV15 (by decide) (hp.1 0 (by decide))).trans (show nI (U 0) = nI ((byB false U L 0).2 0) by first | (simp_all [byB, fbW, tkW, nI_0]; done) | (simp_all [byB, fbW, tkW, nI_0]; omega) | (grind [byB, fbW, tkW, nI_0]))) ((up3_j hV15 (by decide) (hp.1 1 (by decide))).trans (show nI (U 1) = nI ((byB false U L 0).2 1) by first | (simp_all [byB, fbW, tkW, nI_0]; done) | (simp_all [byB, fbW, tkW, nI_0]; omega) | (grind [byB, fbW, tkW, nI_0]))) ((up3_j hV15 (by decide) (hp.1 2 (by decide))).trans (show nI (U 2) = nI ((byB false U L 0).2 2) by first | (simp_all [byB, fbW, tkW, nI_0]; done) | (simp_all [byB, fbW, tkW, nI_0]; omega) | (grind [byB, fbW, tkW, nI_0]))) ((up3_e hV15).trans (show nI ((U 3) - 1) = nI ((byB false U L 0).2 3) by first | (simp_all [byB, fbW, tkW, nI_0]; done) | (simp_all [byB, fbW, tkW, nI_0]; omega) | (grind [byB, fbW, tkW, nI_0]))), fun j_ hj => (((zfr_up zfr_rf hV15) : zfr 50 V V15) 51 0 j_ (by decide)).trans (hp.2.1 j_ hj), byB_le hp.2.2.1, hp.2.2.2⟩, (zfr_up zfr_rf hV15)⟩)
      ·
        refine m_iinc (4) 0 [(3, .int 4), (0, .ref (gK G 4 0)), (1, .int 0), (2, .int 0)] rfl rfl (by decide) rfl dX12_borrows_18 ?_
        refine m_goto 4 dX12_borrows_21 (by decide) ?_
        refine m_iload_n 0 rfl rfl dX12_borrows_4 ?_
        refine m_iconst 4 dX12_borrows_5 rfl ?_
        refine m_icmp_ge 24 dX12_borrows_6 (by decide) (fun _ => ?_) (fun c18_ => absurd c18_ (by decide))
        refine m_iload_n 0 rfl rfl dX12_borrows_24 ?_
        refine m_iconst 4 dX12_borrows_25 rfl ?_
        refine m_icmp_ne 31 dX12_borrows_26 (by decide) (fun c19_ => absurd c19_ (by decide)) (fun _ => ?_)
        refine m_iconst 0 dX12_borrows_29 rfl ?_
        exact m_zret dX12_borrows_30 (Nat.le_refl _) (Nat.le_refl _) nar0 (⟨(show 0 = bI (decide (fbW U 0 ≠ 4)) by first | (simp_all [fbW, bI]; done) | (grind [fbW, bI])), V, rfl, ⟨lt4 (p := fun j_ => V 50 0 j_ = nI ((byB false U L 0).2 j_)) ((hp.1 0 (by decide)).trans (show nI (U 0) = nI ((byB false U L 0).2 0) by first | (simp_all [byB, fbW, tkW, nI_0]; done) | (simp_all [byB, fbW, tkW, nI_0]; omega) | (grind [byB, fbW, tkW, nI_0]))) ((hp.1 1 (by decide)).trans (show nI (U 1) = nI ((byB false U L 0).2 1) by first | (simp_all [byB, fbW, tkW, nI_0]; done) | (simp_all [byB, fbW, tkW, nI_0]; omega) | (grind [byB, fbW, tkW, nI_0]))) ((hp.1 2 (by decide)).trans (show nI (U 2) = nI ((byB false U L 0).2 2) by first | (simp_all [byB, fbW, tkW, nI_0]; done) | (simp_all [byB, fbW, tkW, nI_0]; omega) | (grind [byB, fbW, tkW, nI_0]))) ((hp.1 3 (by decide)).trans (show nI (U 3) = nI ((byB false U L 0).2 3) by first | (simp_all [byB, fbW, tkW, nI_0]; done) | (simp_all [byB, fbW, tkW, nI_0]; omega) | (grind [byB, fbW, tkW, nI_0]))), fun j_ hj => ((zfr_rf : zfr 50 V V) 51 0 j_ (by decide)).trans (hp.2.1 j_ hj), byB_le hp.2.2.1, hp.2.2.2⟩, zfr_rf⟩)
set_option maxRecDepth 100000 in
set_option maxHeartbeats 4000000 in
theorem k_m_borrows_0_1 (l : Launch) (G : owG) {A S Z B T V : owF} {J : Nat → Nat → Int64} {Y : Nat → Nat → Nat → Option Nat} {P : Nat → Option owW} (U L : Nat → Nat) (hp : papM V U L) : Ct l G yX12_borrows cX12_borrows 5 ((some .boolean)) 0 0 0 [.ref (gK G 4 0), .int 0, .int 1] (A, S, Z, B, T, V, J, Y, P) (qI (fun x_ σ => x_ = bI (decide (fbW U 0 ≠ 4)) ∧ ∃ V2 : owF, σ = (A, S, Z, B, T, V2, J, Y, P) ∧ papM V2 (byB true U L 0).2 L ∧ zfr 50 V V2)) := by
  refine ct_of (by decide +kernel) (Nat.le_of_ble_eq_true rfl) ?_
  have hu0 := hp.2.2.1 0 (by decide)
  have hu1 := hp.2.2.1 1 (by decide)
  have hu2 := hp.2.2.1 2 (by decide)
  have hu3 := hp.2.2.1 3 (by decide)
  show Wm l G cX12_borrows 5 RX12 ((some .boolean)) (rmk 0 0 0) (fun _ => True) (QfM G (qI (fun x_ σ => x_ = bI (decide (fbW U 0 ≠ 4)) ∧ ∃ V2 : owF, σ = (A, S, Z, B, T, V2, J, Y, P) ∧ papM V2 (byB true U L 0).2 L ∧ zfr 50 V V2)) 0 0) 0 [(0, .ref (gK G 4 0)), (1, .int 0), (2, .int 1)] [] (A, S, Z, B, T, V, J, Y, P) 0 0
  refine m_iload_n 1 rfl rfl dX12_borrows_0 ?_
  refine m_iconst 1 dX12_borrows_1 rfl ?_
  refine m_iadd dX12_borrows_2 ?_
  refine m_topi (show (0 : Int32) + 1 = 1 by decide) ?_
  refine m_istore_n [(3, .int 1), (0, .ref (gK G 4 0)), (1, .int 0), (2, .int 1)] rfl (by decide) rfl dX12_borrows_3 ?_
  refine m_iload_n 0 rfl rfl dX12_borrows_4 ?_
  refine m_iconst 4 dX12_borrows_5 rfl ?_
  refine m_icmp_ge 24 dX12_borrows_6 (by decide) (fun c1_ => absurd c1_ (by decide)) (fun _ => ?_)
  refine m_aload_n 1 rfl rfl dX12_borrows_9 ?_
  refine gf_X12_40 dX12_borrows_10 ?_
  refine m_iload_n 0 rfl rfl dX12_borrows_13 ?_
  refine al_50 1 rfl (by omega) dX12_borrows_14 ?_
  refine m_topi (hp.1 1 (by decide)) ?_
  refine m_ifn_ne (U 1) 24 (by omega) dX12_borrows_15 (by decide) (fun c2_ => ?_) (fun c2_ => ?_)
  ·
    refine m_iload_n 0 rfl rfl dX12_borrows_24 ?_
    refine m_iconst 4 dX12_borrows_25 rfl ?_
    refine m_icmp_ne 31 dX12_borrows_26 (by decide) (fun _ => ?_) (fun c3_ => absurd c3_ (by decide))
    refine m_aload_n 1 rfl rfl dX12_borrows_31 ?_
    refine gf_X12_40 dX12_borrows_32 ?_
    refine m_iload_n 0 rfl rfl dX12_borrows_35 ?_
    refine m_dup2 rfl rfl dX12_borrows_36 ?_
    refine al_50 1 rfl (by omega) dX12_borrows_37 ?_
    refine m_topi (hp.1 1 (by decide)) ?_
    refine m_iconst 1 dX12_borrows_38 rfl ?_
    refine m_isub dX12_borrows_39 ?_
    refine m_topi ((show (nI (U 1)) - 1 = nI ((U 1) - 1) from pk_sub (b := 1) (by omega))) ?_
    refine as_50 1 rfl (by omega) dX12_borrows_40 (fun V4 hV4 => ?_)
    refine m_iload_n 2 rfl rfl dX12_borrows_41 ?_
    refine m_iconst 1 dX12_borrows_42 rfl ?_
    refine m_iadd dX12_borrows_43 ?_
    refine m_topi (show (0 : Int32) + 1 = 1 by decide) ?_
    refine m_istore [(4, .int 1), (3, .int 1), (0, .ref (gK G 4 0)), (1, .int 0), (2, .int 1)] (by decide) rfl dX12_borrows_44 ?_
    refine m_iload 0 rfl dX12_borrows_46 ?_
    refine m_iload_n 1 rfl rfl dX12_borrows_48 ?_
    refine m_icmp_ge 71 dX12_borrows_49 (by decide) (fun _ => ?_) (fun c5_ => absurd c5_ (by decide))
    refine m_iconst 1 dX12_borrows_71 rfl ?_
    exact m_zret dX12_borrows_72 (Nat.le_refl _) (Nat.le_refl _) nar1 (⟨(show 1 = bI (decide (fbW U 0 ≠ 4)) by first | (simp_all [fbW, bI]; done) | (grind [fbW, bI])), V4, rfl, ⟨lt4 (p := fun j_ => V4 50 0 j_ = nI ((byB true U L 0).2 j_)) ((up3_j hV4 (by decide) (hp.1 0 (by decide))).trans (show nI (U 0) = nI ((byB true U L 0).2 0) by first | (simp_all [byB, fbW, tkW, nI_0]; done) | (simp_all [byB, fbW, tkW, nI_0]; omega) | (grind [byB, fbW, tkW, nI_0]))) ((up3_e hV4).trans (show nI ((U 1) - 1) = nI ((byB true U L 0).2 1) by first | (simp_all [byB, fbW, tkW, nI_0]; done) | (simp_all [byB, fbW, tkW, nI_0]; omega) | (grind [byB, fbW, tkW, nI_0]))) ((up3_j hV4 (by decide) (hp.1 2 (by decide))).trans (show nI (U 2) = nI ((byB true U L 0).2 2) by first | (simp_all [byB, fbW, tkW, nI_0]; done) | (simp_all [byB, fbW, tkW, nI_0]; omega) | (grind [byB, fbW, tkW, nI_0]))) ((up3_j hV4 (by decide) (hp.1 3 (by decide))).trans (show nI (U 3) = nI ((byB true U L 0).2 3) by first | (simp_all [byB, fbW, tkW, nI_0]; done) | (simp_all [byB, fbW, tkW, nI_0]; omega) | (grind [byB, fbW, tkW, nI_0]))), fun j_ hj => (((zfr_up zfr_rf hV4) : zfr 50 V V4) 51 0 j_ (by decide)).trans (hp.2.1 j_ hj), byB_le hp.2.2.1, hp.2.2.2⟩, (zfr_up zfr_rf hV4)⟩)
  ·
    refine m_iinc (2) 0 [(3, .int 2), (0, .ref (gK G 4 0)), (1, .int 0), (2, .int 1)] rfl rfl (by decide) rfl dX12_borrows_18 ?_
    refine m_goto 4 dX12_borrows_21 (by decide) ?_
    refine m_iload_n 0 rfl rfl dX12_borrows_4 ?_
    refine m_iconst 4 dX12_borrows_5 rfl ?_
    refine m_icmp_ge 24 dX12_borrows_6 (by decide) (fun c6_ => absurd c6_ (by decide)) (fun _ => ?_)
    refine m_aload_n 1 rfl rfl dX12_borrows_9 ?_
    refine gf_X12_40 dX12_borrows_10 ?_
    refine m_iload_n 0 rfl rfl dX12_borrows_13 ?_
    refine al_50 2 rfl (by omega) dX12_borrows_14 ?_
    refine m_topi (hp.1 2 (by decide)) ?_
    refine m_ifn_ne (U 2) 24 (by omega) dX12_borrows_15 (by decide) (fun c7_ => ?_) (fun c7_ => ?_)
    ·
      refine m_iload_n 0 rfl rfl dX12_borrows_24 ?_
      refine m_iconst 4 dX12_borrows_25 rfl ?_
      refine m_icmp_ne 31 dX12_borrows_26 (by decide) (fun _ => ?_) (fun c8_ => absurd c8_ (by decide))
      refine m_aload_n 1 rfl rfl dX12_borrows_31 ?_
      refine gf_X12_40 dX12_borrows_32 ?_
      refine m_iload_n 0 rfl rfl dX12_borrows_35 ?_
      refine m_dup2 rfl rfl dX12_borrows_36 ?_
      refine al_50 2 rfl (by omega) dX12_borrows_37 ?_
      refine m_topi (hp.1 2 (by decide)) ?_
      refine m_iconst 1 dX12_borrows_38 rfl ?_
      refine m_isub dX12_borrows_39 ?_
      refine m_topi ((show (nI (U 2)) - 1 = nI ((U 2) - 1) from pk_sub (b := 1) (by omega))) ?_
      refine as_50 2 rfl (by omega) dX12_borrows_40 (fun V9 hV9 => ?_)
      refine m_iload_n 2 rfl rfl dX12_borrows_41 ?_
      refine m_iconst 1 dX12_borrows_42 rfl ?_
      refine m_iadd dX12_borrows_43 ?_
      refine m_topi (show (0 : Int32) + 1 = 1 by decide) ?_
      refine m_istore [(4, .int 1), (3, .int 2), (0, .ref (gK G 4 0)), (1, .int 0), (2, .int 1)] (by decide) rfl dX12_borrows_44 ?_
      refine m_iload 0 rfl dX12_borrows_46 ?_
      refine m_iload_n 1 rfl rfl dX12_borrows_48 ?_
      refine m_icmp_ge 71 dX12_borrows_49 (by decide) (fun c10_ => absurd c10_ (by decide)) (fun _ => ?_)
      refine m_iload_n 4 rfl rfl dX12_borrows_52 ?_
      refine m_if_eq 71 dX12_borrows_53 (by decide) (fun c11_ => absurd c11_ (by decide)) (fun _ => ?_)
      refine m_aload_n 2 rfl rfl dX12_borrows_56 ?_
      refine gf_X12_40 dX12_borrows_57 ?_
      refine m_iload 0 rfl dX12_borrows_60 ?_
      refine m_bipush (9) dX12_borrows_62 rfl ?_
      refine as_50 1 rfl (by omega) dX12_borrows_64 (fun V12 hV12 => ?_)
      refine m_iinc (2) 0 [(4, .int 2), (3, .int 2), (0, .ref (gK G 4 0)), (1, .int 0), (2, .int 1)] rfl rfl (by decide) rfl dX12_borrows_65 ?_
      refine m_goto 46 dX12_borrows_68 (by decide) ?_
      refine m_iload 0 rfl dX12_borrows_46 ?_
      refine m_iload_n 1 rfl rfl dX12_borrows_48 ?_
      refine m_icmp_ge 71 dX12_borrows_49 (by decide) (fun _ => ?_) (fun c13_ => absurd c13_ (by decide))
      refine m_iconst 1 dX12_borrows_71 rfl ?_
      exact m_zret dX12_borrows_72 (Nat.le_refl _) (Nat.le_refl _) nar1 (⟨(show 1 = bI (decide (fbW U 0 ≠ 4)) by first | (simp_all [fbW, bI]; done) | (grind [fbW, bI])), V12, rfl, ⟨lt4 (p := fun j_ => V12 50 0 j_ = nI ((byB true U L 0).2 j_)) ((up3_j hV12 (by decide) (up3_j hV9 (by decide) (hp.1 0 (by decide)))).trans (show nI (U 0) = nI ((byB true U L 0).2 0) by first | (simp_all [byB, fbW, tkW, nI_0]; done) | (simp_all [byB, fbW, tkW, nI_0]; omega) | (grind [byB, fbW, tkW, nI_0]))) ((up3_e hV12).trans (show nI 9 = nI ((byB true U L 0).2 1) by first | (simp_all [byB, fbW, tkW, nI_0]; done) | (simp_all [byB, fbW, tkW, nI_0]; omega) | (grind [byB, fbW, tkW, nI_0]))) ((up3_j hV12 (by decide) (up3_e hV9)).trans (show nI ((U 2) - 1) = nI ((byB true U L 0).2 2) by first | (simp_all [byB, fbW, tkW, nI_0]; done) | (simp_all [byB, fbW, tkW, nI_0]; omega) | (grind [byB, fbW, tkW, nI_0]))) ((up3_j hV12 (by decide) (up3_j hV9 (by decide) (hp.1 3 (by decide)))).trans (show nI (U 3) = nI ((byB true U L 0).2 3) by first | (simp_all [byB, fbW, tkW, nI_0]; done) | (simp_all [byB, fbW, tkW, nI_0]; omega) | (grind [byB, fbW, tkW, nI_0]))), fun j_ hj => (((zfr_up (zfr_up zfr_rf hV9) hV12) : zfr 50 V V12) 51 0 j_ (by decide)).trans (hp.2.1 j_ hj), byB_le hp.2.2.1, hp.2.2.2⟩, (zfr_up (zfr_up zfr_rf hV9) hV12)⟩)
    ·
      refine m_iinc (3) 0 [(3, .int 3), (0, .ref (gK G 4 0)), (1, .int 0), (2, .int 1)] rfl rfl (by decide) rfl dX12_borrows_18 ?_
      refine m_goto 4 dX12_borrows_21 (by decide) ?_
      refine m_iload_n 0 rfl rfl dX12_borrows_4 ?_
      refine m_iconst 4 dX12_borrows_5 rfl ?_
      refine m_icmp_ge 24 dX12_borrows_6 (by decide) (fun c14_ => absurd c14_ (by decide)) (fun _ => ?_)
      refine m_aload_n 1 rfl rfl dX12_borrows_9 ?_
      refine gf_X12_40 dX12_borrows_10 ?_
      refine m_iload_n 0 rfl rfl dX12_borrows_13 ?_
      refine al_50 3 rfl (by omega) dX12_borrows_14 ?_
      refine m_topi (hp.1 3 (by decide)) ?_
      refine m_ifn_ne (U 3) 24 (by omega) dX12_borrows_15 (by decide) (fun c15_ => ?_) (fun c15_ => ?_)
      ·
        refine m_iload_n 0 rfl rfl dX12_borrows_24 ?_
        refine m_iconst 4 dX12_borrows_25 rfl ?_
        refine m_icmp_ne 31 dX12_borrows_26 (by decide) (fun _ => ?_) (fun c16_ => absurd c16_ (by decide))
        refine m_aload_n 1 rfl rfl dX12_borrows_31 ?_
        refine gf_X12_40 dX12_borrows_32 ?_
        refine m_iload_n 0 rfl rfl dX12_borrows_35 ?_
        refine m_dup2 rfl rfl dX12_borrows_36 ?_
        refine al_50 3 rfl (by omega) dX12_borrows_37 ?_
        refine m_topi (hp.1 3 (by decide)) ?_
        refine m_iconst 1 dX12_borrows_38 rfl ?_
        refine m_isub dX12_borrows_39 ?_
        refine m_topi ((show (nI (U 3)) - 1 = nI ((U 3) - 1) from pk_sub (b := 1) (by omega))) ?_
        refine as_50 3 rfl (by omega) dX12_borrows_40 (fun V17 hV17 => ?_)
        refine m_iload_n 2 rfl rfl dX12_borrows_41 ?_
        refine m_iconst 1 dX12_borrows_42 rfl ?_
        refine m_iadd dX12_borrows_43 ?_
        refine m_topi (show (0 : Int32) + 1 = 1 by decide) ?_
        refine m_istore [(4, .int 1), (3, .int 3), (0, .ref (gK G 4 0)), (1, .int 0), (2, .int 1)] (by decide) rfl dX12_borrows_44 ?_
        refine m_iload 0 rfl dX12_borrows_46 ?_
        refine m_iload_n 1 rfl rfl dX12_borrows_48 ?_
        refine m_icmp_ge 71 dX12_borrows_49 (by decide) (fun c18_ => absurd c18_ (by decide)) (fun _ => ?_)
        refine m_iload_n 4 rfl rfl dX12_borrows_52 ?_
        refine m_if_eq 71 dX12_borrows_53 (by decide) (fun c19_ => absurd c19_ (by decide)) (fun _ => ?_)
        refine m_aload_n 2 rfl rfl dX12_borrows_56 ?_
        refine gf_X12_40 dX12_borrows_57 ?_
        refine m_iload 0 rfl dX12_borrows_60 ?_
        refine m_bipush (9) dX12_borrows_62 rfl ?_
        refine as_50 1 rfl (by omega) dX12_borrows_64 (fun V20 hV20 => ?_)
        refine m_iinc (2) 0 [(4, .int 2), (3, .int 3), (0, .ref (gK G 4 0)), (1, .int 0), (2, .int 1)] rfl rfl (by decide) rfl dX12_borrows_65 ?_
        refine m_goto 46 dX12_borrows_68 (by decide) ?_
        refine m_iload 0 rfl dX12_borrows_46 ?_
        refine m_iload_n 1 rfl rfl dX12_borrows_48 ?_
        refine m_icmp_ge 71 dX12_borrows_49 (by decide) (fun c21_ => absurd c21_ (by decide)) (fun _ => ?_)
        refine m_iload_n 4 rfl rfl dX12_borrows_52 ?_
        refine m_if_eq 71 dX12_borrows_53 (by decide) (fun c22_ => absurd c22_ (by decide)) (fun _ => ?_)
        refine m_aload_n 2 rfl rfl dX12_borrows_56 ?_
        refine gf_X12_40 dX12_borrows_57 ?_
        refine m_iload 0 rfl dX12_borrows_60 ?_
        refine m_bipush (9) dX12_borrows_62 rfl ?_
        refine as_50 2 rfl (by omega) dX12_borrows_64 (fun V23 hV23 => ?_)
        refine m_iinc (3) 0 [(4, .int 3), (3, .int 3), (0, .ref (gK G 4 0)), (1, .int 0), (2, .int 1)] rfl rfl (by decide) rfl dX12_borrows_65 ?_
        refine m_goto 46 dX12_borrows_68 (by decide) ?_
        refine m_iload 0 rfl dX12_borrows_46 ?_
        refine m_iload_n 1 rfl rfl dX12_borrows_48 ?_
        refine m_icmp_ge 71 dX12_borrows_49 (by decide) (fun _ => ?_) (fun c24_ => absurd c24_ (by decide))
        refine m_iconst 1 dX12_borrows_71 rfl ?_
        exact m_zret dX12_borrows_72 (Nat.le_refl _) (Nat.le_refl _) nar1 (⟨(show 1 = bI (decide (fbW U 0 ≠ 4)) by first | (simp_all [fbW, bI]; done) | (grind [fbW, bI])), V23, rfl, ⟨lt4 (p := fun j_ => V23 50 0 j_ = nI ((byB true U L 0).2 j_)) ((up3_j hV23 (by decide) (up3_j hV20 (by decide) (up3_j hV17 (by decide) (hp.1 0 (by decide))))).trans (show nI (U 0) = nI ((byB true U L 0).2 0) by first | (simp_all [byB, fbW, tkW, nI_0]; done) | (simp_all [byB, fbW, tkW, nI_0]; omega) | (grind [byB, fbW, tkW, nI_0]))) ((up3_j hV23 (by decide) (up3_e hV20)).trans (show nI 9 = nI ((byB true U L 0).2 1) by first | (simp_all [byB, fbW, tkW, nI_0]; done) | (simp_all [byB, fbW, tkW, nI_0]; omega) | (grind [byB, fbW, tkW, nI_0]))) ((up3_e hV23).trans (show nI 9 = nI ((byB true U L 0).2 2) by first | (simp_all [byB, fbW, tkW, nI_0]; done) | (simp_all [byB, fbW, tkW, nI_0]; omega) | (grind [byB, fbW, tkW, nI_0]))) ((up3_j hV23 (by decide) (up3_j hV20 (by decide) (up3_e hV17))).trans (show nI ((U 3) - 1) = nI ((byB true U L 0).2 3) by first | (simp_all [byB, fbW, tkW, nI_0]; done) | (simp_all [byB, fbW, tkW, nI_0]; omega) | (grind [byB, fbW, tkW, nI_0]))), fun j_ hj => (((zfr_up (zfr_up (zfr_up zfr_rf hV17) hV20) hV23) : zfr 50 V V23) 51 0 j_ (by decide)).trans (hp.2.1 j_ hj), byB_le hp.2.2.1, hp.2.2.2⟩, (zfr_up (zfr_up (zfr_up zfr_rf hV17) hV20) hV23)⟩)
      ·
        refine m_iinc (4) 0 [(3, .int 4), (0, .ref (gK G 4 0)), (1, .int 0), (2, .int 1)] rfl rfl (by decide) rfl dX12_borrows_18 ?_
        refine m_goto 4 dX12_borrows_21 (by decide) ?_
        refine m_iload_n 0 rfl rfl dX12_borrows_4 ?_
        refine m_iconst 4 dX12_borrows_5 rfl ?_
        refine m_icmp_ge 24 dX12_borrows_6 (by decide) (fun _ => ?_) (fun c25_ => absurd c25_ (by decide))
        refine m_iload_n 0 rfl rfl dX12_borrows_24 ?_
        refine m_iconst 4 dX12_borrows_25 rfl ?_
        refine m_icmp_ne 31 dX12_borrows_26 (by decide) (fun c26_ => absurd c26_ (by decide)) (fun _ => ?_)
        refine m_iconst 0 dX12_borrows_29 rfl ?_
        exact m_zret dX12_borrows_30 (Nat.le_refl _) (Nat.le_refl _) nar0 (⟨(show 0 = bI (decide (fbW U 0 ≠ 4)) by first | (simp_all [fbW, bI]; done) | (grind [fbW, bI])), V, rfl, ⟨lt4 (p := fun j_ => V 50 0 j_ = nI ((byB true U L 0).2 j_)) ((hp.1 0 (by decide)).trans (show nI (U 0) = nI ((byB true U L 0).2 0) by first | (simp_all [byB, fbW, tkW, nI_0]; done) | (simp_all [byB, fbW, tkW, nI_0]; omega) | (grind [byB, fbW, tkW, nI_0]))) ((hp.1 1 (by decide)).trans (show nI (U 1) = nI ((byB true U L 0).2 1) by first | (simp_all [byB, fbW, tkW, nI_0]; done) | (simp_all [byB, fbW, tkW, nI_0]; omega) | (grind [byB, fbW, tkW, nI_0]))) ((hp.1 2 (by decide)).trans (show nI (U 2) = nI ((byB true U L 0).2 2) by first | (simp_all [byB, fbW, tkW, nI_0]; done) | (simp_all [byB, fbW, tkW, nI_0]; omega) | (grind [byB, fbW, tkW, nI_0]))) ((hp.1 3 (by decide)).trans (show nI (U 3) = nI ((byB true U L 0).2 3) by first | (simp_all [byB, fbW, tkW, nI_0]; done) | (simp_all [byB, fbW, tkW, nI_0]; omega) | (grind [byB, fbW, tkW, nI_0]))), fun j_ hj => ((zfr_rf : zfr 50 V V) 51 0 j_ (by decide)).trans (hp.2.1 j_ hj), byB_le hp.2.2.1, hp.2.2.2⟩, zfr_rf⟩)
set_option maxRecDepth 100000 in
set_option maxHeartbeats 4000000 in
theorem k_m_borrows_1_0 (l : Launch) (G : owG) {A S Z B T V : owF} {J : Nat → Nat → Int64} {Y : Nat → Nat → Nat → Option Nat} {P : Nat → Option owW} (U L : Nat → Nat) (hp : papM V U L) : Ct l G yX12_borrows cX12_borrows 5 ((some .boolean)) 0 0 0 [.ref (gK G 4 0), .int 1, .int 0] (A, S, Z, B, T, V, J, Y, P) (qI (fun x_ σ => x_ = bI (decide (fbW U 1 ≠ 4)) ∧ ∃ V2 : owF, σ = (A, S, Z, B, T, V2, J, Y, P) ∧ papM V2 (byB false U L 1).2 L ∧ zfr 50 V V2)) := by
  refine ct_of (by decide +kernel) (Nat.le_of_ble_eq_true rfl) ?_
  have hu0 := hp.2.2.1 0 (by decide)
  have hu1 := hp.2.2.1 1 (by decide)
  have hu2 := hp.2.2.1 2 (by decide)
  have hu3 := hp.2.2.1 3 (by decide)
  show Wm l G cX12_borrows 5 RX12 ((some .boolean)) (rmk 0 0 0) (fun _ => True) (QfM G (qI (fun x_ σ => x_ = bI (decide (fbW U 1 ≠ 4)) ∧ ∃ V2 : owF, σ = (A, S, Z, B, T, V2, J, Y, P) ∧ papM V2 (byB false U L 1).2 L ∧ zfr 50 V V2)) 0 0) 0 [(0, .ref (gK G 4 0)), (1, .int 1), (2, .int 0)] [] (A, S, Z, B, T, V, J, Y, P) 0 0
  refine m_iload_n 1 rfl rfl dX12_borrows_0 ?_
  refine m_iconst 1 dX12_borrows_1 rfl ?_
  refine m_iadd dX12_borrows_2 ?_
  refine m_topi (show (1 : Int32) + 1 = 2 by decide) ?_
  refine m_istore_n [(3, .int 2), (0, .ref (gK G 4 0)), (1, .int 1), (2, .int 0)] rfl (by decide) rfl dX12_borrows_3 ?_
  refine m_iload_n 0 rfl rfl dX12_borrows_4 ?_
  refine m_iconst 4 dX12_borrows_5 rfl ?_
  refine m_icmp_ge 24 dX12_borrows_6 (by decide) (fun c1_ => absurd c1_ (by decide)) (fun _ => ?_)
  refine m_aload_n 1 rfl rfl dX12_borrows_9 ?_
  refine gf_X12_40 dX12_borrows_10 ?_
  refine m_iload_n 0 rfl rfl dX12_borrows_13 ?_
  refine al_50 2 rfl (by omega) dX12_borrows_14 ?_
  refine m_topi (hp.1 2 (by decide)) ?_
  refine m_ifn_ne (U 2) 24 (by omega) dX12_borrows_15 (by decide) (fun c2_ => ?_) (fun c2_ => ?_)
  ·
    refine m_iload_n 0 rfl rfl dX12_borrows_24 ?_
    refine m_iconst 4 dX12_borrows_25 rfl ?_
    refine m_icmp_ne 31 dX12_borrows_26 (by decide) (fun _ => ?_) (fun c3_ => absurd c3_ (by decide))
    refine m_aload_n 1 rfl rfl dX12_borrows_31 ?_
    refine gf_X12_40 dX12_borrows_32 ?_
    refine m_iload_n 0 rfl rfl dX12_borrows_35 ?_
    refine m_dup2 rfl rfl dX12_borrows_36 ?_
    refine al_50 2 rfl (by omega) dX12_borrows_37 ?_
    refine m_topi (hp.1 2 (by decide)) ?_
    refine m_iconst 1 dX12_borrows_38 rfl ?_
    refine m_isub dX12_borrows_39 ?_
    refine m_topi ((show (nI (U 2)) - 1 = nI ((U 2) - 1) from pk_sub (b := 1) (by omega))) ?_
    refine as_50 2 rfl (by omega) dX12_borrows_40 (fun V4 hV4 => ?_)
    refine m_iload_n 2 rfl rfl dX12_borrows_41 ?_
    refine m_iconst 1 dX12_borrows_42 rfl ?_
    refine m_iadd dX12_borrows_43 ?_
    refine m_topi (show (1 : Int32) + 1 = 2 by decide) ?_
    refine m_istore [(4, .int 2), (3, .int 2), (0, .ref (gK G 4 0)), (1, .int 1), (2, .int 0)] (by decide) rfl dX12_borrows_44 ?_
    refine m_iload 0 rfl dX12_borrows_46 ?_
    refine m_iload_n 1 rfl rfl dX12_borrows_48 ?_
    refine m_icmp_ge 71 dX12_borrows_49 (by decide) (fun _ => ?_) (fun c5_ => absurd c5_ (by decide))
    refine m_iconst 1 dX12_borrows_71 rfl ?_
    exact m_zret dX12_borrows_72 (Nat.le_refl _) (Nat.le_refl _) nar1 (⟨(show 1 = bI (decide (fbW U 1 ≠ 4)) by first | (simp_all [fbW, bI]; done) | (grind [fbW, bI])), V4, rfl, ⟨lt4 (p := fun j_ => V4 50 0 j_ = nI ((byB false U L 1).2 j_)) ((up3_j hV4 (by decide) (hp.1 0 (by decide))).trans (show nI (U 0) = nI ((byB false U L 1).2 0) by first | (simp_all [byB, fbW, tkW, nI_0]; done) | (simp_all [byB, fbW, tkW, nI_0]; omega) | (grind [byB, fbW, tkW, nI_0]))) ((up3_j hV4 (by decide) (hp.1 1 (by decide))).trans (show nI (U 1) = nI ((byB false U L 1).2 1) by first | (simp_all [byB, fbW, tkW, nI_0]; done) | (simp_all [byB, fbW, tkW, nI_0]; omega) | (grind [byB, fbW, tkW, nI_0]))) ((up3_e hV4).trans (show nI ((U 2) - 1) = nI ((byB false U L 1).2 2) by first | (simp_all [byB, fbW, tkW, nI_0]; done) | (simp_all [byB, fbW, tkW, nI_0]; omega) | (grind [byB, fbW, tkW, nI_0]))) ((up3_j hV4 (by decide) (hp.1 3 (by decide))).trans (show nI (U 3) = nI ((byB false U L 1).2 3) by first | (simp_all [byB, fbW, tkW, nI_0]; done) | (simp_all [byB, fbW, tkW, nI_0]; omega) | (grind [byB, fbW, tkW, nI_0]))), fun j_ hj => (((zfr_up zfr_rf hV4) : zfr 50 V V4) 51 0 j_ (by decide)).trans (hp.2.1 j_ hj), byB_le hp.2.2.1, hp.2.2.2⟩, (zfr_up zfr_rf hV4)⟩)
  ·
    refine m_iinc (3) 0 [(3, .int 3), (0, .ref (gK G 4 0)), (1, .int 1), (2, .int 0)] rfl rfl (by decide) rfl dX12_borrows_18 ?_
    refine m_goto 4 dX12_borrows_21 (by decide) ?_
    refine m_iload_n 0 rfl rfl dX12_borrows_4 ?_
    refine m_iconst 4 dX12_borrows_5 rfl ?_
    refine m_icmp_ge 24 dX12_borrows_6 (by decide) (fun c6_ => absurd c6_ (by decide)) (fun _ => ?_)
    refine m_aload_n 1 rfl rfl dX12_borrows_9 ?_
    refine gf_X12_40 dX12_borrows_10 ?_
    refine m_iload_n 0 rfl rfl dX12_borrows_13 ?_
    refine al_50 3 rfl (by omega) dX12_borrows_14 ?_
    refine m_topi (hp.1 3 (by decide)) ?_
    refine m_ifn_ne (U 3) 24 (by omega) dX12_borrows_15 (by decide) (fun c7_ => ?_) (fun c7_ => ?_)
    ·
      refine m_iload_n 0 rfl rfl dX12_borrows_24 ?_
      refine m_iconst 4 dX12_borrows_25 rfl ?_
      refine m_icmp_ne 31 dX12_borrows_26 (by decide) (fun _ => ?_) (fun c8_ => absurd c8_ (by decide))
      refine m_aload_n 1 rfl rfl dX12_borrows_31 ?_
      refine gf_X12_40 dX12_borrows_32 ?_
      refine m_iload_n 0 rfl rfl dX12_borrows_35 ?_
      refine m_dup2 rfl rfl dX12_borrows_36 ?_
      refine al_50 3 rfl (by omega) dX12_borrows_37 ?_
      refine m_topi (hp.1 3 (by decide)) ?_
      refine m_iconst 1 dX12_borrows_38 rfl ?_
      refine m_isub dX12_borrows_39 ?_
      refine m_topi ((show (nI (U 3)) - 1 = nI ((U 3) - 1) from pk_sub (b := 1) (by omega))) ?_
      refine as_50 3 rfl (by omega) dX12_borrows_40 (fun V9 hV9 => ?_)
      refine m_iload_n 2 rfl rfl dX12_borrows_41 ?_
      refine m_iconst 1 dX12_borrows_42 rfl ?_
      refine m_iadd dX12_borrows_43 ?_
      refine m_topi (show (1 : Int32) + 1 = 2 by decide) ?_
      refine m_istore [(4, .int 2), (3, .int 3), (0, .ref (gK G 4 0)), (1, .int 1), (2, .int 0)] (by decide) rfl dX12_borrows_44 ?_
      refine m_iload 0 rfl dX12_borrows_46 ?_
      refine m_iload_n 1 rfl rfl dX12_borrows_48 ?_
      refine m_icmp_ge 71 dX12_borrows_49 (by decide) (fun c10_ => absurd c10_ (by decide)) (fun _ => ?_)
      refine m_iload_n 4 rfl rfl dX12_borrows_52 ?_
      refine m_if_eq 71 dX12_borrows_53 (by decide) (fun _ => ?_) (fun c11_ => absurd c11_ (by decide))
      refine m_iconst 1 dX12_borrows_71 rfl ?_
      exact m_zret dX12_borrows_72 (Nat.le_refl _) (Nat.le_refl _) nar1 (⟨(show 1 = bI (decide (fbW U 1 ≠ 4)) by first | (simp_all [fbW, bI]; done) | (grind [fbW, bI])), V9, rfl, ⟨lt4 (p := fun j_ => V9 50 0 j_ = nI ((byB false U L 1).2 j_)) ((up3_j hV9 (by decide) (hp.1 0 (by decide))).trans (show nI (U 0) = nI ((byB false U L 1).2 0) by first | (simp_all [byB, fbW, tkW, nI_0]; done) | (simp_all [byB, fbW, tkW, nI_0]; omega) | (grind [byB, fbW, tkW, nI_0]))) ((up3_j hV9 (by decide) (hp.1 1 (by decide))).trans (show nI (U 1) = nI ((byB false U L 1).2 1) by first | (simp_all [byB, fbW, tkW, nI_0]; done) | (simp_all [byB, fbW, tkW, nI_0]; omega) | (grind [byB, fbW, tkW, nI_0]))) ((up3_j hV9 (by decide) (hp.1 2 (by decide))).trans (show nI (U 2) = nI ((byB false U L 1).2 2) by first | (simp_all [byB, fbW, tkW, nI_0]; done) | (simp_all [byB, fbW, tkW, nI_0]; omega) | (grind [byB, fbW, tkW, nI_0]))) ((up3_e hV9).trans (show nI ((U 3) - 1) = nI ((byB false U L 1).2 3) by first | (simp_all [byB, fbW, tkW, nI_0]; done) | (simp_all [byB, fbW, tkW, nI_0]; omega) | (grind [byB, fbW, tkW, nI_0]))), fun j_ hj => (((zfr_up zfr_rf hV9) : zfr 50 V V9) 51 0 j_ (by decide)).trans (hp.2.1 j_ hj), byB_le hp.2.2.1, hp.2.2.2⟩, (zfr_up zfr_rf hV9)⟩)
    ·
      refine m_iinc (4) 0 [(3, .int 4), (0, .ref (gK G 4 0)), (1, .int 1), (2, .int 0)] rfl rfl (by decide) rfl dX12_borrows_18 ?_
      refine m_goto 4 dX12_borrows_21 (by decide) ?_
      refine m_iload_n 0 rfl rfl dX12_borrows_4 ?_
      refine m_iconst 4 dX12_borrows_5 rfl ?_
      refine m_icmp_ge 24 dX12_borrows_6 (by decide) (fun _ => ?_) (fun c12_ => absurd c12_ (by decide))
      refine m_iload_n 0 rfl rfl dX12_borrows_24 ?_
      refine m_iconst 4 dX12_borrows_25 rfl ?_
      refine m_icmp_ne 31 dX12_borrows_26 (by decide) (fun c13_ => absurd c13_ (by decide)) (fun _ => ?_)
      refine m_iconst 0 dX12_borrows_29 rfl ?_
      exact m_zret dX12_borrows_30 (Nat.le_refl _) (Nat.le_refl _) nar0 (⟨(show 0 = bI (decide (fbW U 1 ≠ 4)) by first | (simp_all [fbW, bI]; done) | (grind [fbW, bI])), V, rfl, ⟨lt4 (p := fun j_ => V 50 0 j_ = nI ((byB false U L 1).2 j_)) ((hp.1 0 (by decide)).trans (show nI (U 0) = nI ((byB false U L 1).2 0) by first | (simp_all [byB, fbW, tkW, nI_0]; done) | (simp_all [byB, fbW, tkW, nI_0]; omega) | (grind [byB, fbW, tkW, nI_0]))) ((hp.1 1 (by decide)).trans (show nI (U 1) = nI ((byB false U L 1).2 1) by first | (simp_all [byB, fbW, tkW, nI_0]; done) | (simp_all [byB, fbW, tkW, nI_0]; omega) | (grind [byB, fbW, tkW, nI_0]))) ((hp.1 2 (by decide)).trans (show nI (U 2) = nI ((byB false U L 1).2 2) by first | (simp_all [byB, fbW, tkW, nI_0]; done) | (simp_all [byB, fbW, tkW, nI_0]; omega) | (grind [byB, fbW, tkW, nI_0]))) ((hp.1 3 (by decide)).trans (show nI (U 3) = nI ((byB false U L 1).2 3) by first | (simp_all [byB, fbW, tkW, nI_0]; done) | (simp_all [byB, fbW, tkW, nI_0]; omega) | (grind [byB, fbW, tkW, nI_0]))), fun j_ hj => ((zfr_rf : zfr 50 V V) 51 0 j_ (by decide)).trans (hp.2.1 j_ hj), byB_le hp.2.2.1, hp.2.2.2⟩, zfr_rf⟩)
set_option maxRecDepth 100000 in
set_option maxHeartbeats 4000000 in
theorem k_m_borrows_1_1 (l : Launch) (G : owG) {A S Z B T V : owF} {J : Nat → Nat → Int64} {Y : Nat → Nat → Nat → Option Nat} {P : Nat → Option owW} (U L : Nat → Nat) (hp : papM V U L) : Ct l G yX12_borrows cX12_borrows 5 ((some .boolean)) 0 0 0 [.ref (gK G 4 0), .int 1, .int 1] (A, S, Z, B, T, V, J, Y, P) (qI (fun x_ σ => x_ = bI (decide (fbW U 1 ≠ 4)) ∧ ∃ V2 : owF, σ = (A, S, Z, B, T, V2, J, Y, P) ∧ papM V2 (byB true U L 1).2 L ∧ zfr 50 V V2)) := by
  refine ct_of (by decide +kernel) (Nat.le_of_ble_eq_true rfl) ?_
  have hu0 := hp.2.2.1 0 (by decide)
  have hu1 := hp.2.2.1 1 (by decide)
  have hu2 := hp.2.2.1 2 (by decide)
  have hu3 := hp.2.2.1 3 (by decide)
  show Wm l G cX12_borrows 5 RX12 ((some .boolean)) (rmk 0 0 0) (fun _ => True) (QfM G (qI (fun x_ σ => x_ = bI (decide (fbW U 1 ≠ 4)) ∧ ∃ V2 : owF, σ = (A, S, Z, B, T, V2, J, Y, P) ∧ papM V2 (byB true U L 1).2 L ∧ zfr 50 V V2)) 0 0) 0 [(0, .ref (gK G 4 0)), (1, .int 1), (2, .int 1)] [] (A, S, Z, B, T, V, J, Y, P) 0 0
  refine m_iload_n 1 rfl rfl dX12_borrows_0 ?_
  refine m_iconst 1 dX12_borrows_1 rfl ?_
  refine m_iadd dX12_borrows_2 ?_
  refine m_topi (show (1 : Int32) + 1 = 2 by decide) ?_
  refine m_istore_n [(3, .int 2), (0, .ref (gK G 4 0)), (1, .int 1), (2, .int 1)] rfl (by decide) rfl dX12_borrows_3 ?_
  refine m_iload_n 0 rfl rfl dX12_borrows_4 ?_
  refine m_iconst 4 dX12_borrows_5 rfl ?_
  refine m_icmp_ge 24 dX12_borrows_6 (by decide) (fun c1_ => absurd c1_ (by decide)) (fun _ => ?_)
  refine m_aload_n 1 rfl rfl dX12_borrows_9 ?_
  refine gf_X12_40 dX12_borrows_10 ?_
  refine m_iload_n 0 rfl rfl dX12_borrows_13 ?_
  refine al_50 2 rfl (by omega) dX12_borrows_14 ?_
  refine m_topi (hp.1 2 (by decide)) ?_
  refine m_ifn_ne (U 2) 24 (by omega) dX12_borrows_15 (by decide) (fun c2_ => ?_) (fun c2_ => ?_)
  ·
    refine m_iload_n 0 rfl rfl dX12_borrows_24 ?_
    refine m_iconst 4 dX12_borrows_25 rfl ?_
    refine m_icmp_ne 31 dX12_borrows_26 (by decide) (fun _ => ?_) (fun c3_ => absurd c3_ (by decide))
    refine m_aload_n 1 rfl rfl dX12_borrows_31 ?_
    refine gf_X12_40 dX12_borrows_32 ?_
    refine m_iload_n 0 rfl rfl dX12_borrows_35 ?_
    refine m_dup2 rfl rfl dX12_borrows_36 ?_
    refine al_50 2 rfl (by omega) dX12_borrows_37 ?_
    refine m_topi (hp.1 2 (by decide)) ?_
    refine m_iconst 1 dX12_borrows_38 rfl ?_
    refine m_isub dX12_borrows_39 ?_
    refine m_topi ((show (nI (U 2)) - 1 = nI ((U 2) - 1) from pk_sub (b := 1) (by omega))) ?_
    refine as_50 2 rfl (by omega) dX12_borrows_40 (fun V4 hV4 => ?_)
    refine m_iload_n 2 rfl rfl dX12_borrows_41 ?_
    refine m_iconst 1 dX12_borrows_42 rfl ?_
    refine m_iadd dX12_borrows_43 ?_
    refine m_topi (show (1 : Int32) + 1 = 2 by decide) ?_
    refine m_istore [(4, .int 2), (3, .int 2), (0, .ref (gK G 4 0)), (1, .int 1), (2, .int 1)] (by decide) rfl dX12_borrows_44 ?_
    refine m_iload 0 rfl dX12_borrows_46 ?_
    refine m_iload_n 1 rfl rfl dX12_borrows_48 ?_
    refine m_icmp_ge 71 dX12_borrows_49 (by decide) (fun _ => ?_) (fun c5_ => absurd c5_ (by decide))
    refine m_iconst 1 dX12_borrows_71 rfl ?_
    exact m_zret dX12_borrows_72 (Nat.le_refl _) (Nat.le_refl _) nar1 (⟨(show 1 = bI (decide (fbW U 1 ≠ 4)) by first | (simp_all [fbW, bI]; done) | (grind [fbW, bI])), V4, rfl, ⟨lt4 (p := fun j_ => V4 50 0 j_ = nI ((byB true U L 1).2 j_)) ((up3_j hV4 (by decide) (hp.1 0 (by decide))).trans (show nI (U 0) = nI ((byB true U L 1).2 0) by first | (simp_all [byB, fbW, tkW, nI_0]; done) | (simp_all [byB, fbW, tkW, nI_0]; omega) | (grind [byB, fbW, tkW, nI_0]))) ((up3_j hV4 (by decide) (hp.1 1 (by decide))).trans (show nI (U 1) = nI ((byB true U L 1).2 1) by first | (simp_all [byB, fbW, tkW, nI_0]; done) | (simp_all [byB, fbW, tkW, nI_0]; omega) | (grind [byB, fbW, tkW, nI_0]))) ((up3_e hV4).trans (show nI ((U 2) - 1) = nI ((byB true U L 1).2 2) by first | (simp_all [byB, fbW, tkW, nI_0]; done) | (simp_all [byB, fbW, tkW, nI_0]; omega) | (grind [byB, fbW, tkW, nI_0]))) ((up3_j hV4 (by decide) (hp.1 3 (by decide))).trans (show nI (U 3) = nI ((byB true U L 1).2 3) by first | (simp_all [byB, fbW, tkW, nI_0]; done) | (simp_all [byB, fbW, tkW, nI_0]; omega) | (grind [byB, fbW, tkW, nI_0]))), fun j_ hj => (((zfr_up zfr_rf hV4) : zfr 50 V V4) 51 0 j_ (by decide)).trans (hp.2.1 j_ hj), byB_le hp.2.2.1, hp.2.2.2⟩, (zfr_up zfr_rf hV4)⟩)
  ·
    refine m_iinc (3) 0 [(3, .int 3), (0, .ref (gK G 4 0)), (1, .int 1), (2, .int 1)] rfl rfl (by decide) rfl dX12_borrows_18 ?_
    refine m_goto 4 dX12_borrows_21 (by decide) ?_
    refine m_iload_n 0 rfl rfl dX12_borrows_4 ?_
    refine m_iconst 4 dX12_borrows_5 rfl ?_
    refine m_icmp_ge 24 dX12_borrows_6 (by decide) (fun c6_ => absurd c6_ (by decide)) (fun _ => ?_)
    refine m_aload_n 1 rfl rfl dX12_borrows_9 ?_
    refine gf_X12_40 dX12_borrows_10 ?_
    refine m_iload_n 0 rfl rfl dX12_borrows_13 ?_
    refine al_50 3 rfl (by omega) dX12_borrows_14 ?_
    refine m_topi (hp.1 3 (by decide)) ?_
    refine m_ifn_ne (U 3) 24 (by omega) dX12_borrows_15 (by decide) (fun c7_ => ?_) (fun c7_ => ?_)
    ·
      refine m_iload_n 0 rfl rfl dX12_borrows_24 ?_
      refine m_iconst 4 dX12_borrows_25 rfl ?_
      refine m_icmp_ne 31 dX12_borrows_26 (by decide) (fun _ => ?_) (fun c8_ => absurd c8_ (by decide))
      refine m_aload_n 1 rfl rfl dX12_borrows_31 ?_
      refine gf_X12_40 dX12_borrows_32 ?_
      refine m_iload_n 0 rfl rfl dX12_borrows_35 ?_
      refine m_dup2 rfl rfl dX12_borrows_36 ?_
      refine al_50 3 rfl (by omega) dX12_borrows_37 ?_
      refine m_topi (hp.1 3 (by decide)) ?_
      refine m_iconst 1 dX12_borrows_38 rfl ?_
      refine m_isub dX12_borrows_39 ?_
      refine m_topi ((show (nI (U 3)) - 1 = nI ((U 3) - 1) from pk_sub (b := 1) (by omega))) ?_
      refine as_50 3 rfl (by omega) dX12_borrows_40 (fun V9 hV9 => ?_)
      refine m_iload_n 2 rfl rfl dX12_borrows_41 ?_
      refine m_iconst 1 dX12_borrows_42 rfl ?_
      refine m_iadd dX12_borrows_43 ?_
      refine m_topi (show (1 : Int32) + 1 = 2 by decide) ?_
      refine m_istore [(4, .int 2), (3, .int 3), (0, .ref (gK G 4 0)), (1, .int 1), (2, .int 1)] (by decide) rfl dX12_borrows_44 ?_
      refine m_iload 0 rfl dX12_borrows_46 ?_
      refine m_iload_n 1 rfl rfl dX12_borrows_48 ?_
      refine m_icmp_ge 71 dX12_borrows_49 (by decide) (fun c10_ => absurd c10_ (by decide)) (fun _ => ?_)
      refine m_iload_n 4 rfl rfl dX12_borrows_52 ?_
      refine m_if_eq 71 dX12_borrows_53 (by decide) (fun c11_ => absurd c11_ (by decide)) (fun _ => ?_)
      refine m_aload_n 2 rfl rfl dX12_borrows_56 ?_
      refine gf_X12_40 dX12_borrows_57 ?_
      refine m_iload 0 rfl dX12_borrows_60 ?_
      refine m_bipush (9) dX12_borrows_62 rfl ?_
      refine as_50 2 rfl (by omega) dX12_borrows_64 (fun V12 hV12 => ?_)
      refine m_iinc (3) 0 [(4, .int 3), (3, .int 3), (0, .ref (gK G 4 0)), (1, .int 1), (2, .int 1)] rfl rfl (by decide) rfl dX12_borrows_65 ?_
      refine m_goto 46 dX12_borrows_68 (by decide) ?_
      refine m_iload 0 rfl dX12_borrows_46 ?_
      refine m_iload_n 1 rfl rfl dX12_borrows_48 ?_
      refine m_icmp_ge 71 dX12_borrows_49 (by decide) (fun _ => ?_) (fun c13_ => absurd c13_ (by decide))
      refine m_iconst 1 dX12_borrows_71 rfl ?_
      exact m_zret dX12_borrows_72 (Nat.le_refl _) (Nat.le_refl _) nar1 (⟨(show 1 = bI (decide (fbW U 1 ≠ 4)) by first | (simp_all [fbW, bI]; done) | (grind [fbW, bI])), V12, rfl, ⟨lt4 (p := fun j_ => V12 50 0 j_ = nI ((byB true U L 1).2 j_)) ((up3_j hV12 (by decide) (up3_j hV9 (by decide) (hp.1 0 (by decide)))).trans (show nI (U 0) = nI ((byB true U L 1).2 0) by first | (simp_all [byB, fbW, tkW, nI_0]; done) | (simp_all [byB, fbW, tkW, nI_0]; omega) | (grind [byB, fbW, tkW, nI_0]))) ((up3_j hV12 (by decide) (up3_j hV9 (by decide) (hp.1 1 (by decide)))).trans (show nI (U 1) = nI ((byB true U L 1).2 1) by first | (simp_all [byB, fbW, tkW, nI_0]; done) | (simp_all [byB, fbW, tkW, nI_0]; omega) | (grind [byB, fbW, tkW, nI_0]))) ((up3_e hV12).trans (show nI 9 = nI ((byB true U L 1).2 2) by first | (simp_all [byB, fbW, tkW, nI_0]; done) | (simp_all [byB, fbW, tkW, nI_0]; omega) | (grind [byB, fbW, tkW, nI_0]))) ((up3_j hV12 (by decide) (up3_e hV9)).trans (show nI ((U 3) - 1) = nI ((byB true U L 1).2 3) by first | (simp_all [byB, fbW, tkW, nI_0]; done) | (simp_all [byB, fbW, tkW, nI_0]; omega) | (grind [byB, fbW, tkW, nI_0]))), fun j_ hj => (((zfr_up (zfr_up zfr_rf hV9) hV12) : zfr 50 V V12) 51 0 j_ (by decide)).trans (hp.2.1 j_ hj), byB_le hp.2.2.1, hp.2.2.2⟩, (zfr_up (zfr_up zfr_rf hV9) hV12)⟩)
    ·
      refine m_iinc (4) 0 [(3, .int 4), (0, .ref (gK G 4 0)), (1, .int 1), (2, .int 1)] rfl rfl (by decide) rfl dX12_borrows_18 ?_
      refine m_goto 4 dX12_borrows_21 (by decide) ?_
      refine m_iload_n 0 rfl rfl dX12_borrows_4 ?_
      refine m_iconst 4 dX12_borrows_5 rfl ?_
      refine m_icmp_ge 24 dX12_borrows_6 (by decide) (fun _ => ?_) (fun c14_ => absurd c14_ (by decide))
      refine m_iload_n 0 rfl rfl dX12_borrows_24 ?_
      refine m_iconst 4 dX12_borrows_25 rfl ?_
      refine m_icmp_ne 31 dX12_borrows_26 (by decide) (fun c15_ => absurd c15_ (by decide)) (fun _ => ?_)
      refine m_iconst 0 dX12_borrows_29 rfl ?_
      exact m_zret dX12_borrows_30 (Nat.le_refl _) (Nat.le_refl _) nar0 (⟨(show 0 = bI (decide (fbW U 1 ≠ 4)) by first | (simp_all [fbW, bI]; done) | (grind [fbW, bI])), V, rfl, ⟨lt4 (p := fun j_ => V 50 0 j_ = nI ((byB true U L 1).2 j_)) ((hp.1 0 (by decide)).trans (show nI (U 0) = nI ((byB true U L 1).2 0) by first | (simp_all [byB, fbW, tkW, nI_0]; done) | (simp_all [byB, fbW, tkW, nI_0]; omega) | (grind [byB, fbW, tkW, nI_0]))) ((hp.1 1 (by decide)).trans (show nI (U 1) = nI ((byB true U L 1).2 1) by first | (simp_all [byB, fbW, tkW, nI_0]; done) | (simp_all [byB, fbW, tkW, nI_0]; omega) | (grind [byB, fbW, tkW, nI_0]))) ((hp.1 2 (by decide)).trans (show nI (U 2) = nI ((byB true U L 1).2 2) by first | (simp_all [byB, fbW, tkW, nI_0]; done) | (simp_all [byB, fbW, tkW, nI_0]; omega) | (grind [byB, fbW, tkW, nI_0]))) ((hp.1 3 (by decide)).trans (show nI (U 3) = nI ((byB true U L 1).2 3) by first | (simp_all [byB, fbW, tkW, nI_0]; done) | (simp_all [byB, fbW, tkW, nI_0]; omega) | (grind [byB, fbW, tkW, nI_0]))), fun j_ hj => ((zfr_rf : zfr 50 V V) 51 0 j_ (by decide)).trans (hp.2.1 j_ hj), byB_le hp.2.2.1, hp.2.2.2⟩, zfr_rf⟩)
set_option maxRecDepth 100000 in
set_option maxHeartbeats 4000000 in
theorem k_m_borrows_2_0 (l : Launch) (G : owG) {A S Z B T V : owF} {J : Nat → Nat → Int64} {Y : Nat → Nat → Nat → Option Nat} {P : Nat → Option owW} (U L : Nat → Nat) (hp : papM V U L) : Ct l G yX12_borrows cX12_borrows 5 ((some .boolean)) 0 0 0 [.ref (gK G 4 0), .int 2, .int 0] (A, S, Z, B, T, V, J, Y, P) (qI (fun x_ σ => x_ = bI (decide (fbW U 2 ≠ 4)) ∧ ∃ V2 : owF, σ = (A, S, Z, B, T, V2, J, Y, P) ∧ papM V2 (byB false U L 2).2 L ∧ zfr 50 V V2)) := by
  refine ct_of (by decide +kernel) (Nat.le_of_ble_eq_true rfl) ?_
  have hu0 := hp.2.2.1 0 (by decide)
  have hu1 := hp.2.2.1 1 (by decide)
  have hu2 := hp.2.2.1 2 (by decide)
  have hu3 := hp.2.2.1 3 (by decide)
  show Wm l G cX12_borrows 5 RX12 ((some .boolean)) (rmk 0 0 0) (fun _ => True) (QfM G (qI (fun x_ σ => x_ = bI (decide (fbW U 2 ≠ 4)) ∧ ∃ V2 : owF, σ = (A, S, Z, B, T, V2, J, Y, P) ∧ papM V2 (byB false U L 2).2 L ∧ zfr 50 V V2)) 0 0) 0 [(0, .ref (gK G 4 0)), (1, .int 2), (2, .int 0)] [] (A, S, Z, B, T, V, J, Y, P) 0 0
  refine m_iload_n 1 rfl rfl dX12_borrows_0 ?_
  refine m_iconst 1 dX12_borrows_1 rfl ?_
  refine m_iadd dX12_borrows_2 ?_
  refine m_topi (show (2 : Int32) + 1 = 3 by decide) ?_
  refine m_istore_n [(3, .int 3), (0, .ref (gK G 4 0)), (1, .int 2), (2, .int 0)] rfl (by decide) rfl dX12_borrows_3 ?_
  refine m_iload_n 0 rfl rfl dX12_borrows_4 ?_
  refine m_iconst 4 dX12_borrows_5 rfl ?_
  refine m_icmp_ge 24 dX12_borrows_6 (by decide) (fun c1_ => absurd c1_ (by decide)) (fun _ => ?_)
  refine m_aload_n 1 rfl rfl dX12_borrows_9 ?_
  refine gf_X12_40 dX12_borrows_10 ?_
  refine m_iload_n 0 rfl rfl dX12_borrows_13 ?_
  refine al_50 3 rfl (by omega) dX12_borrows_14 ?_
  refine m_topi (hp.1 3 (by decide)) ?_
  refine m_ifn_ne (U 3) 24 (by omega) dX12_borrows_15 (by decide) (fun c2_ => ?_) (fun c2_ => ?_)
  ·
    refine m_iload_n 0 rfl rfl dX12_borrows_24 ?_
    refine m_iconst 4 dX12_borrows_25 rfl ?_
    refine m_icmp_ne 31 dX12_borrows_26 (by decide) (fun _ => ?_) (fun c3_ => absurd c3_ (by decide))
    refine m_aload_n 1 rfl rfl dX12_borrows_31 ?_
    refine gf_X12_40 dX12_borrows_32 ?_
    refine m_iload_n 0 rfl rfl dX12_borrows_35 ?_
    refine m_dup2 rfl rfl dX12_borrows_36 ?_
    refine al_50 3 rfl (by omega) dX12_borrows_37 ?_
    refine m_topi (hp.1 3 (by decide)) ?_
    refine m_iconst 1 dX12_borrows_38 rfl ?_
    refine m_isub dX12_borrows_39 ?_
    refine m_topi ((show (nI (U 3)) - 1 = nI ((U 3) - 1) from pk_sub (b := 1) (by omega))) ?_
    refine as_50 3 rfl (by omega) dX12_borrows_40 (fun V4 hV4 => ?_)
    refine m_iload_n 2 rfl rfl dX12_borrows_41 ?_
    refine m_iconst 1 dX12_borrows_42 rfl ?_
    refine m_iadd dX12_borrows_43 ?_
    refine m_topi (show (2 : Int32) + 1 = 3 by decide) ?_
    refine m_istore [(4, .int 3), (3, .int 3), (0, .ref (gK G 4 0)), (1, .int 2), (2, .int 0)] (by decide) rfl dX12_borrows_44 ?_
    refine m_iload 0 rfl dX12_borrows_46 ?_
    refine m_iload_n 1 rfl rfl dX12_borrows_48 ?_
    refine m_icmp_ge 71 dX12_borrows_49 (by decide) (fun _ => ?_) (fun c5_ => absurd c5_ (by decide))
    refine m_iconst 1 dX12_borrows_71 rfl ?_
    exact m_zret dX12_borrows_72 (Nat.le_refl _) (Nat.le_refl _) nar1 (⟨(show 1 = bI (decide (fbW U 2 ≠ 4)) by first | (simp_all [fbW, bI]; done) | (grind [fbW, bI])), V4, rfl, ⟨lt4 (p := fun j_ => V4 50 0 j_ = nI ((byB false U L 2).2 j_)) ((up3_j hV4 (by decide) (hp.1 0 (by decide))).trans (show nI (U 0) = nI ((byB false U L 2).2 0) by first | (simp_all [byB, fbW, tkW, nI_0]; done) | (simp_all [byB, fbW, tkW, nI_0]; omega) | (grind [byB, fbW, tkW, nI_0]))) ((up3_j hV4 (by decide) (hp.1 1 (by decide))).trans (show nI (U 1) = nI ((byB false U L 2).2 1) by first | (simp_all [byB, fbW, tkW, nI_0]; done) | (simp_all [byB, fbW, tkW, nI_0]; omega) | (grind [byB, fbW, tkW, nI_0]))) ((up3_j hV4 (by decide) (hp.1 2 (by decide))).trans (show nI (U 2) = nI ((byB false U L 2).2 2) by first | (simp_all [byB, fbW, tkW, nI_0]; done) | (simp_all [byB, fbW, tkW, nI_0]; omega) | (grind [byB, fbW, tkW, nI_0]))) ((up3_e hV4).trans (show nI ((U 3) - 1) = nI ((byB false U L 2).2 3) by first | (simp_all [byB, fbW, tkW, nI_0]; done) | (simp_all [byB, fbW, tkW, nI_0]; omega) | (grind [byB, fbW, tkW, nI_0]))), fun j_ hj => (((zfr_up zfr_rf hV4) : zfr 50 V V4) 51 0 j_ (by decide)).trans (hp.2.1 j_ hj), byB_le hp.2.2.1, hp.2.2.2⟩, (zfr_up zfr_rf hV4)⟩)
  ·
    refine m_iinc (4) 0 [(3, .int 4), (0, .ref (gK G 4 0)), (1, .int 2), (2, .int 0)] rfl rfl (by decide) rfl dX12_borrows_18 ?_
    refine m_goto 4 dX12_borrows_21 (by decide) ?_
    refine m_iload_n 0 rfl rfl dX12_borrows_4 ?_
    refine m_iconst 4 dX12_borrows_5 rfl ?_
    refine m_icmp_ge 24 dX12_borrows_6 (by decide) (fun _ => ?_) (fun c6_ => absurd c6_ (by decide))
    refine m_iload_n 0 rfl rfl dX12_borrows_24 ?_
    refine m_iconst 4 dX12_borrows_25 rfl ?_
    refine m_icmp_ne 31 dX12_borrows_26 (by decide) (fun c7_ => absurd c7_ (by decide)) (fun _ => ?_)
    refine m_iconst 0 dX12_borrows_29 rfl ?_
    exact m_zret dX12_borrows_30 (Nat.le_refl _) (Nat.le_refl _) nar0 (⟨(show 0 = bI (decide (fbW U 2 ≠ 4)) by first | (simp_all [fbW, bI]; done) | (grind [fbW, bI])), V, rfl, ⟨lt4 (p := fun j_ => V 50 0 j_ = nI ((byB false U L 2).2 j_)) ((hp.1 0 (by decide)).trans (show nI (U 0) = nI ((byB false U L 2).2 0) by first | (simp_all [byB, fbW, tkW, nI_0]; done) | (simp_all [byB, fbW, tkW, nI_0]; omega) | (grind [byB, fbW, tkW, nI_0]))) ((hp.1 1 (by decide)).trans (show nI (U 1) = nI ((byB false U L 2).2 1) by first | (simp_all [byB, fbW, tkW, nI_0]; done) | (simp_all [byB, fbW, tkW, nI_0]; omega) | (grind [byB, fbW, tkW, nI_0]))) ((hp.1 2 (by decide)).trans (show nI (U 2) = nI ((byB false U L 2).2 2) by first | (simp_all [byB, fbW, tkW, nI_0]; done) | (simp_all [byB, fbW, tkW, nI_0]; omega) | (grind [byB, fbW, tkW, nI_0]))) ((hp.1 3 (by decide)).trans (show nI (U 3) = nI ((byB false U L 2).2 3) by first | (simp_all [byB, fbW, tkW, nI_0]; done) | (simp_all [byB, fbW, tkW, nI_0]; omega) | (grind [byB, fbW, tkW, nI_0]))), fun j_ hj => ((zfr_rf : zfr 50 V V) 51 0 j_ (by decide)).trans (hp.2.1 j_ hj), byB_le hp.2.2.1, hp.2.2.2⟩, zfr_rf⟩)
set_option maxRecDepth 100000 in
set_option maxHeartbeats 4000000 in
theorem k_m_borrows_2_1 (l : Launch) (G : owG) {A S Z B T V : owF} {J : Nat → Nat → Int64} {Y : Nat → Nat → Nat → Option Nat} {P : Nat → Option owW} (U L : Nat → Nat) (hp : papM V U L) : Ct l G yX12_borrows cX12_borrows 5 ((some .boolean)) 0 0 0 [.ref (gK G 4 0), .int 2, .int 1] (A, S, Z, B, T, V, J, Y, P) (qI (fun x_ σ => x_ = bI (decide (fbW U 2 ≠ 4)) ∧ ∃ V2 : owF, σ = (A, S, Z, B, T, V2, J, Y, P) ∧ papM V2 (byB true U L 2).2 L ∧ zfr 50 V V2)) := by
  refine ct_of (by decide +kernel) (Nat.le_of_ble_eq_true rfl) ?_
  have hu0 := hp.2.2.1 0 (by decide)
  have hu1 := hp.2.2.1 1 (by decide)
  have hu2 := hp.2.2.1 2 (by decide)
  have hu3 := hp.2.2.1 3 (by decide)
  show Wm l G cX12_borrows 5 RX12 ((some .boolean)) (rmk 0 0 0) (fun _ => True) (QfM G (qI (fun x_ σ => x_ = bI (decide (fbW U 2 ≠ 4)) ∧ ∃ V2 : owF, σ = (A, S, Z, B, T, V2, J, Y, P) ∧ papM V2 (byB true U L 2).2 L ∧ zfr 50 V V2)) 0 0) 0 [(0, .ref (gK G 4 0)), (1, .int 2), (2, .int 1)] [] (A, S, Z, B, T, V, J, Y, P) 0 0
  refine m_iload_n 1 rfl rfl dX12_borrows_0 ?_
  refine m_iconst 1 dX12_borrows_1 rfl ?_
  refine m_iadd dX12_borrows_2 ?_
  refine m_topi (show (2 : Int32) + 1 = 3 by decide) ?_
  refine m_istore_n [(3, .int 3), (0, .ref (gK G 4 0)), (1, .int 2), (2, .int 1)] rfl (by decide) rfl dX12_borrows_3 ?_
  refine m_iload_n 0 rfl rfl dX12_borrows_4 ?_
  refine m_iconst 4 dX12_borrows_5 rfl ?_
  refine m_icmp_ge 24 dX12_borrows_6 (by decide) (fun c1_ => absurd c1_ (by decide)) (fun _ => ?_)
  refine m_aload_n 1 rfl rfl dX12_borrows_9 ?_
  refine gf_X12_40 dX12_borrows_10 ?_
  refine m_iload_n 0 rfl rfl dX12_borrows_13 ?_
  refine al_50 3 rfl (by omega) dX12_borrows_14 ?_
  refine m_topi (hp.1 3 (by decide)) ?_
  refine m_ifn_ne (U 3) 24 (by omega) dX12_borrows_15 (by decide) (fun c2_ => ?_) (fun c2_ => ?_)
  ·
    refine m_iload_n 0 rfl rfl dX12_borrows_24 ?_
    refine m_iconst 4 dX12_borrows_25 rfl ?_
    refine m_icmp_ne 31 dX12_borrows_26 (by decide) (fun _ => ?_) (fun c3_ => absurd c3_ (by decide))
    refine m_aload_n 1 rfl rfl dX12_borrows_31 ?_
    refine gf_X12_40 dX12_borrows_32 ?_
    refine m_iload_n 0 rfl rfl dX12_borrows_35 ?_
    refine m_dup2 rfl rfl dX12_borrows_36 ?_
    refine al_50 3 rfl (by omega) dX12_borrows_37 ?_
    refine m_topi (hp.1 3 (by decide)) ?_
    refine m_iconst 1 dX12_borrows_38 rfl ?_
    refine m_isub dX12_borrows_39 ?_
    refine m_topi ((show (nI (U 3)) - 1 = nI ((U 3) - 1) from pk_sub (b := 1) (by omega))) ?_
    refine as_50 3 rfl (by omega) dX12_borrows_40 (fun V4 hV4 => ?_)
    refine m_iload_n 2 rfl rfl dX12_borrows_41 ?_
    refine m_iconst 1 dX12_borrows_42 rfl ?_
    refine m_iadd dX12_borrows_43 ?_
    refine m_topi (show (2 : Int32) + 1 = 3 by decide) ?_
    refine m_istore [(4, .int 3), (3, .int 3), (0, .ref (gK G 4 0)), (1, .int 2), (2, .int 1)] (by decide) rfl dX12_borrows_44 ?_
    refine m_iload 0 rfl dX12_borrows_46 ?_
    refine m_iload_n 1 rfl rfl dX12_borrows_48 ?_
    refine m_icmp_ge 71 dX12_borrows_49 (by decide) (fun _ => ?_) (fun c5_ => absurd c5_ (by decide))
    refine m_iconst 1 dX12_borrows_71 rfl ?_
    exact m_zret dX12_borrows_72 (Nat.le_refl _) (Nat.le_refl _) nar1 (⟨(show 1 = bI (decide (fbW U 2 ≠ 4)) by first | (simp_all [fbW, bI]; done) | (grind [fbW, bI])), V4, rfl, ⟨lt4 (p := fun j_ => V4 50 0 j_ = nI ((byB true U L 2).2 j_)) ((up3_j hV4 (by decide) (hp.1 0 (by decide))).trans (show nI (U 0) = nI ((byB true U L 2).2 0) by first | (simp_all [byB, fbW, tkW, nI_0]; done) | (simp_all [byB, fbW, tkW, nI_0]; omega) | (grind [byB, fbW, tkW, nI_0]))) ((up3_j hV4 (by decide) (hp.1 1 (by decide))).trans (show nI (U 1) = nI ((byB true U L 2).2 1) by first | (simp_all [byB, fbW, tkW, nI_0]; done) | (simp_all [byB, fbW, tkW, nI_0]; omega) | (grind [byB, fbW, tkW, nI_0]))) ((up3_j hV4 (by decide) (hp.1 2 (by decide))).trans (show nI (U 2) = nI ((byB true U L 2).2 2) by first | (simp_all [byB, fbW, tkW, nI_0]; done) | (simp_all [byB, fbW, tkW, nI_0]; omega) | (grind [byB, fbW, tkW, nI_0]))) ((up3_e hV4).trans (show nI ((U 3) - 1) = nI ((byB true U L 2).2 3) by first | (simp_all [byB, fbW, tkW, nI_0]; done) | (simp_all [byB, fbW, tkW, nI_0]; omega) | (grind [byB, fbW, tkW, nI_0]))), fun j_ hj => (((zfr_up zfr_rf hV4) : zfr 50 V V4) 51 0 j_ (by decide)).trans (hp.2.1 j_ hj), byB_le hp.2.2.1, hp.2.2.2⟩, (zfr_up zfr_rf hV4)⟩)
  ·
    refine m_iinc (4) 0 [(3, .int 4), (0, .ref (gK G 4 0)), (1, .int 2), (2, .int 1)] rfl rfl (by decide) rfl dX12_borrows_18 ?_
    refine m_goto 4 dX12_borrows_21 (by decide) ?_
    refine m_iload_n 0 rfl rfl dX12_borrows_4 ?_
    refine m_iconst 4 dX12_borrows_5 rfl ?_
    refine m_icmp_ge 24 dX12_borrows_6 (by decide) (fun _ => ?_) (fun c6_ => absurd c6_ (by decide))
    refine m_iload_n 0 rfl rfl dX12_borrows_24 ?_
    refine m_iconst 4 dX12_borrows_25 rfl ?_
    refine m_icmp_ne 31 dX12_borrows_26 (by decide) (fun c7_ => absurd c7_ (by decide)) (fun _ => ?_)
    refine m_iconst 0 dX12_borrows_29 rfl ?_
    exact m_zret dX12_borrows_30 (Nat.le_refl _) (Nat.le_refl _) nar0 (⟨(show 0 = bI (decide (fbW U 2 ≠ 4)) by first | (simp_all [fbW, bI]; done) | (grind [fbW, bI])), V, rfl, ⟨lt4 (p := fun j_ => V 50 0 j_ = nI ((byB true U L 2).2 j_)) ((hp.1 0 (by decide)).trans (show nI (U 0) = nI ((byB true U L 2).2 0) by first | (simp_all [byB, fbW, tkW, nI_0]; done) | (simp_all [byB, fbW, tkW, nI_0]; omega) | (grind [byB, fbW, tkW, nI_0]))) ((hp.1 1 (by decide)).trans (show nI (U 1) = nI ((byB true U L 2).2 1) by first | (simp_all [byB, fbW, tkW, nI_0]; done) | (simp_all [byB, fbW, tkW, nI_0]; omega) | (grind [byB, fbW, tkW, nI_0]))) ((hp.1 2 (by decide)).trans (show nI (U 2) = nI ((byB true U L 2).2 2) by first | (simp_all [byB, fbW, tkW, nI_0]; done) | (simp_all [byB, fbW, tkW, nI_0]; omega) | (grind [byB, fbW, tkW, nI_0]))) ((hp.1 3 (by decide)).trans (show nI (U 3) = nI ((byB true U L 2).2 3) by first | (simp_all [byB, fbW, tkW, nI_0]; done) | (simp_all [byB, fbW, tkW, nI_0]; omega) | (grind [byB, fbW, tkW, nI_0]))), fun j_ hj => ((zfr_rf : zfr 50 V V) 51 0 j_ (by decide)).trans (hp.2.1 j_ hj), byB_le hp.2.2.1, hp.2.2.2⟩, zfr_rf⟩)
set_option maxRecDepth 100000 in
set_option maxHeartbeats 4000000 in
theorem k_m_borrows_3_0 (l : Launch) (G : owG) {A S Z B T V : owF} {J : Nat → Nat → Int64} {Y : Nat → Nat → Nat → Option Nat} {P : Nat → Option owW} (U L : Nat → Nat) (hp : papM V U L) : Ct l G yX12_borrows cX12_borrows 5 ((some .boolean)) 0 0 0 [.ref (gK G 4 0), .int 3, .int 0] (A, S, Z, B, T, V, J, Y, P) (qI (fun x_ σ => x_ = bI (decide (fbW U 3 ≠ 4)) ∧ ∃ V2 : owF, σ = (A, S, Z, B, T, V2, J, Y, P) ∧ papM V2 (byB false U L 3).2 L ∧ zfr 50 V V2)) := by
  refine ct_of (by decide +kernel) (Nat.le_of_ble_eq_true rfl) ?_
  have hu0 := hp.2.2.1 0 (by decide)
  have hu1 := hp.2.2.1 1 (by decide)
  have hu2 := hp.2.2.1 2 (by decide)
  have hu3 := hp.2.2.1 3 (by decide)
  show Wm l G cX12_borrows 5 RX12 ((some .boolean)) (rmk 0 0 0) (fun _ => True) (QfM G (qI (fun x_ σ => x_ = bI (decide (fbW U 3 ≠ 4)) ∧ ∃ V2 : owF, σ = (A, S, Z, B, T, V2, J, Y, P) ∧ papM V2 (byB false U L 3).2 L ∧ zfr 50 V V2)) 0 0) 0 [(0, .ref (gK G 4 0)), (1, .int 3), (2, .int 0)] [] (A, S, Z, B, T, V, J, Y, P) 0 0
  refine m_iload_n 1 rfl rfl dX12_borrows_0 ?_
  refine m_iconst 1 dX12_borrows_1 rfl ?_
  refine m_iadd dX12_borrows_2 ?_
  refine m_topi (show (3 : Int32) + 1 = 4 by decide) ?_
  refine m_istore_n [(3, .int 4), (0, .ref (gK G 4 0)), (1, .int 3), (2, .int 0)] rfl (by decide) rfl dX12_borrows_3 ?_
  refine m_iload_n 0 rfl rfl dX12_borrows_4 ?_
  refine m_iconst 4 dX12_borrows_5 rfl ?_
  refine m_icmp_ge 24 dX12_borrows_6 (by decide) (fun _ => ?_) (fun c1_ => absurd c1_ (by decide))
  refine m_iload_n 0 rfl rfl dX12_borrows_24 ?_
  refine m_iconst 4 dX12_borrows_25 rfl ?_
  refine m_icmp_ne 31 dX12_borrows_26 (by decide) (fun c2_ => absurd c2_ (by decide)) (fun _ => ?_)
  refine m_iconst 0 dX12_borrows_29 rfl ?_
  exact m_zret dX12_borrows_30 (Nat.le_refl _) (Nat.le_refl _) nar0 (⟨(show 0 = bI (decide (fbW U 3 ≠ 4)) by first | (simp_all [fbW, bI]; done) | (grind [fbW, bI])), V, rfl, ⟨lt4 (p := fun j_ => V 50 0 j_ = nI ((byB false U L 3).2 j_)) ((hp.1 0 (by decide)).trans (show nI (U 0) = nI ((byB false U L 3).2 0) by first | (simp_all [byB, fbW, tkW, nI_0]; done) | (simp_all [byB, fbW, tkW, nI_0]; omega) | (grind [byB, fbW, tkW, nI_0]))) ((hp.1 1 (by decide)).trans (show nI (U 1) = nI ((byB false U L 3).2 1) by first | (simp_all [byB, fbW, tkW, nI_0]; done) | (simp_all [byB, fbW, tkW, nI_0]; omega) | (grind [byB, fbW, tkW, nI_0]))) ((hp.1 2 (by decide)).trans (show nI (U 2) = nI ((byB false U L 3).2 2) by first | (simp_all [byB, fbW, tkW, nI_0]; done) | (simp_all [byB, fbW, tkW, nI_0]; omega) | (grind [byB, fbW, tkW, nI_0]))) ((hp.1 3 (by decide)).trans (show nI (U 3) = nI ((byB false U L 3).2 3) by first | (simp_all [byB, fbW, tkW, nI_0]; done) | (simp_all [byB, fbW, tkW, nI_0]; omega) | (grind [byB, fbW, tkW, nI_0]))), fun j_ hj => ((zfr_rf : zfr 50 V V) 51 0 j_ (by decide)).trans (hp.2.1 j_ hj), byB_le hp.2.2.1, hp.2.2.2⟩, zfr_rf⟩)
set_option maxRecDepth 100000 in
set_option maxHeartbeats 4000000 in
theorem k_m_borrows_3_1 (l : Launch) (G : owG) {A S Z B T V : owF} {J : Nat → Nat → Int64} {Y : Nat → Nat → Nat → Option Nat} {P : Nat → Option owW} (U L : Nat → Nat) (hp : papM V U L) : Ct l G yX12_borrows cX12_borrows 5 ((some .boolean)) 0 0 0 [.ref (gK G 4 0), .int 3, .int 1] (A, S, Z, B, T, V, J, Y, P) (qI (fun x_ σ => x_ = bI (decide (fbW U 3 ≠ 4)) ∧ ∃ V2 : owF, σ = (A, S, Z, B, T, V2, J, Y, P) ∧ papM V2 (byB true U L 3).2 L ∧ zfr 50 V V2)) := by
  refine ct_of (by decide +kernel) (Nat.le_of_ble_eq_true rfl) ?_
  have hu0 := hp.2.2.1 0 (by decide)
  have hu1 := hp.2.2.1 1 (by decide)
  have hu2 := hp.2.2.1 2 (by decide)
  have hu3 := hp.2.2.1 3 (by decide)
  show Wm l G cX12_borrows 5 RX12 ((some .boolean)) (rmk 0 0 0) (fun _ => True) (QfM G (qI (fun x_ σ => x_ = bI (decide (fbW U 3 ≠ 4)) ∧ ∃ V2 : owF, σ = (A, S, Z, B, T, V2, J, Y, P) ∧ papM V2 (byB true U L 3).2 L ∧ zfr 50 V V2)) 0 0) 0 [(0, .ref (gK G 4 0)), (1, .int 3), (2, .int 1)] [] (A, S, Z, B, T, V, J, Y, P) 0 0
  refine m_iload_n 1 rfl rfl dX12_borrows_0 ?_
  refine m_iconst 1 dX12_borrows_1 rfl ?_
  refine m_iadd dX12_borrows_2 ?_
  refine m_topi (show (3 : Int32) + 1 = 4 by decide) ?_
  refine m_istore_n [(3, .int 4), (0, .ref (gK G 4 0)), (1, .int 3), (2, .int 1)] rfl (by decide) rfl dX12_borrows_3 ?_
  refine m_iload_n 0 rfl rfl dX12_borrows_4 ?_
  refine m_iconst 4 dX12_borrows_5 rfl ?_
  refine m_icmp_ge 24 dX12_borrows_6 (by decide) (fun _ => ?_) (fun c1_ => absurd c1_ (by decide))
  refine m_iload_n 0 rfl rfl dX12_borrows_24 ?_
  refine m_iconst 4 dX12_borrows_25 rfl ?_
  refine m_icmp_ne 31 dX12_borrows_26 (by decide) (fun c2_ => absurd c2_ (by decide)) (fun _ => ?_)
  refine m_iconst 0 dX12_borrows_29 rfl ?_
  exact m_zret dX12_borrows_30 (Nat.le_refl _) (Nat.le_refl _) nar0 (⟨(show 0 = bI (decide (fbW U 3 ≠ 4)) by first | (simp_all [fbW, bI]; done) | (grind [fbW, bI])), V, rfl, ⟨lt4 (p := fun j_ => V 50 0 j_ = nI ((byB true U L 3).2 j_)) ((hp.1 0 (by decide)).trans (show nI (U 0) = nI ((byB true U L 3).2 0) by first | (simp_all [byB, fbW, tkW, nI_0]; done) | (simp_all [byB, fbW, tkW, nI_0]; omega) | (grind [byB, fbW, tkW, nI_0]))) ((hp.1 1 (by decide)).trans (show nI (U 1) = nI ((byB true U L 3).2 1) by first | (simp_all [byB, fbW, tkW, nI_0]; done) | (simp_all [byB, fbW, tkW, nI_0]; omega) | (grind [byB, fbW, tkW, nI_0]))) ((hp.1 2 (by decide)).trans (show nI (U 2) = nI ((byB true U L 3).2 2) by first | (simp_all [byB, fbW, tkW, nI_0]; done) | (simp_all [byB, fbW, tkW, nI_0]; omega) | (grind [byB, fbW, tkW, nI_0]))) ((hp.1 3 (by decide)).trans (show nI (U 3) = nI ((byB true U L 3).2 3) by first | (simp_all [byB, fbW, tkW, nI_0]; done) | (simp_all [byB, fbW, tkW, nI_0]; omega) | (grind [byB, fbW, tkW, nI_0]))), fun j_ hj => ((zfr_rf : zfr 50 V V) 51 0 j_ (by decide)).trans (hp.2.1 j_ hj), byB_le hp.2.2.1, hp.2.2.2⟩, zfr_rf⟩)
theorem k_m_borrows (l : Launch) (G : owG) {A S Z B T V : owF} {J : Nat → Nat → Int64} {Y : Nat → Nat → Nat → Option Nat} {P : Nat → Option owW} (c_ : Nat) (hc_ : c_ < 4) (nb : Bool) (U L : Nat → Nat) (hp : papM V U L) : Ct l G yX12_borrows cX12_borrows 5 (some .boolean) 0 0 0 [.ref (gK G 4 0), .int (nI c_), .int (bI nb)] (A, S, Z, B, T, V, J, Y, P) (qI (fun x_ σ => x_ = bI (decide (fbW U c_ ≠ 4)) ∧ ∃ V2 : owF, σ = (A, S, Z, B, T, V2, J, Y, P) ∧ papM V2 (byB nb U L c_).2 L ∧ zfr 50 V V2)) := by
  match c_, nb, hc_ with
  | 0, false, _ => exact k_m_borrows_0_0 l G U L hp
  | 0, true, _ => exact k_m_borrows_0_1 l G U L hp
  | 1, false, _ => exact k_m_borrows_1_0 l G U L hp
  | 1, true, _ => exact k_m_borrows_1_1 l G U L hp
  | 2, false, _ => exact k_m_borrows_2_0 l G U L hp
  | 2, true, _ => exact k_m_borrows_2_1 l G U L hp
  | 3, false, _ => exact k_m_borrows_3_0 l G U L hp
  | 3, true, _ => exact k_m_borrows_3_1 l G U L hp
set_option maxRecDepth 100000 in
set_option maxHeartbeats 4000000 in
theorem k_m_byBorrowing (l : Launch) (G : owG) {A S Z B T V : owF} {J : Nat → Nat → Int64} {Y : Nat → Nat → Nat → Option Nat} {P : Nat → Option owW} (c_ : Nat) (hc_ : c_ < 4) (nb : Bool) (U L : Nat → Nat) (hp : papM V U L) : Ct l G yX12_byBorrowing cX12_byBorrowing 3 ((some .int)) 1 0 0 [.ref (gK G 4 0), .int (nI (c_)), .int (bI (nb))] (A, S, Z, B, T, V, J, Y, P) (qI (fun x_ σ => x_ = nI (byB nb U L c_).1 ∧ ∃ V2 : owF, σ = (A, S, Z, B, T, V2, J, Y, P) ∧ papM V2 (byB nb U L c_).2 L ∧ zfr 50 V V2)) := by
  refine ct_of (by decide +kernel) (Nat.le_of_ble_eq_true rfl) ?_
  have hu := hp.2.2.1 c_ hc_
  have hl := hp.2.2.2 c_ hc_
  show Wm l G cX12_byBorrowing 3 RX12 ((some .int)) (rmk 1 0 0) (fun _ => True) (QfM G (qI (fun x_ σ => x_ = nI (byB nb U L c_).1 ∧ ∃ V2 : owF, σ = (A, S, Z, B, T, V2, J, Y, P) ∧ papM V2 (byB nb U L c_).2 L ∧ zfr 50 V V2)) 0 0) 0 [(0, .ref (gK G 4 0)), (1, .int (nI (c_))), (2, .int (bI (nb)))] [] (A, S, Z, B, T, V, J, Y, P) 0 0
  refine m_aload_n 0 rfl rfl dX12_byBorrowing_0 ?_
  refine m_iload_n 1 rfl rfl dX12_byBorrowing_1 ?_
  refine m_iload_n 2 rfl rfl dX12_byBorrowing_2 ?_
  refine m_callVi cv_X12_138 [.int (nI (c_)), .int (bI (nb))] [] (k_m_borrows l G c_ hc_ nb U L hp) (by decide) (ce_4 G _ _ _ _ _ _ _ _ _ _) rfl rfl rfl ⟨Nat.le_of_ble_eq_true rfl, Nat.le_of_ble_eq_true rfl⟩ (Nat.le_of_ble_eq_true rfl) ⟨Nat.zero_le _, Nat.zero_le _⟩ dX12_byBorrowing_3 (fun xx σ2 hq => ?_)
  obtain ⟨rfl, V1, rfl, hp2, hf2⟩ := hq
  refine m_ifeq_b 28 dX12_byBorrowing_6 (by decide) (fun c2_ => ?_) (fun c2_ => ?_)
  ·
    refine m_iconst 0 dX12_byBorrowing_28 rfl ?_
    exact m_iret dX12_byBorrowing_29 (Nat.le_refl _) (Nat.le_refl _) (⟨(show (0 : Int32) = nI (byB nb U L c_).1 by rw [show byB nb U L c_ = (0, U) from if_pos (by simpa using c2_)]; rfl), V1, rfl, hp2, hf2⟩)
  ·
    refine m_aload_n 0 rfl rfl dX12_byBorrowing_9 ?_
    refine gf_X12_40 dX12_byBorrowing_10 ?_
    refine m_iload_n 1 rfl rfl dX12_byBorrowing_13 ?_
    refine al_50 c_ rfl (by omega) dX12_byBorrowing_14 ?_
    refine m_topi ((hp2.1 c_ hc_).trans (congrArg nI (byB_at hc_))) ?_
    refine m_bipush (10) dX12_byBorrowing_15 rfl ?_
    refine m_iadd dX12_byBorrowing_17 ?_
    refine m_topi (show (nI (U c_)) + 10 = nI ((U c_) + 10) from nI_add _ _) ?_
    refine m_aload_n 0 rfl rfl dX12_byBorrowing_18 ?_
    refine gf_X12_43 dX12_byBorrowing_19 ?_
    refine m_iload_n 1 rfl rfl dX12_byBorrowing_22 ?_
    refine al_51 c_ rfl (by omega) dX12_byBorrowing_23 ?_
    refine m_topi (hp2.2.1 c_ hc_) ?_
    refine m_isub dX12_byBorrowing_24 ?_
    refine m_topi ((show (nI ((U c_) + 10)) - (nI (L c_)) = nI (((U c_) + 10) - (L c_)) from pk_sub (by omega))) ?_
    refine m_goto 29 dX12_byBorrowing_25 (by decide) ?_
    exact m_iret dX12_byBorrowing_29 (Nat.le_refl _) (Nat.le_refl _) (⟨(show nI (((U c_) + 10) - (L c_)) = nI (byB nb U L c_).1 by rw [show (byB nb U L c_).1 = U c_ + 10 - L c_ from congrArg Prod.fst (if_neg (by simpa using c2_))]), V1, rfl, hp2, hf2⟩)
set_option maxRecDepth 100000 in
set_option maxHeartbeats 4000000 in
theorem k_m_whenStuck_1 (l : Launch) (G : owG) {A S Z B T V : owF} {J : Nat → Nat → Int64} {Y : Nat → Nat → Nat → Option Nat} {P : Nat → Option owW} (fg_ : Nat) (hf : fg_ ≤ 9) (c_ : Nat) (hc_ : c_ < 4) (U L : Nat → Nat) (hp : papM V U L) (hs_ : U c_ < L c_) : Ct l G yX12_whenStuck cX12_whenStuck 4 ((some .int)) 0 0 0 [.ref (gK G 4 0), .int 1, .int (nI (fg_)), .int (nI (c_))] (A, S, Z, B, T, V, J, Y, P) (qI (fun x_ σ => x_ = nI (stuckW 1 fg_ U L c_).1 ∧ ∃ V2 : owF, σ = (A, S, Z, B, T, V2, J, Y, P) ∧ papM V2 (stuckW 1 fg_ U L c_).2 L ∧ zfr 50 V V2)) := by
  refine ct_of (by decide +kernel) (Nat.le_of_ble_eq_true rfl) ?_
  have hu := hp.2.2.1 c_ hc_
  have hl := hp.2.2.2 c_ hc_
  show Wm l G cX12_whenStuck 4 RX12 ((some .int)) (rmk 0 0 0) (fun _ => True) (QfM G (qI (fun x_ σ => x_ = nI (stuckW 1 fg_ U L c_).1 ∧ ∃ V2 : owF, σ = (A, S, Z, B, T, V2, J, Y, P) ∧ papM V2 (stuckW 1 fg_ U L c_).2 L ∧ zfr 50 V V2)) 0 0) 0 [(0, .ref (gK G 4 0)), (1, .int 1), (2, .int (nI (fg_))), (3, .int (nI (c_)))] [] (A, S, Z, B, T, V, J, Y, P) 0 0
  refine m_iload_n 1 rfl rfl dX12_whenStuck_0 ?_
  refine m_tableIn 44 dX12_whenStuck_1 (by decide) (by decide) (by rfl) (by decide) ?_
  refine m_aload_n 0 rfl rfl dX12_whenStuck_44 ?_
  refine gf_X12_43 dX12_whenStuck_45 ?_
  refine m_iload_n 3 rfl rfl dX12_whenStuck_48 ?_
  refine al_51 c_ rfl (by omega) dX12_whenStuck_49 ?_
  refine m_topi (hp.2.1 c_ hc_) ?_
  refine m_aload_n 0 rfl rfl dX12_whenStuck_50 ?_
  refine gf_X12_40 dX12_whenStuck_51 ?_
  refine m_iload_n 3 rfl rfl dX12_whenStuck_54 ?_
  refine al_50 c_ rfl (by omega) dX12_whenStuck_55 ?_
  refine m_topi (hp.1 c_ hc_) ?_
  refine m_isub dX12_whenStuck_56 ?_
  refine m_topi ((show (nI (L c_)) - (nI (U c_)) = nI ((L c_) - (U c_)) from pk_sub (by omega))) ?_
  exact m_iret dX12_whenStuck_57 (Nat.le_refl _) (Nat.le_refl _) (⟨by rw [(show stuckW 1 fg_ U L c_ = ((L c_) - (U c_), U) by simp only [stuckW]; grind)], V, rfl, by rw [(show stuckW 1 fg_ U L c_ = ((L c_) - (U c_), U) by simp only [stuckW]; grind)]; exact hp, zfr_rf⟩)
set_option maxRecDepth 100000 in
set_option maxHeartbeats 4000000 in
theorem k_m_whenStuck_2 (l : Launch) (G : owG) {A S Z B T V : owF} {J : Nat → Nat → Int64} {Y : Nat → Nat → Nat → Option Nat} {P : Nat → Option owW} (fg_ : Nat) (hf : fg_ ≤ 9) (c_ : Nat) (hc_ : c_ < 4) (U L : Nat → Nat) (hp : papM V U L) (hs_ : U c_ < L c_) : Ct l G yX12_whenStuck cX12_whenStuck 4 ((some .int)) 0 0 0 [.ref (gK G 4 0), .int 2, .int (nI (fg_)), .int (nI (c_))] (A, S, Z, B, T, V, J, Y, P) (qI (fun x_ σ => x_ = nI (stuckW 2 fg_ U L c_).1 ∧ ∃ V2 : owF, σ = (A, S, Z, B, T, V2, J, Y, P) ∧ papM V2 (stuckW 2 fg_ U L c_).2 L ∧ zfr 50 V V2)) := by
  refine ct_of (by decide +kernel) (Nat.le_of_ble_eq_true rfl) ?_
  have hu := hp.2.2.1 c_ hc_
  have hl := hp.2.2.2 c_ hc_
  show Wm l G cX12_whenStuck 4 RX12 ((some .int)) (rmk 0 0 0) (fun _ => True) (QfM G (qI (fun x_ σ => x_ = nI (stuckW 2 fg_ U L c_).1 ∧ ∃ V2 : owF, σ = (A, S, Z, B, T, V2, J, Y, P) ∧ papM V2 (stuckW 2 fg_ U L c_).2 L ∧ zfr 50 V V2)) 0 0) 0 [(0, .ref (gK G 4 0)), (1, .int 2), (2, .int (nI (fg_))), (3, .int (nI (c_)))] [] (A, S, Z, B, T, V, J, Y, P) 0 0
  refine m_iload_n 1 rfl rfl dX12_whenStuck_0 ?_
  refine m_tableIn 58 dX12_whenStuck_1 (by decide) (by decide) (by rfl) (by decide) ?_
  refine m_iconst 0 dX12_whenStuck_58 rfl ?_
  exact m_iret dX12_whenStuck_59 (Nat.le_refl _) (Nat.le_refl _) (⟨by rw [(show stuckW 2 fg_ U L c_ = (0, U) by simp only [stuckW]; grind)]; rfl, V, rfl, by rw [(show stuckW 2 fg_ U L c_ = (0, U) by simp only [stuckW]; grind)]; exact hp, zfr_rf⟩)
set_option maxRecDepth 100000 in
set_option maxHeartbeats 4000000 in
theorem k_m_whenStuck_3 (l : Launch) (G : owG) {A S Z B T V : owF} {J : Nat → Nat → Int64} {Y : Nat → Nat → Nat → Option Nat} {P : Nat → Option owW} (fg_ : Nat) (hf : fg_ ≤ 9) (c_ : Nat) (hc_ : c_ < 4) (U L : Nat → Nat) (hp : papM V U L) (hs_ : U c_ < L c_) : Ct l G yX12_whenStuck cX12_whenStuck 4 ((some .int)) 0 0 0 [.ref (gK G 4 0), .int 3, .int (nI (fg_)), .int (nI (c_))] (A, S, Z, B, T, V, J, Y, P) (qI (fun x_ σ => x_ = nI (stuckW 3 fg_ U L c_).1 ∧ ∃ V2 : owF, σ = (A, S, Z, B, T, V2, J, Y, P) ∧ papM V2 (stuckW 3 fg_ U L c_).2 L ∧ zfr 50 V V2)) := by
  refine ct_of (by decide +kernel) (Nat.le_of_ble_eq_true rfl) ?_
  have hu := hp.2.2.1 c_ hc_
  have hl := hp.2.2.2 c_ hc_
  show Wm l G cX12_whenStuck 4 RX12 ((some .int)) (rmk 0 0 0) (fun _ => True) (QfM G (qI (fun x_ σ => x_ = nI (stuckW 3 fg_ U L c_).1 ∧ ∃ V2 : owF, σ = (A, S, Z, B, T, V2, J, Y, P) ∧ papM V2 (stuckW 3 fg_ U L c_).2 L ∧ zfr 50 V V2)) 0 0) 0 [(0, .ref (gK G 4 0)), (1, .int 3), (2, .int (nI (fg_))), (3, .int (nI (c_)))] [] (A, S, Z, B, T, V, J, Y, P) 0 0
  refine m_iload_n 1 rfl rfl dX12_whenStuck_0 ?_
  refine m_tableIn 60 dX12_whenStuck_1 (by decide) (by decide) (by rfl) (by decide) ?_
  refine m_aload_n 0 rfl rfl dX12_whenStuck_60 ?_
  refine gf_X12_40 dX12_whenStuck_61 ?_
  refine m_iload_n 3 rfl rfl dX12_whenStuck_64 ?_
  refine al_50 c_ rfl (by omega) dX12_whenStuck_65 ?_
  refine m_topi (hp.1 c_ hc_) ?_
  refine m_bipush (10) dX12_whenStuck_66 rfl ?_
  refine m_iadd dX12_whenStuck_68 ?_
  refine m_topi (show (nI (U c_)) + 10 = nI ((U c_) + 10) from nI_add _ _) ?_
  refine m_aload_n 0 rfl rfl dX12_whenStuck_69 ?_
  refine gf_X12_43 dX12_whenStuck_70 ?_
  refine m_iload_n 3 rfl rfl dX12_whenStuck_73 ?_
  refine al_51 c_ rfl (by omega) dX12_whenStuck_74 ?_
  refine m_topi (hp.2.1 c_ hc_) ?_
  refine m_isub dX12_whenStuck_75 ?_
  refine m_topi ((show (nI ((U c_) + 10)) - (nI (L c_)) = nI (((U c_) + 10) - (L c_)) from pk_sub (by omega))) ?_
  exact m_iret dX12_whenStuck_76 (Nat.le_refl _) (Nat.le_refl _) (⟨by rw [(show stuckW 3 fg_ U L c_ = (((U c_) + 10) - (L c_), U) by simp only [stuckW]; grind)], V, rfl, by rw [(show stuckW 3 fg_ U L c_ = (((U c_) + 10) - (L c_), U) by simp only [stuckW]; grind)]; exact hp, zfr_rf⟩)
set_option maxRecDepth 100000 in
set_option maxHeartbeats 4000000 in
theorem k_m_whenStuck_0u (l : Launch) (G : owG) {A S Z B T V : owF} {J : Nat → Nat → Int64} {Y : Nat → Nat → Nat → Option Nat} {P : Nat → Option owW} (fg_ : Nat) (hf : fg_ ≤ 9) (c_ : Nat) (hc_ : c_ < 4) (U L : Nat → Nat) (hp : papM V U L) (hs_ : U c_ < L c_) : Ct l G yX12_whenStuck cX12_whenStuck 4 ((some .int)) 2 0 0 [.ref (gK G 4 0), .int 0, .int (nI (fg_)), .int (nI (c_))] (A, S, Z, B, T, V, J, Y, P) (qI (fun x_ σ => x_ = nI (stuckW 0 fg_ U L c_).1 ∧ ∃ V2 : owF, σ = (A, S, Z, B, T, V2, J, Y, P) ∧ papM V2 (stuckW 0 fg_ U L c_).2 L ∧ zfr 50 V V2)) := by
  refine ct_of (by decide +kernel) (Nat.le_of_ble_eq_true rfl) ?_
  have hu := hp.2.2.1 c_ hc_
  have hl := hp.2.2.2 c_ hc_
  show Wm l G cX12_whenStuck 4 RX12 ((some .int)) (rmk 2 0 0) (fun _ => True) (QfM G (qI (fun x_ σ => x_ = nI (stuckW 0 fg_ U L c_).1 ∧ ∃ V2 : owF, σ = (A, S, Z, B, T, V2, J, Y, P) ∧ papM V2 (stuckW 0 fg_ U L c_).2 L ∧ zfr 50 V V2)) 0 0) 0 [(0, .ref (gK G 4 0)), (1, .int 0), (2, .int (nI (fg_))), (3, .int (nI (c_)))] [] (A, S, Z, B, T, V, J, Y, P) 0 0
  refine m_iload_n 1 rfl rfl dX12_whenStuck_0 ?_
  refine m_tableOut 210 dX12_whenStuck_1 (by decide) (by decide) ?_
  refine m_aload_n 0 rfl rfl dX12_whenStuck_210 ?_
  refine m_iload_n 3 rfl rfl dX12_whenStuck_211 ?_
  refine m_iconst 1 dX12_whenStuck_212 rfl ?_
  refine m_callVi cv_X12_142 [.int (nI (c_)), .int 1] [] (k_m_byBorrowing l G c_ hc_ true U L hp) (by decide) (ce_4 G _ _ _ _ _ _ _ _ _ _) rfl rfl rfl ⟨Nat.le_of_ble_eq_true rfl, Nat.le_of_ble_eq_true rfl⟩ (Nat.le_of_ble_eq_true rfl) ⟨Nat.zero_le _, Nat.zero_le _⟩ dX12_whenStuck_213 (fun xx σ2 hq => ?_)
  obtain ⟨rfl, V1, rfl, hp2, hf2⟩ := hq
  exact m_iret dX12_whenStuck_216 (Nat.le_refl _) (Nat.le_refl _) (⟨by rw [(show stuckW 0 fg_ U L c_ = (byB true U L c_) by simp only [stuckW]; grind)], V1, rfl, by rw [(show stuckW 0 fg_ U L c_ = (byB true U L c_) by simp only [stuckW]; grind)]; exact hp2, hf2⟩)
set_option maxRecDepth 100000 in
set_option maxHeartbeats 4000000 in
theorem k_m_whenStuck_1u (l : Launch) (G : owG) {A S Z B T V : owF} {J : Nat → Nat → Int64} {Y : Nat → Nat → Nat → Option Nat} {P : Nat → Option owW} (fg_ : Nat) (hf : fg_ ≤ 9) (c_ : Nat) (hc_ : c_ < 4) (U L : Nat → Nat) (hp : papM V U L) (hs_ : U c_ < L c_) : Ct l G yX12_whenStuck cX12_whenStuck 4 ((some .int)) 2 0 0 [.ref (gK G 4 0), .int 1, .int (nI (fg_)), .int (nI (c_))] (A, S, Z, B, T, V, J, Y, P) (qI (fun x_ σ => x_ = nI (stuckW 1 fg_ U L c_).1 ∧ ∃ V2 : owF, σ = (A, S, Z, B, T, V2, J, Y, P) ∧ papM V2 (stuckW 1 fg_ U L c_).2 L ∧ zfr 50 V V2)) := by
  refine ct_of (by decide +kernel) (Nat.le_of_ble_eq_true rfl) ?_
  have hu := hp.2.2.1 c_ hc_
  have hl := hp.2.2.2 c_ hc_
  show Wm l G cX12_whenStuck 4 RX12 ((some .int)) (rmk 2 0 0) (fun _ => True) (QfM G (qI (fun x_ σ => x_ = nI (stuckW 1 fg_ U L c_).1 ∧ ∃ V2 : owF, σ = (A, S, Z, B, T, V2, J, Y, P) ∧ papM V2 (stuckW 1 fg_ U L c_).2 L ∧ zfr 50 V V2)) 0 0) 0 [(0, .ref (gK G 4 0)), (1, .int 1), (2, .int (nI (fg_))), (3, .int (nI (c_)))] [] (A, S, Z, B, T, V, J, Y, P) 0 0
  refine m_iload_n 1 rfl rfl dX12_whenStuck_0 ?_
  refine m_tableIn 44 dX12_whenStuck_1 (by decide) (by decide) (by rfl) (by decide) ?_
  refine m_aload_n 0 rfl rfl dX12_whenStuck_44 ?_
  refine gf_X12_43 dX12_whenStuck_45 ?_
  refine m_iload_n 3 rfl rfl dX12_whenStuck_48 ?_
  refine al_51 c_ rfl (by omega) dX12_whenStuck_49 ?_
  refine m_topi (hp.2.1 c_ hc_) ?_
  refine m_aload_n 0 rfl rfl dX12_whenStuck_50 ?_
  refine gf_X12_40 dX12_whenStuck_51 ?_
  refine m_iload_n 3 rfl rfl dX12_whenStuck_54 ?_
  refine al_50 c_ rfl (by omega) dX12_whenStuck_55 ?_
  refine m_topi (hp.1 c_ hc_) ?_
  refine m_isub dX12_whenStuck_56 ?_
  refine m_topi ((show (nI (L c_)) - (nI (U c_)) = nI ((L c_) - (U c_)) from pk_sub (by omega))) ?_
  exact m_iret dX12_whenStuck_57 (Nat.le_refl _) (Nat.le_refl _) (⟨by rw [(show stuckW 1 fg_ U L c_ = ((L c_) - (U c_), U) by simp only [stuckW]; grind)], V, rfl, by rw [(show stuckW 1 fg_ U L c_ = ((L c_) - (U c_), U) by simp only [stuckW]; grind)]; exact hp, zfr_rf⟩)
set_option maxRecDepth 100000 in
set_option maxHeartbeats 4000000 in
theorem k_m_whenStuck_2u (l : Launch) (G : owG) {A S Z B T V : owF} {J : Nat → Nat → Int64} {Y : Nat → Nat → Nat → Option Nat} {P : Nat → Option owW} (fg_ : Nat) (hf : fg_ ≤ 9) (c_ : Nat) (hc_ : c_ < 4) (U L : Nat → Nat) (hp : papM V U L) (hs_ : U c_ < L c_) : Ct l G yX12_whenStuck cX12_whenStuck 4 ((some .int)) 2 0 0 [.ref (gK G 4 0), .int 2, .int (nI (fg_)), .int (nI (c_))] (A, S, Z, B, T, V, J, Y, P) (qI (fun x_ σ => x_ = nI (stuckW 2 fg_ U L c_).1 ∧ ∃ V2 : owF, σ = (A, S, Z, B, T, V2, J, Y, P) ∧ papM V2 (stuckW 2 fg_ U L c_).2 L ∧ zfr 50 V V2)) := by
  refine ct_of (by decide +kernel) (Nat.le_of_ble_eq_true rfl) ?_
  have hu := hp.2.2.1 c_ hc_
  have hl := hp.2.2.2 c_ hc_
  show Wm l G cX12_whenStuck 4 RX12 ((some .int)) (rmk 2 0 0) (fun _ => True) (QfM G (qI (fun x_ σ => x_ = nI (stuckW 2 fg_ U L c_).1 ∧ ∃ V2 : owF, σ = (A, S, Z, B, T, V2, J, Y, P) ∧ papM V2 (stuckW 2 fg_ U L c_).2 L ∧ zfr 50 V V2)) 0 0) 0 [(0, .ref (gK G 4 0)), (1, .int 2), (2, .int (nI (fg_))), (3, .int (nI (c_)))] [] (A, S, Z, B, T, V, J, Y, P) 0 0
  refine m_iload_n 1 rfl rfl dX12_whenStuck_0 ?_
  refine m_tableIn 58 dX12_whenStuck_1 (by decide) (by decide) (by rfl) (by decide) ?_
  refine m_iconst 0 dX12_whenStuck_58 rfl ?_
  exact m_iret dX12_whenStuck_59 (Nat.le_refl _) (Nat.le_refl _) (⟨by rw [(show stuckW 2 fg_ U L c_ = (0, U) by simp only [stuckW]; grind)]; rfl, V, rfl, by rw [(show stuckW 2 fg_ U L c_ = (0, U) by simp only [stuckW]; grind)]; exact hp, zfr_rf⟩)
set_option maxRecDepth 100000 in
set_option maxHeartbeats 4000000 in
theorem k_m_whenStuck_3u (l : Launch) (G : owG) {A S Z B T V : owF} {J : Nat → Nat → Int64} {Y : Nat → Nat → Nat → Option Nat} {P : Nat → Option owW} (fg_ : Nat) (hf : fg_ ≤ 9) (c_ : Nat) (hc_ : c_ < 4) (U L : Nat → Nat) (hp : papM V U L) (hs_ : U c_ < L c_) : Ct l G yX12_whenStuck cX12_whenStuck 4 ((some .int)) 2 0 0 [.ref (gK G 4 0), .int 3, .int (nI (fg_)), .int (nI (c_))] (A, S, Z, B, T, V, J, Y, P) (qI (fun x_ σ => x_ = nI (stuckW 3 fg_ U L c_).1 ∧ ∃ V2 : owF, σ = (A, S, Z, B, T, V2, J, Y, P) ∧ papM V2 (stuckW 3 fg_ U L c_).2 L ∧ zfr 50 V V2)) := by
  refine ct_of (by decide +kernel) (Nat.le_of_ble_eq_true rfl) ?_
  have hu := hp.2.2.1 c_ hc_
  have hl := hp.2.2.2 c_ hc_
  show Wm l G cX12_whenStuck 4 RX12 ((some .int)) (rmk 2 0 0) (fun _ => True) (QfM G (qI (fun x_ σ => x_ = nI (stuckW 3 fg_ U L c_).1 ∧ ∃ V2 : owF, σ = (A, S, Z, B, T, V2, J, Y, P) ∧ papM V2 (stuckW 3 fg_ U L c_).2 L ∧ zfr 50 V V2)) 0 0) 0 [(0, .ref (gK G 4 0)), (1, .int 3), (2, .int (nI (fg_))), (3, .int (nI (c_)))] [] (A, S, Z, B, T, V, J, Y, P) 0 0
  refine m_iload_n 1 rfl rfl dX12_whenStuck_0 ?_
  refine m_tableIn 60 dX12_whenStuck_1 (by decide) (by decide) (by rfl) (by decide) ?_
  refine m_aload_n 0 rfl rfl dX12_whenStuck_60 ?_
  refine gf_X12_40 dX12_whenStuck_61 ?_
  refine m_iload_n 3 rfl rfl dX12_whenStuck_64 ?_
  refine al_50 c_ rfl (by omega) dX12_whenStuck_65 ?_
  refine m_topi (hp.1 c_ hc_) ?_
  refine m_bipush (10) dX12_whenStuck_66 rfl ?_
  refine m_iadd dX12_whenStuck_68 ?_
  refine m_topi (show (nI (U c_)) + 10 = nI ((U c_) + 10) from nI_add _ _) ?_
  refine m_aload_n 0 rfl rfl dX12_whenStuck_69 ?_
  refine gf_X12_43 dX12_whenStuck_70 ?_
  refine m_iload_n 3 rfl rfl dX12_whenStuck_73 ?_
  refine al_51 c_ rfl (by omega) dX12_whenStuck_74 ?_
  refine m_topi (hp.2.1 c_ hc_) ?_
  refine m_isub dX12_whenStuck_75 ?_
  refine m_topi ((show (nI ((U c_) + 10)) - (nI (L c_)) = nI (((U c_) + 10) - (L c_)) from pk_sub (by omega))) ?_
  exact m_iret dX12_whenStuck_76 (Nat.le_refl _) (Nat.le_refl _) (⟨by rw [(show stuckW 3 fg_ U L c_ = (((U c_) + 10) - (L c_), U) by simp only [stuckW]; grind)], V, rfl, by rw [(show stuckW 3 fg_ U L c_ = (((U c_) + 10) - (L c_), U) by simp only [stuckW]; grind)]; exact hp, zfr_rf⟩)
set_option maxRecDepth 100000 in
set_option maxHeartbeats 4000000 in
theorem k_m_whenStuck_4u (l : Launch) (G : owG) {A S Z B T V : owF} {J : Nat → Nat → Int64} {Y : Nat → Nat → Nat → Option Nat} {P : Nat → Option owW} (fg_ : Nat) (hf : fg_ ≤ 9) (c_ : Nat) (hc_ : c_ < 4) (U L : Nat → Nat) (hp : papM V U L) (hs_ : U c_ < L c_) : Ct l G yX12_whenStuck cX12_whenStuck 4 ((some .int)) 2 0 0 [.ref (gK G 4 0), .int 4, .int (nI (fg_)), .int (nI (c_))] (A, S, Z, B, T, V, J, Y, P) (qI (fun x_ σ => x_ = nI (stuckW 4 fg_ U L c_).1 ∧ ∃ V2 : owF, σ = (A, S, Z, B, T, V2, J, Y, P) ∧ papM V2 (stuckW 4 fg_ U L c_).2 L ∧ zfr 50 V V2)) := by
  refine ct_of (by decide +kernel) (Nat.le_of_ble_eq_true rfl) ?_
  have hu := hp.2.2.1 c_ hc_
  have hl := hp.2.2.2 c_ hc_
  show Wm l G cX12_whenStuck 4 RX12 ((some .int)) (rmk 2 0 0) (fun _ => True) (QfM G (qI (fun x_ σ => x_ = nI (stuckW 4 fg_ U L c_).1 ∧ ∃ V2 : owF, σ = (A, S, Z, B, T, V2, J, Y, P) ∧ papM V2 (stuckW 4 fg_ U L c_).2 L ∧ zfr 50 V V2)) 0 0) 0 [(0, .ref (gK G 4 0)), (1, .int 4), (2, .int (nI (fg_))), (3, .int (nI (c_)))] [] (A, S, Z, B, T, V, J, Y, P) 0 0
  refine m_iload_n 1 rfl rfl dX12_whenStuck_0 ?_
  refine m_tableIn 77 dX12_whenStuck_1 (by decide) (by decide) (by rfl) (by decide) ?_
  refine m_aload_n 0 rfl rfl dX12_whenStuck_77 ?_
  refine m_iload_n 3 rfl rfl dX12_whenStuck_78 ?_
  refine m_iconst 0 dX12_whenStuck_79 rfl ?_
  refine m_callVi cv_X12_142 [.int (nI (c_)), .int 0] [] (k_m_byBorrowing l G c_ hc_ false U L hp) (by decide) (ce_4 G _ _ _ _ _ _ _ _ _ _) rfl rfl rfl ⟨Nat.le_of_ble_eq_true rfl, Nat.le_of_ble_eq_true rfl⟩ (Nat.le_of_ble_eq_true rfl) ⟨Nat.zero_le _, Nat.zero_le _⟩ dX12_whenStuck_80 (fun xx σ2 hq => ?_)
  obtain ⟨rfl, V1, rfl, hp2, hf2⟩ := hq
  exact m_iret dX12_whenStuck_83 (Nat.le_refl _) (Nat.le_refl _) (⟨by rw [(show stuckW 4 fg_ U L c_ = (byB false U L c_) by simp only [stuckW]; grind)], V1, rfl, by rw [(show stuckW 4 fg_ U L c_ = (byB false U L c_) by simp only [stuckW]; grind)]; exact hp2, hf2⟩)
set_option maxRecDepth 100000 in
set_option maxHeartbeats 4000000 in
theorem k_m_whenStuck_5u (l : Launch) (G : owG) {A S Z B T V : owF} {J : Nat → Nat → Int64} {Y : Nat → Nat → Nat → Option Nat} {P : Nat → Option owW} (fg_ : Nat) (hf : fg_ ≤ 9) (c_ : Nat) (hc_ : c_ < 4) (U L : Nat → Nat) (hp : papM V U L) (hs_ : U c_ < L c_) : Ct l G yX12_whenStuck cX12_whenStuck 4 ((some .int)) 2 0 0 [.ref (gK G 4 0), .int 5, .int (nI (fg_)), .int (nI (c_))] (A, S, Z, B, T, V, J, Y, P) (qI (fun x_ σ => x_ = nI (stuckW 5 fg_ U L c_).1 ∧ ∃ V2 : owF, σ = (A, S, Z, B, T, V2, J, Y, P) ∧ papM V2 (stuckW 5 fg_ U L c_).2 L ∧ zfr 50 V V2)) := by
  refine ct_of (by decide +kernel) (Nat.le_of_ble_eq_true rfl) ?_
  have hu := hp.2.2.1 c_ hc_
  have hl := hp.2.2.2 c_ hc_
  show Wm l G cX12_whenStuck 4 RX12 ((some .int)) (rmk 2 0 0) (fun _ => True) (QfM G (qI (fun x_ σ => x_ = nI (stuckW 5 fg_ U L c_).1 ∧ ∃ V2 : owF, σ = (A, S, Z, B, T, V2, J, Y, P) ∧ papM V2 (stuckW 5 fg_ U L c_).2 L ∧ zfr 50 V V2)) 0 0) 0 [(0, .ref (gK G 4 0)), (1, .int 5), (2, .int (nI (fg_))), (3, .int (nI (c_)))] [] (A, S, Z, B, T, V, J, Y, P) 0 0
  refine m_iload_n 1 rfl rfl dX12_whenStuck_0 ?_
  refine m_tableIn 84 dX12_whenStuck_1 (by decide) (by decide) (by rfl) (by decide) ?_
  refine m_aload_n 0 rfl rfl dX12_whenStuck_84 ?_
  refine gf_X12_40 dX12_whenStuck_85 ?_
  refine m_iload_n 3 rfl rfl dX12_whenStuck_88 ?_
  refine al_50 c_ rfl (by omega) dX12_whenStuck_89 ?_
  refine m_topi (hp.1 c_ hc_) ?_
  refine m_ifn_ne (U c_) 109 (by omega) dX12_whenStuck_90 (by decide) (fun c1_ => ?_) (fun c1_ => ?_)
  ·
    refine m_aload_n 0 rfl rfl dX12_whenStuck_109 ?_
    refine m_iload_n 3 rfl rfl dX12_whenStuck_110 ?_
    refine m_iconst 1 dX12_whenStuck_111 rfl ?_
    refine m_callVi cv_X12_142 [.int (nI (c_)), .int 1] [] (k_m_byBorrowing l G c_ hc_ true U L hp) (by decide) (ce_4 G _ _ _ _ _ _ _ _ _ _) rfl rfl rfl ⟨Nat.le_of_ble_eq_true rfl, Nat.le_of_ble_eq_true rfl⟩ (Nat.le_of_ble_eq_true rfl) ⟨Nat.zero_le _, Nat.zero_le _⟩ dX12_whenStuck_112 (fun xx σ2 hq => ?_)
    obtain ⟨rfl, V2, rfl, hp2, hf2⟩ := hq
    exact m_iret dX12_whenStuck_115 (Nat.le_refl _) (Nat.le_refl _) (⟨by rw [(show stuckW 5 fg_ U L c_ = (byB true U L c_) by simp only [stuckW]; grind)], V2, rfl, by rw [(show stuckW 5 fg_ U L c_ = (byB true U L c_) by simp only [stuckW]; grind)]; exact hp2, hf2⟩)
  ·
    refine m_aload_n 0 rfl rfl dX12_whenStuck_93 ?_
    refine gf_X12_43 dX12_whenStuck_94 ?_
    refine m_iload_n 3 rfl rfl dX12_whenStuck_97 ?_
    refine al_51 c_ rfl (by omega) dX12_whenStuck_98 ?_
    refine m_topi (hp.2.1 c_ hc_) ?_
    refine m_aload_n 0 rfl rfl dX12_whenStuck_99 ?_
    refine gf_X12_40 dX12_whenStuck_100 ?_
    refine m_iload_n 3 rfl rfl dX12_whenStuck_103 ?_
    refine al_50 c_ rfl (by omega) dX12_whenStuck_104 ?_
    refine m_topi (hp.1 c_ hc_) ?_
    refine m_isub dX12_whenStuck_105 ?_
    refine m_topi ((show (nI (L c_)) - (nI (U c_)) = nI ((L c_) - (U c_)) from pk_sub (by omega))) ?_
    refine m_goto 115 dX12_whenStuck_106 (by decide) ?_
    exact m_iret dX12_whenStuck_115 (Nat.le_refl _) (Nat.le_refl _) (⟨by rw [(show stuckW 5 fg_ U L c_ = ((L c_) - (U c_), U) by simp only [stuckW]; grind)], V, rfl, by rw [(show stuckW 5 fg_ U L c_ = ((L c_) - (U c_), U) by simp only [stuckW]; grind)]; exact hp, zfr_rf⟩)
set_option maxRecDepth 100000 in
set_option maxHeartbeats 4000000 in
theorem k_m_whenStuck_7u (l : Launch) (G : owG) {A S Z B T V : owF} {J : Nat → Nat → Int64} {Y : Nat → Nat → Nat → Option Nat} {P : Nat → Option owW} (fg_ : Nat) (hf : fg_ ≤ 9) (c_ : Nat) (hc_ : c_ < 4) (U L : Nat → Nat) (hp : papM V U L) (hs_ : U c_ < L c_) : Ct l G yX12_whenStuck cX12_whenStuck 4 ((some .int)) 2 0 0 [.ref (gK G 4 0), .int 7, .int (nI (fg_)), .int (nI (c_))] (A, S, Z, B, T, V, J, Y, P) (qI (fun x_ σ => x_ = nI (stuckW 7 fg_ U L c_).1 ∧ ∃ V2 : owF, σ = (A, S, Z, B, T, V2, J, Y, P) ∧ papM V2 (stuckW 7 fg_ U L c_).2 L ∧ zfr 50 V V2)) := by
  refine ct_of (by decide +kernel) (Nat.le_of_ble_eq_true rfl) ?_
  have hu := hp.2.2.1 c_ hc_
  have hl := hp.2.2.2 c_ hc_
  show Wm l G cX12_whenStuck 4 RX12 ((some .int)) (rmk 2 0 0) (fun _ => True) (QfM G (qI (fun x_ σ => x_ = nI (stuckW 7 fg_ U L c_).1 ∧ ∃ V2 : owF, σ = (A, S, Z, B, T, V2, J, Y, P) ∧ papM V2 (stuckW 7 fg_ U L c_).2 L ∧ zfr 50 V V2)) 0 0) 0 [(0, .ref (gK G 4 0)), (1, .int 7), (2, .int (nI (fg_))), (3, .int (nI (c_)))] [] (A, S, Z, B, T, V, J, Y, P) 0 0
  refine m_iload_n 1 rfl rfl dX12_whenStuck_0 ?_
  refine m_tableIn 184 dX12_whenStuck_1 (by decide) (by decide) (by rfl) (by decide) ?_
  refine m_iload_n 3 rfl rfl dX12_whenStuck_184 ?_
  refine m_iconst 3 dX12_whenStuck_185 rfl ?_
  refine m_icmpn_ne c_ 3 193 (by omega) (by decide) dX12_whenStuck_186 (by decide) (fun c1_ => ?_) (fun c1_ => ?_)
  ·
    refine m_aload_n 0 rfl rfl dX12_whenStuck_193 ?_
    refine gf_X12_40 dX12_whenStuck_194 ?_
    refine m_iload_n 3 rfl rfl dX12_whenStuck_197 ?_
    refine al_50 c_ rfl (by omega) dX12_whenStuck_198 ?_
    refine m_topi (hp.1 c_ hc_) ?_
    refine m_bipush (10) dX12_whenStuck_199 rfl ?_
    refine m_iadd dX12_whenStuck_201 ?_
    refine m_topi (show (nI (U c_)) + 10 = nI ((U c_) + 10) from nI_add _ _) ?_
    refine m_aload_n 0 rfl rfl dX12_whenStuck_202 ?_
    refine gf_X12_43 dX12_whenStuck_203 ?_
    refine m_iload_n 3 rfl rfl dX12_whenStuck_206 ?_
    refine al_51 c_ rfl (by omega) dX12_whenStuck_207 ?_
    refine m_topi (hp.2.1 c_ hc_) ?_
    refine m_isub dX12_whenStuck_208 ?_
    refine m_topi ((show (nI ((U c_) + 10)) - (nI (L c_)) = nI (((U c_) + 10) - (L c_)) from pk_sub (by omega))) ?_
    exact m_iret dX12_whenStuck_209 (Nat.le_refl _) (Nat.le_refl _) (⟨by rw [(show stuckW 7 fg_ U L c_ = (((U c_) + 10) - (L c_), U) by simp only [stuckW]; grind)], V, rfl, by rw [(show stuckW 7 fg_ U L c_ = (((U c_) + 10) - (L c_), U) by simp only [stuckW]; grind)]; exact hp, zfr_rf⟩)
  ·
    refine m_iconst 0 dX12_whenStuck_189 rfl ?_
    refine m_goto 209 dX12_whenStuck_190 (by decide) ?_
    exact m_iret dX12_whenStuck_209 (Nat.le_refl _) (Nat.le_refl _) (⟨by rw [(show stuckW 7 fg_ U L c_ = (0, U) by simp only [stuckW]; grind)]; rfl, V, rfl, by rw [(show stuckW 7 fg_ U L c_ = (0, U) by simp only [stuckW]; grind)]; exact hp, zfr_rf⟩)
set_option maxRecDepth 100000 in
set_option maxHeartbeats 4000000 in
theorem k_m_whenStuck_6u (l : Launch) (G : owG) {A S Z B T V : owF} {J : Nat → Nat → Int64} {Y : Nat → Nat → Nat → Option Nat} {P : Nat → Option owW} (fg_ : Nat) (hf : fg_ ≤ 9) (c_ : Nat) (hc_ : c_ < 4) (U L : Nat → Nat) (hp : papM V U L) (hs_ : U c_ < L c_) : Ct l G yX12_whenStuck cX12_whenStuck 4 ((some .int)) 2 0 0 [.ref (gK G 4 0), .int 6, .int (nI (fg_)), .int (nI (c_))] (A, S, Z, B, T, V, J, Y, P) (qI (fun x_ σ => x_ = nI (stuckW 6 fg_ U L c_).1 ∧ ∃ V2 : owF, σ = (A, S, Z, B, T, V2, J, Y, P) ∧ papM V2 (stuckW 6 fg_ U L c_).2 L ∧ zfr 50 V V2)) := by
  refine ct_of (by decide +kernel) (Nat.le_of_ble_eq_true rfl) ?_
  have hu := hp.2.2.1 c_ hc_
  have hl := hp.2.2.2 c_ hc_
  show Wm l G cX12_whenStuck 4 RX12 ((some .int)) (rmk 2 0 0) (fun _ => True) (QfM G (qI (fun x_ σ => x_ = nI (stuckW 6 fg_ U L c_).1 ∧ ∃ V2 : owF, σ = (A, S, Z, B, T, V2, J, Y, P) ∧ papM V2 (stuckW 6 fg_ U L c_).2 L ∧ zfr 50 V V2)) 0 0) 0 [(0, .ref (gK G 4 0)), (1, .int 6), (2, .int (nI (fg_))), (3, .int (nI (c_)))] [] (A, S, Z, B, T, V, J, Y, P) 0 0
  refine m_iload_n 1 rfl rfl dX12_whenStuck_0 ?_
  refine m_tableIn 116 dX12_whenStuck_1 (by decide) (by decide) (by rfl) (by decide) ?_
  refine m_iload_n 3 rfl rfl dX12_whenStuck_116 ?_
  refine m_iconst 3 dX12_whenStuck_117 rfl ?_
  refine m_icmpn_ge c_ 3 139 (by omega) (by decide) dX12_whenStuck_118 (by decide) (fun c1_ => ?_) (fun c1_ => ?_)
  ·
    refine m_iload_n 2 rfl rfl dX12_whenStuck_139 ?_
    refine m_iconst 4 dX12_whenStuck_140 rfl ?_
    refine m_irem (by decide) dX12_whenStuck_141 ?_
    refine m_topi (show (nI (fg_)) - (nI (fg_)) / 4 * 4 = nI (fg_ % 4) from pk_rem (by omega) (by decide) (by decide)) ?_
    refine m_iconst 3 dX12_whenStuck_142 rfl ?_
    refine m_icmpn_ne (fg_ % 4) 3 155 (by omega) (by decide) dX12_whenStuck_143 (by decide) (fun c2_ => ?_) (fun c2_ => ?_)
    ·
      refine m_aload_n 0 rfl rfl dX12_whenStuck_155 ?_
      refine m_iload_n 2 rfl rfl dX12_whenStuck_156 ?_
      refine m_iconst 4 dX12_whenStuck_157 rfl ?_
      refine m_irem (by decide) dX12_whenStuck_158 ?_
      refine m_topi (show (nI (fg_)) - (nI (fg_)) / 4 * 4 = nI (fg_ % 4) from pk_rem (by omega) (by decide) (by decide)) ?_
      refine m_ifn_ne (fg_ % 4) 166 (by omega) dX12_whenStuck_159 (by decide) (fun c3_ => ?_) (fun c3_ => ?_)
      ·
        refine m_iload_n 2 rfl rfl dX12_whenStuck_166 ?_
        refine m_iconst 4 dX12_whenStuck_167 rfl ?_
        refine m_irem (by decide) dX12_whenStuck_168 ?_
        refine m_topi (show (nI (fg_)) - (nI (fg_)) / 4 * 4 = nI (fg_ % 4) from pk_rem (by omega) (by decide) (by decide)) ?_
        refine m_iconst 1 dX12_whenStuck_169 rfl ?_
        refine m_icmpn_ne (fg_ % 4) 1 177 (by omega) (by decide) dX12_whenStuck_170 (by decide) (fun c4_ => ?_) (fun c4_ => ?_)
        ·
          refine m_iconst 3 dX12_whenStuck_177 rfl ?_
          refine m_iload_n 2 rfl rfl dX12_whenStuck_178 ?_
          refine m_iload_n 3 rfl rfl dX12_whenStuck_179 ?_
          refine m_callVi cv_X12_146 [.int 3, .int (nI (fg_)), .int (nI (c_))] [] (k_m_whenStuck_3 l G fg_ hf c_ hc_ U L hp hs_) (by decide) (ce_4 G _ _ _ _ _ _ _ _ _ _) rfl rfl rfl ⟨Nat.le_of_ble_eq_true rfl, Nat.le_of_ble_eq_true rfl⟩ (Nat.le_of_ble_eq_true rfl) ⟨Nat.zero_le _, Nat.zero_le _⟩ dX12_whenStuck_180 (fun xx σ2 hq => ?_)
          obtain ⟨rfl, V5, rfl, hp2, hf2⟩ := hq
          exact m_iret dX12_whenStuck_183 (Nat.le_refl _) (Nat.le_refl _) (⟨by rw [(show stuckW 6 fg_ U L c_ = (stuckW 3 fg_ U L c_) by simp only [stuckW]; grind)], V5, rfl, by rw [(show stuckW 6 fg_ U L c_ = (stuckW 3 fg_ U L c_) by simp only [stuckW]; grind)]; exact hp2, hf2⟩)
        ·
          refine m_iconst 1 dX12_whenStuck_173 rfl ?_
          refine m_goto 178 dX12_whenStuck_174 (by decide) ?_
          refine m_iload_n 2 rfl rfl dX12_whenStuck_178 ?_
          refine m_iload_n 3 rfl rfl dX12_whenStuck_179 ?_
          refine m_callVi cv_X12_146 [.int 1, .int (nI (fg_)), .int (nI (c_))] [] (k_m_whenStuck_1 l G fg_ hf c_ hc_ U L hp hs_) (by decide) (ce_4 G _ _ _ _ _ _ _ _ _ _) rfl rfl rfl ⟨Nat.le_of_ble_eq_true rfl, Nat.le_of_ble_eq_true rfl⟩ (Nat.le_of_ble_eq_true rfl) ⟨Nat.zero_le _, Nat.zero_le _⟩ dX12_whenStuck_180 (fun xx σ2 hq => ?_)
          obtain ⟨rfl, V6, rfl, hp2, hf2⟩ := hq
          exact m_iret dX12_whenStuck_183 (Nat.le_refl _) (Nat.le_refl _) (⟨by rw [(show stuckW 6 fg_ U L c_ = (stuckW 1 fg_ U L c_) by simp only [stuckW]; grind)], V6, rfl, by rw [(show stuckW 6 fg_ U L c_ = (stuckW 1 fg_ U L c_) by simp only [stuckW]; grind)]; exact hp2, hf2⟩)
      ·
        refine m_iconst 2 dX12_whenStuck_162 rfl ?_
        refine m_goto 178 dX12_whenStuck_163 (by decide) ?_
        refine m_iload_n 2 rfl rfl dX12_whenStuck_178 ?_
        refine m_iload_n 3 rfl rfl dX12_whenStuck_179 ?_
        refine m_callVi cv_X12_146 [.int 2, .int (nI (fg_)), .int (nI (c_))] [] (k_m_whenStuck_2 l G fg_ hf c_ hc_ U L hp hs_) (by decide) (ce_4 G _ _ _ _ _ _ _ _ _ _) rfl rfl rfl ⟨Nat.le_of_ble_eq_true rfl, Nat.le_of_ble_eq_true rfl⟩ (Nat.le_of_ble_eq_true rfl) ⟨Nat.zero_le _, Nat.zero_le _⟩ dX12_whenStuck_180 (fun xx σ2 hq => ?_)
        obtain ⟨rfl, V7, rfl, hp2, hf2⟩ := hq
        exact m_iret dX12_whenStuck_183 (Nat.le_refl _) (Nat.le_refl _) (⟨by rw [(show stuckW 6 fg_ U L c_ = (stuckW 2 fg_ U L c_) by simp only [stuckW]; grind)], V7, rfl, by rw [(show stuckW 6 fg_ U L c_ = (stuckW 2 fg_ U L c_) by simp only [stuckW]; grind)]; exact hp2, hf2⟩)
    ·
      refine m_aload_n 0 rfl rfl dX12_whenStuck_146 ?_
      refine gf_X12_43 dX12_whenStuck_147 ?_
      refine m_iload_n 3 rfl rfl dX12_whenStuck_150 ?_
      refine al_51 c_ rfl (by omega) dX12_whenStuck_151 ?_
      refine m_topi (hp.2.1 c_ hc_) ?_
      refine m_goto 183 dX12_whenStuck_152 (by decide) ?_
      exact m_iret dX12_whenStuck_183 (Nat.le_refl _) (Nat.le_refl _) (⟨by rw [(show stuckW 6 fg_ U L c_ = (L c_, U) by simp only [stuckW]; grind)], V, rfl, by rw [(show stuckW 6 fg_ U L c_ = (L c_, U) by simp only [stuckW]; grind)]; exact hp, zfr_rf⟩)
  ·
    have hc1 : c_ + 1 < 4 := by omega
    have hu1 := hp.2.2.1 (c_ + 1) hc1
    refine m_aload_n 0 rfl rfl dX12_whenStuck_121 ?_
    refine gf_X12_40 dX12_whenStuck_122 ?_
    refine m_iload_n 3 rfl rfl dX12_whenStuck_125 ?_
    refine m_iconst 1 dX12_whenStuck_126 rfl ?_
    refine m_iadd dX12_whenStuck_127 ?_
    refine m_topi (show (nI (c_)) + 1 = nI (c_ + 1) from nI_add _ _) ?_
    refine al_50 (c_ + 1) rfl (by omega) dX12_whenStuck_128 ?_
    refine m_topi (hp.1 (c_ + 1) hc1) ?_
    refine m_ifn_le (U (c_ + 1)) 139 (by omega) dX12_whenStuck_129 (by decide) (fun c8_ => ?_) (fun c8_ => ?_)
    ·
      refine m_iload_n 2 rfl rfl dX12_whenStuck_139 ?_
      refine m_iconst 4 dX12_whenStuck_140 rfl ?_
      refine m_irem (by decide) dX12_whenStuck_141 ?_
      refine m_topi (show (nI (fg_)) - (nI (fg_)) / 4 * 4 = nI (fg_ % 4) from pk_rem (by omega) (by decide) (by decide)) ?_
      refine m_iconst 3 dX12_whenStuck_142 rfl ?_
      refine m_icmpn_ne (fg_ % 4) 3 155 (by omega) (by decide) dX12_whenStuck_143 (by decide) (fun c9_ => ?_) (fun c9_ => ?_)
      ·
        refine m_aload_n 0 rfl rfl dX12_whenStuck_155 ?_
        refine m_iload_n 2 rfl rfl dX12_whenStuck_156 ?_
        refine m_iconst 4 dX12_whenStuck_157 rfl ?_
        refine m_irem (by decide) dX12_whenStuck_158 ?_
        refine m_topi (show (nI (fg_)) - (nI (fg_)) / 4 * 4 = nI (fg_ % 4) from pk_rem (by omega) (by decide) (by decide)) ?_
        refine m_ifn_ne (fg_ % 4) 166 (by omega) dX12_whenStuck_159 (by decide) (fun c10_ => ?_) (fun c10_ => ?_)
        ·
          refine m_iload_n 2 rfl rfl dX12_whenStuck_166 ?_
          refine m_iconst 4 dX12_whenStuck_167 rfl ?_
          refine m_irem (by decide) dX12_whenStuck_168 ?_
          refine m_topi (show (nI (fg_)) - (nI (fg_)) / 4 * 4 = nI (fg_ % 4) from pk_rem (by omega) (by decide) (by decide)) ?_
          refine m_iconst 1 dX12_whenStuck_169 rfl ?_
          refine m_icmpn_ne (fg_ % 4) 1 177 (by omega) (by decide) dX12_whenStuck_170 (by decide) (fun c11_ => ?_) (fun c11_ => ?_)
          ·
            refine m_iconst 3 dX12_whenStuck_177 rfl ?_
            refine m_iload_n 2 rfl rfl dX12_whenStuck_178 ?_
            refine m_iload_n 3 rfl rfl dX12_whenStuck_179 ?_
            refine m_callVi cv_X12_146 [.int 3, .int (nI (fg_)), .int (nI (c_))] [] (k_m_whenStuck_3 l G fg_ hf c_ hc_ U L hp hs_) (by decide) (ce_4 G _ _ _ _ _ _ _ _ _ _) rfl rfl rfl ⟨Nat.le_of_ble_eq_true rfl, Nat.le_of_ble_eq_true rfl⟩ (Nat.le_of_ble_eq_true rfl) ⟨Nat.zero_le _, Nat.zero_le _⟩ dX12_whenStuck_180 (fun xx σ2 hq => ?_)
            obtain ⟨rfl, V12, rfl, hp2, hf2⟩ := hq
            exact m_iret dX12_whenStuck_183 (Nat.le_refl _) (Nat.le_refl _) (⟨by rw [(show stuckW 6 fg_ U L c_ = (stuckW 3 fg_ U L c_) by simp only [stuckW]; grind)], V12, rfl, by rw [(show stuckW 6 fg_ U L c_ = (stuckW 3 fg_ U L c_) by simp only [stuckW]; grind)]; exact hp2, hf2⟩)
          ·
            refine m_iconst 1 dX12_whenStuck_173 rfl ?_
            refine m_goto 178 dX12_whenStuck_174 (by decide) ?_
            refine m_iload_n 2 rfl rfl dX12_whenStuck_178 ?_
            refine m_iload_n 3 rfl rfl dX12_whenStuck_179 ?_
            refine m_callVi cv_X12_146 [.int 1, .int (nI (fg_)), .int (nI (c_))] [] (k_m_whenStuck_1 l G fg_ hf c_ hc_ U L hp hs_) (by decide) (ce_4 G _ _ _ _ _ _ _ _ _ _) rfl rfl rfl ⟨Nat.le_of_ble_eq_true rfl, Nat.le_of_ble_eq_true rfl⟩ (Nat.le_of_ble_eq_true rfl) ⟨Nat.zero_le _, Nat.zero_le _⟩ dX12_whenStuck_180 (fun xx σ2 hq => ?_)
            obtain ⟨rfl, V13, rfl, hp2, hf2⟩ := hq
            exact m_iret dX12_whenStuck_183 (Nat.le_refl _) (Nat.le_refl _) (⟨by rw [(show stuckW 6 fg_ U L c_ = (stuckW 1 fg_ U L c_) by simp only [stuckW]; grind)], V13, rfl, by rw [(show stuckW 6 fg_ U L c_ = (stuckW 1 fg_ U L c_) by simp only [stuckW]; grind)]; exact hp2, hf2⟩)
        ·
          refine m_iconst 2 dX12_whenStuck_162 rfl ?_
          refine m_goto 178 dX12_whenStuck_163 (by decide) ?_
          refine m_iload_n 2 rfl rfl dX12_whenStuck_178 ?_
          refine m_iload_n 3 rfl rfl dX12_whenStuck_179 ?_
          refine m_callVi cv_X12_146 [.int 2, .int (nI (fg_)), .int (nI (c_))] [] (k_m_whenStuck_2 l G fg_ hf c_ hc_ U L hp hs_) (by decide) (ce_4 G _ _ _ _ _ _ _ _ _ _) rfl rfl rfl ⟨Nat.le_of_ble_eq_true rfl, Nat.le_of_ble_eq_true rfl⟩ (Nat.le_of_ble_eq_true rfl) ⟨Nat.zero_le _, Nat.zero_le _⟩ dX12_whenStuck_180 (fun xx σ2 hq => ?_)
          obtain ⟨rfl, V14, rfl, hp2, hf2⟩ := hq
          exact m_iret dX12_whenStuck_183 (Nat.le_refl _) (Nat.le_refl _) (⟨by rw [(show stuckW 6 fg_ U L c_ = (stuckW 2 fg_ U L c_) by simp only [stuckW]; grind)], V14, rfl, by rw [(show stuckW 6 fg_ U L c_ = (stuckW 2 fg_ U L c_) by simp only [stuckW]; grind)]; exact hp2, hf2⟩)
      ·
        refine m_aload_n 0 rfl rfl dX12_whenStuck_146 ?_
        refine gf_X12_43 dX12_whenStuck_147 ?_
        refine m_iload_n 3 rfl rfl dX12_whenStuck_150 ?_
        refine al_51 c_ rfl (by omega) dX12_whenStuck_151 ?_
        refine m_topi (hp.2.1 c_ hc_) ?_
        refine m_goto 183 dX12_whenStuck_152 (by decide) ?_
        exact m_iret dX12_whenStuck_183 (Nat.le_refl _) (Nat.le_refl _) (⟨by rw [(show stuckW 6 fg_ U L c_ = (L c_, U) by simp only [stuckW]; grind)], V, rfl, by rw [(show stuckW 6 fg_ U L c_ = (L c_, U) by simp only [stuckW]; grind)]; exact hp, zfr_rf⟩)
    ·
      refine m_aload_n 0 rfl rfl dX12_whenStuck_132 ?_
      refine m_iload_n 3 rfl rfl dX12_whenStuck_133 ?_
      refine m_iconst 0 dX12_whenStuck_134 rfl ?_
      refine m_callVi cv_X12_142 [.int (nI (c_)), .int 0] [] (k_m_byBorrowing l G c_ hc_ false U L hp) (by decide) (ce_4 G _ _ _ _ _ _ _ _ _ _) rfl rfl rfl ⟨Nat.le_of_ble_eq_true rfl, Nat.le_of_ble_eq_true rfl⟩ (Nat.le_of_ble_eq_true rfl) ⟨Nat.zero_le _, Nat.zero_le _⟩ dX12_whenStuck_135 (fun xx σ2 hq => ?_)
      obtain ⟨rfl, V15, rfl, hp2, hf2⟩ := hq
      exact m_iret dX12_whenStuck_138 (Nat.le_refl _) (Nat.le_refl _) (⟨by rw [(show stuckW 6 fg_ U L c_ = (byB false U L c_) by simp only [stuckW]; grind)], V15, rfl, by rw [(show stuckW 6 fg_ U L c_ = (byB false U L c_) by simp only [stuckW]; grind)]; exact hp2, hf2⟩)
theorem k_m_whenStuck (l : Launch) (G : owG) {A S Z B T V : owF} {J : Nat → Nat → Int64} {Y : Nat → Nat → Nat → Option Nat} {P : Nat → Option owW} (kd_ : Nat) (hk_ : kd_ < 8) (fg_ : Nat) (hf : fg_ ≤ 9) (c_ : Nat) (hc_ : c_ < 4) (U L : Nat → Nat) (hp : papM V U L) (hs_ : U c_ < L c_) : Ct l G yX12_whenStuck cX12_whenStuck 4 (some .int) 2 0 0 [.ref (gK G 4 0), .int (nI kd_), .int (nI fg_), .int (nI c_)] (A, S, Z, B, T, V, J, Y, P) (qI (fun x_ σ => x_ = nI (stuckW kd_ fg_ U L c_).1 ∧ ∃ V2 : owF, σ = (A, S, Z, B, T, V2, J, Y, P) ∧ papM V2 (stuckW kd_ fg_ U L c_).2 L ∧ zfr 50 V V2)) := by
  match kd_, hk_ with
  | 0, _ => exact k_m_whenStuck_0u l G fg_ hf c_ hc_ U L hp hs_
  | 1, _ => exact k_m_whenStuck_1u l G fg_ hf c_ hc_ U L hp hs_
  | 2, _ => exact k_m_whenStuck_2u l G fg_ hf c_ hc_ U L hp hs_
  | 3, _ => exact k_m_whenStuck_3u l G fg_ hf c_ hc_ U L hp hs_
  | 4, _ => exact k_m_whenStuck_4u l G fg_ hf c_ hc_ U L hp hs_
  | 5, _ => exact k_m_whenStuck_5u l G fg_ hf c_ hc_ U L hp hs_
  | 6, _ => exact k_m_whenStuck_6u l G fg_ hf c_ hc_ U L hp hs_
  | 7, _ => exact k_m_whenStuck_7u l G fg_ hf c_ hc_ U L hp hs_
set_option maxRecDepth 100000 in
set_option maxHeartbeats 4000000 in
theorem k_m_answerOf (l : Launch) (G : owG) {A S Z B T V : owF} {J : Nat → Nat → Int64} {Y : Nat → Nat → Nat → Option Nat} {P : Nat → Option owW} (a_ : owK) (ho_ : aOk a_) (im : Option owK) (h_ : owH) (hM : MR B a_ im h_) (w_ : Nat) (hw1 : w_ < aN a_) (x_ y_ : Nat) (hx_ : x_ ≤ 9999) (hy_ : y_ ≤ x_) : Ct l G yX12_answerOf cX12_answerOf 7 ((some .int)) 3 0 0 [.ref (gK G 4 0), .int (nI (w_)), .int (nI (x_)), .int (nI (y_))] (A, S, Z, B, T, V, J, Y, P) (qI (fun r_ σ => r_ = nI (ansA a_ w_ x_ y_) ∧ ∃ V2 : owF, σ = (A, S, Z, B, T, V2, J, Y, P) ∧ workedM V2 (aK a_ w_) (aF a_ w_) x_ y_)) := by
  refine ct_of (by decide +kernel) (Nat.le_of_ble_eq_true rfl) ?_
  have h10 := ho_.1
  have h8_ := ho_.2.1
  have hX := hM.1
  have hkd := aK_lt ho_ hw1
  have hfg := aF_le ho_ hw1
  show Wm l G cX12_answerOf 7 RX12 ((some .int)) (rmk 3 0 0) (fun _ => True) (QfM G (qI (fun r_ σ => r_ = nI (ansA a_ w_ x_ y_) ∧ ∃ V2 : owF, σ = (A, S, Z, B, T, V2, J, Y, P) ∧ workedM V2 (aK a_ w_) (aF a_ w_) x_ y_)) 0 0) 0 [(0, .ref (gK G 4 0)), (1, .int (nI (w_))), (2, .int (nI (x_))), (3, .int (nI (y_)))] [] (A, S, Z, B, T, V, J, Y, P) 0 0
  refine m_iconst 1 dX12_answerOf_0 rfl ?_
  refine m_istore [(4, .int 1), (0, .ref (gK G 4 0)), (1, .int (nI (w_))), (2, .int (nI (x_))), (3, .int (nI (y_)))] (by decide) rfl dX12_answerOf_1 ?_
  refine m_iconst 0 dX12_answerOf_3 rfl ?_
  refine m_istore [(5, .int 0), (4, .int 1), (0, .ref (gK G 4 0)), (1, .int (nI (w_))), (2, .int (nI (x_))), (3, .int (nI (y_)))] (by decide) rfl dX12_answerOf_4 ?_
  refine m_iload 0 rfl dX12_answerOf_6 ?_
  refine m_iconst 4 dX12_answerOf_8 rfl ?_
  refine m_icmp_ge 53 dX12_answerOf_9 (by decide) (fun c1_ => absurd c1_ (by decide)) (fun _ => ?_)
  refine m_aload_n 2 rfl rfl dX12_answerOf_12 ?_
  refine gf_X12_40 dX12_answerOf_13 ?_
  refine m_iload 0 rfl dX12_answerOf_16 ?_
  refine m_iload_n 4 rfl rfl dX12_answerOf_18 ?_
  refine m_iload 1 rfl dX12_answerOf_19 ?_
  refine m_idiv (by decide) dX12_answerOf_21 ?_
  refine m_topi (show (nI (x_)) / 1 = nI (x_ / 1) from pk_div (by omega) (by decide) (by decide)) ?_
  refine m_bipush (10) dX12_answerOf_22 rfl ?_
  refine m_irem (by decide) dX12_answerOf_24 ?_
  refine m_topi (show (nI (x_ / 1)) - (nI (x_ / 1)) / 10 * 10 = nI ((x_ / 1) % 10) from pk_rem (by omega) (by decide) (by decide)) ?_
  refine as_50 0 rfl (by omega) dX12_answerOf_25 (fun V2 hV2 => ?_)
  refine m_aload_n 2 rfl rfl dX12_answerOf_26 ?_
  refine gf_X12_43 dX12_answerOf_27 ?_
  refine m_iload 0 rfl dX12_answerOf_30 ?_
  refine m_iload_n 5 rfl rfl dX12_answerOf_32 ?_
  refine m_iload 1 rfl dX12_answerOf_33 ?_
  refine m_idiv (by decide) dX12_answerOf_35 ?_
  refine m_topi (show (nI (y_)) / 1 = nI (y_ / 1) from pk_div (by omega) (by decide) (by decide)) ?_
  refine m_bipush (10) dX12_answerOf_36 rfl ?_
  refine m_irem (by decide) dX12_answerOf_38 ?_
  refine m_topi (show (nI (y_ / 1)) - (nI (y_ / 1)) / 10 * 10 = nI ((y_ / 1) % 10) from pk_rem (by omega) (by decide) (by decide)) ?_
  refine as_51 0 rfl (by omega) dX12_answerOf_39 (fun V3 hV3 => ?_)
  refine m_iload 1 rfl dX12_answerOf_40 ?_
  refine m_bipush (10) dX12_answerOf_42 rfl ?_
  refine m_imul dX12_answerOf_44 ?_
  refine m_topi (show (1 : Int32) * 10 = 10 by decide) ?_
  refine m_istore [(4, .int 10), (5, .int 0), (0, .ref (gK G 4 0)), (1, .int (nI (w_))), (2, .int (nI (x_))), (3, .int (nI (y_)))] (by decide) rfl dX12_answerOf_45 ?_
  refine m_iinc (1) 1 [(5, .int 1), (4, .int 10), (0, .ref (gK G 4 0)), (1, .int (nI (w_))), (2, .int (nI (x_))), (3, .int (nI (y_)))] rfl rfl (by decide) rfl dX12_answerOf_47 ?_
  refine m_goto 6 dX12_answerOf_50 (by decide) ?_
  refine m_iload 0 rfl dX12_answerOf_6 ?_
  refine m_iconst 4 dX12_answerOf_8 rfl ?_
  refine m_icmp_ge 53 dX12_answerOf_9 (by decide) (fun c4_ => absurd c4_ (by decide)) (fun _ => ?_)
  refine m_aload_n 2 rfl rfl dX12_answerOf_12 ?_
  refine gf_X12_40 dX12_answerOf_13 ?_
  refine m_iload 0 rfl dX12_answerOf_16 ?_
  refine m_iload_n 4 rfl rfl dX12_answerOf_18 ?_
  refine m_iload 1 rfl dX12_answerOf_19 ?_
  refine m_idiv (by decide) dX12_answerOf_21 ?_
  refine m_topi (show (nI (x_)) / 10 = nI (x_ / 10) from pk_div (by omega) (by decide) (by decide)) ?_
  refine m_bipush (10) dX12_answerOf_22 rfl ?_
  refine m_irem (by decide) dX12_answerOf_24 ?_
  refine m_topi (show (nI (x_ / 10)) - (nI (x_ / 10)) / 10 * 10 = nI ((x_ / 10) % 10) from pk_rem (by omega) (by decide) (by decide)) ?_
  refine as_50 1 rfl (by omega) dX12_answerOf_25 (fun V5 hV5 => ?_)
  refine m_aload_n 2 rfl rfl dX12_answerOf_26 ?_
  refine gf_X12_43 dX12_answerOf_27 ?_
  refine m_iload 0 rfl dX12_answerOf_30 ?_
  refine m_iload_n 5 rfl rfl dX12_answerOf_32 ?_
  refine m_iload 1 rfl dX12_answerOf_33 ?_
  refine m_idiv (by decide) dX12_answerOf_35 ?_
  refine m_topi (show (nI (y_)) / 10 = nI (y_ / 10) from pk_div (by omega) (by decide) (by decide)) ?_
  refine m_bipush (10) dX12_answerOf_36 rfl ?_
  refine m_irem (by decide) dX12_answerOf_38 ?_
  refine m_topi (show (nI (y_ / 10)) - (nI (y_ / 10)) / 10 * 10 = nI ((y_ / 10) % 10) from pk_rem (by omega) (by decide) (by decide)) ?_
  refine as_51 1 rfl (by omega) dX12_answerOf_39 (fun V6 hV6 => ?_)
  refine m_iload 1 rfl dX12_answerOf_40 ?_
  refine m_bipush (10) dX12_answerOf_42 rfl ?_
  refine m_imul dX12_answerOf_44 ?_
  refine m_topi (show (10 : Int32) * 10 = 100 by decide) ?_
  refine m_istore [(4, .int 100), (5, .int 1), (0, .ref (gK G 4 0)), (1, .int (nI (w_))), (2, .int (nI (x_))), (3, .int (nI (y_)))] (by decide) rfl dX12_answerOf_45 ?_
  refine m_iinc (2) 1 [(5, .int 2), (4, .int 100), (0, .ref (gK G 4 0)), (1, .int (nI (w_))), (2, .int (nI (x_))), (3, .int (nI (y_)))] rfl rfl (by decide) rfl dX12_answerOf_47 ?_
  refine m_goto 6 dX12_answerOf_50 (by decide) ?_
  refine m_iload 0 rfl dX12_answerOf_6 ?_
  refine m_iconst 4 dX12_answerOf_8 rfl ?_
  refine m_icmp_ge 53 dX12_answerOf_9 (by decide) (fun c7_ => absurd c7_ (by decide)) (fun _ => ?_)
  refine m_aload_n 2 rfl rfl dX12_answerOf_12 ?_
  refine gf_X12_40 dX12_answerOf_13 ?_
  refine m_iload 0 rfl dX12_answerOf_16 ?_
  refine m_iload_n 4 rfl rfl dX12_answerOf_18 ?_
  refine m_iload 1 rfl dX12_answerOf_19 ?_
  refine m_idiv (by decide) dX12_answerOf_21 ?_
  refine m_topi (show (nI (x_)) / 100 = nI (x_ / 100) from pk_div (by omega) (by decide) (by decide)) ?_
  refine m_bipush (10) dX12_answerOf_22 rfl ?_
  refine m_irem (by decide) dX12_answerOf_24 ?_
  refine m_topi (show (nI (x_ / 100)) - (nI (x_ / 100)) / 10 * 10 = nI ((x_ / 100) % 10) from pk_rem (by omega) (by decide) (by decide)) ?_
  refine as_50 2 rfl (by omega) dX12_answerOf_25 (fun V8 hV8 => ?_)
  refine m_aload_n 2 rfl rfl dX12_answerOf_26 ?_
  refine gf_X12_43 dX12_answerOf_27 ?_
  refine m_iload 0 rfl dX12_answerOf_30 ?_
  refine m_iload_n 5 rfl rfl dX12_answerOf_32 ?_
  refine m_iload 1 rfl dX12_answerOf_33 ?_
  refine m_idiv (by decide) dX12_answerOf_35 ?_
  refine m_topi (show (nI (y_)) / 100 = nI (y_ / 100) from pk_div (by omega) (by decide) (by decide)) ?_
  refine m_bipush (10) dX12_answerOf_36 rfl ?_
  refine m_irem (by decide) dX12_answerOf_38 ?_
  refine m_topi (show (nI (y_ / 100)) - (nI (y_ / 100)) / 10 * 10 = nI ((y_ / 100) % 10) from pk_rem (by omega) (by decide) (by decide)) ?_
  refine as_51 2 rfl (by omega) dX12_answerOf_39 (fun V9 hV9 => ?_)
  refine m_iload 1 rfl dX12_answerOf_40 ?_
  refine m_bipush (10) dX12_answerOf_42 rfl ?_
  refine m_imul dX12_answerOf_44 ?_
  refine m_topi (show (100 : Int32) * 10 = 1000 by decide) ?_
  refine m_istore [(4, .int 1000), (5, .int 2), (0, .ref (gK G 4 0)), (1, .int (nI (w_))), (2, .int (nI (x_))), (3, .int (nI (y_)))] (by decide) rfl dX12_answerOf_45 ?_
  refine m_iinc (3) 1 [(5, .int 3), (4, .int 1000), (0, .ref (gK G 4 0)), (1, .int (nI (w_))), (2, .int (nI (x_))), (3, .int (nI (y_)))] rfl rfl (by decide) rfl dX12_answerOf_47 ?_
  refine m_goto 6 dX12_answerOf_50 (by decide) ?_
  refine m_iload 0 rfl dX12_answerOf_6 ?_
  refine m_iconst 4 dX12_answerOf_8 rfl ?_
  refine m_icmp_ge 53 dX12_answerOf_9 (by decide) (fun c10_ => absurd c10_ (by decide)) (fun _ => ?_)
  refine m_aload_n 2 rfl rfl dX12_answerOf_12 ?_
  refine gf_X12_40 dX12_answerOf_13 ?_
  refine m_iload 0 rfl dX12_answerOf_16 ?_
  refine m_iload_n 4 rfl rfl dX12_answerOf_18 ?_
  refine m_iload 1 rfl dX12_answerOf_19 ?_
  refine m_idiv (by decide) dX12_answerOf_21 ?_
  refine m_topi (show (nI (x_)) / 1000 = nI (x_ / 1000) from pk_div (by omega) (by decide) (by decide)) ?_
  refine m_bipush (10) dX12_answerOf_22 rfl ?_
  refine m_irem (by decide) dX12_answerOf_24 ?_
  refine m_topi (show (nI (x_ / 1000)) - (nI (x_ / 1000)) / 10 * 10 = nI ((x_ / 1000) % 10) from pk_rem (by omega) (by decide) (by decide)) ?_
  refine as_50 3 rfl (by omega) dX12_answerOf_25 (fun V11 hV11 => ?_)
  refine m_aload_n 2 rfl rfl dX12_answerOf_26 ?_
  refine gf_X12_43 dX12_answerOf_27 ?_
  refine m_iload 0 rfl dX12_answerOf_30 ?_
  refine m_iload_n 5 rfl rfl dX12_answerOf_32 ?_
  refine m_iload 1 rfl dX12_answerOf_33 ?_
  refine m_idiv (by decide) dX12_answerOf_35 ?_
  refine m_topi (show (nI (y_)) / 1000 = nI (y_ / 1000) from pk_div (by omega) (by decide) (by decide)) ?_
  refine m_bipush (10) dX12_answerOf_36 rfl ?_
  refine m_irem (by decide) dX12_answerOf_38 ?_
  refine m_topi (show (nI (y_ / 1000)) - (nI (y_ / 1000)) / 10 * 10 = nI ((y_ / 1000) % 10) from pk_rem (by omega) (by decide) (by decide)) ?_
  refine as_51 3 rfl (by omega) dX12_answerOf_39 (fun V12 hV12 => ?_)
  refine m_iload 1 rfl dX12_answerOf_40 ?_
  refine m_bipush (10) dX12_answerOf_42 rfl ?_
  refine m_imul dX12_answerOf_44 ?_
  refine m_topi (show (1000 : Int32) * 10 = 10000 by decide) ?_
  refine m_istore [(4, .int 10000), (5, .int 3), (0, .ref (gK G 4 0)), (1, .int (nI (w_))), (2, .int (nI (x_))), (3, .int (nI (y_)))] (by decide) rfl dX12_answerOf_45 ?_
  refine m_iinc (4) 1 [(5, .int 4), (4, .int 10000), (0, .ref (gK G 4 0)), (1, .int (nI (w_))), (2, .int (nI (x_))), (3, .int (nI (y_)))] rfl rfl (by decide) rfl dX12_answerOf_47 ?_
  refine m_goto 6 dX12_answerOf_50 (by decide) ?_
  refine m_iload 0 rfl dX12_answerOf_6 ?_
  refine m_iconst 4 dX12_answerOf_8 rfl ?_
  refine m_icmp_ge 53 dX12_answerOf_9 (by decide) (fun _ => ?_) (fun c13_ => absurd c13_ (by decide))
  refine m_aload_n 2 rfl rfl dX12_answerOf_53 ?_
  refine m_iconst 0 dX12_answerOf_54 rfl ?_
  refine pf_X12_150 dX12_answerOf_55 (fun V14 hV14 => ?_)
  refine m_iconst 0 dX12_answerOf_58 rfl ?_
  refine m_istore [(5, .int 0), (4, .int 10000), (0, .ref (gK G 4 0)), (1, .int (nI (w_))), (2, .int (nI (x_))), (3, .int (nI (y_)))] (by decide) rfl dX12_answerOf_59 ?_
  refine m_iconst 1 dX12_answerOf_61 rfl ?_
  refine m_istore [(4, .int 1), (5, .int 0), (0, .ref (gK G 4 0)), (1, .int (nI (w_))), (2, .int (nI (x_))), (3, .int (nI (y_)))] (by decide) rfl dX12_answerOf_62 ?_
  refine m_iconst 0 dX12_answerOf_64 rfl ?_
  refine m_istore [(6, .int 0), (4, .int 1), (5, .int 0), (0, .ref (gK G 4 0)), (1, .int (nI (w_))), (2, .int (nI (x_))), (3, .int (nI (y_)))] (by decide) rfl dX12_answerOf_65 ?_
  have lp67 : ∀ (dd : Nat) (k_ : Nat) (V9 : owF), k_ ≤ 4 → papM V9 (runU (aK a_ w_) (aF a_ w_) x_ y_ k_) (dg y_) → (∀ j_, j_ < k_ → V9 52 0 j_ = nI (wrW (aK a_ w_) (aF a_ w_) x_ y_ j_)) → V9 4 0 19 = stkI (aK a_ w_) (aF a_ w_) x_ y_ k_ → 4 - k_ < dd → Wm l G cX12_answerOf 7 RX12 ((some .int)) (rmk 3 0 0) (fun _ => True) (QfM G (qI (fun r_ σ => r_ = nI (ansA a_ w_ x_ y_) ∧ ∃ V2 : owF, σ = (A, S, Z, B, T, V2, J, Y, P) ∧ workedM V2 (aK a_ w_) (aF a_ w_) x_ y_)) 0 0) 67 [(0, .ref (gK G 4 0)), (1, .int (nI (w_))), (2, .int (nI (x_))), (3, .int (nI (y_))), (4, .int (nI (10 ^ k_))), (5, .int (nI (ansN (aK a_ w_) (aF a_ w_) x_ y_ k_))), (6, .int (nI (k_)))] [] (A, S, Z, B, T, V9, J, Y, P) 0 0 := by
    intro dd
    induction dd with
    | zero => intro k_ V9 hk_ hp hw_ hst hdd; exact absurd hdd (Nat.not_lt_zero _)
    | succ dd ih67 =>
      intro k_ V9 hk_ hp hw_ hst hdd67
      refine m_iload 6 rfl dX12_answerOf_67 ?_
      refine m_iconst 4 dX12_answerOf_69 rfl ?_
      refine m_icmpn_ge k_ 4 181 (by omega) (by decide) dX12_answerOf_70 (by decide) (fun c15_ => ?_) (fun c15_ => ?_)
      ·
        refine m_iload 5 rfl dX12_answerOf_181 ?_
        exact m_iret dX12_answerOf_183 (Nat.le_refl _) (Nat.le_refl _) ((by obtain rfl : k_ = 4 := (by omega); exact ⟨rfl, V9, rfl, hw_, hst⟩))
      ·
        have hlt := c15_
        have hu9 := runU_le (aK a_ w_) (aF a_ w_) x_ y_ k_ k_ hlt
        have hd9 := dg_le y_ k_
        refine m_aload_n 0 rfl rfl dX12_answerOf_73 ?_
        refine gf_X12_43 dX12_answerOf_74 ?_
        refine m_iload 6 rfl dX12_answerOf_77 ?_
        refine al_51 k_ rfl (by omega) dX12_answerOf_79 ?_
        refine m_topi (hp.2.1 k_ hlt) ?_
        refine m_aload_n 0 rfl rfl dX12_answerOf_80 ?_
        refine gf_X12_40 dX12_answerOf_81 ?_
        refine m_iload 6 rfl dX12_answerOf_84 ?_
        refine al_50 k_ rfl (by omega) dX12_answerOf_86 ?_
        refine m_topi (hp.1 k_ hlt) ?_
        refine m_icmpn_gt (dg y_ k_) (runU (aK a_ w_) (aF a_ w_) x_ y_ k_ k_) 115 (by omega) (by omega) dX12_answerOf_87 (by decide) (fun c16_ => ?_) (fun c16_ => ?_)
        ·
          have hs_ := c16_
          refine m_aload_n 0 rfl rfl dX12_answerOf_115 ?_
          refine m_dup rfl dX12_answerOf_116 ?_
          refine gf_X12_150 dX12_answerOf_117 ?_
          refine m_topi hst ?_
          refine m_iconst 1 dX12_answerOf_120 rfl ?_
          refine m_iload 6 rfl dX12_answerOf_121 ?_
          refine m_ishl dX12_answerOf_123 ?_
          refine m_ior dX12_answerOf_124 ?_
          refine pf_X12_150 dX12_answerOf_125 (fun V17 hV17 => ?_)
          refine m_aload_n 0 rfl rfl dX12_answerOf_128 ?_
          refine gf_X12_46 dX12_answerOf_129 ?_
          refine m_iload 6 rfl dX12_answerOf_132 ?_
          refine m_aload_n 0 rfl rfl dX12_answerOf_134 ?_
          refine m_aload_n 0 rfl rfl dX12_answerOf_135 ?_
          refine m_iload_n 1 rfl rfl dX12_answerOf_136 ?_
          refine m_iconst 0 dX12_answerOf_137 rfl ?_
          refine m_callVi cv_X12_119 [.int (nI (w_)), .int 0] [.ref (gK G 4 0), .int (nI (k_)), .ref (gK G 52 0)] (k_m_get l G a_ ho_ im h_ hM w_ hw1 0 (by decide)) (by decide) (ce_4 G _ _ _ _ _ _ _ _ _ _) rfl rfl rfl ⟨Nat.le_of_ble_eq_true rfl, Nat.le_of_ble_eq_true rfl⟩ (Nat.le_of_ble_eq_true rfl) ⟨Nat.zero_le _, Nat.zero_le _⟩ dX12_answerOf_138 (fun xx σ2 hq => ?_)
          obtain ⟨hgx, rfl⟩ := hq
          obtain rfl : xx = nI (aK a_ w_) := hgx
          have hx18 := aK_lt ho_ (w := w_) hw1
          refine m_aload_n 0 rfl rfl dX12_answerOf_141 ?_
          refine m_iload_n 1 rfl rfl dX12_answerOf_142 ?_
          refine m_iconst 1 dX12_answerOf_143 rfl ?_
          refine m_callVi cv_X12_119 [.int (nI (w_)), .int 1] [.int (nI (aK a_ w_)), .ref (gK G 4 0), .int (nI (k_)), .ref (gK G 52 0)] (k_m_get l G a_ ho_ im h_ hM w_ hw1 1 (by decide)) (by decide) (ce_4 G _ _ _ _ _ _ _ _ _ _) rfl rfl rfl ⟨Nat.le_of_ble_eq_true rfl, Nat.le_of_ble_eq_true rfl⟩ (Nat.le_of_ble_eq_true rfl) ⟨Nat.zero_le _, Nat.zero_le _⟩ dX12_answerOf_144 (fun xx σ2 hq => ?_)
          obtain ⟨hgx, rfl⟩ := hq
          obtain rfl : xx = nI (aF a_ w_) := hgx
          have hx19 := aF_le ho_ (w := w_) hw1
          refine m_iload 6 rfl dX12_answerOf_147 ?_
          refine m_callVi cv_X12_146 [.int (nI (aK a_ w_)), .int (nI (aF a_ w_)), .int (nI (k_))] [.int (nI (k_)), .ref (gK G 52 0)] (k_m_whenStuck l G (aK a_ w_) (by omega) (aF a_ w_) (by omega) k_ hlt (runU (aK a_ w_) (aF a_ w_) x_ y_ k_) (dg y_) (papM_up hp (by decide) (by decide) hV17) hs_) (by decide) (ce_4 G _ _ _ _ _ _ _ _ _ _) rfl rfl rfl ⟨Nat.le_of_ble_eq_true rfl, Nat.le_of_ble_eq_true rfl⟩ (Nat.le_of_ble_eq_true rfl) ⟨Nat.zero_le _, Nat.zero_le _⟩ dX12_answerOf_149 (fun xx σ2 hq => ?_)
          obtain ⟨rfl, V20, rfl, hpV20, hfV20⟩ := hq
          refine as_52 k_ rfl (by omega) dX12_answerOf_152 (fun V21 hV21 => ?_)
          refine m_iload 5 rfl dX12_answerOf_153 ?_
          refine m_iload 4 rfl dX12_answerOf_155 ?_
          refine m_aload_n 0 rfl rfl dX12_answerOf_157 ?_
          refine gf_X12_46 dX12_answerOf_158 ?_
          refine m_iload 6 rfl dX12_answerOf_161 ?_
          refine al_52 k_ rfl (by omega) dX12_answerOf_163 ?_
          refine m_topi ((up3_e hV21).trans (congrArg nI (wrW_st hs_))) ?_
          refine m_imul dX12_answerOf_164 ?_
          refine m_topi (show (nI (10 ^ k_)) * (nI (wrW (aK a_ w_) (aF a_ w_) x_ y_ k_)) = nI ((10 ^ k_) * (wrW (aK a_ w_) (aF a_ w_) x_ y_ k_)) from pk_mul _ _) ?_
          refine m_iadd dX12_answerOf_165 ?_
          refine m_topi (show (nI (ansN (aK a_ w_) (aF a_ w_) x_ y_ k_)) + (nI ((10 ^ k_) * (wrW (aK a_ w_) (aF a_ w_) x_ y_ k_))) = nI ((ansN (aK a_ w_) (aF a_ w_) x_ y_ k_) + ((10 ^ k_) * (wrW (aK a_ w_) (aF a_ w_) x_ y_ k_))) from nI_add _ _) ?_
          refine m_istore [(5, .int (nI ((ansN (aK a_ w_) (aF a_ w_) x_ y_ k_) + ((10 ^ k_) * (wrW (aK a_ w_) (aF a_ w_) x_ y_ k_))))), (0, .ref (gK G 4 0)), (1, .int (nI (w_))), (2, .int (nI (x_))), (3, .int (nI (y_))), (4, .int (nI (10 ^ k_))), (6, .int (nI (k_)))] (by decide) rfl dX12_answerOf_166 ?_
          refine m_iload 5 rfl dX12_answerOf_168 ?_
          refine m_bipush (10) dX12_answerOf_170 rfl ?_
          refine m_imul dX12_answerOf_172 ?_
          refine m_topi (show (nI (10 ^ k_)) * 10 = nI ((10 ^ k_) * 10) from pk_mul _ _) ?_
          refine m_istore [(4, .int (nI ((10 ^ k_) * 10))), (5, .int (nI ((ansN (aK a_ w_) (aF a_ w_) x_ y_ k_) + ((10 ^ k_) * (wrW (aK a_ w_) (aF a_ w_) x_ y_ k_))))), (0, .ref (gK G 4 0)), (1, .int (nI (w_))), (2, .int (nI (x_))), (3, .int (nI (y_))), (6, .int (nI (k_)))] (by decide) rfl dX12_answerOf_173 ?_
          refine m_iinc (nI (k_ + 1)) 6 [(6, .int (nI (k_ + 1))), (4, .int (nI ((10 ^ k_) * 10))), (5, .int (nI ((ansN (aK a_ w_) (aF a_ w_) x_ y_ k_) + ((10 ^ k_) * (wrW (aK a_ w_) (aF a_ w_) x_ y_ k_))))), (0, .ref (gK G 4 0)), (1, .int (nI (w_))), (2, .int (nI (x_))), (3, .int (nI (y_)))] rfl (nI_1 _) (by decide) rfl dX12_answerOf_175 ?_
          refine m_goto 67 dX12_answerOf_178 (by decide) ?_
          refine m_lv [(0, .ref (gK G 4 0)), (1, .int (nI (w_))), (2, .int (nI (x_))), (3, .int (nI (y_))), (4, .int (nI ((10 ^ k_) * 10))), (5, .int (nI ((ansN (aK a_ w_) (aF a_ w_) x_ y_ k_) + ((10 ^ k_) * (wrW (aK a_ w_) (aF a_ w_) x_ y_ k_))))), (6, .int (nI (k_ + 1)))] [3, 4, 5, 6, 1, 2, 0] rfl ?_
          rw [Nat.mul_comm (10 ^ k_) (wrW (aK a_ w_) (aF a_ w_) x_ y_ k_)]
          exact ih67 (k_ + 1) V21 (by omega) (by have q_ := (papM_up hpV20 (by decide) (by decide) hV21); rw [runU_st hs_] at q_; exact q_) (fun j_ hj => by rcases Nat.lt_or_ge j_ k_ with q_ | q_; exact (up3_j hV21 (by omega) ((hfV20 _ _ _ (by decide)).trans (up3_t hV17 (by decide) (hw_ j_ q_)))); obtain rfl : k_ = j_ := (by omega); exact ((up3_e hV21).trans (congrArg nI (wrW_st hs_)))) (up3_t hV21 (by decide) ((hfV20 _ _ _ (by decide)).trans ((up3_e hV17).trans (stkI_st hs_)))) (by omega)
        ·
          have hns := c16_
          refine m_aload_n 0 rfl rfl dX12_answerOf_90 ?_
          refine gf_X12_46 dX12_answerOf_91 ?_
          refine m_iload 6 rfl dX12_answerOf_94 ?_
          refine m_aload_n 0 rfl rfl dX12_answerOf_96 ?_
          refine gf_X12_40 dX12_answerOf_97 ?_
          refine m_iload 6 rfl dX12_answerOf_100 ?_
          refine al_50 k_ rfl (by omega) dX12_answerOf_102 ?_
          refine m_topi (hp.1 k_ hlt) ?_
          refine m_aload_n 0 rfl rfl dX12_answerOf_103 ?_
          refine gf_X12_43 dX12_answerOf_104 ?_
          refine m_iload 6 rfl dX12_answerOf_107 ?_
          refine al_51 k_ rfl (by omega) dX12_answerOf_109 ?_
          refine m_topi (hp.2.1 k_ hlt) ?_
          refine m_isub dX12_answerOf_110 ?_
          refine m_topi ((show (nI (runU (aK a_ w_) (aF a_ w_) x_ y_ k_ k_)) - (nI (dg y_ k_)) = nI ((runU (aK a_ w_) (aF a_ w_) x_ y_ k_ k_) - (dg y_ k_)) from pk_sub (by omega))) ?_
          refine as_52 k_ rfl (by omega) dX12_answerOf_111 (fun V22 hV22 => ?_)
          refine m_goto 153 dX12_answerOf_112 (by decide) ?_
          refine m_iload 5 rfl dX12_answerOf_153 ?_
          refine m_iload 4 rfl dX12_answerOf_155 ?_
          refine m_aload_n 0 rfl rfl dX12_answerOf_157 ?_
          refine gf_X12_46 dX12_answerOf_158 ?_
          refine m_iload 6 rfl dX12_answerOf_161 ?_
          refine al_52 k_ rfl (by omega) dX12_answerOf_163 ?_
          refine m_topi ((up3_e hV22).trans (congrArg nI (wrW_ns hns))) ?_
          refine m_imul dX12_answerOf_164 ?_
          refine m_topi (show (nI (10 ^ k_)) * (nI (wrW (aK a_ w_) (aF a_ w_) x_ y_ k_)) = nI ((10 ^ k_) * (wrW (aK a_ w_) (aF a_ w_) x_ y_ k_)) from pk_mul _ _) ?_
          refine m_iadd dX12_answerOf_165 ?_
          refine m_topi (show (nI (ansN (aK a_ w_) (aF a_ w_) x_ y_ k_)) + (nI ((10 ^ k_) * (wrW (aK a_ w_) (aF a_ w_) x_ y_ k_))) = nI ((ansN (aK a_ w_) (aF a_ w_) x_ y_ k_) + ((10 ^ k_) * (wrW (aK a_ w_) (aF a_ w_) x_ y_ k_))) from nI_add _ _) ?_
          refine m_istore [(5, .int (nI ((ansN (aK a_ w_) (aF a_ w_) x_ y_ k_) + ((10 ^ k_) * (wrW (aK a_ w_) (aF a_ w_) x_ y_ k_))))), (0, .ref (gK G 4 0)), (1, .int (nI (w_))), (2, .int (nI (x_))), (3, .int (nI (y_))), (4, .int (nI (10 ^ k_))), (6, .int (nI (k_)))] (by decide) rfl dX12_answerOf_166 ?_
          refine m_iload 5 rfl dX12_answerOf_168 ?_
          refine m_bipush (10) dX12_answerOf_170 rfl ?_
          refine m_imul dX12_answerOf_172 ?_
          refine m_topi (show (nI (10 ^ k_)) * 10 = nI ((10 ^ k_) * 10) from pk_mul _ _) ?_
          refine m_istore [(4, .int (nI ((10 ^ k_) * 10))), (5, .int (nI ((ansN (aK a_ w_) (aF a_ w_) x_ y_ k_) + ((10 ^ k_) * (wrW (aK a_ w_) (aF a_ w_) x_ y_ k_))))), (0, .ref (gK G 4 0)), (1, .int (nI (w_))), (2, .int (nI (x_))), (3, .int (nI (y_))), (6, .int (nI (k_)))] (by decide) rfl dX12_answerOf_173 ?_
          refine m_iinc (nI (k_ + 1)) 6 [(6, .int (nI (k_ + 1))), (4, .int (nI ((10 ^ k_) * 10))), (5, .int (nI ((ansN (aK a_ w_) (aF a_ w_) x_ y_ k_) + ((10 ^ k_) * (wrW (aK a_ w_) (aF a_ w_) x_ y_ k_))))), (0, .ref (gK G 4 0)), (1, .int (nI (w_))), (2, .int (nI (x_))), (3, .int (nI (y_)))] rfl (nI_1 _) (by decide) rfl dX12_answerOf_175 ?_
          refine m_goto 67 dX12_answerOf_178 (by decide) ?_
          refine m_lv [(0, .ref (gK G 4 0)), (1, .int (nI (w_))), (2, .int (nI (x_))), (3, .int (nI (y_))), (4, .int (nI ((10 ^ k_) * 10))), (5, .int (nI ((ansN (aK a_ w_) (aF a_ w_) x_ y_ k_) + ((10 ^ k_) * (wrW (aK a_ w_) (aF a_ w_) x_ y_ k_))))), (6, .int (nI (k_ + 1)))] [3, 4, 5, 6, 1, 2, 0] rfl ?_
          rw [Nat.mul_comm (10 ^ k_) (wrW (aK a_ w_) (aF a_ w_) x_ y_ k_)]
          exact ih67 (k_ + 1) V22 (by omega) (by have q_ := (papM_up hp (by decide) (by decide) hV22); rw [runU_ns hns] at q_; exact q_) (fun j_ hj => by rcases Nat.lt_or_ge j_ k_ with q_ | q_; exact (up3_j hV22 (by omega) (hw_ j_ q_)); obtain rfl : k_ = j_ := (by omega); exact ((up3_e hV22).trans (congrArg nI (wrW_ns hns)))) (up3_t hV22 (by decide) (hst.trans (stkI_ns hns))) (by omega)
  refine m_lv [(0, .ref (gK G 4 0)), (1, .int (nI (w_))), (2, .int (nI (x_))), (3, .int (nI (y_))), (4, .int 1), (5, .int 0), (6, .int 0)] [3, 4, 5, 6, 1, 2, 0] rfl ?_
  exact lp67 ((4 - 0) + 1) 0 V14 (by omega) ⟨lt4 (p := fun j_ => V14 50 0 j_ = nI (dg x_ j_)) ((up3_t hV14 (by decide) (up3_t hV12 (by decide) (up3_j hV11 (by decide) (up3_t hV9 (by decide) (up3_j hV8 (by decide) (up3_t hV6 (by decide) (up3_j hV5 (by decide) (up3_t hV3 (by decide) (up3_e hV2))))))))).trans (congrArg nI (show (x_ / 1) % 10 = dg x_ 0 by (simp only [dg]) <;> omega))) ((up3_t hV14 (by decide) (up3_t hV12 (by decide) (up3_j hV11 (by decide) (up3_t hV9 (by decide) (up3_j hV8 (by decide) (up3_t hV6 (by decide) (up3_e hV5))))))).trans (congrArg nI (show (x_ / 10) % 10 = dg x_ 1 by (simp only [dg]) <;> omega))) ((up3_t hV14 (by decide) (up3_t hV12 (by decide) (up3_j hV11 (by decide) (up3_t hV9 (by decide) (up3_e hV8))))).trans (congrArg nI (show (x_ / 100) % 10 = dg x_ 2 by (simp only [dg]) <;> omega))) ((up3_t hV14 (by decide) (up3_t hV12 (by decide) (up3_e hV11))).trans (congrArg nI (show (x_ / 1000) % 10 = dg x_ 3 by (simp only [dg]) <;> omega))), lt4 (p := fun j_ => V14 51 0 j_ = nI (dg y_ j_)) ((up3_t hV14 (by decide) (up3_j hV12 (by decide) (up3_t hV11 (by decide) (up3_j hV9 (by decide) (up3_t hV8 (by decide) (up3_j hV6 (by decide) (up3_t hV5 (by decide) (up3_e hV3)))))))).trans (congrArg nI (show (y_ / 1) % 10 = dg y_ 0 by (simp only [dg]) <;> omega))) ((up3_t hV14 (by decide) (up3_j hV12 (by decide) (up3_t hV11 (by decide) (up3_j hV9 (by decide) (up3_t hV8 (by decide) (up3_e hV6)))))).trans (congrArg nI (show (y_ / 10) % 10 = dg y_ 1 by (simp only [dg]) <;> omega))) ((up3_t hV14 (by decide) (up3_j hV12 (by decide) (up3_t hV11 (by decide) (up3_e hV9)))).trans (congrArg nI (show (y_ / 100) % 10 = dg y_ 2 by (simp only [dg]) <;> omega))) ((up3_t hV14 (by decide) (up3_e hV12)).trans (congrArg nI (show (y_ / 1000) % 10 = dg y_ 3 by (simp only [dg]) <;> omega))), fun j_ hj => dg_le x_ j_, fun j_ hj => dg_le y_ j_⟩ (fun j_ hj => absurd hj (Nat.not_lt_zero j_)) (up3_e hV14) (Nat.lt_succ_self _)
