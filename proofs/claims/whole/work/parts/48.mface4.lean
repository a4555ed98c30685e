/-! what the model writes -/
theorem MR.st {B B2 : owF} {a a2 : owK} {im : Option owK} {h : owH} (hM : MR B a im h) (hf : ∀ t j, t ≠ 40 → B2 t 0 j = B t 0 j) (hx : MX (B2 40 0) a2) : MR B2 a2 im h := by
  have e : ∀ t, t ≠ 40 → B2 t 0 = B t 0 := fun t ht => funext fun j => hf t j ht
  refine ⟨hx, by rw [e 4 (by decide)]; exact hM.2.1, fun b hb => by rw [e 41 (by decide)]; exact hM.2.2.1 b hb, fun d hd => ?_⟩
  have q := hM.2.2.2 d hd
  unfold MS at q ⊢
  rw [e 43 (by decide), e 44 (by decide), e 45 (by decide), e 46 (by decide), e 47 (by decide), e 48 (by decide)]
  exact q
theorem MX.setS {f f2 : Nat → Int32} {a : owK} {c n : Nat} (ho : aOk a) (hc : c < aC a) (h : MX f a) (e : ∀ j, f2 j = if j = (32 + (3 * c)) + 1 then nI n else f j) : MX f2 (setS a c n) := by
  have h10 := ho.1
  have h8 := ho.2.1
  refine ⟨by rw [e, if_neg (by omega)]; exact h.1, by rw [e, if_neg (by omega)]; exact h.2.1, fun w hw k hk => ?_, fun c2 hc2 k hk => ?_, fun k w hk hw => by rw [e, if_neg (by omega)]; exact h.2.2.2.2 k w hk hw⟩
  · have hw' : w < aN a := hw
    rw [e, if_neg (by omega)]
    exact h.2.2.1 w hw' k hk
  · have hc2' : c2 < aC a := hc2
    rw [e]
    have q := h.2.2.2.1 c2 hc2' k hk
    by_cases h2 : c2 = c
    · subst h2
      rcases (show k = 0 ∨ k = 1 ∨ k = 2 by omega) with z | z | z <;> subst z
      · rw [if_neg (by omega)]
        refine q.trans (congrArg nI ?_)
        show (a.2.2.2.1 c2).1 = (if c2 = c2 then (aH a c2, n, aI a c2) else a.2.2.2.1 c2).1
        rw [if_pos rfl]; rfl
      · rw [if_pos rfl]
        refine congrArg nI ?_
        show n = (if c2 = c2 then (aH a c2, n, aI a c2) else a.2.2.2.1 c2).2.1
        rw [if_pos rfl]
      · rw [if_neg (by omega)]
        refine q.trans (congrArg nI ?_)
        show (a.2.2.2.1 c2).2.2 = (if c2 = c2 then (aH a c2, n, aI a c2) else a.2.2.2.1 c2).2.2
        rw [if_pos rfl]; rfl
    · rw [if_neg (by omega)]
      refine q.trans (congrArg nI ?_)
      unfold mO aH aS aI
      show _ = (if k = 0 then (if c2 = c then (aH a c2, n, aI a c2) else a.2.2.2.1 c2).1 else if k = 1 then (if c2 = c then (aH a c2, n, aI a c2) else a.2.2.2.1 c2).2.1 else (if c2 = c then (aH a c2, n, aI a c2) else a.2.2.2.1 c2).2.2)
      rw [if_neg h2]
theorem MX.setH {f f2 : Nat → Int32} {a : owK} {c n : Nat} (ho : aOk a) (hc : c < aC a) (h : MX f a) (e : ∀ j, f2 j = if j = 32 + (3 * c) then nI n else f j) : MX f2 (setH a c n) := by
  have h10 := ho.1
  have h8 := ho.2.1
  refine ⟨by rw [e, if_neg (by omega)]; exact h.1, by rw [e, if_neg (by omega)]; exact h.2.1, fun w hw k hk => ?_, fun c2 hc2 k hk => ?_, fun k w hk hw => by rw [e, if_neg (by omega)]; exact h.2.2.2.2 k w hk hw⟩
  · have hw' : w < aN a := hw
    rw [e, if_neg (by omega)]
    exact h.2.2.1 w hw' k hk
  · have hc2' : c2 < aC a := hc2
    rw [e]
    have q := h.2.2.2.1 c2 hc2' k hk
    by_cases h2 : c2 = c
    · subst h2
      rcases (show k = 0 ∨ k = 1 ∨ k = 2 by omega) with z | z | z <;> subst z
      · rw [if_pos (by omega)]
        refine congrArg nI ?_
        show n = (if c2 = c2 then (n, aS a c2, aI a c2) else a.2.2.2.1 c2).1
        rw [if_pos rfl]
      · rw [if_neg (by omega)]
        refine q.trans (congrArg nI ?_)
        show (a.2.2.2.1 c2).2.1 = (if c2 = c2 then (n, aS a c2, aI a c2) else a.2.2.2.1 c2).2.1
        rw [if_pos rfl]; rfl
      · rw [if_neg (by omega)]
        refine q.trans (congrArg nI ?_)
        show (a.2.2.2.1 c2).2.2 = (if c2 = c2 then (n, aS a c2, aI a c2) else a.2.2.2.1 c2).2.2
        rw [if_pos rfl]; rfl
    · rw [if_neg (by omega)]
      refine q.trans (congrArg nI ?_)
      unfold mO aH aS aI
      show _ = (if k = 0 then (if c2 = c then (n, aS a c2, aI a c2) else a.2.2.2.1 c2).1 else if k = 1 then (if c2 = c then (n, aS a c2, aI a c2) else a.2.2.2.1 c2).2.1 else (if c2 = c then (n, aS a c2, aI a c2) else a.2.2.2.1 c2).2.2)
      rw [if_neg h2]
/-- nothing but shelf d has changed in the model -/
def bsh (d : Nat) (B B2 : owF) : Prop := ∀ t j, ¬ ((t = 43 ∨ t = 44 ∨ t = 45 ∨ t = 47 ∨ t = 48) ∧ j = d) → ¬ (t = 46 ∧ 100 * d ≤ j ∧ j < 100 * d + 100) → B2 t 0 j = B t 0 j
theorem bsh_rf {d : Nat} {B : owF} : bsh d B B := fun _ _ _ _ => rfl
theorem bsh_up {d t j : Nat} {v : Int32} {B B2 B3 : owF} (h : bsh d B B2) (e : B3 = up3 B2 t 0 j v) (hc : ((t = 43 ∨ t = 44 ∨ t = 45 ∨ t = 47 ∨ t = 48) ∧ j = d) ∨ (t = 46 ∧ 100 * d ≤ j ∧ j < 100 * d + 100)) : bsh d B B3 := fun t2 j2 h1 h2 => by
  rw [← h t2 j2 h1 h2, e]
  refine if_neg (fun q => ?_)
  obtain ⟨q1, -, q3⟩ := q
  subst q1; subst q3
  rcases hc with z | z
  · exact h1 z
  · exact h2 z
theorem MR.shelf {B B2 : owF} {a : owK} {im : Option owK} {h h2 : owH} {d : Nat} (hM : MR B a im h) (hb : bsh d B B2) (hs : MS B2 h2 d) (hk : ∀ k, k ≠ d → h2 k = h k) : MR B2 a im h2 := by
  have e : ∀ t, t < 43 → B2 t 0 = B t 0 := fun t ht => funext fun j => hb t j (fun q => by omega) (fun q => by omega)
  refine ⟨by rw [e 40 (by decide)]; exact hM.1, by rw [e 4 (by decide)]; exact hM.2.1, fun b hb2 => by rw [e 41 (by decide)]; exact hM.2.2.1 b hb2, fun k hk8 => ?_⟩
  by_cases hd : k = d
  · subst hd; exact hs
  · have q := hM.2.2.2 k hk8
    have e2 := hk k hd
    have f1 : hK h2 k = hK h k := congrArg (fun q => q.1) e2
    have f2 : hSo h2 k = hSo h k := congrArg (fun q => q.2.1) e2
    have f3 : hN h2 k = hN h k := congrArg (fun q => q.2.2.1) e2
    have f4 : hE h2 k = hE h k := congrArg (fun q => q.2.2.2.1) e2
    have f5 : hW h2 k = hW h k := congrArg (fun q => q.2.2.2.2.1) e2
    have f6 : hn h2 k = hn h k := congrArg (fun q => q.2.2.2.2.2.1) e2
    have f7 : hf h2 k = hf h k := congrArg (fun q => q.2.2.2.2.2.2) e2
    have g : ∀ t, (t = 43 ∨ t = 44 ∨ t = 45 ∨ t = 47 ∨ t = 48) → B2 t 0 k = B t 0 k := fun t ht => hb t k (fun z => hd z.2) (fun z => by omega)
    unfold MS at q ⊢
    rw [f1, f2, f3, f4, f5, f6, f7, g 43 (by decide), g 44 (by decide), g 45 (by decide), g 47 (by decide), g 48 (by decide)]
    refine ⟨q.1, q.2.1, fun z => ?_, q.2.2.2⟩
    obtain ⟨r1, r2, r3, r4, r5⟩ := q.2.2.1 z
    exact ⟨r1, r2, r3, r4, fun j hj => by rw [hb 46 (100 * k + j) (fun w => by omega) (fun w => by omega)]; exact r5 j hj⟩
theorem MS.emp {B : owF} {h : owH} {d : Nat} {t : Nat × Nat × Nat × (Nat → Int32) × Nat × Nat × Nat} (e : h d = t) (h0 : t.1 = 0) (h43 : B 43 0 d = 0) : MS B h d := by
  have f1 : hK h d = 0 := (congrArg (fun q => q.1) e).trans h0
  unfold MS
  rw [f1]
  exact ⟨by decide, h43, fun q => absurd q (by decide), fun q => absurd q (by decide)⟩
theorem MS.wayy {B : owF} {h : owH} {d kd n fg : Nat} {f : Nat → Int32} {x y : Nat} (e : h d = (1, x, y, f, kd, n, fg)) (h43 : B 43 0 d = 1) (h47 : B 47 0 d = nI (costW kd fg)) (h48 : B 48 0 d = tossI kd n fg) : MS B h d := by
  have f1 : hK h d = 1 := congrArg (fun q => q.1) e
  have f5 : hW h d = kd := congrArg (fun q => q.2.2.2.2.1) e
  have f6 : hn h d = n := congrArg (fun q => q.2.2.2.2.2.1) e
  have f7 : hf h d = fg := congrArg (fun q => q.2.2.2.2.2.2) e
  unfold MS
  rw [f1, f5, f6, f7]
  exact ⟨by decide, h43, fun q => absurd q (by decide), fun _ => ⟨h47, h48⟩⟩
theorem MS.roww {B : owF} {h : owH} {d so n : Nat} {f : Nat → Int32} {x : Nat × Nat × Nat} (e : h d = (2, so, n, f, x)) (hso : so ≤ 2) (hn : n ≤ 100) (h43 : B 43 0 d = 2) (h44 : B 44 0 d = nI so) (h45 : B 45 0 d = nI n) (h46 : ∀ j, j < 100 → B 46 0 (100 * d + j) = f j) : MS B h d := by
  have f1 : hK h d = 2 := congrArg (fun q => q.1) e
  have f2 : hSo h d = so := congrArg (fun q => q.2.1) e
  have f3 : hN h d = n := congrArg (fun q => q.2.2.1) e
  have f4 : hE h d = f := congrArg (fun q => q.2.2.2.1) e
  unfold MS
  rw [f1, f2, f3, f4]
  exact ⟨by decide, h43, fun _ => ⟨h44, hso, h45, hn, h46⟩, fun q => absurd q (by decide)⟩
theorem sm_tail {f : Nat → Nat} {i : Nat} (h : ∀ j, i ≤ j → f j = 0) : ∀ n, i ≤ n → smN f n = smN f i
  | 0, hn => by rw [Nat.le_zero.mp hn]
  | n + 1, hn => by
    rcases Nat.lt_or_ge i (n + 1) with q | q
    · show smN f n + f n = _
      rw [h n (by omega), sm_tail h n (by omega), Nat.add_zero]
    · rw [show i = n + 1 by omega]
theorem bcN_end {m i : Nat} (hi : i ≤ 10) (h : m / 2 ^ i = 0) : smN (fun i => m / 2 ^ i % 2) i = bcN m := by
  unfold bcN
  refine (sm_tail (fun j hj => ?_) 10 hi).symm
  have h2 : 2 ^ i ≤ 2 ^ j := Nat.pow_le_pow_right (by decide) hj
  have h3 : m < 2 ^ i := (Nat.div_eq_zero_iff.mp h).resolve_left (by have := Nat.two_pow_pos i; omega)
  rw [Nat.div_eq_of_lt (by omega)]
def elT (h : owH) (x i : Int32) : Int32 := if isD x = true then (if rowRef h x.toNatClampNeg = 0 ∧ placeB h x.toNatClampNeg i = true then 0 else 2) else 1
def elV (h : owH) (x i : Int32) : Int64 := if elT h x i = 0 then (hE h x.toNatClampNeg i.toNatClampNeg).toInt64 else 0
theorem inB_P {h : owH} {d : Nat} {x : Int32} (hn : hN h d ≤ 100) : inB x 0 (nI (hN h d) - 1) = placeB h d x := by
  unfold inB placeB
  exact decide_eq_decide.mpr (and_congr_right fun _ => le_pred (by omega))
def tossP (h : owH) (x : Int32) : Int32 := if isD x = true then (if hK h x.toNatClampNeg = 1 then tossI (hW h x.toNatClampNeg) (hn h x.toNatClampNeg) (hf h x.toNatClampNeg) else wayRef h x.toNatClampNeg) else -1
set_option maxRecDepth 100000 in
set_option maxHeartbeats 4000000 in
theorem k_m_marksNow (l : Launch) (G : owG) {A S Z B T V : owF} {J : Nat → Nat → Int64} {Y : Nat → Nat → Nat → Option Nat} {P : Nat → Option owW} (a_ : owK) (ho_ : aOk a_) (im : Option owK) (h_ : owH) (hM : MR B a_ im h_) (d_ : Nat) (hd_ : d_ < 8) (hsr : shRef h_ d_ = 0)  : Ct l G yX12_marksBy cX12_marksBy 5 ((some .int)) 5 0 0 [.ref (gK G 4 0), .int (-4), .int (nI (d_))] (A, S, Z, B, T, V, J, Y, P) (qI (fun r_ σ => r_ = nI (mkNow a_ h_ d_) ∧ ∃ V2 : owF, σ = (A, S, Z, B, T, V2, J, Y, P))) := by
  refine ct_of (by decide +kernel) (Nat.le_of_ble_eq_true rfl) ?_
  have h10 := ho_.1
  have h8_ := ho_.2.1
  have hX := hM.1
  obtain ⟨hk2, hso2, hev, h24, hsm⟩ := shRef_ok hsr
  have hms := hM.2.2.2 d_ hd_
  have hm2 := hms.2.2.1 hk2
  have hs2 := hm2.2.1
  have hn100 := hm2.2.2.2.1
  have hsn : shN h_ d_ = hN h_ d_ / 2 := rfl
  have hn12 : shN h_ d_ ≤ 12 := (by omega)
  show Wm l G cX12_marksBy 5 RX12 ((some .int)) (rmk 5 0 0) (fun _ => True) (QfM G (qI (fun r_ σ => r_ = nI (mkNow a_ h_ d_) ∧ ∃ V2 : owF, σ = (A, S, Z, B, T, V2, J, Y, P))) 0 0) 0 [(0, .ref (gK G 4 0)), (1, .int (-4)), (2, .int (nI (d_)))] [] (A, S, Z, B, T, V, J, Y, P) 0 0
  refine m_iconst 0 dX12_marksBy_0 rfl ?_
  refine m_istore_n [(3, .int 0), (0, .ref (gK G 4 0)), (1, .int (-4)), (2, .int (nI (d_)))] rfl (by decide) rfl dX12_marksBy_1 ?_
  refine m_iconst 0 dX12_marksBy_2 rfl ?_
  refine m_istore [(4, .int 0), (3, .int 0), (0, .ref (gK G 4 0)), (1, .int (-4)), (2, .int (nI (d_)))] (by decide) rfl dX12_marksBy_3 ?_
  have lp5 : ∀ (dd : Nat) (k_ : Nat) (V9 : owF), k_ ≤ aC a_ → aC a_ - k_ < dd → Wm l G cX12_marksBy 5 RX12 ((some .int)) (rmk 5 0 0) (fun _ => True) (QfM G (qI (fun r_ σ => r_ = nI (mkNow a_ h_ d_) ∧ ∃ V2 : owF, σ = (A, S, Z, B, T, V2, J, Y, P))) 0 0) 5 [(0, .ref (gK G 4 0)), (1, .int (-4)), (2, .int (nI (d_))), (3, .int (nI (smN (fun c_ => mkN a_ (shN h_ d_) (shX h_ d_) (shY h_ d_) false (aH a_ c_)) k_))), (4, .int (nI (k_)))] [] (A, S, Z, B, T, V9, J, Y, P) 0 0 := by
    intro dd
    induction dd with
    | zero => intro k_ V9 hk_ hdd; exact absurd hdd (Nat.not_lt_zero _)
    | succ dd ih5 =>
      intro k_ V9 hk_ hdd5
      refine m_iload 4 rfl dX12_marksBy_5 ?_
      refine m_aload_n 0 rfl rfl dX12_marksBy_7 ?_
      refine gf_X12_9 dX12_marksBy_8 ?_
      refine m_iconst 1 dX12_marksBy_11 rfl ?_
      refine al_40 1 rfl (by omega) dX12_marksBy_12 ?_
      refine m_topi hX.2.1 ?_
      refine m_icmpn_ge k_ (aC a_) 57 (by omega) (by omega) dX12_marksBy_13 (by decide) (fun c1_ => ?_) (fun c1_ => ?_)
      ·
        refine m_iload_n 3 rfl rfl dX12_marksBy_57 ?_
        exact m_iret dX12_marksBy_58 (Nat.le_refl _) (Nat.le_refl _) ((by obtain rfl : k_ = aC a_ := (by omega); exact ⟨rfl, _, rfl⟩))
      ·
        have hch := ho_.2.2.2.1 k_ (by omega)
        refine m_iload_n 3 rfl rfl dX12_marksBy_16 ?_
        refine m_aload_n 0 rfl rfl dX12_marksBy_17 ?_
        refine m_iload_n 1 rfl rfl dX12_marksBy_18 ?_
        refine m_if_ge 32 dX12_marksBy_19 (by decide) (fun c2_ => absurd c2_ (by decide)) (fun _ => ?_)
        refine m_aload_n 0 rfl rfl dX12_marksBy_22 ?_
        refine m_iload 4 rfl dX12_marksBy_23 ?_
        refine m_iconst 0 dX12_marksBy_25 rfl ?_
        refine m_callVi cv_X12_128 [.int (nI (k_)), .int 0] [.ref (gK G 4 0), .int (nI (smN (fun c_ => mkN a_ (shN h_ d_) (shX h_ d_) (shY h_ d_) false (aH a_ c_)) k_))] (k_m_of l G a_ ho_ im h_ hM k_ (by omega) 0 (by decide)) (by decide) (ce_4 G _ _ _ _ _ _ _ _ _ _) rfl rfl rfl ⟨Nat.le_of_ble_eq_true rfl, Nat.le_of_ble_eq_true rfl⟩ (Nat.le_of_ble_eq_true rfl) ⟨Nat.zero_le _, Nat.zero_le _⟩ dX12_marksBy_26 (fun xx σ2 hq => ?_)
        obtain ⟨hgx, rfl⟩ := hq
        obtain rfl : xx = nI (aH a_ k_) := hgx
        refine m_goto 44 dX12_marksBy_29 (by decide) ?_
        refine m_iload_n 2 rfl rfl dX12_marksBy_44 ?_
        refine m_iconst 0 dX12_marksBy_45 rfl ?_
        refine m_callVi cv_X12_215 [.int (nI (aH a_ k_)), .int (nI (d_)), .int 0] [.int (nI (smN (fun c_ => mkN a_ (shN h_ d_) (shX h_ d_) (shY h_ d_) false (aH a_ c_)) k_))] (k_m_marksOf l G a_ ho_ im h_ hM (aH a_ k_) (by omega) d_ hd_ hsr false) (by decide) (ce_4 G _ _ _ _ _ _ _ _ _ _) rfl rfl rfl ⟨Nat.le_of_ble_eq_true rfl, Nat.le_of_ble_eq_true rfl⟩ (Nat.le_of_ble_eq_true rfl) ⟨Nat.zero_le _, Nat.zero_le _⟩ dX12_marksBy_46 (fun xx σ2 hq => ?_)
        obtain ⟨rfl, V3, rfl⟩ := hq
        refine m_iadd dX12_marksBy_49 ?_
        refine m_topi (show (nI (smN (fun c_ => mkN a_ (shN h_ d_) (shX h_ d_) (shY h_ d_) false (aH a_ c_)) k_)) + (nI (mkN a_ (shN h_ d_) (shX h_ d_) (shY h_ d_) false (aH a_ k_))) = nI ((smN (fun c_ => mkN a_ (shN h_ d_) (shX h_ d_) (shY h_ d_) false (aH a_ c_)) k_) + (mkN a_ (shN h_ d_) (shX h_ d_) (shY h_ d_) false (aH a_ k_))) from nI_add _ _) ?_
        refine m_istore_n [(3, .int (nI ((smN (fun c_ => mkN a_ (shN h_ d_) (shX h_ d_) (shY h_ d_) false (aH a_ c_)) k_) + (mkN a_ (shN h_ d_) (shX h_ d_) (shY h_ d_) false (aH a_ k_))))), (0, .ref (gK G 4 0)), (1, .int (-4)), (2, .int (nI (d_))), (4, .int (nI (k_)))] rfl (by decide) rfl dX12_marksBy_50 ?_
        refine m_iinc (nI (k_ + 1)) 4 [(4, .int (nI (k_ + 1))), (3, .int (nI ((smN (fun c_ => mkN a_ (shN h_ d_) (shX h_ d_) (shY h_ d_) false (aH a_ c_)) k_) + (mkN a_ (shN h_ d_) (shX h_ d_) (shY h_ d_) false (aH a_ k_))))), (0, .ref (gK G 4 0)), (1, .int (-4)), (2, .int (nI (d_)))] rfl (nI_1 _) (by decide) rfl dX12_marksBy_51 ?_
        refine m_goto 5 dX12_marksBy_54 (by decide) ?_
        refine m_lv [(0, .ref (gK G 4 0)), (1, .int (-4)), (2, .int (nI (d_))), (3, .int (nI ((smN (fun c_ => mkN a_ (shN h_ d_) (shX h_ d_) (shY h_ d_) false (aH a_ c_)) k_) + (mkN a_ (shN h_ d_) (shX h_ d_) (shY h_ d_) false (aH a_ k_))))), (4, .int (nI (k_ + 1)))] [2, 3, 4, 1, 0] rfl ?_
        exact ih5 (k_ + 1) V3 (by omega) (by omega)
  refine m_lv [(0, .ref (gK G 4 0)), (1, .int (-4)), (2, .int (nI (d_))), (3, .int 0), (4, .int 0)] [2, 3, 4, 1, 0] rfl ?_
  exact lp5 ((aC a_ - 0) + 1) 0 V (Nat.zero_le _) (Nat.lt_succ_self _)
set_option maxRecDepth 100000 in
set_option maxHeartbeats 4000000 in
theorem k_m_marksBy (l : Launch) (G : owG) {A S Z B T V : owF} {J : Nat → Nat → Int64} {Y : Nat → Nat → Nat → Option Nat} {P : Nat → Option owW} (a_ : owK) (ho_ : aOk a_) (im : Option owK) (h_ : owH) (hM : MR B a_ im h_) (d_ : Nat) (hd_ : d_ < 8) (hsr : shRef h_ d_ = 0) (u_ : Nat) (hu : u_ < 10) : Ct l G yX12_marksBy cX12_marksBy 5 ((some .int)) 5 0 0 [.ref (gK G 4 0), .int (nI (u_)), .int (nI (d_))] (A, S, Z, B, T, V, J, Y, P) (qI (fun r_ σ => r_ = nI (mkAll a_ h_ d_ u_) ∧ ∃ V2 : owF, σ = (A, S, Z, B, T, V2, J, Y, P))) := by
  refine ct_of (by decide +kernel) (Nat.le_of_ble_eq_true rfl) ?_
  have h10 := ho_.1
  have h8_ := ho_.2.1
  have hX := hM.1
  obtain ⟨hk2, hso2, hev, h24, hsm⟩ := shRef_ok hsr
  have hms := hM.2.2.2 d_ hd_
  have hm2 := hms.2.2.1 hk2
  have hs2 := hm2.2.1
  have hn100 := hm2.2.2.2.1
  have hsn : shN h_ d_ = hN h_ d_ / 2 := rfl
  have hn12 : shN h_ d_ ≤ 12 := (by omega)
  show Wm l G cX12_marksBy 5 RX12 ((some .int)) (rmk 5 0 0) (fun _ => True) (QfM G (qI (fun r_ σ => r_ = nI (mkAll a_ h_ d_ u_) ∧ ∃ V2 : owF, σ = (A, S, Z, B, T, V2, J, Y, P))) 0 0) 0 [(0, .ref (gK G 4 0)), (1, .int (nI (u_))), (2, .int (nI (d_)))] [] (A, S, Z, B, T, V, J, Y, P) 0 0
  refine m_iconst 0 dX12_marksBy_0 rfl ?_
  refine m_istore_n [(3, .int 0), (0, .ref (gK G 4 0)), (1, .int (nI (u_))), (2, .int (nI (d_)))] rfl (by decide) rfl dX12_marksBy_1 ?_
  refine m_iconst 0 dX12_marksBy_2 rfl ?_
  refine m_istore [(4, .int 0), (3, .int 0), (0, .ref (gK G 4 0)), (1, .int (nI (u_))), (2, .int (nI (d_)))] (by decide) rfl dX12_marksBy_3 ?_
  have lp5 : ∀ (dd : Nat) (k_ : Nat) (V9 : owF), k_ ≤ aC a_ → aC a_ - k_ < dd → Wm l G cX12_marksBy 5 RX12 ((some .int)) (rmk 5 0 0) (fun _ => True) (QfM G (qI (fun r_ σ => r_ = nI (mkAll a_ h_ d_ u_) ∧ ∃ V2 : owF, σ = (A, S, Z, B, T, V2, J, Y, P))) 0 0) 5 [(0, .ref (gK G 4 0)), (1, .int (nI (u_))), (2, .int (nI (d_))), (3, .int (nI (smN (fun c_ => mkN a_ (shN h_ d_) (shX h_ d_) (shY h_ d_) false (tdW a_ u_ (aH a_ c_))) k_))), (4, .int (nI (k_)))] [] (A, S, Z, B, T, V9, J, Y, P) 0 0 := by
    intro dd
    induction dd with
    | zero => intro k_ V9 hk_ hdd; exact absurd hdd (Nat.not_lt_zero _)
    | succ dd ih5 =>
      intro k_ V9 hk_ hdd5
      refine m_iload 4 rfl dX12_marksBy_5 ?_
      refine m_aload_n 0 rfl rfl dX12_marksBy_7 ?_
      refine gf_X12_9 dX12_marksBy_8 ?_
      refine m_iconst 1 dX12_marksBy_11 rfl ?_
      refine al_40 1 rfl (by omega) dX12_marksBy_12 ?_
      refine m_topi hX.2.1 ?_
      refine m_icmpn_ge k_ (aC a_) 57 (by omega) (by omega) dX12_marksBy_13 (by decide) (fun c1_ => ?_) (fun c1_ => ?_)
      ·
        refine m_iload_n 3 rfl rfl dX12_marksBy_57 ?_
        exact m_iret dX12_marksBy_58 (Nat.le_refl _) (Nat.le_refl _) ((by obtain rfl : k_ = aC a_ := (by omega); exact ⟨rfl, _, rfl⟩))
      ·
        have hch := ho_.2.2.2.1 k_ (by omega)
        have htd := tdW_lt (k := u_) ho_ hu hch.1
        refine m_iload_n 3 rfl rfl dX12_marksBy_16 ?_
        refine m_aload_n 0 rfl rfl dX12_marksBy_17 ?_
        refine m_iload_n 1 rfl rfl dX12_marksBy_18 ?_
        refine m_ifn_ge u_ 32 (by omega) dX12_marksBy_19 (by decide) (fun _ => ?_) (fun c2_ => m_dead c2_)
        refine m_aload_n 0 rfl rfl dX12_marksBy_32 ?_
        refine m_iload_n 1 rfl rfl dX12_marksBy_33 ?_
        refine m_aload_n 0 rfl rfl dX12_marksBy_34 ?_
        refine m_iload 4 rfl dX12_marksBy_35 ?_
        refine m_iconst 0 dX12_marksBy_37 rfl ?_
        refine m_callVi cv_X12_128 [.int (nI (k_)), .int 0] [.int (nI (u_)), .ref (gK G 4 0), .ref (gK G 4 0), .int (nI (smN (fun c_ => mkN a_ (shN h_ d_) (shX h_ d_) (shY h_ d_) false (tdW a_ u_ (aH a_ c_))) k_))] (k_m_of l G a_ ho_ im h_ hM k_ (by omega) 0 (by decide)) (by decide) (ce_4 G _ _ _ _ _ _ _ _ _ _) rfl rfl rfl ⟨Nat.le_of_ble_eq_true rfl, Nat.le_of_ble_eq_true rfl⟩ (Nat.le_of_ble_eq_true rfl) ⟨Nat.zero_le _, Nat.zero_le _⟩ dX12_marksBy_38 (fun xx σ2 hq => ?_)
        obtain ⟨hgx, rfl⟩ := hq
        obtain rfl : xx = nI (aH a_ k_) := hgx
        refine m_callVi cv_X12_133 [.int (nI (u_)), .int (nI (aH a_ k_))] [.ref (gK G 4 0), .int (nI (smN (fun c_ => mkN a_ (shN h_ d_) (shX h_ d_) (shY h_ d_) false (tdW a_ u_ (aH a_ c_))) k_))] (k_m_saidOf l G a_ ho_ im h_ hM u_ (by omega) (aH a_ k_) (by omega)) (by decide) (ce_4 G _ _ _ _ _ _ _ _ _ _) rfl rfl rfl ⟨Nat.le_of_ble_eq_true rfl, Nat.le_of_ble_eq_true rfl⟩ (Nat.le_of_ble_eq_true rfl) ⟨Nat.zero_le _, Nat.zero_le _⟩ dX12_marksBy_41 (fun xx σ2 hq => ?_)
        obtain ⟨rfl, rfl⟩ := hq
        refine m_iload_n 2 rfl rfl dX12_marksBy_44 ?_
        refine m_iconst 0 dX12_marksBy_45 rfl ?_
        refine m_callVi cv_X12_215 [.int (nI (tdW a_ u_ (aH a_ k_))), .int (nI (d_)), .int 0] [.int (nI (smN (fun c_ => mkN a_ (shN h_ d_) (shX h_ d_) (shY h_ d_) false (tdW a_ u_ (aH a_ c_))) k_))] (k_m_marksOf l G a_ ho_ im h_ hM (tdW a_ u_ (aH a_ k_)) (by omega) d_ hd_ hsr false) (by decide) (ce_4 G _ _ _ _ _ _ _ _ _ _) rfl rfl rfl ⟨Nat.le_of_ble_eq_true rfl, Nat.le_of_ble_eq_true rfl⟩ (Nat.le_of_ble_eq_true rfl) ⟨Nat.zero_le _, Nat.zero_le _⟩ dX12_marksBy_46 (fun xx σ2 hq => ?_)
        obtain ⟨rfl, V3, rfl⟩ := hq
        refine m_iadd dX12_marksBy_49 ?_
        refine m_topi (show (nI (smN (fun c_ => mkN a_ (shN h_ d_) (shX h_ d_) (shY h_ d_) false (tdW a_ u_ (aH a_ c_))) k_)) + (nI (mkN a_ (shN h_ d_) (shX h_ d_) (shY h_ d_) false (tdW a_ u_ (aH a_ k_)))) = nI ((smN (fun c_ => mkN a_ (shN h_ d_) (shX h_ d_) (shY h_ d_) false (tdW a_ u_ (aH a_ c_))) k_) + (mkN a_ (shN h_ d_) (shX h_ d_) (shY h_ d_) false (tdW a_ u_ (aH a_ k_)))) from nI_add _ _) ?_
        refine m_istore_n [(3, .int (nI ((smN (fun c_ => mkN a_ (shN h_ d_) (shX h_ d_) (shY h_ d_) false (tdW a_ u_ (aH a_ c_))) k_) + (mkN a_ (shN h_ d_) (shX h_ d_) (shY h_ d_) false (tdW a_ u_ (aH a_ k_)))))), (0, .ref (gK G 4 0)), (1, .int (nI (u_))), (2, .int (nI (d_))), (4, .int (nI (k_)))] rfl (by decide) rfl dX12_marksBy_50 ?_
        refine m_iinc (nI (k_ + 1)) 4 [(4, .int (nI (k_ + 1))), (3, .int (nI ((smN (fun c_ => mkN a_ (shN h_ d_) (shX h_ d_) (shY h_ d_) false (tdW a_ u_ (aH a_ c_))) k_) + (mkN a_ (shN h_ d_) (shX h_ d_) (shY h_ d_) false (tdW a_ u_ (aH a_ k_)))))), (0, .ref (gK G 4 0)), (1, .int (nI (u_))), (2, .int (nI (d_)))] rfl (nI_1 _) (by decide) rfl dX12_marksBy_51 ?_
        refine m_goto 5 dX12_marksBy_54 (by decide) ?_
        refine m_lv [(0, .ref (gK G 4 0)), (1, .int (nI (u_))), (2, .int (nI (d_))), (3, .int (nI ((smN (fun c_ => mkN a_ (shN h_ d_) (shX h_ d_) (shY h_ d_) false (tdW a_ u_ (aH a_ c_))) k_) + (mkN a_ (shN h_ d_) (shX h_ d_) (shY h_ d_) false (tdW a_ u_ (aH a_ k_)))))), (4, .int (nI (k_ + 1)))] [2, 3, 4, 1, 0] rfl ?_
        exact ih5 (k_ + 1) V3 (by omega) (by omega)
  refine m_lv [(0, .ref (gK G 4 0)), (1, .int (nI (u_))), (2, .int (nI (d_))), (3, .int 0), (4, .int 0)] [2, 3, 4, 1, 0] rfl ?_
  exact lp5 ((aC a_ - 0) + 1) 0 V (Nat.zero_le _) (Nat.lt_succ_self _)
set_option maxRecDepth 100000 in
set_option maxHeartbeats 4000000 in
theorem k_m_bestSaying (l : Launch) (G : owG) {A S Z B T V : owF} {J : Nat → Nat → Int64} {Y : Nat → Nat → Nat → Option Nat} {P : Nat → Option owW} (a_ : owK) (ho_ : aOk a_) (im : Option owK) (h_ : owH) (hM : MR B a_ im h_) (x_ : Int32) : Ct l G yX12_bestSaying cX12_bestSaying 7 ((some .int)) 6 0 0 [.ref (gK G 4 0), .int x_] (A, S, Z, B, T, V, J, Y, P) (qI (fun r_ σ => r_ = bestI a_ h_ x_ ∧ ∃ (T2 V2 : owF), σ = (A, S, Z, B, T2, V2, J, Y, P))) := by
  refine ct_of (by decide +kernel) (Nat.le_of_ble_eq_true rfl) ?_
  have h10 := ho_.1
  have h8_ := ho_.2.1
  have hX := hM.1
  show Wm l G cX12_bestSaying 7 RX12 ((some .int)) (rmk 6 0 0) (fun _ => True) (QfM G (qI (fun r_ σ => r_ = bestI a_ h_ x_ ∧ ∃ (T2 V2 : owF), σ = (A, S, Z, B, T2, V2, J, Y, P))) 0 0) 0 [(0, .ref (gK G 4 0)), (1, .int x_)] [] (A, S, Z, B, T, V, J, Y, P) 0 0
  refine m_aload_n 0 rfl rfl dX12_bestSaying_0 ?_
  refine m_iload_n 1 rfl rfl dX12_bestSaying_1 ?_
  refine m_callVi cv_X12_175 [.int x_] [] (k_m_wrongSheet l G a_ ho_ im h_ hM x_) (by decide) (ce_4 G _ _ _ _ _ _ _ _ _ _) rfl rfl rfl ⟨Nat.le_of_ble_eq_true rfl, Nat.le_of_ble_eq_true rfl⟩ (Nat.le_of_ble_eq_true rfl) ⟨Nat.zero_le _, Nat.zero_le _⟩ dX12_bestSaying_2 (fun xx σ2 hq => ?_)
  obtain ⟨rfl, rfl⟩ := hq
  refine m_istore_n [(2, .int (shRefI h_ x_)), (0, .ref (gK G 4 0)), (1, .int x_)] rfl (by decide) rfl dX12_bestSaying_5 ?_
  refine m_iload_n 0 rfl rfl dX12_bestSaying_6 ?_
  refine m_if_eq 12 dX12_bestSaying_7 (by decide) (fun c1_ => ?_) (fun c1_ => ?_)
  ·
    have hb0 := c1_
    obtain ⟨dq, hdq, rfl, hsr, hDd⟩ := shRefI_0 hb0
    have hcldq : (nI dq).toNatClampNeg = dq := nI_clamp (by omega)
    obtain ⟨hk2, hso2, hev, h24, hsm⟩ := shRef_ok hsr
    have hn12 : shN h_ dq ≤ 12 := by unfold shN; omega
    refine m_bipush (-4) dX12_bestSaying_12 rfl ?_
    refine m_istore_n [(3, .int (-4)), (2, .int (shRefI h_ (nI dq))), (0, .ref (gK G 4 0)), (1, .int (nI (dq)))] rfl (by decide) rfl dX12_bestSaying_14 ?_
    refine m_aload_n 2 rfl rfl dX12_bestSaying_15 ?_
    refine m_bipush (-4) dX12_bestSaying_16 rfl ?_
    refine m_iload_n 3 rfl rfl dX12_bestSaying_18 ?_
    refine m_callVi cv_X12_236 [.int (-4), .int (nI (dq))] [] (k_m_marksNow l G a_ ho_ im h_ hM dq hdq hsr) (by decide) (ce_4 G _ _ _ _ _ _ _ _ _ _) rfl rfl rfl ⟨Nat.le_of_ble_eq_true rfl, Nat.le_of_ble_eq_true rfl⟩ (Nat.le_of_ble_eq_true rfl) ⟨Nat.zero_le _, Nat.zero_le _⟩ dX12_bestSaying_19 (fun xx σ2 hq => ?_)
    obtain ⟨rfl, V2, rfl⟩ := hq
    have hnow : mkNow a_ h_ dq ≤ 96 := Nat.le_trans (smN_bound (n := aC a_) (c := 12) (fun j_ hj => mkN_le hn12)) (by omega)
    have hall : ∀ j_, mkAll a_ h_ dq j_ ≤ 96 := fun j_ => Nat.le_trans (smN_bound (n := aC a_) (c := 12) (fun j_ hj => mkN_le hn12)) (by omega)
    refine m_istore [(4, .int (nI (mkNow a_ h_ dq))), (3, .int (-4)), (2, .int (shRefI h_ (nI dq))), (0, .ref (gK G 4 0)), (1, .int (nI (dq)))] (by decide) rfl dX12_bestSaying_22 ?_
    refine m_iconst 0 dX12_bestSaying_24 rfl ?_
    refine m_istore [(5, .int 0), (4, .int (nI (mkNow a_ h_ dq))), (3, .int (-4)), (2, .int (shRefI h_ (nI dq))), (0, .ref (gK G 4 0)), (1, .int (nI (dq)))] (by decide) rfl dX12_bestSaying_25 ?_
    have lp27 : ∀ (dd : Nat) (u_ : Nat) (V9 : owF), u_ ≤ 10 → 10 - u_ < dd → Wm l G cX12_bestSaying 7 RX12 ((some .int)) (rmk 6 0 0) (fun _ => True) (QfM G (qI (fun r_ σ => r_ = bestI a_ h_ (nI dq) ∧ ∃ (T2 V2 : owF), σ = (A, S, Z, B, T2, V2, J, Y, P))) 0 0) 27 [(0, .ref (gK G 4 0)), (1, .int (nI (dq))), (2, .int (shRefI h_ (nI dq))), (3, .int (optI (bsS (mkNow a_ h_ dq) (mkAll a_ h_ dq) u_).1)), (4, .int (nI ((bsS (mkNow a_ h_ dq) (mkAll a_ h_ dq) u_).2))), (5, .int (nI (u_)))] [] (A, S, Z, B, T, V9, J, Y, P) 0 0 := by
      intro dd
      induction dd with
      | zero => intro u_ V9 hu hdd; exact absurd hdd (Nat.not_lt_zero _)
      | succ dd ih27 =>
        intro u_ V9 hu hdd27
        refine m_iload 5 rfl dX12_bestSaying_27 ?_
        refine m_bipush (10) dX12_bestSaying_29 rfl ?_
        refine m_icmpn_ge u_ 10 66 (by omega) (by decide) dX12_bestSaying_31 (by decide) (fun c3_ => ?_) (fun c3_ => ?_)
        ·
          refine m_iload_n 3 rfl rfl dX12_bestSaying_66 ?_
          exact m_iret dX12_bestSaying_67 (Nat.le_refl _) (Nat.le_refl _) ((by obtain rfl : u_ = 10 := (by omega); exact ⟨by unfold bestI; rw [if_pos hb0, hcldq], _, _, rfl⟩))
        ·
          refine m_aload_n 0 rfl rfl dX12_bestSaying_34 ?_
          refine m_iload 5 rfl dX12_bestSaying_35 ?_
          refine m_iload_n 1 rfl rfl dX12_bestSaying_37 ?_
          refine m_callVi cv_X12_236 [.int (nI (u_)), .int (nI (dq))] [] (k_m_marksBy l G a_ ho_ im h_ hM dq hdq hsr u_ (by omega)) (by decide) (ce_4 G _ _ _ _ _ _ _ _ _ _) rfl rfl rfl ⟨Nat.le_of_ble_eq_true rfl, Nat.le_of_ble_eq_true rfl⟩ (Nat.le_of_ble_eq_true rfl) ⟨Nat.zero_le _, Nat.zero_le _⟩ dX12_bestSaying_38 (fun xx σ2 hq => ?_)
          obtain ⟨rfl, V4, rfl⟩ := hq
          refine m_istore [(6, .int (nI (mkAll a_ h_ dq u_))), (0, .ref (gK G 4 0)), (1, .int (nI (dq))), (2, .int (shRefI h_ (nI dq))), (3, .int (optI (bsS (mkNow a_ h_ dq) (mkAll a_ h_ dq) u_).1)), (4, .int (nI ((bsS (mkNow a_ h_ dq) (mkAll a_ h_ dq) u_).2))), (5, .int (nI (u_)))] (by decide) rfl dX12_bestSaying_41 ?_
          have hbl := bsS_le (c := 96) (b := mkNow a_ h_ dq) (g := mkAll a_ h_ dq) hnow u_ (fun j_ hj => hall j_)
          have hal := hall u_
          refine m_iload 0 rfl dX12_bestSaying_43 ?_
          refine m_iload 5 rfl dX12_bestSaying_45 ?_
          refine m_icmpn_gt (mkAll a_ h_ dq u_) ((bsS (mkNow a_ h_ dq) (mkAll a_ h_ dq) u_).2) 53 (by omega) (by omega) dX12_bestSaying_47 (by decide) (fun c5_ => ?_) (fun c5_ => ?_)
          ·
            refine m_iload 6 rfl dX12_bestSaying_53 ?_
            refine m_istore_n [(3, .int (nI (u_))), (6, .int (nI (mkAll a_ h_ dq u_))), (0, .ref (gK G 4 0)), (1, .int (nI (dq))), (2, .int (shRefI h_ (nI dq))), (4, .int (nI ((bsS (mkNow a_ h_ dq) (mkAll a_ h_ dq) u_).2))), (5, .int (nI (u_)))] rfl (by decide) rfl dX12_bestSaying_55 ?_
            refine m_iload 1 rfl dX12_bestSaying_56 ?_
            refine m_istore [(4, .int (nI (mkAll a_ h_ dq u_))), (3, .int (nI (u_))), (6, .int (nI (mkAll a_ h_ dq u_))), (0, .ref (gK G 4 0)), (1, .int (nI (dq))), (2, .int (shRefI h_ (nI dq))), (5, .int (nI (u_)))] (by decide) rfl dX12_bestSaying_58 ?_
            refine m_iinc (nI (u_ + 1)) 6 [(5, .int (nI (u_ + 1))), (4, .int (nI (mkAll a_ h_ dq u_))), (3, .int (nI (u_))), (6, .int (nI (mkAll a_ h_ dq u_))), (0, .ref (gK G 4 0)), (1, .int (nI (dq))), (2, .int (shRefI h_ (nI dq)))] rfl (nI_1 _) (by decide) rfl dX12_bestSaying_60 ?_
            refine m_goto 27 dX12_bestSaying_63 (by decide) ?_
            refine m_lv [(0, .ref (gK G 4 0)), (1, .int (nI (dq))), (2, .int (shRefI h_ (nI dq))), (3, .int (nI (u_))), (4, .int (nI (mkAll a_ h_ dq u_))), (5, .int (nI (u_ + 1)))] [4, 5, 6, 2, 1, 0] rfl ?_
            have ihx := ih27 (u_ + 1) V4 (by omega) (by omega)
            rw [bsS_y (g := mkAll a_ h_ dq) (b := mkNow a_ h_ dq) (k := u_) (by omega)] at ihx
            exact ihx
          ·
            refine m_goto 60 dX12_bestSaying_50 (by decide) ?_
            refine m_iinc (nI (u_ + 1)) 6 [(5, .int (nI (u_ + 1))), (6, .int (nI (mkAll a_ h_ dq u_))), (0, .ref (gK G 4 0)), (1, .int (nI (dq))), (2, .int (shRefI h_ (nI dq))), (3, .int (optI (bsS (mkNow a_ h_ dq) (mkAll a_ h_ dq) u_).1)), (4, .int (nI ((bsS (mkNow a_ h_ dq) (mkAll a_ h_ dq) u_).2)))] rfl (nI_1 _) (by decide) rfl dX12_bestSaying_60 ?_
            refine m_goto 27 dX12_bestSaying_63 (by decide) ?_
            refine m_lv [(0, .ref (gK G 4 0)), (1, .int (nI (dq))), (2, .int (shRefI h_ (nI dq))), (3, .int (optI (bsS (mkNow a_ h_ dq) (mkAll a_ h_ dq) u_).1)), (4, .int (nI ((bsS (mkNow a_ h_ dq) (mkAll a_ h_ dq) u_).2))), (5, .int (nI (u_ + 1)))] [2, 3, 4, 5, 6, 0] rfl ?_
            have ihx := ih27 (u_ + 1) V4 (by omega) (by omega)
            rw [bsS_n (g := mkAll a_ h_ dq) (b := mkNow a_ h_ dq) (k := u_) (by omega)] at ihx
            exact ihx
    refine m_lv [(0, .ref (gK G 4 0)), (1, .int (nI (dq))), (2, .int (shRefI h_ (nI dq))), (3, .int (-4)), (4, .int (nI (mkNow a_ h_ dq))), (5, .int 0)] [4, 5, 3, 2, 1, 0] rfl ?_
    exact lp27 ((10 - 0) + 1) 0 V2 (Nat.zero_le _) (Nat.lt_succ_self _)
  ·
    refine m_iload_n 0 rfl rfl dX12_bestSaying_10 ?_
    exact m_iret dX12_bestSaying_11 (Nat.le_refl _) (Nat.le_refl _) (⟨by first | (simp [bestI, c1_]; done) | (simp_all [bestI, rN, rX, rQ, rV]; done) | grind [bestI], _, _, rfl⟩)
set_option maxRecDepth 100000 in
set_option maxHeartbeats 4000000 in
theorem k_m_weeks (l : Launch) (G : owG) {A S Z B T V : owF} {J : Nat → Nat → Int64} {Y : Nat → Nat → Nat → Option Nat} {P : Nat → Option owW} (a_ : owK) (ho_ : aOk a_) (im : Option owK) (h_ : owH) (hM : MR B a_ im h_) (n_ p_ wq z_ : Int32) : Ct l G yX12_weeks cX12_weeks 8 ((some .int)) 1 0 0 [.ref (gK G 4 0), .int n_, .int p_, .int wq, .int z_] (A, S, Z, B, T, V, J, Y, P) (qI (fun r_ σ => r_ = weeksI a_ n_ p_ wq z_ ∧ ∃ (T2 V2 : owF), σ = (A, S, Z, B, T2, V2, J, Y, P))) := by
  refine ct_of (by decide +kernel) (Nat.le_of_ble_eq_true rfl) ?_
  have h10 := ho_.1
  have h8_ := ho_.2.1
  have hX := hM.1
  show Wm l G cX12_weeks 8 RX12 ((some .int)) (rmk 1 0 0) (fun _ => True) (QfM G (qI (fun r_ σ => r_ = weeksI a_ n_ p_ wq z_ ∧ ∃ (T2 V2 : owF), σ = (A, S, Z, B, T2, V2, J, Y, P))) 0 0) 0 [(0, .ref (gK G 4 0)), (1, .int n_), (2, .int p_), (3, .int wq), (4, .int z_)] [] (A, S, Z, B, T, V, J, Y, P) 0 0
  refine m_iload_n 1 rfl rfl dX12_weeks_0 ?_
  refine m_i2l dX12_weeks_1 ?_
  refine m_lconst 1 dX12_weeks_2 rfl ?_
  refine m_topl (show (1 : Int64) = (1 : Int32).toInt64 by decide) ?_
  refine m_ldc2 20 tw_1382 dX12_weeks_3 ?_
  refine m_topl (show (20 : Int64) = (20 : Int32).toInt64 by decide) ?_
  refine m_callSi cs_X12_62 [.long (n_.toInt64), .long ((1 : Int32).toInt64), .long ((20 : Int32).toInt64)] [] (k_m_isIn l G n_ 1 20) rfl rfl ⟨Nat.le_of_ble_eq_true rfl, Nat.le_of_ble_eq_true rfl⟩ (Nat.le_of_ble_eq_true rfl) ⟨Nat.zero_le _, Nat.zero_le _⟩ dX12_weeks_6 (fun xx σ2 hq => ?_)
  obtain ⟨rfl, rfl⟩ := hq
  refine m_ifeq_b 36 dX12_weeks_9 (by decide) (fun c1_ => ?_) (fun c1_ => ?_)
  ·
    refine m_iconst (-1) dX12_weeks_36 rfl ?_
    exact m_iret dX12_weeks_37 (Nat.le_refl _) (Nat.le_refl _) (⟨by have hz := of_decide_eq_false c1_; unfold weeksI; rw [if_neg (fun q_ => hz (by first | exact ⟨q_.1, q_.2.1⟩ | exact ⟨q_.2.2.1, q_.2.2.2.1⟩ | exact ⟨q_.2.2.2.2.1, q_.2.2.2.2.2⟩))], _, _, rfl⟩)
  ·
    have hn20 := of_decide_eq_true c1_
    obtain ⟨nq, hnq, rfl⟩ := nI_of2 (M := 20) (n := 20) (x := n_) (by decide) (by grind) hn20.2
    have hclnq : (nI nq).toNatClampNeg = nq := nI_clamp (by omega)
    refine m_iload_n 2 rfl rfl dX12_weeks_12 ?_
    refine m_i2l dX12_weeks_13 ?_
    refine m_lconst 0 dX12_weeks_14 rfl ?_
    refine m_topl (show (0 : Int64) = (0 : Int32).toInt64 by decide) ?_
    refine m_ldc2 100 tw_1383 dX12_weeks_15 ?_
    refine m_topl (show (100 : Int64) = (100 : Int32).toInt64 by decide) ?_
    refine m_callSi cs_X12_62 [.long (p_.toInt64), .long ((0 : Int32).toInt64), .long ((100 : Int32).toInt64)] [] (k_m_isIn l G p_ 0 100) rfl rfl ⟨Nat.le_of_ble_eq_true rfl, Nat.le_of_ble_eq_true rfl⟩ (Nat.le_of_ble_eq_true rfl) ⟨Nat.zero_le _, Nat.zero_le _⟩ dX12_weeks_18 (fun xx σ2 hq => ?_)
    obtain ⟨rfl, rfl⟩ := hq
    refine m_ifeq_b 36 dX12_weeks_21 (by decide) (fun c2_ => ?_) (fun c2_ => ?_)
    ·
      refine m_iconst (-1) dX12_weeks_36 rfl ?_
      exact m_iret dX12_weeks_37 (Nat.le_refl _) (Nat.le_refl _) (⟨by have hz := of_decide_eq_false c2_; unfold weeksI; rw [if_neg (fun q_ => hz (by first | exact ⟨q_.1, q_.2.1⟩ | exact ⟨q_.2.2.1, q_.2.2.2.1⟩ | exact ⟨q_.2.2.2.2.1, q_.2.2.2.2.2⟩))], _, _, rfl⟩)
    ·
      have hp100 := of_decide_eq_true c2_
      refine m_iload_n 3 rfl rfl dX12_weeks_24 ?_
      refine m_i2l dX12_weeks_25 ?_
      refine m_lconst 0 dX12_weeks_26 rfl ?_
      refine m_topl (show (0 : Int64) = (0 : Int32).toInt64 by decide) ?_
      refine m_ldc2 100 tw_1383 dX12_weeks_27 ?_
      refine m_topl (show (100 : Int64) = (100 : Int32).toInt64 by decide) ?_
      refine m_callSi cs_X12_62 [.long (wq.toInt64), .long ((0 : Int32).toInt64), .long ((100 : Int32).toInt64)] [] (k_m_isIn l G wq 0 100) rfl rfl ⟨Nat.le_of_ble_eq_true rfl, Nat.le_of_ble_eq_true rfl⟩ (Nat.le_of_ble_eq_true rfl) ⟨Nat.zero_le _, Nat.zero_le _⟩ dX12_weeks_30 (fun xx σ2 hq => ?_)
      obtain ⟨rfl, rfl⟩ := hq
      refine m_ifne_b 38 dX12_weeks_33 (by decide) (fun c3_ => ?_) (fun c3_ => ?_)
      ·
        have hq100 := of_decide_eq_true c3_
        refine m_aload_n 0 rfl rfl dX12_weeks_38 ?_
        refine gf_X12_9 dX12_weeks_39 ?_
        refine m_iconst 1 dX12_weeks_42 rfl ?_
        refine al_40 1 rfl (by omega) dX12_weeks_43 ?_
        refine m_topi hX.2.1 ?_
        refine m_ifn_ne (aC a_) 50 (by omega) dX12_weeks_44 (by decide) (fun c4_ => ?_) (fun c4_ => ?_)
        ·
          refine m_aload_n 0 rfl rfl dX12_weeks_50 ?_
          refine m_iload 4 rfl dX12_weeks_51 ?_
          refine pf_X12_221 dX12_weeks_53 (fun T5 hT5 => ?_)
          refine m_iconst 0 dX12_weeks_56 rfl ?_
          refine m_istore [(5, .int 0), (0, .ref (gK G 4 0)), (1, .int (nI (nq))), (2, .int p_), (3, .int wq), (4, .int z_)] (by decide) rfl dX12_weeks_57 ?_
          have lp59 : ∀ (dd : Nat) (k_ : Nat) (T9 : owF), k_ ≤ aC a_ → T9 4 0 21 = z_ → (∀ j_, j_ < k_ → T9 55 0 j_ = nI (aH a_ j_)) → aC a_ - k_ < dd → Wm l G cX12_weeks 8 RX12 ((some .int)) (rmk 1 0 0) (fun _ => True) (QfM G (qI (fun r_ σ => r_ = weeksI a_ (nI nq) p_ wq z_ ∧ ∃ (T2 V2 : owF), σ = (A, S, Z, B, T2, V2, J, Y, P))) 0 0) 59 [(0, .ref (gK G 4 0)), (1, .int (nI (nq))), (2, .int p_), (3, .int wq), (4, .int z_), (5, .int (nI (k_)))] [] (A, S, Z, B, T9, V, J, Y, P) 0 0 := by
            intro dd
            induction dd with
            | zero => intro k_ T9 hk_ hsd hin hdd; exact absurd hdd (Nat.not_lt_zero _)
            | succ dd ih59 =>
              intro k_ T9 hk_ hsd hin hdd59
              refine m_iload 5 rfl dX12_weeks_59 ?_
              refine m_aload_n 0 rfl rfl dX12_weeks_61 ?_
              refine gf_X12_9 dX12_weeks_62 ?_
              refine m_iconst 1 dX12_weeks_65 rfl ?_
              refine al_40 1 rfl (by omega) dX12_weeks_66 ?_
              refine m_topi hX.2.1 ?_
              refine m_icmpn_ge k_ (aC a_) 90 (by omega) (by omega) dX12_weeks_67 (by decide) (fun c6_ => ?_) (fun c6_ => ?_)
              ·
                obtain rfl : k_ = aC a_ := (by omega)
                refine m_iconst 0 dX12_weeks_90 rfl ?_
                refine m_istore [(5, .int 0), (0, .ref (gK G 4 0)), (1, .int (nI (nq))), (2, .int p_), (3, .int wq), (4, .int z_)] (by decide) rfl dX12_weeks_91 ?_
                have lp93 : ∀ (dd : Nat) (u_ : Nat) (T8 : owF), u_ ≤ nq → T8 4 0 21 = (wksS a_ p_ wq z_ u_).1 → (∀ j_, j_ < aC a_ → T8 55 0 j_ = nI ((wksS a_ p_ wq z_ u_).2 j_)) → nq - u_ < dd → Wm l G cX12_weeks 8 RX12 ((some .int)) (rmk 1 0 0) (fun _ => True) (QfM G (qI (fun r_ σ => r_ = weeksI a_ (nI nq) p_ wq z_ ∧ ∃ (T2 V2 : owF), σ = (A, S, Z, B, T2, V2, J, Y, P))) 0 0) 93 [(0, .ref (gK G 4 0)), (1, .int (nI (nq))), (2, .int p_), (3, .int wq), (4, .int z_), (5, .int (nI (u_)))] [] (A, S, Z, B, T8, V, J, Y, P) 0 0 := by
                  intro dd
                  induction dd with
                  | zero => intro u_ T8 hu hsd hin hdd; exact absurd hdd (Nat.not_lt_zero _)
                  | succ dd ih93 =>
                    intro u_ T8 hu hsd hin hdd93
                    refine m_iload 5 rfl dX12_weeks_93 ?_
                    refine m_iload_n 1 rfl rfl dX12_weeks_95 ?_
                    refine m_icmpn_ge u_ nq 186 (by omega) (by omega) dX12_weeks_96 (by decide) (fun c7_ => ?_) (fun c7_ => ?_)
                    ·
                      obtain rfl : nq = u_ := (by omega)
                      refine m_iconst 0 dX12_weeks_186 rfl ?_
                      refine m_istore [(5, .int 0), (0, .ref (gK G 4 0)), (1, .int (nI (nq))), (2, .int p_), (3, .int wq), (4, .int z_)] (by decide) rfl dX12_weeks_187 ?_
                      refine m_iconst 0 dX12_weeks_189 rfl ?_
                      refine m_istore [(6, .int 0), (5, .int 0), (0, .ref (gK G 4 0)), (1, .int (nI (nq))), (2, .int p_), (3, .int wq), (4, .int z_)] (by decide) rfl dX12_weeks_190 ?_
                      have lp192 : ∀ (dd : Nat) (k_ : Nat) , k_ ≤ aC a_ → aC a_ - k_ < dd → Wm l G cX12_weeks 8 RX12 ((some .int)) (rmk 1 0 0) (fun _ => True) (QfM G (qI (fun r_ σ => r_ = weeksI a_ (nI nq) p_ wq z_ ∧ ∃ (T2 V2 : owF), σ = (A, S, Z, B, T2, V2, J, Y, P))) 0 0) 192 [(0, .ref (gK G 4 0)), (1, .int (nI (nq))), (2, .int p_), (3, .int wq), (4, .int z_), (5, .int (nI (cntB (fun c_ => decide (aK a_ ((wksS a_ p_ wq z_ nq).2 c_) = 0)) k_))), (6, .int (nI (k_)))] [] (A, S, Z, B, T8, V, J, Y, P) 0 0 := by
                        intro dd
                        induction dd with
                        | zero => intro k_  hk_ hdd; exact absurd hdd (Nat.not_lt_zero _)
                        | succ dd ih192 =>
                          intro k_  hk_ hdd192
                          have hcc := cntB_le (fun c_ => decide (aK a_ ((wksS a_ p_ wq z_ nq).2 c_) = 0)) k_
                          refine m_iload 6 rfl dX12_weeks_192 ?_
                          refine m_aload_n 0 rfl rfl dX12_weeks_194 ?_
                          refine gf_X12_9 dX12_weeks_195 ?_
                          refine m_iconst 1 dX12_weeks_198 rfl ?_
                          refine al_40 1 rfl (by omega) dX12_weeks_199 ?_
                          refine m_topi hX.2.1 ?_
                          refine m_icmpn_ge k_ (aC a_) 234 (by omega) (by omega) dX12_weeks_200 (by decide) (fun c8_ => ?_) (fun c8_ => ?_)
                          ·
                            refine m_iload 5 rfl dX12_weeks_234 ?_
                            exact m_iret dX12_weeks_236 (Nat.le_refl _) (Nat.le_refl _) ((by obtain rfl : k_ = aC a_ := (by omega); exact ⟨by unfold weeksI; rw [if_pos ⟨hn20.1, hn20.2, hp100.1, hp100.2, hq100.1, hq100.2⟩, if_neg (by omega), hclnq], _, _, rfl⟩))
                          ·
                            have hwk := wksS_lt (p := p_) (q := wq) (sd := z_) ho_ nq k_ (by omega)
                            have hkk := aK_lt ho_ hwk
                            refine m_iload 5 rfl dX12_weeks_203 ?_
                            refine m_aload_n 0 rfl rfl dX12_weeks_205 ?_
                            refine m_aload_n 0 rfl rfl dX12_weeks_206 ?_
                            refine gf_X12_55 dX12_weeks_207 ?_
                            refine m_iload 6 rfl dX12_weeks_210 ?_
                            refine al_55 k_ rfl (by omega) dX12_weeks_212 ?_
                            refine m_topi (hin k_ (by omega)) ?_
                            refine m_iconst 0 dX12_weeks_213 rfl ?_
                            refine m_callVi cv_X12_119 [.int (nI ((wksS a_ p_ wq z_ nq).2 k_)), .int 0] [.int (nI (cntB (fun c_ => decide (aK a_ ((wksS a_ p_ wq z_ nq).2 c_) = 0)) k_))] (k_m_get l G a_ ho_ im h_ hM ((wksS a_ p_ wq z_ nq).2 k_) (by omega) 0 (by decide)) (by decide) (ce_4 G _ _ _ _ _ _ _ _ _ _) rfl rfl rfl ⟨Nat.le_of_ble_eq_true rfl, Nat.le_of_ble_eq_true rfl⟩ (Nat.le_of_ble_eq_true rfl) ⟨Nat.zero_le _, Nat.zero_le _⟩ dX12_weeks_214 (fun xx σ2 hq => ?_)
                            obtain ⟨hgx, rfl⟩ := hq
                            obtain rfl : xx = nI (aK a_ ((wksS a_ p_ wq z_ nq).2 k_)) := hgx
                            have hx9 := aK_lt ho_ (w := ((wksS a_ p_ wq z_ nq).2 k_)) (by omega)
                            refine m_ifn_ne (aK a_ ((wksS a_ p_ wq z_ nq).2 k_)) 224 (by omega) dX12_weeks_217 (by decide) (fun c10_ => ?_) (fun c10_ => ?_)
                            ·
                              refine m_iconst 0 dX12_weeks_224 rfl ?_
                              refine m_iadd dX12_weeks_225 ?_
                              refine m_topi (show (nI (cntB (fun c_ => decide (aK a_ ((wksS a_ p_ wq z_ nq).2 c_) = 0)) k_)) + 0 = nI ((cntB (fun c_ => decide (aK a_ ((wksS a_ p_ wq z_ nq).2 c_) = 0)) k_) + 0) from nI_add _ _) ?_
                              refine m_istore [(5, .int (nI ((cntB (fun c_ => decide (aK a_ ((wksS a_ p_ wq z_ nq).2 c_) = 0)) k_) + 0))), (0, .ref (gK G 4 0)), (1, .int (nI (nq))), (2, .int p_), (3, .int wq), (4, .int z_), (6, .int (nI (k_)))] (by decide) rfl dX12_weeks_226 ?_
                              refine m_iinc (nI (k_ + 1)) 6 [(6, .int (nI (k_ + 1))), (5, .int (nI ((cntB (fun c_ => decide (aK a_ ((wksS a_ p_ wq z_ nq).2 c_) = 0)) k_) + 0))), (0, .ref (gK G 4 0)), (1, .int (nI (nq))), (2, .int p_), (3, .int wq), (4, .int z_)] rfl (nI_1 _) (by decide) rfl dX12_weeks_228 ?_
                              refine m_goto 192 dX12_weeks_231 (by decide) ?_
                              refine m_lv [(0, .ref (gK G 4 0)), (1, .int (nI (nq))), (2, .int p_), (3, .int wq), (4, .int z_), (5, .int (nI ((cntB (fun c_ => decide (aK a_ ((wksS a_ p_ wq z_ nq).2 c_) = 0)) k_) + 0))), (6, .int (nI (k_ + 1)))] [2, 3, 4, 5, 6, 1, 0] rfl ?_
                              rw [show cntB (fun c_ => decide (aK a_ ((wksS a_ p_ wq z_ nq).2 c_) = 0)) k_ = cntB (fun c_ => decide (aK a_ ((wksS a_ p_ wq z_ nq).2 c_) = 0)) (k_ + 1) from cntB_f (p := (fun c_ => decide (aK a_ ((wksS a_ p_ wq z_ nq).2 c_) = 0))) (by grind)]
                              exact ih192 (k_ + 1)  (by omega) (by omega)
                            ·
                              refine m_iconst 1 dX12_weeks_220 rfl ?_
                              refine m_goto 225 dX12_weeks_221 (by decide) ?_
                              refine m_iadd dX12_weeks_225 ?_
                              refine m_topi (show (nI (cntB (fun c_ => decide (aK a_ ((wksS a_ p_ wq z_ nq).2 c_) = 0)) k_)) + 1 = nI ((cntB (fun c_ => decide (aK a_ ((wksS a_ p_ wq z_ nq).2 c_) = 0)) k_) + 1) from nI_add _ _) ?_
                              refine m_istore [(5, .int (nI ((cntB (fun c_ => decide (aK a_ ((wksS a_ p_ wq z_ nq).2 c_) = 0)) k_) + 1))), (0, .ref (gK G 4 0)), (1, .int (nI (nq))), (2, .int p_), (3, .int wq), (4, .int z_), (6, .int (nI (k_)))] (by decide) rfl dX12_weeks_226 ?_
                              refine m_iinc (nI (k_ + 1)) 6 [(6, .int (nI (k_ + 1))), (5, .int (nI ((cntB (fun c_ => decide (aK a_ ((wksS a_ p_ wq z_ nq).2 c_) = 0)) k_) + 1))), (0, .ref (gK G 4 0)), (1, .int (nI (nq))), (2, .int p_), (3, .int wq), (4, .int z_)] rfl (nI_1 _) (by decide) rfl dX12_weeks_228 ?_
                              refine m_goto 192 dX12_weeks_231 (by decide) ?_
                              refine m_lv [(0, .ref (gK G 4 0)), (1, .int (nI (nq))), (2, .int p_), (3, .int wq), (4, .int z_), (5, .int (nI ((cntB (fun c_ => decide (aK a_ ((wksS a_ p_ wq z_ nq).2 c_) = 0)) k_) + 1))), (6, .int (nI (k_ + 1)))] [2, 3, 4, 5, 6, 1, 0] rfl ?_
                              rw [show (cntB (fun c_ => decide (aK a_ ((wksS a_ p_ wq z_ nq).2 c_) = 0)) k_) + 1 = cntB (fun c_ => decide (aK a_ ((wksS a_ p_ wq z_ nq).2 c_) = 0)) (k_ + 1) from cntB_t (p := (fun c_ => decide (aK a_ ((wksS a_ p_ wq z_ nq).2 c_) = 0))) (by grind)]
                              exact ih192 (k_ + 1)  (by omega) (by omega)
                      refine m_lv [(0, .ref (gK G 4 0)), (1, .int (nI (nq))), (2, .int p_), (3, .int wq), (4, .int z_), (5, .int 0), (6, .int 0)] [2, 3, 4, 5, 6, 1, 0] rfl ?_
                      exact lp192 ((aC a_ - 0) + 1) 0  (Nat.zero_le _) (Nat.lt_succ_self _)
                    ·
                      refine m_iconst 0 dX12_weeks_99 rfl ?_
                      refine m_istore [(6, .int 0), (0, .ref (gK G 4 0)), (1, .int (nI (nq))), (2, .int p_), (3, .int wq), (4, .int z_), (5, .int (nI (u_)))] (by decide) rfl dX12_weeks_100 ?_
                      have lp102 : ∀ (dd : Nat) (k_ : Nat) (T7 : owF), k_ ≤ aC a_ → T7 4 0 21 = (wkS a_ p_ wq (wksS a_ p_ wq z_ u_).1 (wksS a_ p_ wq z_ u_).2 k_).1 → (∀ j_, j_ < aC a_ → T7 55 0 j_ = nI ((wkS a_ p_ wq (wksS a_ p_ wq z_ u_).1 (wksS a_ p_ wq z_ u_).2 k_).2 j_)) → aC a_ - k_ < dd → Wm l G cX12_weeks 8 RX12 ((some .int)) (rmk 1 0 0) (fun _ => True) (QfM G (qI (fun r_ σ => r_ = weeksI a_ (nI nq) p_ wq z_ ∧ ∃ (T2 V2 : owF), σ = (A, S, Z, B, T2, V2, J, Y, P))) 0 0) 102 [(0, .ref (gK G 4 0)), (1, .int (nI (nq))), (2, .int p_), (3, .int wq), (4, .int z_), (5, .int (nI (u_))), (6, .int (nI (k_)))] [] (A, S, Z, B, T7, V, J, Y, P) 0 0 := by
                        intro dd
                        induction dd with
                        | zero => intro k_ T7 hk_ hsd9 hin9 hdd; exact absurd hdd (Nat.not_lt_zero _)
                        | succ dd ih102 =>
                          intro k_ T7 hk_ hsd9 hin9 hdd102
                          refine m_iload 6 rfl dX12_weeks_102 ?_
                          refine m_aload_n 0 rfl rfl dX12_weeks_104 ?_
                          refine gf_X12_9 dX12_weeks_105 ?_
                          refine m_iconst 1 dX12_weeks_108 rfl ?_
                          refine al_40 1 rfl (by omega) dX12_weeks_109 ?_
                          refine m_topi hX.2.1 ?_
                          refine m_icmpn_ge k_ (aC a_) 180 (by omega) (by omega) dX12_weeks_110 (by decide) (fun c11_ => ?_) (fun c11_ => ?_)
                          ·
                            obtain rfl : k_ = aC a_ := (by omega)
                            refine m_iinc (nI (u_ + 1)) 5 [(5, .int (nI (u_ + 1))), (0, .ref (gK G 4 0)), (1, .int (nI (nq))), (2, .int p_), (3, .int wq), (4, .int z_), (6, .int (nI (aC a_)))] rfl (nI_1 _) (by decide) rfl dX12_weeks_180 ?_
                            refine m_goto 93 dX12_weeks_183 (by decide) ?_
                            refine m_lv [(0, .ref (gK G 4 0)), (1, .int (nI (nq))), (2, .int p_), (3, .int wq), (4, .int z_), (5, .int (nI (u_ + 1)))] [1, 2, 3, 4, 5, 0] rfl ?_
                            exact ih93 (u_ + 1) T7 (by omega) hsd9 hin9 (by omega)
                          ·
                            have hwk := wkS_lt (p := p_) (q := wq) (sd := (wksS a_ p_ wq z_ u_).1) (f := (wksS a_ p_ wq z_ u_).2) ho_ (fun j_ hj => wksS_lt ho_ u_ j_ hj) k_ (by omega) k_ (by omega)
                            have hch := ho_.2.2.2.1 k_ (by omega)
                            refine m_aload_n 0 rfl rfl dX12_weeks_113 ?_
                            refine m_bipush (100) dX12_weeks_114 rfl ?_
                            refine m_callVi cv_X12_227 [.int 100] [] (k_m_drawn l G 100 (by decide)) (by decide) (ce_4 G _ _ _ _ _ _ _ _ _ _) rfl rfl rfl ⟨Nat.le_of_ble_eq_true rfl, Nat.le_of_ble_eq_true rfl⟩ (Nat.le_of_ble_eq_true rfl) ⟨Nat.zero_le _, Nat.zero_le _⟩ dX12_weeks_116 (fun xx σ2 hq => ?_)
                            obtain ⟨rfl, rfl⟩ := hq
                            obtain ⟨T12, hT12⟩ : ∃ q_ : owF, q_ = up3 T7 4 0 21 (nxt (T7 4 0 21)) := ⟨_, rfl⟩
                            rw [← hT12]
                            refine m_istore [(7, .int (drI (nxt (T7 4 0 21)) 100)), (0, .ref (gK G 4 0)), (1, .int (nI (nq))), (2, .int p_), (3, .int wq), (4, .int z_), (5, .int (nI (u_))), (6, .int (nI (k_)))] (by decide) rfl dX12_weeks_119 ?_
                            refine m_aload_n 1 rfl rfl dX12_weeks_121 ?_
                            refine gf_X12_55 dX12_weeks_122 ?_
                            refine m_iload 7 rfl dX12_weeks_125 ?_
                            refine m_iload 0 rfl dX12_weeks_127 ?_
                            refine m_iload_n 3 rfl rfl dX12_weeks_129 ?_
                            refine m_icmp_ge 148 dX12_weeks_130 (by decide) (fun c13_ => ?_) (fun c13_ => ?_)
                            ·
                              refine m_iload 0 rfl dX12_weeks_148 ?_
                              refine m_iload_n 3 rfl rfl dX12_weeks_150 ?_
                              refine m_iload_n 4 rfl rfl dX12_weeks_151 ?_
                              refine m_iadd dX12_weeks_152 ?_
                              refine m_icmp_ge 166 dX12_weeks_153 (by decide) (fun c14_ => ?_) (fun c14_ => ?_)
                              ·
                                refine m_aload_n 1 rfl rfl dX12_weeks_166 ?_
                                refine gf_X12_55 dX12_weeks_167 ?_
                                refine m_iload 7 rfl dX12_weeks_170 ?_
                                refine al_55 k_ rfl (by omega) dX12_weeks_172 ?_
                                refine m_topi (up3_t hT12 (by decide) (hin9 k_ (by omega))) ?_
                                refine as_55 k_ rfl (by omega) dX12_weeks_173 (fun T15 hT15 => ?_)
                                refine m_iinc (nI (k_ + 1)) 7 [(6, .int (nI (k_ + 1))), (7, .int (drI (nxt (T7 4 0 21)) 100)), (0, .ref (gK G 4 0)), (1, .int (nI (nq))), (2, .int p_), (3, .int wq), (4, .int z_), (5, .int (nI (u_)))] rfl (nI_1 _) (by decide) rfl dX12_weeks_174 ?_
                                refine m_goto 102 dX12_weeks_177 (by decide) ?_
                                refine m_lv [(0, .ref (gK G 4 0)), (1, .int (nI (nq))), (2, .int p_), (3, .int wq), (4, .int z_), (5, .int (nI (u_))), (6, .int (nI (k_ + 1)))] [2, 3, 4, 5, 6, 7, 0] rfl ?_
                                exact ih102 (k_ + 1) T15 (by omega) (up3_t hT15 (by decide) ((up3_e hT12).trans (congrArg nxt hsd9))) (fun j_ hj => if qe : j_ = k_ then (by rw [qe]; show _ = nI (if k_ = k_ then _ else _); rw [if_pos rfl, if_neg (show ¬ drI (nxt (wkS a_ p_ wq (wksS a_ p_ wq z_ u_).1 (wksS a_ p_ wq z_ u_).2 k_).1) 100 < p_ from by rw [← hsd9]; exact Int32.not_lt.mpr c13_), if_neg (show ¬ drI (nxt (wkS a_ p_ wq (wksS a_ p_ wq z_ u_).1 (wksS a_ p_ wq z_ u_).2 k_).1) 100 < p_ + wq from by rw [← hsd9]; exact Int32.not_lt.mpr c14_)]; exact up3_e hT15) else (by show _ = nI (if j_ = k_ then _ else _); rw [if_neg qe]; exact up3_j hT15 qe (up3_t hT12 (by decide) (hin9 j_ hj)))) (by omega)
                              ·
                                refine m_aload_n 1 rfl rfl dX12_weeks_156 ?_
                                refine m_iload 7 rfl dX12_weeks_157 ?_
                                refine m_iconst 2 dX12_weeks_159 rfl ?_
                                refine m_callVi cv_X12_128 [.int (nI (k_)), .int 2] [.int (nI (k_)), .ref (gK G 55 0)] (k_m_of l G a_ ho_ im h_ hM k_ (by omega) 2 (by decide)) (by decide) (ce_4 G _ _ _ _ _ _ _ _ _ _) rfl rfl rfl ⟨Nat.le_of_ble_eq_true rfl, Nat.le_of_ble_eq_true rfl⟩ (Nat.le_of_ble_eq_true rfl) ⟨Nat.zero_le _, Nat.zero_le _⟩ dX12_weeks_160 (fun xx σ2 hq => ?_)
                                obtain ⟨hgx, rfl⟩ := hq
                                obtain rfl : xx = nI (aI a_ k_) := hgx
                                refine m_goto 173 dX12_weeks_163 (by decide) ?_
                                refine as_55 k_ rfl (by omega) dX12_weeks_173 (fun T16 hT16 => ?_)
                                refine m_iinc (nI (k_ + 1)) 7 [(6, .int (nI (k_ + 1))), (7, .int (drI (nxt (T7 4 0 21)) 100)), (0, .ref (gK G 4 0)), (1, .int (nI (nq))), (2, .int p_), (3, .int wq), (4, .int z_), (5, .int (nI (u_)))] rfl (nI_1 _) (by decide) rfl dX12_weeks_174 ?_
                                refine m_goto 102 dX12_weeks_177 (by decide) ?_
                                refine m_lv [(0, .ref (gK G 4 0)), (1, .int (nI (nq))), (2, .int p_), (3, .int wq), (4, .int z_), (5, .int (nI (u_))), (6, .int (nI (k_ + 1)))] [2, 3, 4, 5, 6, 7, 0] rfl ?_
                                exact ih102 (k_ + 1) T16 (by omega) (up3_t hT16 (by decide) ((up3_e hT12).trans (congrArg nxt hsd9))) (fun j_ hj => if qe : j_ = k_ then (by rw [qe]; show _ = nI (if k_ = k_ then _ else _); rw [if_pos rfl, if_neg (show ¬ drI (nxt (wkS a_ p_ wq (wksS a_ p_ wq z_ u_).1 (wksS a_ p_ wq z_ u_).2 k_).1) 100 < p_ from by rw [← hsd9]; exact Int32.not_lt.mpr c13_), if_pos (show drI (nxt (wkS a_ p_ wq (wksS a_ p_ wq z_ u_).1 (wksS a_ p_ wq z_ u_).2 k_).1) 100 < p_ + wq from by rw [← hsd9]; exact Int32.not_le.mp c14_)]; exact up3_e hT16) else (by show _ = nI (if j_ = k_ then _ else _); rw [if_neg qe]; exact up3_j hT16 qe (up3_t hT12 (by decide) (hin9 j_ hj)))) (by omega)
                            ·
                              refine m_aload_n 1 rfl rfl dX12_weeks_133 ?_
                              refine m_iconst 0 dX12_weeks_134 rfl ?_
                              refine m_aload_n 1 rfl rfl dX12_weeks_135 ?_
                              refine gf_X12_55 dX12_weeks_136 ?_
                              refine m_iload 7 rfl dX12_weeks_139 ?_
                              refine al_55 k_ rfl (by omega) dX12_weeks_141 ?_
                              refine m_topi (up3_t hT12 (by decide) (hin9 k_ (by omega))) ?_
                              refine m_callVi cv_X12_133 [.int 0, .int (nI ((wkS a_ p_ wq (wksS a_ p_ wq z_ u_).1 (wksS a_ p_ wq z_ u_).2 k_).2 k_))] [.int (nI (k_)), .ref (gK G 55 0)] (k_m_saidOf l G a_ ho_ im h_ hM 0 (by omega) ((wkS a_ p_ wq (wksS a_ p_ wq z_ u_).1 (wksS a_ p_ wq z_ u_).2 k_).2 k_) (by omega)) (by decide) (ce_4 G _ _ _ _ _ _ _ _ _ _) rfl rfl rfl ⟨Nat.le_of_ble_eq_true rfl, Nat.le_of_ble_eq_true rfl⟩ (Nat.le_of_ble_eq_true rfl) ⟨Nat.zero_le _, Nat.zero_le _⟩ dX12_weeks_142 (fun xx σ2 hq => ?_)
                              obtain ⟨rfl, rfl⟩ := hq
                              refine m_goto 173 dX12_weeks_145 (by decide) ?_
                              refine as_55 k_ rfl (by omega) dX12_weeks_173 (fun T17 hT17 => ?_)
                              refine m_iinc (nI (k_ + 1)) 7 [(6, .int (nI (k_ + 1))), (7, .int (drI (nxt (T7 4 0 21)) 100)), (0, .ref (gK G 4 0)), (1, .int (nI (nq))), (2, .int p_), (3, .int wq), (4, .int z_), (5, .int (nI (u_)))] rfl (nI_1 _) (by decide) rfl dX12_weeks_174 ?_
                              refine m_goto 102 dX12_weeks_177 (by decide) ?_
                              refine m_lv [(0, .ref (gK G 4 0)), (1, .int (nI (nq))), (2, .int p_), (3, .int wq), (4, .int z_), (5, .int (nI (u_))), (6, .int (nI (k_ + 1)))] [2, 3, 4, 5, 6, 7, 0] rfl ?_
                              exact ih102 (k_ + 1) T17 (by omega) (up3_t hT17 (by decide) ((up3_e hT12).trans (congrArg nxt hsd9))) (fun j_ hj => if qe : j_ = k_ then (by rw [qe]; show _ = nI (if k_ = k_ then _ else _); rw [if_pos rfl, if_pos (show drI (nxt (wkS a_ p_ wq (wksS a_ p_ wq z_ u_).1 (wksS a_ p_ wq z_ u_).2 k_).1) 100 < p_ from by rw [← hsd9]; exact Int32.not_le.mp c13_)]; exact up3_e hT17) else (by show _ = nI (if j_ = k_ then _ else _); rw [if_neg qe]; exact up3_j hT17 qe (up3_t hT12 (by decide) (hin9 j_ hj)))) (by omega)
                      refine m_lv [(0, .ref (gK G 4 0)), (1, .int (nI (nq))), (2, .int p_), (3, .int wq), (4, .int z_), (5, .int (nI (u_))), (6, .int 0)] [1, 2, 3, 4, 5, 6, 0] rfl ?_
                      exact lp102 ((aC a_ - 0) + 1) 0 T8 (Nat.zero_le _) hsd hin (Nat.lt_succ_self _)
                refine m_lv [(0, .ref (gK G 4 0)), (1, .int (nI (nq))), (2, .int p_), (3, .int wq), (4, .int z_), (5, .int 0)] [1, 2, 3, 4, 5, 0] rfl ?_
                exact lp93 ((nq - 0) + 1) 0 T9 (Nat.zero_le _) hsd hin (Nat.lt_succ_self _)
              ·
                have hch := ho_.2.2.2.1 k_ (by omega)
                refine m_aload_n 0 rfl rfl dX12_weeks_70 ?_
                refine gf_X12_55 dX12_weeks_71 ?_
                refine m_iload 5 rfl dX12_weeks_74 ?_
                refine m_aload_n 0 rfl rfl dX12_weeks_76 ?_
                refine m_iload 5 rfl dX12_weeks_77 ?_
                refine m_iconst 0 dX12_weeks_79 rfl ?_
                refine m_callVi cv_X12_128 [.int (nI (k_)), .int 0] [.int (nI (k_)), .ref (gK G 55 0)] (k_m_of l G a_ ho_ im h_ hM k_ (by omega) 0 (by decide)) (by decide) (ce_4 G _ _ _ _ _ _ _ _ _ _) rfl rfl rfl ⟨Nat.le_of_ble_eq_true rfl, Nat.le_of_ble_eq_true rfl⟩ (Nat.le_of_ble_eq_true rfl) ⟨Nat.zero_le _, Nat.zero_le _⟩ dX12_weeks_80 (fun xx σ2 hq => ?_)
                obtain ⟨hgx, rfl⟩ := hq
                obtain rfl : xx = nI (aH a_ k_) := hgx
                refine as_55 k_ rfl (by omega) dX12_weeks_83 (fun T18 hT18 => ?_)
                refine m_iinc (nI (k_ + 1)) 5 [(5, .int (nI (k_ + 1))), (0, .ref (gK G 4 0)), (1, .int (nI (nq))), (2, .int p_), (3, .int wq), (4, .int z_)] rfl (nI_1 _) (by decide) rfl dX12_weeks_84 ?_
                refine m_goto 59 dX12_weeks_87 (by decide) ?_
                refine m_lv [(0, .ref (gK G 4 0)), (1, .int (nI (nq))), (2, .int p_), (3, .int wq), (4, .int z_), (5, .int (nI (k_ + 1)))] [1, 2, 3, 4, 5, 0] rfl ?_
                exact ih59 (k_ + 1) T18 (by omega) (up3_t hT18 (by decide) hsd) (fun j_ hj => by rcases Nat.lt_or_ge j_ k_ with q_ | q_; exact up3_j hT18 (by omega) (hin j_ q_); obtain rfl : k_ = j_ := (by omega); exact up3_e hT18) (by omega)
          refine m_lv [(0, .ref (gK G 4 0)), (1, .int (nI (nq))), (2, .int p_), (3, .int wq), (4, .int z_), (5, .int 0)] [1, 2, 3, 4, 5, 0] rfl ?_
          exact lp59 ((aC a_ - 0) + 1) 0 T5 (Nat.zero_le _) (up3_e hT5) (fun j_ hj => absurd hj (Nat.not_lt_zero j_)) (Nat.lt_succ_self _)
        ·
          refine m_bipush (-3) dX12_weeks_47 rfl ?_
          exact m_iret dX12_weeks_49 (Nat.le_refl _) (Nat.le_refl _) (⟨by unfold weeksI; rw [if_pos ⟨hn20.1, hn20.2, hp100.1, hp100.2, hq100.1, hq100.2⟩, if_pos (by omega)], _, _, rfl⟩)
      ·
        refine m_iconst (-1) dX12_weeks_36 rfl ?_
        exact m_iret dX12_weeks_37 (Nat.le_refl _) (Nat.le_refl _) (⟨by have hz := of_decide_eq_false c3_; unfold weeksI; rw [if_neg (fun q_ => hz (by first | exact ⟨q_.1, q_.2.1⟩ | exact ⟨q_.2.2.1, q_.2.2.2.1⟩ | exact ⟨q_.2.2.2.2.1, q_.2.2.2.2.2⟩))], _, _, rfl⟩)
set_option maxRecDepth 100000 in
set_option maxHeartbeats 4000000 in
theorem k_m_bits (l : Launch) (G : owG) {A S Z B T V : owF} {J : Nat → Nat → Int64} {Y : Nat → Nat → Nat → Option Nat} {P : Nat → Option owW} (m_ : Nat) (hm_ : m_ < 1024) : Ct l G yX12_bits cX12_bits 3 ((some .int)) 0 0 0 [.int (nI (m_))] (A, S, Z, B, T, V, J, Y, P) (qI (fun r_ σ => r_ = nI (bcN m_) ∧ σ = (A, S, Z, B, T, V, J, Y, P))) := by
  refine ct_of (by decide +kernel) (Nat.le_of_ble_eq_true rfl) ?_
  show Wm l G cX12_bits 3 RX12 ((some .int)) (rmk 0 0 0) (fun _ => True) (QfM G (qI (fun r_ σ => r_ = nI (bcN m_) ∧ σ = (A, S, Z, B, T, V, J, Y, P))) 0 0) 0 [(0, .int (nI (m_)))] [] (A, S, Z, B, T, V, J, Y, P) 0 0
  refine m_iconst 0 dX12_bits_0 rfl ?_
  refine m_istore_n [(1, .int 0), (0, .int (nI (m_)))] rfl (by decide) rfl dX12_bits_1 ?_
  refine m_iload_n 1 rfl rfl dX12_bits_2 ?_
  refine m_topi (show nI m_ = nI (m_ / 2 ^ 0) from by rw [Nat.pow_zero, Nat.div_one]) ?_
  refine m_istore_n [(2, .int (nI (m_ / 2 ^ 0))), (1, .int 0), (0, .int (nI (m_)))] rfl (by decide) rfl dX12_bits_3 ?_
  have lp4 : ∀ (dd : Nat) (i_ : Nat) , i_ ≤ 10 → 10 - i_ < dd → Wm l G cX12_bits 3 RX12 ((some .int)) (rmk 0 0 0) (fun _ => True) (QfM G (qI (fun r_ σ => r_ = nI (bcN m_) ∧ σ = (A, S, Z, B, T, V, J, Y, P))) 0 0) 4 [(0, .int (nI (m_))), (1, .int (nI (smN (fun i_ => m_ / 2 ^ i_ % 2) i_))), (2, .int (nI (m_ / 2 ^ i_)))] [] (A, S, Z, B, T, V, J, Y, P) 0 0 := by
    intro dd
    induction dd with
    | zero => intro i_  hi_ hdd; exact absurd hdd (Nat.not_lt_zero _)
    | succ dd ih4 =>
      intro i_  hi_ hdd4
      have hv_ := Nat.div_le_self m_ (2 ^ i_)
      have hi2 : 0 < m_ / 2 ^ i_ → i_ < 10 := fun q_ => by rcases Nat.lt_or_ge i_ 10 with z_ | z_; exact z_; rw [show i_ = 10 by omega, Nat.div_eq_of_lt hm_] at q_; exact absurd q_ (by decide)
      refine m_iload_n 2 rfl rfl dX12_bits_4 ?_
      refine m_ifn_le (m_ / 2 ^ i_) 21 (by omega) dX12_bits_5 (by decide) (fun c1_ => ?_) (fun c1_ => ?_)
      ·
        refine m_iload_n 1 rfl rfl dX12_bits_21 ?_
        exact m_iret dX12_bits_22 (Nat.le_refl _) (Nat.le_refl _) (⟨by rw [bcN_end hi_ (by omega)], rfl⟩)
      ·
        refine m_iload_n 1 rfl rfl dX12_bits_8 ?_
        refine m_iload_n 2 rfl rfl dX12_bits_9 ?_
        refine m_iconst 1 dX12_bits_10 rfl ?_
        refine m_iand dX12_bits_11 ?_
        refine m_topi ((show nI (m_ / 2 ^ i_) &&& 1 = nI (m_ / 2 ^ i_ % 2) from pk_andN (by omega) 1 (by decide))) ?_
        refine m_iadd dX12_bits_12 ?_
        refine m_topi (show (nI (smN (fun i_ => m_ / 2 ^ i_ % 2) i_)) + (nI (m_ / 2 ^ i_ % 2)) = nI ((smN (fun i_ => m_ / 2 ^ i_ % 2) i_) + (m_ / 2 ^ i_ % 2)) from nI_add _ _) ?_
        refine m_istore_n [(1, .int (nI ((smN (fun i_ => m_ / 2 ^ i_ % 2) i_) + (m_ / 2 ^ i_ % 2)))), (0, .int (nI (m_))), (2, .int (nI (m_ / 2 ^ i_)))] rfl (by decide) rfl dX12_bits_13 ?_
        refine m_iload_n 2 rfl rfl dX12_bits_14 ?_
        refine m_iconst 1 dX12_bits_15 rfl ?_
        refine m_ishr dX12_bits_16 ?_
        refine m_topi ((show nI (m_ / 2 ^ i_) >>> (1 &&& 31) = nI (m_ / 2 ^ (i_ + 1)) from (shr_nat (k := 1) (by omega) (by decide)).trans (congrArg nI (by rw [Nat.pow_one, Nat.div_div_eq_div_mul, ← Nat.pow_succ])))) ?_
        refine m_istore_n [(2, .int (nI (m_ / 2 ^ (i_ + 1)))), (1, .int (nI ((smN (fun i_ => m_ / 2 ^ i_ % 2) i_) + (m_ / 2 ^ i_ % 2)))), (0, .int (nI (m_)))] rfl (by decide) rfl dX12_bits_17 ?_
        refine m_goto 4 dX12_bits_18 (by decide) ?_
        refine m_lv [(0, .int (nI (m_))), (1, .int (nI ((smN (fun i_ => m_ / 2 ^ i_ % 2) i_) + (m_ / 2 ^ i_ % 2)))), (2, .int (nI (m_ / 2 ^ (i_ + 1))))] [2, 1, 0] rfl ?_
        exact ih4 (i_ + 1)  (by omega) (by omega)
  refine m_lv [(0, .int (nI (m_))), (1, .int 0), (2, .int (nI (m_ / 2 ^ 0)))] [2, 1, 0] rfl ?_
  exact lp4 ((10 - 0) + 1) 0  (Nat.zero_le _) (Nat.lt_succ_self _)
set_option maxRecDepth 100000 in
set_option maxHeartbeats 4000000 in
theorem k_m_slips (l : Launch) (G : owG) {A S Z B T V : owF} {J : Nat → Nat → Int64} {Y : Nat → Nat → Nat → Option Nat} {P : Nat → Option owW} (a_ : owK) (ho_ : aOk a_) (im : Option owK) (h_ : owH) (hM : MR B a_ im h_) (x_ n_ : Int32) : Ct l G yX12_slips cX12_slips 4 ((some .int)) 2 0 0 [.ref (gK G 4 0), .int x_, .int n_] (A, S, Z, B, T, V, J, Y, P) (qI (fun r_ σ => r_ = slipsI a_ x_ n_ ∧ ∃ (B2 T2 V2 : owF), σ = (A, S, Z, B2, T2, V2, J, Y, P) ∧ MR B2 (slipsA a_ x_ n_) (im) (h_))) := by
  refine ct_of (by decide +kernel) (Nat.le_of_ble_eq_true rfl) ?_
  have h10 := ho_.1
  have h8_ := ho_.2.1
  have hX := hM.1
  show Wm l G cX12_slips 4 RX12 ((some .int)) (rmk 2 0 0) (fun _ => True) (QfM G (qI (fun r_ σ => r_ = slipsI a_ x_ n_ ∧ ∃ (B2 T2 V2 : owF), σ = (A, S, Z, B2, T2, V2, J, Y, P) ∧ MR B2 (slipsA a_ x_ n_) (im) (h_))) 0 0) 0 [(0, .ref (gK G 4 0)), (1, .int x_), (2, .int n_)] [] (A, S, Z, B, T, V, J, Y, P) 0 0
  refine m_aload_n 0 rfl rfl dX12_slips_0 ?_
  refine m_iload_n 1 rfl rfl dX12_slips_1 ?_
  refine m_callVi cv_X12_125 [.int x_] [] (k_m_isChild l G a_ ho_ im h_ hM x_) (by decide) (ce_4 G _ _ _ _ _ _ _ _ _ _) rfl rfl rfl ⟨Nat.le_of_ble_eq_true rfl, Nat.le_of_ble_eq_true rfl⟩ (Nat.le_of_ble_eq_true rfl) ⟨Nat.zero_le _, Nat.zero_le _⟩ dX12_slips_2 (fun xx σ2 hq => ?_)
  obtain ⟨rfl, rfl⟩ := hq
  refine m_ifeq_b 20 dX12_slips_5 (by decide) (fun c1_ => ?_) (fun c1_ => ?_)
  ·
    refine m_iconst (-1) dX12_slips_20 rfl ?_
    exact m_iret dX12_slips_21 (Nat.le_refl _) (Nat.le_refl _) (⟨by unfold slipsI; rw [show slipsB a_ x_ n_ = false from by unfold slipsB; first | rw [c1_]; rfl | (have hz : decide (0 ≤ n_ ∧ n_ ≤ 50) = false := c1_; rw [hz, Bool.and_false])]; rfl, _, _, _, rfl, by unfold slipsA; rw [show slipsB a_ x_ n_ = false from by unfold slipsB; first | rw [c1_]; rfl | (have hz : decide (0 ≤ n_ ∧ n_ ≤ 50) = false := c1_; rw [hz, Bool.and_false])]; exact hM⟩)
  ·
    obtain ⟨cq, hcq, rfl⟩ := isC_nat ho_ c1_
    have hclcq : (nI cq).toNatClampNeg = cq := nI_clamp (by omega)
    refine m_iload_n 2 rfl rfl dX12_slips_8 ?_
    refine m_i2l dX12_slips_9 ?_
    refine m_lconst 0 dX12_slips_10 rfl ?_
    refine m_topl (show (0 : Int64) = (0 : Int32).toInt64 by decide) ?_
    refine m_ldc2 50 tw_1193 dX12_slips_11 ?_
    refine m_topl (show (50 : Int64) = (50 : Int32).toInt64 by decide) ?_
    refine m_callSi cs_X12_62 [.long (n_.toInt64), .long ((0 : Int32).toInt64), .long ((50 : Int32).toInt64)] [] (k_m_isIn l G n_ 0 50) rfl rfl ⟨Nat.le_of_ble_eq_true rfl, Nat.le_of_ble_eq_true rfl⟩ (Nat.le_of_ble_eq_true rfl) ⟨Nat.zero_le _, Nat.zero_le _⟩ dX12_slips_14 (fun xx σ2 hq => ?_)
    obtain ⟨rfl, rfl⟩ := hq
    refine m_ifne_b 22 dX12_slips_17 (by decide) (fun c2_ => ?_) (fun c2_ => ?_)
    ·
      obtain ⟨nq, hnq, rfl⟩ := inN (n := 50) (by decide) c2_
      have hclnq : (nI nq).toNatClampNeg = nq := nI_clamp (by omega)
      have hb : slipsB a_ (nI cq) (nI nq) = true := by unfold slipsB; rw [isC_of ho_ hcq, Bool.true_and]; exact decide_eq_true ⟨nI_pos' (by omega), nI_le (b := 50) hnq (by decide)⟩
      refine m_aload_n 0 rfl rfl dX12_slips_22 ?_
      refine m_iload_n 1 rfl rfl dX12_slips_23 ?_
      refine m_iconst 1 dX12_slips_24 rfl ?_
      refine m_callVi cv_X12_128 [.int (nI (cq)), .int 1] [] (k_m_of l G a_ ho_ im h_ hM cq hcq 1 (by decide)) (by decide) (ce_4 G _ _ _ _ _ _ _ _ _ _) rfl rfl rfl ⟨Nat.le_of_ble_eq_true rfl, Nat.le_of_ble_eq_true rfl⟩ (Nat.le_of_ble_eq_true rfl) ⟨Nat.zero_le _, Nat.zero_le _⟩ dX12_slips_25 (fun xx σ2 hq => ?_)
      obtain ⟨hgx, rfl⟩ := hq
      obtain rfl : xx = nI (aS a_ cq) := hgx
      refine m_istore_n [(3, .int (nI (aS a_ cq))), (0, .ref (gK G 4 0)), (1, .int (nI (cq))), (2, .int (nI (nq)))] rfl (by decide) rfl dX12_slips_28 ?_
      refine m_aload_n 1 rfl rfl dX12_slips_29 ?_
      refine gf_X12_9 dX12_slips_30 ?_
      refine m_bipush (32) dX12_slips_33 rfl ?_
      refine m_iconst 3 dX12_slips_35 rfl ?_
      refine m_iload_n 2 rfl rfl dX12_slips_36 ?_
      refine m_imul dX12_slips_37 ?_
      refine m_topi (show 3 * (nI (cq)) = nI (3 * cq) from pk_mul _ _) ?_
      refine m_iadd dX12_slips_38 ?_
      refine m_topi (show 32 + (nI (3 * cq)) = nI (32 + (3 * cq)) from nI_add _ _) ?_
      refine m_iconst 1 dX12_slips_39 rfl ?_
      refine m_iadd dX12_slips_40 ?_
      refine m_topi (show (nI (32 + (3 * cq))) + 1 = nI ((32 + (3 * cq)) + 1) from nI_add _ _) ?_
      refine m_iload_n 3 rfl rfl dX12_slips_41 ?_
      refine as_40 ((32 + (3 * cq)) + 1) rfl (by omega) dX12_slips_42 (fun B3 hB3 => ?_)
      refine m_iload_n 0 rfl rfl dX12_slips_43 ?_
      exact m_iret dX12_slips_44 (Nat.le_refl _) (Nat.le_refl _) (⟨by unfold slipsI; rw [hb, hclcq]; rfl, _, _, _, rfl, by unfold slipsA; rw [hb, hclcq, hclnq]; exact hM.st (fun t_ j_ ht => (congrFun (congrFun (congrFun hB3 t_) 0) j_).trans (if_neg (fun q_ => ht q_.1))) (MX.setS ho_ hcq hX (fun j_ => (congrFun (congrFun (congrFun hB3 40) 0) j_).trans (by unfold up3; simp)))⟩)
    ·
      refine m_iconst (-1) dX12_slips_20 rfl ?_
      exact m_iret dX12_slips_21 (Nat.le_refl _) (Nat.le_refl _) (⟨by unfold slipsI; rw [show slipsB a_ (nI (cq)) n_ = false from by unfold slipsB; first | rw [c2_]; rfl | (have hz : decide (0 ≤ n_ ∧ n_ ≤ 50) = false := c2_; rw [hz, Bool.and_false])]; rfl, _, _, _, rfl, by unfold slipsA; rw [show slipsB a_ (nI (cq)) n_ = false from by unfold slipsB; first | rw [c2_]; rfl | (have hz : decide (0 ≤ n_ ∧ n_ ≤ 50) = false := c2_; rw [hz, Bool.and_false])]; exact hM⟩)
set_option maxRecDepth 100000 in
set_option maxHeartbeats 4000000 in
theorem k_m_ofX (l : Launch) (G : owG) {A S Z B T V : owF} {J : Nat → Nat → Int64} {Y : Nat → Nat → Nat → Option Nat} {P : Nat → Option owW} (a_ : owK) (h8_ : aC a_ ≤ 8) (hX : MX (B 40 0) a_) (c_ : Nat) (hc_ : c_ < aC a_) (k_ : Nat) (hk_ : k_ < 3) : Ct l G yX12_of cX12_of 3 ((some .int)) 0 0 0 [.ref (gK G 4 0), .int (nI (c_)), .int (nI (k_))] (A, S, Z, B, T, V, J, Y, P) (qI (fun r_ σ => r_ = nI (mO a_ c_ k_) ∧ σ = (A, S, Z, B, T, V, J, Y, P))) := by
  refine ct_of (by decide +kernel) (Nat.le_of_ble_eq_true rfl) ?_
  show Wm l G cX12_of 3 RX12 ((some .int)) (rmk 0 0 0) (fun _ => True) (QfM G (qI (fun r_ σ => r_ = nI (mO a_ c_ k_) ∧ σ = (A, S, Z, B, T, V, J, Y, P))) 0 0) 0 [(0, .ref (gK G 4 0)), (1, .int (nI (c_))), (2, .int (nI (k_)))] [] (A, S, Z, B, T, V, J, Y, P) 0 0
  refine m_aload_n 0 rfl rfl dX12_of_0 ?_
  refine gf_X12_9 dX12_of_1 ?_
  refine m_bipush (32) dX12_of_4 rfl ?_
  refine m_iconst 3 dX12_of_6 rfl ?_
  refine m_iload_n 1 rfl rfl dX12_of_7 ?_
  refine m_imul dX12_of_8 ?_
  refine m_topi (show 3 * (nI (c_)) = nI (3 * c_) from pk_mul _ _) ?_
  refine m_iadd dX12_of_9 ?_
  refine m_topi (show 32 + (nI (3 * c_)) = nI (32 + (3 * c_)) from nI_add _ _) ?_
  refine m_iload_n 2 rfl rfl dX12_of_10 ?_
  refine m_iadd dX12_of_11 ?_
  refine m_topi (show (nI (32 + (3 * c_))) + (nI (k_)) = nI ((32 + (3 * c_)) + k_) from nI_add _ _) ?_
  refine al_40 ((32 + (3 * c_)) + k_) rfl (by omega) dX12_of_12 ?_
  refine m_topi (hX.2.2.2.1 c_ hc_ k_ hk_) ?_
  exact m_iret dX12_of_13 (Nat.le_refl _) (Nat.le_refl _) (⟨rfl, rfl⟩)
set_option maxRecDepth 100000 in
set_option maxHeartbeats 4000000 in
theorem k_m_say (l : Launch) (G : owG) {A S Z B T V : owF} {J : Nat → Nat → Int64} {Y : Nat → Nat → Nat → Option Nat} {P : Nat → Option owW} (a_ : owK) (ho_ : aOk a_) (im : Option owK) (h_ : owH) (hM : MR B a_ im h_) (x_ n_ : Int32) : Ct l G yX12_say cX12_say 3 ((some .int)) 2 0 0 [.ref (gK G 4 0), .int x_, .int n_] (A, S, Z, B, T, V, J, Y, P) (qI (fun r_ σ => r_ = sayI a_ x_ n_ ∧ ∃ (B2 T2 V2 : owF), σ = (A, S, Z, B2, T2, V2, J, Y, P) ∧ MR B2 (sayA a_ x_ n_) (im) (h_))) := by
  refine ct_of (by decide +kernel) (Nat.le_of_ble_eq_true rfl) ?_
  have h10 := ho_.1
  have h8_ := ho_.2.1
  have hX := hM.1
  show Wm l G cX12_say 3 RX12 ((some .int)) (rmk 2 0 0) (fun _ => True) (QfM G (qI (fun r_ σ => r_ = sayI a_ x_ n_ ∧ ∃ (B2 T2 V2 : owF), σ = (A, S, Z, B2, T2, V2, J, Y, P) ∧ MR B2 (sayA a_ x_ n_) (im) (h_))) 0 0) 0 [(0, .ref (gK G 4 0)), (1, .int x_), (2, .int n_)] [] (A, S, Z, B, T, V, J, Y, P) 0 0
  refine m_aload_n 0 rfl rfl dX12_say_0 ?_
  refine m_iload_n 1 rfl rfl dX12_say_1 ?_
  refine m_callVi cv_X12_125 [.int x_] [] (k_m_isChild l G a_ ho_ im h_ hM x_) (by decide) (ce_4 G _ _ _ _ _ _ _ _ _ _) rfl rfl rfl ⟨Nat.le_of_ble_eq_true rfl, Nat.le_of_ble_eq_true rfl⟩ (Nat.le_of_ble_eq_true rfl) ⟨Nat.zero_le _, Nat.zero_le _⟩ dX12_say_2 (fun xx σ2 hq => ?_)
  obtain ⟨rfl, rfl⟩ := hq
  refine m_ifeq_b 20 dX12_say_5 (by decide) (fun c1_ => ?_) (fun c1_ => ?_)
  ·
    refine m_iconst (-1) dX12_say_20 rfl ?_
    exact m_iret dX12_say_21 (Nat.le_refl _) (Nat.le_refl _) (⟨by unfold sayI; rw [show sayB a_ x_ n_ = false from by unfold sayB; first | (rw [c1_]; rfl) | (have hz := c1_; rw [show decide (0 ≤ n_ ∧ n_ < 10) = false from decide_eq_false (fun q_ => absurd (decide_eq_true (show 0 ≤ n_ ∧ n_ ≤ 9 from ⟨q_.1, (le_lt1 (n := 9) (by decide)).mpr q_.2⟩)) (by unfold inB at hz; rw [hz]; decide)), Bool.and_false])]; rfl, _, _, _, rfl, by unfold sayA; rw [show sayB a_ x_ n_ = false from by unfold sayB; first | (rw [c1_]; rfl) | (have hz := c1_; rw [show decide (0 ≤ n_ ∧ n_ < 10) = false from decide_eq_false (fun q_ => absurd (decide_eq_true (show 0 ≤ n_ ∧ n_ ≤ 9 from ⟨q_.1, (le_lt1 (n := 9) (by decide)).mpr q_.2⟩)) (by unfold inB at hz; rw [hz]; decide)), Bool.and_false])]; exact hM⟩)
  ·
    obtain ⟨cq, hcq, rfl⟩ := isC_nat ho_ c1_
    have hclcq : (nI cq).toNatClampNeg = cq := nI_clamp (by omega)
    refine m_iload_n 2 rfl rfl dX12_say_8 ?_
    refine m_i2l dX12_say_9 ?_
    refine m_lconst 0 dX12_say_10 rfl ?_
    refine m_topl (show (0 : Int64) = (0 : Int32).toInt64 by decide) ?_
    refine m_ldc2 9 tw_1184 dX12_say_11 ?_
    refine m_topl (show (9 : Int64) = (9 : Int32).toInt64 by decide) ?_
    refine m_callSi cs_X12_62 [.long (n_.toInt64), .long ((0 : Int32).toInt64), .long ((9 : Int32).toInt64)] [] (k_m_isIn l G n_ 0 9) rfl rfl ⟨Nat.le_of_ble_eq_true rfl, Nat.le_of_ble_eq_true rfl⟩ (Nat.le_of_ble_eq_true rfl) ⟨Nat.zero_le _, Nat.zero_le _⟩ dX12_say_14 (fun xx σ2 hq => ?_)
    obtain ⟨rfl, rfl⟩ := hq
    refine m_ifne_b 22 dX12_say_17 (by decide) (fun c2_ => ?_) (fun c2_ => ?_)
    ·
      obtain ⟨nq, hnq, rfl⟩ := inN (n := 9) (by decide) c2_
      have hclnq : (nI nq).toNatClampNeg = nq := nI_clamp (by omega)
      have hb : sayB a_ (nI cq) (nI nq) = true := by unfold sayB; rw [isC_of ho_ hcq, Bool.true_and]; exact decide_eq_true ⟨nI_pos' (by omega), nI_lt (b := 10) (by omega) (by decide)⟩
      refine m_aload_n 0 rfl rfl dX12_say_22 ?_
      refine gf_X12_9 dX12_say_23 ?_
      refine m_bipush (32) dX12_say_26 rfl ?_
      refine m_iconst 3 dX12_say_28 rfl ?_
      refine m_iload_n 1 rfl rfl dX12_say_29 ?_
      refine m_imul dX12_say_30 ?_
      refine m_topi (show 3 * (nI (cq)) = nI (3 * cq) from pk_mul _ _) ?_
      refine m_iadd dX12_say_31 ?_
      refine m_topi (show 32 + (nI (3 * cq)) = nI (32 + (3 * cq)) from nI_add _ _) ?_
      refine m_aload_n 0 rfl rfl dX12_say_32 ?_
      refine m_iload_n 2 rfl rfl dX12_say_33 ?_
      refine m_aload_n 0 rfl rfl dX12_say_34 ?_
      refine m_iload_n 1 rfl rfl dX12_say_35 ?_
      refine m_iconst 0 dX12_say_36 rfl ?_
      refine m_callVi cv_X12_128 [.int (nI (cq)), .int 0] [.int (nI (nq)), .ref (gK G 4 0), .int (nI (32 + (3 * cq))), .ref (gK G 40 0)] (k_m_of l G a_ ho_ im h_ hM cq hcq 0 (by decide)) (by decide) (ce_4 G _ _ _ _ _ _ _ _ _ _) rfl rfl rfl ⟨Nat.le_of_ble_eq_true rfl, Nat.le_of_ble_eq_true rfl⟩ (Nat.le_of_ble_eq_true rfl) ⟨Nat.zero_le _, Nat.zero_le _⟩ dX12_say_37 (fun xx σ2 hq => ?_)
      obtain ⟨hgx, rfl⟩ := hq
      obtain rfl : xx = nI (aH a_ cq) := hgx
      refine m_callVi cv_X12_133 [.int (nI (nq)), .int (nI (aH a_ cq))] [.int (nI (32 + (3 * cq))), .ref (gK G 40 0)] (k_m_saidOf l G a_ ho_ im h_ hM nq (by omega) (aH a_ cq) (ho_.2.2.2.1 cq hcq).1) (by decide) (ce_4 G _ _ _ _ _ _ _ _ _ _) rfl rfl rfl ⟨Nat.le_of_ble_eq_true rfl, Nat.le_of_ble_eq_true rfl⟩ (Nat.le_of_ble_eq_true rfl) ⟨Nat.zero_le _, Nat.zero_le _⟩ dX12_say_40 (fun xx σ2 hq => ?_)
      obtain ⟨rfl, rfl⟩ := hq
      refine as_40 (32 + (3 * cq)) rfl (by omega) dX12_say_43 (fun B3 hB3 => ?_)
      have hM2 : MR B3 (setH a_ cq (tdW a_ nq (aH a_ cq))) im h_ := hM.st (fun t_ j_ ht => (congrFun (congrFun (congrFun hB3 t_) 0) j_).trans (if_neg (fun q_ => ht q_.1))) (MX.setH ho_ hcq hX (fun j_ => (congrFun (congrFun (congrFun hB3 40) 0) j_).trans (by unfold up3; simp)))
      refine m_aload_n 0 rfl rfl dX12_say_44 ?_
      refine m_iload_n 1 rfl rfl dX12_say_45 ?_
      refine m_iconst 0 dX12_say_46 rfl ?_
      refine m_callVi cv_X12_128 [.int (nI (cq)), .int 0] [] (k_m_ofX l G (setH a_ cq (tdW a_ nq (aH a_ cq))) h8_ hM2.1 cq hcq 0 (by decide)) (by decide) (ce_4 G _ _ _ _ _ _ _ _ _ _) rfl rfl rfl ⟨Nat.le_of_ble_eq_true rfl, Nat.le_of_ble_eq_true rfl⟩ (Nat.le_of_ble_eq_true rfl) ⟨Nat.zero_le _, Nat.zero_le _⟩ dX12_say_47 (fun xx σ2 hq => ?_)
      obtain ⟨hgx, rfl⟩ := hq
      obtain rfl : xx = nI (tdW a_ nq (aH a_ cq)) := hgx.trans (congrArg nI (show (if cq = cq then (tdW a_ nq (aH a_ cq), aS a_ cq, aI a_ cq) else a_.2.2.2.1 cq).1 = _ from by rw [if_pos rfl]))
      exact m_iret dX12_say_50 (Nat.le_refl _) (Nat.le_refl _) (⟨by unfold sayI; rw [hb, hclcq, hclnq]; rfl, _, _, _, rfl, by unfold sayA; rw [hb, hclcq, hclnq]; exact hM2⟩)
    ·
      refine m_iconst (-1) dX12_say_20 rfl ?_
      exact m_iret dX12_say_21 (Nat.le_refl _) (Nat.le_refl _) (⟨by unfold sayI; rw [show sayB a_ (nI (cq)) n_ = false from by unfold sayB; first | (rw [c2_]; rfl) | (have hz := c2_; rw [show decide (0 ≤ n_ ∧ n_ < 10) = false from decide_eq_false (fun q_ => absurd (decide_eq_true (show 0 ≤ n_ ∧ n_ ≤ 9 from ⟨q_.1, (le_lt1 (n := 9) (by decide)).mpr q_.2⟩)) (by unfold inB at hz; rw [hz]; decide)), Bool.and_false])]; rfl, _, _, _, rfl, by unfold sayA; rw [show sayB a_ (nI (cq)) n_ = false from by unfold sayB; first | (rw [c2_]; rfl) | (have hz := c2_; rw [show decide (0 ≤ n_ ∧ n_ < 10) = false from decide_eq_false (fun q_ => absurd (decide_eq_true (show 0 ≤ n_ ∧ n_ ≤ 9 from ⟨q_.1, (le_lt1 (n := 9) (by decide)).mpr q_.2⟩)) (by unfold inB at hz; rw [hz]; decide)), Bool.and_false])]; exact hM⟩)
theorem MX.cong {f_ g : Nat → Int32} {a_ : owK} (ho_ : aOk a_) (h_ : MX f_ a_) (e_ : ∀ j_, j_ < 156 → g j_ = f_ j_) : MX g a_ := by
  have h10 := ho_.1
  have h8_ := ho_.2.1
  refine ⟨by rw [e_ 0 (by decide)]; exact h_.1, by rw [e_ 1 (by decide)]; exact h_.2.1, fun w_ hw_ k_ hk_ => by rw [e_ _ (by omega)]; exact h_.2.2.1 w_ hw_ k_ hk_, fun c_ hc_ k_ hk_ => by rw [e_ _ (by omega)]; exact h_.2.2.2.1 c_ hc_ k_ hk_, fun k_ w_ hk_ hw_ => by rw [e_ _ (by omega)]; exact h_.2.2.2.2 k_ w_ hk_ hw_⟩
theorem MS.cong {B B2 : owF} {h_ : owH} {d_ : Nat} (q_ : MS B h_ d_) (e_ : ∀ t_, 43 ≤ t_ → B2 t_ 0 = B t_ 0) : MS B2 h_ d_ := by
  unfold MS at q_ ⊢
  rw [e_ 43 (by decide), e_ 44 (by decide), e_ 45 (by decide), e_ 46 (by decide), e_ 47 (by decide), e_ 48 (by decide)]
  exact q_
set_option maxRecDepth 100000 in
set_option maxHeartbeats 4000000 in
theorem k_m_image (l : Launch) (G : owG) {A S Z B T V : owF} {J : Nat → Nat → Int64} {Y : Nat → Nat → Nat → Option Nat} {P : Nat → Option owW} (a_ : owK) (ho_ : aOk a_) (im : Option owK) (h_ : owH) (hM : MR B a_ im h_)  : Ct l G yX12_image cX12_image 2 ((some .int)) 0 0 0 [.ref (gK G 4 0)] (A, S, Z, B, T, V, J, Y, P) (qI (fun r_ σ => r_ = nI (aC a_) ∧ ∃ (B2 T2 V2 : owF), σ = (A, S, Z, B2, T2, V2, J, Y, P) ∧ MR B2 (a_) (some a_) (h_))) := by
  refine ct_of (by decide +kernel) (Nat.le_of_ble_eq_true rfl) ?_
  have h10 := ho_.1
  have h8_ := ho_.2.1
  have hX := hM.1
  show Wm l G cX12_image 2 RX12 ((some .int)) (rmk 0 0 0) (fun _ => True) (QfM G (qI (fun r_ σ => r_ = nI (aC a_) ∧ ∃ (B2 T2 V2 : owF), σ = (A, S, Z, B2, T2, V2, J, Y, P) ∧ MR B2 (a_) (some a_) (h_))) 0 0) 0 [(0, .ref (gK G 4 0))] [] (A, S, Z, B, T, V, J, Y, P) 0 0
  refine m_iconst 0 dX12_image_0 rfl ?_
  refine m_istore_n [(1, .int 0), (0, .ref (gK G 4 0))] rfl (by decide) rfl dX12_image_1 ?_
  have lp2 : ∀ (dd : Nat) (k_ : Nat) (B9 : owF), k_ ≤ 156 → (∀ t_ j_, t_ ≠ 41 → B9 t_ 0 j_ = B t_ 0 j_) → (∀ j_, j_ < k_ → B9 41 0 j_ = B 40 0 j_) → 156 - k_ < dd → Wm l G cX12_image 2 RX12 ((some .int)) (rmk 0 0 0) (fun _ => True) (QfM G (qI (fun r_ σ => r_ = nI (aC a_) ∧ ∃ (B2 T2 V2 : owF), σ = (A, S, Z, B2, T2, V2, J, Y, P) ∧ MR B2 (a_) (some a_) (h_))) 0 0) 2 [(0, .ref (gK G 4 0)), (1, .int (nI (k_)))] [] (A, S, Z, B9, T, V, J, Y, P) 0 0 := by
    intro dd
    induction dd with
    | zero => intro k_ B9 hk_ hfr hcp hdd; exact absurd hdd (Nat.not_lt_zero _)
    | succ dd ih2 =>
      intro k_ B9 hk_ hfr hcp hdd2
      refine m_iload_n 1 rfl rfl dX12_image_2 ?_
      refine m_sipush (156) dX12_image_3 rfl ?_
      refine m_icmpn_ge k_ 156 27 (by omega) (by decide) dX12_image_6 (by decide) (fun c1_ => ?_) (fun c1_ => ?_)
      ·
        obtain rfl : k_ = 156 := (by omega)
        refine m_aload_n 0 rfl rfl dX12_image_27 ?_
        refine m_iconst 1 dX12_image_28 rfl ?_
        refine pf_X12_253 ⟨nar1, rfl⟩ dX12_image_29 (fun B2 hB2 => ?_)
        refine m_aload_n 0 rfl rfl dX12_image_32 ?_
        refine gf_X12_9 dX12_image_33 ?_
        refine m_iconst 1 dX12_image_36 rfl ?_
        refine al_40 1 rfl (by omega) dX12_image_37 ?_
        refine m_topi (up3_t hB2 (by decide) ((hfr 40 1 (by decide)).trans hX.2.1)) ?_
        exact m_iret dX12_image_38 (Nat.le_refl _) (Nat.le_refl _) (⟨rfl, _, _, _, rfl, by have e4 : ∀ t_ j_, t_ ≠ 4 → B2 t_ 0 j_ = B9 t_ 0 j_ := (fun t_ j_ ht => (congrFun (congrFun (congrFun hB2 t_) 0) j_).trans (if_neg (fun q_ => ht q_.1))); exact ⟨hX.cong ho_ (fun j_ _ => (e4 40 j_ (by decide)).trans (hfr 40 j_ (by decide))), up3_e hB2, fun b_ hb => by obtain rfl := Option.some.inj hb; exact hX.cong ho_ (fun j_ hj => (e4 41 j_ (by decide)).trans (hcp j_ hj)), fun d_ hd_ => (hM.2.2.2 d_ hd_).cong (fun t_ ht => funext fun j_ => (e4 t_ j_ (by omega)).trans (hfr t_ j_ (by omega)))⟩⟩)
      ·
        refine m_aload_n 0 rfl rfl dX12_image_9 ?_
        refine gf_X12_13 dX12_image_10 ?_
        refine m_iload_n 1 rfl rfl dX12_image_13 ?_
        refine m_aload_n 0 rfl rfl dX12_image_14 ?_
        refine gf_X12_9 dX12_image_15 ?_
        refine m_iload_n 1 rfl rfl dX12_image_18 ?_
        refine al_40 k_ rfl (by omega) dX12_image_19 ?_
        refine m_topi (hfr 40 k_ (by decide)) ?_
        refine as_41 k_ rfl (by omega) dX12_image_20 (fun B3 hB3 => ?_)
        refine m_iinc (nI (k_ + 1)) 1 [(1, .int (nI (k_ + 1))), (0, .ref (gK G 4 0))] rfl (nI_1 _) (by decide) rfl dX12_image_21 ?_
        refine m_goto 2 dX12_image_24 (by decide) ?_
        refine m_lv [(0, .ref (gK G 4 0)), (1, .int (nI (k_ + 1)))] [1, 0] rfl ?_
        exact ih2 (k_ + 1) B3 (by omega) (fun t_ j_ ht => (congrFun (congrFun (congrFun hB3 t_) 0) j_).trans ((if_neg (fun q_ => ht q_.1)).trans (hfr t_ j_ ht))) (fun j_ hj => by rcases Nat.lt_or_ge j_ k_ with q_ | q_; exact up3_j hB3 (by omega) (hcp j_ q_); obtain rfl : k_ = j_ := (by omega); exact up3_e hB3) (by omega)
  refine m_lv [(0, .ref (gK G 4 0)), (1, .int 0)] [1, 0] rfl ?_
  exact lp2 ((156 - 0) + 1) 0 B (Nat.zero_le _) (fun _ _ _ => rfl) (fun j_ hj => absurd hj (Nat.not_lt_zero j_)) (Nat.lt_succ_self _)
set_option maxRecDepth 100000 in
set_option maxHeartbeats 4000000 in
theorem k_m_restore_n (l : Launch) (G : owG) {A S Z B T V : owF} {J : Nat → Nat → Int64} {Y : Nat → Nat → Nat → Option Nat} {P : Nat → Option owW} (a_ : owK) (ho_ : aOk a_) (h_ : owH) (hM : MR B a_ none h_) : Ct l G yX12_restore cX12_restore 2 ((some .int)) 0 0 0 [.ref (gK G 4 0)] (A, S, Z, B, T, V, J, Y, P) (qI (fun r_ σ => r_ = -3 ∧ ∃ (B2 T2 V2 : owF), σ = (A, S, Z, B2, T2, V2, J, Y, P) ∧ MR B2 (a_) (none) (h_))) := by
  refine ct_of (by decide +kernel) (Nat.le_of_ble_eq_true rfl) ?_
  have h10 := ho_.1
  have h8_ := ho_.2.1
  have hX := hM.1
  show Wm l G cX12_restore 2 RX12 ((some .int)) (rmk 0 0 0) (fun _ => True) (QfM G (qI (fun r_ σ => r_ = -3 ∧ ∃ (B2 T2 V2 : owF), σ = (A, S, Z, B2, T2, V2, J, Y, P) ∧ MR B2 (a_) (none) (h_))) 0 0) 0 [(0, .ref (gK G 4 0))] [] (A, S, Z, B, T, V, J, Y, P) 0 0
  refine m_aload_n 0 rfl rfl dX12_restore_0 ?_
  refine gf_X12_253 dX12_restore_1 ?_
  refine m_topi (show B 4 0 9 = 0 from hM.2.1) ?_
  refine m_if_ne 10 dX12_restore_4 (by decide) (fun c1_ => absurd c1_ (by decide)) (fun _ => ?_)
  refine m_bipush (-3) dX12_restore_7 rfl ?_
  exact m_iret dX12_restore_9 (Nat.le_refl _) (Nat.le_refl _) (⟨rfl, _, _, _, rfl, hM⟩)
set_option maxRecDepth 100000 in
set_option maxHeartbeats 4000000 in
theorem k_m_restore_s (l : Launch) (G : owG) {A S Z B T V : owF} {J : Nat → Nat → Int64} {Y : Nat → Nat → Nat → Option Nat} {P : Nat → Option owW} (a_ : owK) (ho_ : aOk a_) (b_ : owK) (hob : aOk b_) (h_ : owH) (hM : MR B a_ (some b_) h_) : Ct l G yX12_restore cX12_restore 2 ((some .int)) 0 0 0 [.ref (gK G 4 0)] (A, S, Z, B, T, V, J, Y, P) (qI (fun r_ σ => r_ = nI (aC b_) ∧ ∃ (B2 T2 V2 : owF), σ = (A, S, Z, B2, T2, V2, J, Y, P) ∧ MR B2 (b_) (some b_) (h_))) := by
  refine ct_of (by decide +kernel) (Nat.le_of_ble_eq_true rfl) ?_
  have h10 := ho_.1
  have h8_ := ho_.2.1
  have hX := hM.1
  show Wm l G cX12_restore 2 RX12 ((some .int)) (rmk 0 0 0) (fun _ => True) (QfM G (qI (fun r_ σ => r_ = nI (aC b_) ∧ ∃ (B2 T2 V2 : owF), σ = (A, S, Z, B2, T2, V2, J, Y, P) ∧ MR B2 (b_) (some b_) (h_))) 0 0) 0 [(0, .ref (gK G 4 0))] [] (A, S, Z, B, T, V, J, Y, P) 0 0
  refine m_aload_n 0 rfl rfl dX12_restore_0 ?_
  refine gf_X12_253 dX12_restore_1 ?_
  refine m_topi (show B 4 0 9 = 1 from hM.2.1) ?_
  refine m_if_ne 10 dX12_restore_4 (by decide) (fun _ => ?_) (fun c1_ => absurd c1_ (by decide))
  refine m_iconst 0 dX12_restore_10 rfl ?_
  refine m_istore_n [(1, .int 0), (0, .ref (gK G 4 0))] rfl (by decide) rfl dX12_restore_11 ?_
  have lp12 : ∀ (dd : Nat) (k_ : Nat) (B9 : owF), k_ ≤ 156 → (∀ t_ j_, t_ ≠ 40 → B9 t_ 0 j_ = B t_ 0 j_) → (∀ j_, j_ < k_ → B9 40 0 j_ = B 41 0 j_) → 156 - k_ < dd → Wm l G cX12_restore 2 RX12 ((some .int)) (rmk 0 0 0) (fun _ => True) (QfM G (qI (fun r_ σ => r_ = nI (aC b_) ∧ ∃ (B2 T2 V2 : owF), σ = (A, S, Z, B2, T2, V2, J, Y, P) ∧ MR B2 (b_) (some b_) (h_))) 0 0) 12 [(0, .ref (gK G 4 0)), (1, .int (nI (k_)))] [] (A, S, Z, B9, T, V, J, Y, P) 0 0 := by
    intro dd
    induction dd with
    | zero => intro k_ B9 hk_ hfr hcp hdd; exact absurd hdd (Nat.not_lt_zero _)
    | succ dd ih12 =>
      intro k_ B9 hk_ hfr hcp hdd12
      refine m_iload_n 1 rfl rfl dX12_restore_12 ?_
      refine m_sipush (156) dX12_restore_13 rfl ?_
      refine m_icmpn_ge k_ 156 37 (by omega) (by decide) dX12_restore_16 (by decide) (fun c2_ => ?_) (fun c2_ => ?_)
      ·
        refine m_aload_n 0 rfl rfl dX12_restore_37 ?_
        refine gf_X12_9 dX12_restore_38 ?_
        refine m_iconst 1 dX12_restore_41 rfl ?_
        refine al_40 1 rfl (by omega) dX12_restore_42 ?_
        refine m_topi ((hcp 1 (by omega)).trans (hM.2.2.1 b_ rfl).2.1) ?_
        exact m_iret dX12_restore_43 (Nat.le_refl _) (Nat.le_refl _) ((by obtain rfl : k_ = 156 := (by omega); exact ⟨rfl, _, _, _, rfl, ⟨(hM.2.2.1 b_ rfl).cong hob (fun j_ hj => hcp j_ hj), (hfr 4 9 (by decide)).trans hM.2.1, fun b2 hb => (hM.2.2.1 b2 hb).cong (by obtain rfl := Option.some.inj hb; exact hob) (fun j_ _ => hfr 41 j_ (by decide)), fun d_ hd_ => (hM.2.2.2 d_ hd_).cong (fun t_ ht => funext fun j_ => hfr t_ j_ (by omega))⟩⟩))
      ·
        refine m_aload_n 0 rfl rfl dX12_restore_19 ?_
        refine gf_X12_9 dX12_restore_20 ?_
        refine m_iload_n 1 rfl rfl dX12_restore_23 ?_
        refine m_aload_n 0 rfl rfl dX12_restore_24 ?_
        refine gf_X12_13 dX12_restore_25 ?_
        refine m_iload_n 1 rfl rfl dX12_restore_28 ?_
        refine al_41 k_ rfl (by omega) dX12_restore_29 ?_
        refine m_topi (hfr 41 k_ (by decide)) ?_
        refine as_40 k_ rfl (by omega) dX12_restore_30 (fun B3 hB3 => ?_)
        refine m_iinc (nI (k_ + 1)) 1 [(1, .int (nI (k_ + 1))), (0, .ref (gK G 4 0))] rfl (nI_1 _) (by decide) rfl dX12_restore_31 ?_
        refine m_goto 12 dX12_restore_34 (by decide) ?_
        refine m_lv [(0, .ref (gK G 4 0)), (1, .int (nI (k_ + 1)))] [1, 0] rfl ?_
        exact ih12 (k_ + 1) B3 (by omega) (fun t_ j_ ht => (congrFun (congrFun (congrFun hB3 t_) 0) j_).trans ((if_neg (fun q_ => ht q_.1)).trans (hfr t_ j_ ht))) (fun j_ hj => by rcases Nat.lt_or_ge j_ k_ with q_ | q_; exact up3_j hB3 (by omega) (hcp j_ q_); obtain rfl : k_ = j_ := (by omega); exact up3_e hB3) (by omega)
  refine m_lv [(0, .ref (gK G 4 0)), (1, .int 0)] [1, 0] rfl ?_
  exact lp12 ((156 - 0) + 1) 0 B (Nat.zero_le _) (fun _ _ _ => rfl) (fun j_ hj => absurd hj (Nat.not_lt_zero j_)) (Nat.lt_succ_self _)
