/-! lessons: the kinds taken one by one do as well as any set of as many -/
def cK (a : owK) (i : Nat) : Nat := chK a (nI (i + 1))
def smQ (a : owK) (q : Nat → Bool) (n : Nat) : Nat := smN (fun i => if q i then cK a i else 0) n
theorem smQ_cong {a : owK} {p q : Nat → Bool} : ∀ {n}, (∀ i, i < n → p i = q i) → smQ a p n = smQ a q n
  | 0, _ => rfl
  | n + 1, h => by
    show smQ a p n + (if p n = true then cK a n else 0) = smQ a q n + (if q n = true then cK a n else 0)
    rw [smQ_cong (fun i hi => h i (by omega)), h n (by omega)]
theorem cntB_cong {p q : Nat → Bool} : ∀ {n}, (∀ i, i < n → p i = q i) → cntB p n = cntB q n
  | 0, _ => rfl
  | n + 1, h => by
    show (if p n then _ else _) = (if q n then _ else _)
    rw [cntB_cong (fun i hi => h i (by omega)), h n (by omega)]
/-- one taken out -/
theorem smQ_out {a : owK} {q : Nat → Bool} {r : Nat} (hq : q r = true) : ∀ {n}, r < n → smQ a q n = smQ a (fun i => q i && decide (i ≠ r)) n + cK a r ∧ cntB q n = cntB (fun i => q i && decide (i ≠ r)) n + 1
  | 0, h => absurd h (Nat.not_lt_zero _)
  | n + 1, h => by
    rcases Nat.lt_or_ge r n with c | c
    · obtain ⟨i1, i2⟩ := smQ_out hq c
      have e : (q n && decide (n ≠ r)) = q n := by rw [decide_eq_true (by omega), Bool.and_true]
      constructor
      · show smQ a q n + (if q n = true then cK a n else 0) = smQ a _ n + (if (q n && decide (n ≠ r)) = true then cK a n else 0) + cK a r
        rw [e, i1]
        omega
      · show (if q n then _ else _) = (if (q n && decide (n ≠ r)) = true then _ else _) + 1
        rw [e, i2]
        split <;> rfl
    · obtain rfl : r = n := by omega
      have g : ∀ i, i < r → (q i && decide (i ≠ r)) = q i := fun i hi => by rw [decide_eq_true (by omega), Bool.and_true]
      have e : (q r && decide (r ≠ r)) = false := by simp
      constructor
      · show smQ a q r + (if q r = true then cK a r else 0) = smQ a _ r + (if (q r && decide (r ≠ r)) = true then cK a r else 0) + cK a r
        rw [e, hq, if_pos rfl, if_neg (by decide), smQ_cong g]
        rfl
      · show (if q r then _ else _) = (if (q r && decide (r ≠ r)) = true then _ else _) + 1
        rw [e, hq, if_pos rfl, if_neg (by decide), cntB_cong g]
/-- one put in -/
theorem smQ_in {a : owK} {q p : Nat → Bool} {r : Nat} (hq : q r = false) (hp : ∀ i, p i = (q i || decide (i = r))) {n : Nat} (hr : r < n) : smQ a p n = smQ a q n + cK a r ∧ cntB p n = cntB q n + 1 := by
  have h := smQ_out (a := a) (q := p) (r := r) (by rw [hp]; simp) hr
  have g : ∀ i, i < n → (p i && decide (i ≠ r)) = q i := fun i _ => by
    rw [hp]
    by_cases hi : i = r
    · subst hi; rw [hq]; simp
    · simp [hi]
  rw [smQ_cong g, cntB_cong g] at h
  exact h
theorem cntB_0 {q : Nat → Bool} : ∀ {n}, cntB q n = 0 → ∀ i, i < n → q i = false
  | 0, _, i, hi => absurd hi (Nat.not_lt_zero _)
  | n + 1, h, i, hi => by
    change (if q n then _ else _) = 0 at h
    split at h
    · exact absurd h (Nat.succ_ne_zero _)
    · rename_i c
      rcases Nat.lt_or_ge i n with z | z
      · exact cntB_0 h i z
      · obtain rfl : i = n := by omega
        exact Bool.eq_false_iff.mpr c
theorem smQ_le {a : owK} {p q : Nat → Bool} : ∀ {n}, (∀ i, i < n → p i = true → q i = true ∨ cK a i = 0) → smQ a p n ≤ smQ a q n
  | 0, _ => Nat.le_refl _
  | n + 1, h => by
    have ih := smQ_le (a := a) (p := p) (q := q) (n := n) (fun i hi => h i (by omega))
    show smQ a p n + (if p n then cK a n else 0) ≤ smQ a q n + (if q n then cK a n else 0)
    cases hp : p n with
    | false => rw [if_neg (by decide)]; omega
    | true =>
      rcases h n (by omega) hp with c | c
      · rw [c]; omega
      · rw [c, if_pos rfl]; omega
/-- what the choosing of a kind gives -/
theorem gkS_sp {a : owK} {ws : Int32} : ∀ k, ((gkS a ws k).1 = 0 ∧ (gkS a ws k).2 = 0 ∧ ∀ i, i < k → amongB ws (nI (i + 1)) = false → cK a i = 0) ∨ (1 ≤ (gkS a ws k).1 ∧ (gkS a ws k).1 ≤ k ∧ amongB ws (nI (gkS a ws k).1) = false ∧ (gkS a ws k).2 = chK a (nI (gkS a ws k).1) ∧ ∀ i, i < k → amongB ws (nI (i + 1)) = false → cK a i ≤ (gkS a ws k).2)
  | 0 => Or.inl ⟨rfl, rfl, fun i hi => absurd hi (Nat.not_lt_zero _)⟩
  | k + 1 => by
    have ih := gkS_sp (a := a) (ws := ws) k
    by_cases c : (gkS a ws k).2 < chK a (nI (k + 1)) ∧ amongB ws (nI (k + 1)) = false
    · have e : gkS a ws (k + 1) = (k + 1, chK a (nI (k + 1))) := gkS_y c.1 c.2
      rw [e]
      refine Or.inr ⟨by simp, Nat.le_refl _, c.2, rfl, fun i hi ha => ?_⟩
      rcases Nat.lt_or_ge i k with z | z
      · rcases ih with ⟨-, h2, h3⟩ | ⟨-, -, -, -, h5⟩
        · rw [h3 i z ha]; exact Nat.zero_le _
        · exact Nat.le_of_lt (Nat.lt_of_le_of_lt (h5 i z ha) c.1)
      · obtain rfl : i = k := by omega
        exact Nat.le_refl _
    · rw [gkS_n c]
      rcases ih with ⟨h1, h2, h3⟩ | ⟨h1, h2, h3, h4, h5⟩
      · refine Or.inl ⟨h1, h2, fun i hi ha => ?_⟩
        rcases Nat.lt_or_ge i k with z | z
        · exact h3 i z ha
        · obtain rfl : i = k := by omega
          have : ¬ (gkS a ws i).2 < chK a (nI (i + 1)) := fun q => c ⟨q, ha⟩
          show chK a (nI (i + 1)) = 0
          omega
      · refine Or.inr ⟨h1, by omega, h3, h4, fun i hi ha => ?_⟩
        rcases Nat.lt_or_ge i k with z | z
        · exact h5 i z ha
        · obtain rfl : i = k := by omega
          have : ¬ (gkS a ws i).2 < chK a (nI (i + 1)) := fun q => c ⟨q, ha⟩
          show chK a (nI (i + 1)) ≤ _
          omega
theorem nI_orN (a b : Nat) : nI a ||| nI b = nI (a ||| b) := by
  apply Int32.toBitVec_inj.mp
  show (BitVec.ofNat 32 a ||| BitVec.ofNat 32 b) = BitVec.ofNat 32 (a ||| b)
  rw [BitVec.ofNat_or]
/-- the set that is taken, its sum, its size -/
theorem lsS_sp {a : owK} : ∀ k, ∃ t : Nat, t < 256 ∧ t.testBit 0 = false ∧ (lsS a k).1 = nI t ∧ (lsS a k).2 = smQ a (fun i => t.testBit (i + 1)) 7 ∧ cntB (fun i => t.testBit (i + 1)) 7 ≤ k
  | 0 => ⟨0, by decide, by decide, rfl, by show (0 : Nat) = _; unfold smQ; simp [smN], by simp [cntB]⟩
  | k + 1 => by
    obtain ⟨t, h1, h2, h3, h4, h5⟩ := lsS_sp (a := a) k
    have hg := gkS_sp (a := a) (ws := (lsS a k).1) 7
    by_cases c : (gkS a (lsS a k).1 7).1 = 0
    · rw [lsS_0 c]
      exact ⟨t, h1, h2, h3, h4, by omega⟩
    · rw [lsS_y c]
      rcases hg with ⟨g1, -⟩ | ⟨g1, g2, g3, g4, g5⟩
      · exact absurd g1 c
      · generalize hb : (gkS a (lsS a k).1 7).1 = b at *
        rw [h3, among_tb (by omega) (by omega)] at g3
        have h256 : 2 ^ b < 256 := Nat.lt_of_le_of_lt (Nat.pow_le_pow_right (by decide) g2) (by decide)
        have e := smQ_in (a := a) (q := fun i => t.testBit (i + 1)) (p := fun i => (t ||| 2 ^ b).testBit (i + 1)) (r := b - 1) (n := 7) (by show t.testBit (b - 1 + 1) = false; rw [show b - 1 + 1 = b by omega]; exact g3) (fun i => by
          show (t ||| 2 ^ b).testBit (i + 1) = _
          rw [Nat.testBit_or, Nat.testBit_two_pow]
          congr 1
          exact decide_eq_decide.mpr ⟨fun q => by omega, fun q => by omega⟩) (by omega)
        refine ⟨t ||| 2 ^ b, Nat.or_lt_two_pow (n := 8) h1 h256, ?_, ?_, ?_, ?_⟩
        · rw [Nat.testBit_or, h2, Nat.testBit_two_pow, decide_eq_false (by omega)]; rfl
        · show (lsS a k).1 ||| (1 : Int32) <<< (nI b &&& 31) = _
          rw [h3, shl1 (by omega), nI_orN]
        · show (lsS a k).2 + chK a (nI b) = _
          rw [e.1, h4]
          unfold cK
          rw [show b - 1 + 1 = b by omega]
        · rw [e.2]; omega
theorem lsS_up {a : owK} : ∀ k (q : Nat → Bool), cntB q 7 ≤ k → smQ a q 7 ≤ (lsS a k).2
  | 0, q, h => by
    have h0 := cntB_0 (q := q) (n := 7) (by omega)
    have := smQ_le (a := a) (p := q) (q := fun _ => false) (n := 7) (fun i hi hq => by rw [h0 i hi] at hq; exact absurd hq (by decide))
    have e : smQ a (fun _ => false) 7 = 0 := by unfold smQ; simp [smN]
    show _ ≤ 0
    omega
  | k + 1, q, h => by
    obtain ⟨t, h1, h2, h3, h4, h5⟩ := lsS_sp (a := a) k
    have hg := gkS_sp (a := a) (ws := (lsS a k).1) 7
    have ham : ∀ i, i < 7 → amongB (lsS a k).1 (nI (i + 1)) = t.testBit (i + 1) := fun i hi => by rw [h3, among_tb (by omega) (by omega)]
    by_cases c : (gkS a (lsS a k).1 7).1 = 0
    · rw [lsS_0 c, h4]
      rcases hg with ⟨-, -, g3⟩ | ⟨g1, -⟩
      · refine smQ_le fun i hi hq => ?_
        cases ht : t.testBit (i + 1) with
        | true => exact Or.inl rfl
        | false => exact Or.inr (g3 i hi (by rw [ham i hi]; exact ht))
      · omega
    · rw [lsS_y c]
      show _ ≤ (lsS a k).2 + chK a (nI (gkS a (lsS a k).1 7).1)
      rcases hg with ⟨g1, -⟩ | ⟨g1, g2, g3, g4, g5⟩
      · exact absurd g1 c
      · by_cases hr : ∃ r, r < 7 ∧ q r = true ∧ t.testBit (r + 1) = false
        · obtain ⟨r, r1, r2, r3⟩ := hr
          obtain ⟨o1, o2⟩ := smQ_out (a := a) r2 (n := 7) r1
          have ih := lsS_up (a := a) k (fun i => q i && decide (i ≠ r)) (by omega)
          have gr := g5 r r1 (by rw [ham r r1]; exact r3)
          omega
        · have := smQ_le (a := a) (p := q) (q := fun i => t.testBit (i + 1)) (n := 7) (fun i hi hq => by
            cases ht : t.testBit (i + 1) with
            | true => exact Or.inl rfl
            | false => exact absurd ⟨i, hi, hq, ht⟩ hr)
          omega
/-- the model's: all sets, one behind another -/
def mxS (a : owK) (m : Nat) : Nat → Nat
  | 0 => 0
  | u + 1 => if bcN (2 * u) ≤ m ∧ mxS a m u < smQ a (fun i => (2 * u).testBit (i + 1)) 7 then smQ a (fun i => (2 * u).testBit (i + 1)) 7 else mxS a m u
theorem bcN_cnt {t : Nat} (h : t < 256) (h0 : t.testBit 0 = false) : bcN t = cntB (fun i => t.testBit (i + 1)) 7 := by
  have g : ∀ i, t / 2 ^ i % 2 = if t.testBit i = true then 1 else 0 := fun i => by
    rw [Nat.testBit_eq_decide_div_mod_eq]
    by_cases c : t / 2 ^ i % 2 = 1
    · rw [if_pos (decide_eq_true c)]; exact c
    · rw [if_neg (by simpa using c)]; omega
  have h8 : t / 2 ^ 8 % 2 = 0 := by rw [Nat.div_eq_of_lt h]
  have h9 : t / 2 ^ 9 % 2 = 0 := by rw [Nat.div_eq_of_lt (by omega)]
  unfold bcN
  simp only [smN, h8, h9, g, h0]
  simp only [cntB]
  repeat' split
  all_goals simp_all
theorem mxS_le {a : owK} {m : Nat} : ∀ u, u ≤ 128 → mxS a m u ≤ (lsS a m).2
  | 0, _ => Nat.zero_le _
  | u + 1, h => by
    show (if _ then _ else _ : Nat) ≤ _
    split
    · rename_i c
      refine lsS_up m _ ?_
      rw [← bcN_cnt (by omega) (by rw [Nat.testBit_zero]; simp)]
      exact c.1
    · exact mxS_le u (by omega)
theorem mxS_mono {a : owK} {m u : Nat} : ∀ v, u ≤ v → mxS a m u ≤ mxS a m v
  | 0, h => by rw [Nat.le_zero.mp h]; exact Nat.le_refl _
  | v + 1, h => by
    rcases Nat.lt_or_ge u (v + 1) with c | c
    · refine Nat.le_trans (mxS_mono v (by omega)) ?_
      show _ ≤ (if _ then _ else _ : Nat)
      split
      · rename_i q; exact Nat.le_of_lt q.2
      · exact Nat.le_refl _
    · rw [show u = v + 1 by omega]; exact Nat.le_refl _
theorem mxS_all {a : owK} {m : Nat} : mxS a m 128 = (lsS a m).2 := by
  refine Nat.le_antisymm (mxS_le 128 (Nat.le_refl _)) ?_
  obtain ⟨t, h1, h2, h3, h4, h5⟩ := lsS_sp (a := a) m
  have he : 2 * (t / 2) = t := by
    rw [Nat.testBit_zero] at h2
    have := of_decide_eq_false h2
    omega
  refine Nat.le_trans ?_ (mxS_mono (u := t / 2 + 1) 128 (by omega))
  show _ ≤ (if _ then _ else _ : Nat)
  rw [he, h4]
  split
  · exact Nat.le_refl _
  · rename_i c
    have hb : bcN t ≤ m := by rw [bcN_cnt h1 h2]; exact h5
    have : ¬ mxS a m (t / 2) < smQ a (fun i => t.testBit (i + 1)) 7 := fun q => c ⟨hb, q⟩
    omega
theorem mxS_y {a : owK} {m u : Nat} (h1 : bcN (2 * u) ≤ m) (h2 : mxS a m u < smQ a (fun i => (2 * u).testBit (i + 1)) 7) : mxS a m (u + 1) = smQ a (fun i => (2 * u).testBit (i + 1)) 7 := if_pos ⟨h1, h2⟩
theorem mxS_n {a : owK} {m u : Nat} (h : ¬ (bcN (2 * u) ≤ m ∧ mxS a m u < smQ a (fun i => (2 * u).testBit (i + 1)) 7)) : mxS a m (u + 1) = mxS a m u := if_neg h
theorem mxS_bd {a : owK} {m u : Nat} (ho : aOk a) (hu : u ≤ 128) : mxS a m u ≤ 8 * m := Nat.le_trans (mxS_le u hu) (lsS_le ho m)
theorem smQ_bd {a : owK} {q : Nat → Bool} (ho : aOk a) : ∀ n, smQ a q n ≤ 8 * n
  | 0 => Nat.le_refl _
  | n + 1 => by
    have ih := smQ_bd (a := a) (q := q) ho n
    have hc : cK a n ≤ 8 := chK_le ho
    show smQ a q n + (if q n then cK a n else 0) ≤ _
    split <;> omega
set_option maxRecDepth 100000 in
set_option maxHeartbeats 4000000 in
theorem k_m_lesson (l : Launch) (G : owG) {A S Z B T V : owF} {J : Nat → Nat → Int64} {Y : Nat → Nat → Nat → Option Nat} {P : Nat → Option owW} (a_ : owK) (ho_ : aOk a_) (im : Option owK) (h_ : owH) (hM : MR B a_ im h_) (m_ : Int32) : Ct l G yX12_lesson cX12_lesson 6 ((some .int)) 2 0 0 [.ref (gK G 4 0), .int m_] (A, S, Z, B, T, V, J, Y, P) (qI (fun r_ σ => r_ = lessonI a_ m_ ∧ ∃ (T2 V2 : owF), σ = (A, S, Z, B, T2, V2, J, Y, P))) := by
  refine ct_of (by decide +kernel) (Nat.le_of_ble_eq_true rfl) ?_
  have h10 := ho_.1
  have h8_ := ho_.2.1
  have hX := hM.1
  show Wm l G cX12_lesson 6 RX12 ((some .int)) (rmk 2 0 0) (fun _ => True) (QfM G (qI (fun r_ σ => r_ = lessonI a_ m_ ∧ ∃ (T2 V2 : owF), σ = (A, S, Z, B, T2, V2, J, Y, P))) 0 0) 0 [(0, .ref (gK G 4 0)), (1, .int m_)] [] (A, S, Z, B, T, V, J, Y, P) 0 0
  refine m_iload_n 1 rfl rfl dX12_lesson_0 ?_
  refine m_i2l dX12_lesson_1 ?_
  refine m_lconst 1 dX12_lesson_2 rfl ?_
  refine m_topl (show (1 : Int64) = (1 : Int32).toInt64 by decide) ?_
  refine m_ldc2 3 tw_1222 dX12_lesson_3 ?_
  refine m_topl (show (3 : Int64) = (3 : Int32).toInt64 by decide) ?_
  refine m_callSi cs_X12_62 [.long (m_.toInt64), .long ((1 : Int32).toInt64), .long ((3 : Int32).toInt64)] [] (k_m_isIn l G m_ 1 3) rfl rfl ⟨Nat.le_of_ble_eq_true rfl, Nat.le_of_ble_eq_true rfl⟩ (Nat.le_of_ble_eq_true rfl) ⟨Nat.zero_le _, Nat.zero_le _⟩ dX12_lesson_6 (fun xx σ2 hq => ?_)
  obtain ⟨rfl, rfl⟩ := hq
  refine m_ifne_b 14 dX12_lesson_9 (by decide) (fun c1_ => ?_) (fun c1_ => ?_)
  ·
    have hm13 := of_decide_eq_true c1_
    obtain ⟨mq, hmq, rfl⟩ := nI_of2 (M := 3) (n := 3) (x := m_) (by decide) (by grind) hm13.2
    have hclmq : (nI mq).toNatClampNeg = mq := nI_clamp (by omega)
    refine m_iconst 0 dX12_lesson_14 rfl ?_
    refine m_istore_n [(2, .int 0), (0, .ref (gK G 4 0)), (1, .int (nI (mq)))] rfl (by decide) rfl dX12_lesson_15 ?_
    refine m_iconst 0 dX12_lesson_16 rfl ?_
    refine m_istore_n [(3, .int 0), (2, .int 0), (0, .ref (gK G 4 0)), (1, .int (nI (mq)))] rfl (by decide) rfl dX12_lesson_17 ?_
    have lp18 : ∀ (dd : Nat) (u_ : Nat) , u_ ≤ 128 → 128 - u_ < dd → Wm l G cX12_lesson 6 RX12 ((some .int)) (rmk 2 0 0) (fun _ => True) (QfM G (qI (fun r_ σ => r_ = lessonI a_ (nI mq) ∧ ∃ (T2 V2 : owF), σ = (A, S, Z, B, T2, V2, J, Y, P))) 0 0) 18 [(0, .ref (gK G 4 0)), (1, .int (nI (mq))), (2, .int (nI (mxS a_ mq u_))), (3, .int (nI (2 * u_)))] [] (A, S, Z, B, T, V, J, Y, P) 0 0 := by
      intro dd
      induction dd with
      | zero => intro u_  hu hdd; exact absurd hdd (Nat.not_lt_zero _)
      | succ dd ih18 =>
        intro u_  hu hdd18
        have hbl := bcN_le (n := 2 * u_)
        have hmx := mxS_bd (m := mq) ho_ hu
        have hsq := smQ_bd (q := (fun i_ => (2 * u_).testBit (i_ + 1))) ho_ 7
        refine m_iload_n 3 rfl rfl dX12_lesson_18 ?_
        refine m_sipush (256) dX12_lesson_19 rfl ?_
        refine m_icmpn_ge (2 * u_) 256 99 (by omega) (by decide) dX12_lesson_22 (by decide) (fun c2_ => ?_) (fun c2_ => ?_)
        ·
          refine m_iload_n 2 rfl rfl dX12_lesson_99 ?_
          exact m_iret dX12_lesson_100 (Nat.le_refl _) (Nat.le_refl _) ((by obtain rfl : u_ = 128 := (by omega); exact ⟨by unfold lessonI; rw [if_pos hm13, hclmq, mxS_all], _, _, rfl⟩))
        ·
          refine m_iload_n 3 rfl rfl dX12_lesson_25 ?_
          refine m_callSi cs_X12_209 [.int (nI (2 * u_))] [] (k_m_bits l G (2 * u_) (by omega)) rfl rfl ⟨Nat.le_of_ble_eq_true rfl, Nat.le_of_ble_eq_true rfl⟩ (Nat.le_of_ble_eq_true rfl) ⟨Nat.zero_le _, Nat.zero_le _⟩ dX12_lesson_26 (fun xx σ2 hq => ?_)
          obtain ⟨rfl, rfl⟩ := hq
          refine m_iload_n 1 rfl rfl dX12_lesson_29 ?_
          refine m_icmpn_le (bcN (2 * u_)) mq 36 (by omega) (by omega) dX12_lesson_30 (by decide) (fun c3_ => ?_) (fun c3_ => ?_)
          ·
            refine m_iconst 0 dX12_lesson_36 rfl ?_
            refine m_istore [(4, .int 0), (0, .ref (gK G 4 0)), (1, .int (nI (mq))), (2, .int (nI (mxS a_ mq u_))), (3, .int (nI (2 * u_)))] (by decide) rfl dX12_lesson_37 ?_
            refine m_iconst 1 dX12_lesson_39 rfl ?_
            refine m_istore [(5, .int 1), (4, .int 0), (0, .ref (gK G 4 0)), (1, .int (nI (mq))), (2, .int (nI (mxS a_ mq u_))), (3, .int (nI (2 * u_)))] (by decide) rfl dX12_lesson_40 ?_
            have lp42 : ∀ (dd : Nat) (k_ : Nat) , k_ ≤ 7 → 7 - k_ < dd → Wm l G cX12_lesson 6 RX12 ((some .int)) (rmk 2 0 0) (fun _ => True) (QfM G (qI (fun r_ σ => r_ = lessonI a_ (nI mq) ∧ ∃ (T2 V2 : owF), σ = (A, S, Z, B, T2, V2, J, Y, P))) 0 0) 42 [(0, .ref (gK G 4 0)), (1, .int (nI (mq))), (2, .int (nI (mxS a_ mq u_))), (3, .int (nI (2 * u_))), (4, .int (nI (smQ a_ (fun i_ => (2 * u_).testBit (i_ + 1)) k_))), (5, .int (nI (k_ + 1)))] [] (A, S, Z, B, T, V, J, Y, P) 0 0 := by
              intro dd
              induction dd with
              | zero => intro k_  hk_ hdd; exact absurd hdd (Nat.not_lt_zero _)
              | succ dd ih42 =>
                intro k_  hk_ hdd42
                refine m_iload 5 rfl dX12_lesson_42 ?_
                refine m_bipush (8) dX12_lesson_44 rfl ?_
                refine m_icmpn_ge (k_ + 1) 8 80 (by omega) (by decide) dX12_lesson_46 (by decide) (fun c4_ => ?_) (fun c4_ => ?_)
                ·
                  obtain rfl : k_ = 7 := (by omega)
                  refine m_iload 4 rfl dX12_lesson_80 ?_
                  refine m_iload_n 2 rfl rfl dX12_lesson_82 ?_
                  refine m_icmpn_le (smQ a_ (fun i_ => (2 * u_).testBit (i_ + 1)) 7) (mxS a_ mq u_) 91 (by omega) (by omega) dX12_lesson_83 (by decide) (fun c5_ => ?_) (fun c5_ => ?_)
                  ·
                    refine m_iload_n 2 rfl rfl dX12_lesson_91 ?_
                    refine m_istore_n [(2, .int (nI (mxS a_ mq u_))), (0, .ref (gK G 4 0)), (1, .int (nI (mq))), (3, .int (nI (2 * u_))), (4, .int (nI (smQ a_ (fun i_ => (2 * u_).testBit (i_ + 1)) 7))), (5, .int (nI (7 + 1)))] rfl (by decide) rfl dX12_lesson_92 ?_
                    refine m_iinc (nI ((2 * u_) + 2)) 3 [(3, .int (nI ((2 * u_) + 2))), (2, .int (nI (mxS a_ mq u_))), (0, .ref (gK G 4 0)), (1, .int (nI (mq))), (4, .int (nI (smQ a_ (fun i_ => (2 * u_).testBit (i_ + 1)) 7))), (5, .int (nI (7 + 1)))] rfl (nI_add _ 2) (by decide) rfl dX12_lesson_93 ?_
                    refine m_goto 18 dX12_lesson_96 (by decide) ?_
                    refine m_lv [(0, .ref (gK G 4 0)), (1, .int (nI (mq))), (2, .int (nI (mxS a_ mq u_))), (3, .int (nI ((2 * u_) + 2)))] [2, 3, 1, 0] rfl ?_
                    rw [show 2 * u_ + 2 = 2 * (u_ + 1) from by omega]
                    have ihx := ih18 (u_ + 1)  (by omega) (by omega)
                    rw [mxS_n (fun q_ => absurd q_.2 (by omega))] at ihx
                    exact ihx
                  ·
                    refine m_iload 4 rfl dX12_lesson_86 ?_
                    refine m_goto 92 dX12_lesson_88 (by decide) ?_
                    refine m_istore_n [(2, .int (nI (smQ a_ (fun i_ => (2 * u_).testBit (i_ + 1)) 7))), (0, .ref (gK G 4 0)), (1, .int (nI (mq))), (3, .int (nI (2 * u_))), (4, .int (nI (smQ a_ (fun i_ => (2 * u_).testBit (i_ + 1)) 7))), (5, .int (nI (7 + 1)))] rfl (by decide) rfl dX12_lesson_92 ?_
                    refine m_iinc (nI ((2 * u_) + 2)) 3 [(3, .int (nI ((2 * u_) + 2))), (2, .int (nI (smQ a_ (fun i_ => (2 * u_).testBit (i_ + 1)) 7))), (0, .ref (gK G 4 0)), (1, .int (nI (mq))), (4, .int (nI (smQ a_ (fun i_ => (2 * u_).testBit (i_ + 1)) 7))), (5, .int (nI (7 + 1)))] rfl (nI_add _ 2) (by decide) rfl dX12_lesson_93 ?_
                    refine m_goto 18 dX12_lesson_96 (by decide) ?_
                    refine m_lv [(0, .ref (gK G 4 0)), (1, .int (nI (mq))), (2, .int (nI (smQ a_ (fun i_ => (2 * u_).testBit (i_ + 1)) 7))), (3, .int (nI ((2 * u_) + 2)))] [2, 3, 1, 0] rfl ?_
                    rw [show 2 * u_ + 2 = 2 * (u_ + 1) from by omega]
                    have ihx := ih18 (u_ + 1)  (by omega) (by omega)
                    rw [mxS_y (by omega) (by omega)] at ihx
                    exact ihx
                ·
                  refine m_iload 4 rfl dX12_lesson_49 ?_
                  refine m_iload_n 3 rfl rfl dX12_lesson_51 ?_
                  refine m_iload 5 rfl dX12_lesson_52 ?_
                  refine m_ishr dX12_lesson_54 ?_
                  refine m_iconst 1 dX12_lesson_55 rfl ?_
                  refine m_iand dX12_lesson_56 ?_
                  refine m_iconst 1 dX12_lesson_57 rfl ?_
                  refine m_icmp_ne 70 dX12_lesson_58 (by decide) (fun c6_ => ?_) (fun c6_ => ?_)
                  ·
                    have htb : (2 * u_).testBit (k_ + 1) = false := by rw [← among_tb (by omega) (by omega)]; exact decide_eq_false c6_
                    refine m_iconst 0 dX12_lesson_70 rfl ?_
                    refine m_iadd dX12_lesson_71 ?_
                    refine m_topi (show (nI (smQ a_ (fun i_ => (2 * u_).testBit (i_ + 1)) k_)) + 0 = nI ((smQ a_ (fun i_ => (2 * u_).testBit (i_ + 1)) k_) + 0) from nI_add _ _) ?_
                    refine m_istore [(4, .int (nI ((smQ a_ (fun i_ => (2 * u_).testBit (i_ + 1)) k_) + 0))), (0, .ref (gK G 4 0)), (1, .int (nI (mq))), (2, .int (nI (mxS a_ mq u_))), (3, .int (nI (2 * u_))), (5, .int (nI (k_ + 1)))] (by decide) rfl dX12_lesson_72 ?_
                    refine m_iinc (nI (k_ + 1 + 1)) 5 [(5, .int (nI (k_ + 1 + 1))), (4, .int (nI ((smQ a_ (fun i_ => (2 * u_).testBit (i_ + 1)) k_) + 0))), (0, .ref (gK G 4 0)), (1, .int (nI (mq))), (2, .int (nI (mxS a_ mq u_))), (3, .int (nI (2 * u_)))] rfl (nI_1 _) (by decide) rfl dX12_lesson_74 ?_
                    refine m_goto 42 dX12_lesson_77 (by decide) ?_
                    refine m_lv [(0, .ref (gK G 4 0)), (1, .int (nI (mq))), (2, .int (nI (mxS a_ mq u_))), (3, .int (nI (2 * u_))), (4, .int (nI ((smQ a_ (fun i_ => (2 * u_).testBit (i_ + 1)) k_) + 0))), (5, .int (nI (k_ + 1 + 1)))] [2, 3, 4, 5, 1, 0] rfl ?_
                    rw [show smQ a_ (fun i_ => (2 * u_).testBit (i_ + 1)) k_ = smQ a_ (fun i_ => (2 * u_).testBit (i_ + 1)) (k_ + 1) from by show _ = smQ a_ (fun i_ => (2 * u_).testBit (i_ + 1)) k_ + (if (2 * u_).testBit (k_ + 1) = true then _ else _); rw [htb]; rfl]
                    exact ih42 (k_ + 1)  (by omega) (by omega)
                  ·
                    have htb : (2 * u_).testBit (k_ + 1) = true := by rw [← among_tb (by omega) (by omega)]; exact decide_eq_true c6_
                    refine m_aload_n 0 rfl rfl dX12_lesson_61 ?_
                    refine m_iload 5 rfl dX12_lesson_62 ?_
                    refine m_callVi cv_X12_243 [.int (nI (k_ + 1))] [.int (nI (smQ a_ (fun i_ => (2 * u_).testBit (i_ + 1)) k_))] (k_m_groupOf l G a_ ho_ im h_ hM (nI (k_ + 1))) (by decide) (ce_4 G _ _ _ _ _ _ _ _ _ _) rfl rfl rfl ⟨Nat.le_of_ble_eq_true rfl, Nat.le_of_ble_eq_true rfl⟩ (Nat.le_of_ble_eq_true rfl) ⟨Nat.zero_le _, Nat.zero_le _⟩ dX12_lesson_64 (fun xx σ2 hq => ?_)
                    obtain ⟨rfl, rfl⟩ := hq
                    have hch6 := chK_le (a := a_) (v := (nI (k_ + 1))) ho_
                    refine m_goto 71 dX12_lesson_67 (by decide) ?_
                    refine m_iadd dX12_lesson_71 ?_
                    refine m_topi (show (nI (smQ a_ (fun i_ => (2 * u_).testBit (i_ + 1)) k_)) + (nI (chK a_ (nI (k_ + 1)))) = nI ((smQ a_ (fun i_ => (2 * u_).testBit (i_ + 1)) k_) + (chK a_ (nI (k_ + 1)))) from nI_add _ _) ?_
                    refine m_istore [(4, .int (nI ((smQ a_ (fun i_ => (2 * u_).testBit (i_ + 1)) k_) + (chK a_ (nI (k_ + 1)))))), (0, .ref (gK G 4 0)), (1, .int (nI (mq))), (2, .int (nI (mxS a_ mq u_))), (3, .int (nI (2 * u_))), (5, .int (nI (k_ + 1)))] (by decide) rfl dX12_lesson_72 ?_
                    refine m_iinc (nI (k_ + 1 + 1)) 5 [(5, .int (nI (k_ + 1 + 1))), (4, .int (nI ((smQ a_ (fun i_ => (2 * u_).testBit (i_ + 1)) k_) + (chK a_ (nI (k_ + 1)))))), (0, .ref (gK G 4 0)), (1, .int (nI (mq))), (2, .int (nI (mxS a_ mq u_))), (3, .int (nI (2 * u_)))] rfl (nI_1 _) (by decide) rfl dX12_lesson_74 ?_
                    refine m_goto 42 dX12_lesson_77 (by decide) ?_
                    refine m_lv [(0, .ref (gK G 4 0)), (1, .int (nI (mq))), (2, .int (nI (mxS a_ mq u_))), (3, .int (nI (2 * u_))), (4, .int (nI ((smQ a_ (fun i_ => (2 * u_).testBit (i_ + 1)) k_) + (chK a_ (nI (k_ + 1)))))), (5, .int (nI (k_ + 1 + 1)))] [2, 3, 4, 5, 1, 0] rfl ?_
                    rw [show smQ a_ (fun i_ => (2 * u_).testBit (i_ + 1)) k_ + chK a_ (nI (k_ + 1)) = smQ a_ (fun i_ => (2 * u_).testBit (i_ + 1)) (k_ + 1) from by show _ = smQ a_ (fun i_ => (2 * u_).testBit (i_ + 1)) k_ + (if (2 * u_).testBit (k_ + 1) = true then _ else _); rw [htb]; rfl]
                    exact ih42 (k_ + 1)  (by omega) (by omega)
            refine m_lv [(0, .ref (gK G 4 0)), (1, .int (nI (mq))), (2, .int (nI (mxS a_ mq u_))), (3, .int (nI (2 * u_))), (4, .int 0), (5, .int 1)] [2, 3, 4, 5, 1, 0] rfl ?_
            exact lp42 ((7 - 0) + 1) 0  (Nat.zero_le _) (Nat.lt_succ_self _)
          ·
            refine m_goto 93 dX12_lesson_33 (by decide) ?_
            refine m_iinc (nI ((2 * u_) + 2)) 3 [(3, .int (nI ((2 * u_) + 2))), (0, .ref (gK G 4 0)), (1, .int (nI (mq))), (2, .int (nI (mxS a_ mq u_)))] rfl (nI_add _ 2) (by decide) rfl dX12_lesson_93 ?_
            refine m_goto 18 dX12_lesson_96 (by decide) ?_
            refine m_lv [(0, .ref (gK G 4 0)), (1, .int (nI (mq))), (2, .int (nI (mxS a_ mq u_))), (3, .int (nI ((2 * u_) + 2)))] [1, 2, 3, 0] rfl ?_
            rw [show 2 * u_ + 2 = 2 * (u_ + 1) from by omega]
            have ihx := ih18 (u_ + 1)  (by omega) (by omega)
            rw [mxS_n (fun q_ => absurd q_.1 (by omega))] at ihx
            exact ihx
    refine m_lv [(0, .ref (gK G 4 0)), (1, .int (nI (mq))), (2, .int 0), (3, .int 0)] [2, 3, 1, 0] rfl ?_
    exact lp18 ((128 - 0) + 1) 0  (Nat.zero_le _) (Nat.lt_succ_self _)
  ·
    refine m_iconst (-1) dX12_lesson_12 rfl ?_
    exact m_iret dX12_lesson_13 (Nat.le_refl _) (Nat.le_refl _) (⟨by unfold lessonI; rw [if_neg (of_decide_eq_false c1_)], _, _, rfl⟩)
