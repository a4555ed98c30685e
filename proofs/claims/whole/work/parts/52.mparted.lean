/-! pairs that are parted, as the model has them -/
def pdB (a : owK) (X Q : Nat → Nat) (v w s : Nat) : Bool := decide (ansA a v (X s) (Q s) ≠ ansA a w (X s) (Q s))
def pdN (a : owK) (X Q : Nat → Nat) (n v w : Nat) : Nat := orN (pdB a X Q v w) n
def boB (b : Int32) (v w : Nat) : Bool := amongB b (nI v) && amongB b (nI w)
def apQ (a : owK) (X Q : Nat → Nat) (n : Nat) (b : Int32) (set v w : Nat) : Bool := !(boB b v w && (decide (pdN a X Q n v w ≠ 0) && decide (pdN a X Q n v w &&& set = 0)))
def apB (a : owK) (X Q : Nat → Nat) (n : Nat) (b : Int32) (set : Nat) : Bool := allB (fun v => allB (fun w => !decide (v < w) || apQ a X Q n b set v w) (aN a)) (aN a)
theorem apB_iff {a : owK} {X Q : Nat → Nat} {n : Nat} {b : Int32} {set : Nat} : apB a X Q n b set = true ↔ ∀ v, v < aN a → ∀ w, w < aN a → v < w → apQ a X Q n b set v w = true := by
  unfold apB
  rw [allB_iff]
  constructor
  · intro h v hv w hw hvw
    have h2 := allB_iff.mp (h v hv) w hw
    rw [decide_eq_true hvw] at h2
    exact h2
  · intro h v hv
    refine allB_iff.mpr fun w hw => ?_
    by_cases c : v < w
    · rw [h v hv w hw c, Bool.or_true]
    · rw [decide_eq_false c]; rfl
theorem exB_iff {p : Nat → Bool} : ∀ {n}, exB p n = true ↔ ∃ k, k < n ∧ p k = true
  | 0 => ⟨fun h => absurd (show false = true from h) (by decide), fun ⟨k, hk, _⟩ => absurd hk (Nat.not_lt_zero _)⟩
  | n + 1 => by
    show (exB p n || p n) = true ↔ _
    rw [Bool.or_eq_true, exB_iff]
    constructor
    · rintro (⟨k, hk, h⟩ | h)
      · exact ⟨k, by omega, h⟩
      · exact ⟨n, by omega, h⟩
    · rintro ⟨k, hk, h⟩
      rcases Nat.lt_or_ge k n with c | c
      · exact Or.inl ⟨k, c, h⟩
      · obtain rfl : k = n := by omega
        exact Or.inr h
theorem boB_lt {a : owK} {m v w : Nat} (ho : aOk a) (hm : m < 2 ^ aN a) (hv : v < 10) (hw : w < 10) (h : boB (nI m) v w = true) : v < aN a ∧ w < aN a := by
  have h10 := ho.1
  have h2 := Bool.and_eq_true_iff.mp h
  exact ⟨bit_lt hm (by omega) (by omega) h2.1, bit_lt hm (by omega) (by omega) h2.2⟩
theorem ptP_iff {a : owK} {X Q : Nat → Nat} {m s j : Nat} (ho : aOk a) (hm : m < 2 ^ aN a) (hj : j < 45) : ptP a X Q (nI m) s j = (boB (nI m) (prV j) (prW j) && pdB a X Q (prV j) (prW j) s) := by
  have hp := prjj j hj
  unfold ptP prP unB
  cases hb : boB (nI m) (prV j) (prW j) with
  | false =>
    rw [Bool.false_and, ← Bool.and_assoc]
    show (boB (nI m) (prV j) (prW j) && _) = false
    rw [hb, Bool.false_and]
  | true =>
    have hl := boB_lt ho hm (by omega) hp.2.1 hb
    rw [← Bool.and_assoc]
    show (boB (nI m) (prV j) (prW j) && _) = _
    rw [hb, Bool.true_and, Bool.true_and]
    unfold anF pdB
    rw [if_pos hl.1, if_pos hl.2]
    refine decide_eq_decide.mpr (not_congr ?_)
    exact nI_eq (Nat.lt_trans (ansA_lt a _ _ _) (by decide)) (Nat.lt_trans (ansA_lt a _ _ _) (by decide))
theorem ptA_iff {a : owK} {X Q : Nat → Nat} {m n j : Nat} (ho : aOk a) (hm : m < 2 ^ aN a) (hj : j < 45) : ptA a X Q (nI m) n j = (boB (nI m) (prV j) (prW j) && decide (pdN a X Q n (prV j) (prW j) ≠ 0)) := by
  rw [Bool.eq_iff_iff]
  unfold ptA
  rw [exB_iff, Bool.and_eq_true_iff, decide_eq_true_iff]
  constructor
  · rintro ⟨s, hs, h⟩
    rw [ptP_iff ho hm hj] at h
    have h2 := Bool.and_eq_true_iff.mp h
    refine ⟨h2.1, fun z => ?_⟩
    have := orN_0.mp z s hs
    rw [this] at h2
    exact absurd h2.2 (by decide)
  · rintro ⟨h1, h2⟩
    by_cases c : ∃ s, s < n ∧ pdB a X Q (prV j) (prW j) s = true
    · obtain ⟨s, hs, h⟩ := c
      exact ⟨s, hs, by rw [ptP_iff ho hm hj, h1, h]; rfl⟩
    · exact absurd (orN_0.mpr fun s hs => Bool.eq_false_iff.mpr fun z => c ⟨s, hs, z⟩) h2
theorem pr_of : ∀ v, v < 10 → ∀ w, w < 10 → v < w → ofs v + (w - v - 1) < 45 ∧ prV (ofs v + (w - v - 1)) = v ∧ prW (ofs v + (w - v - 1)) = w := by decide +kernel
theorem pd_and {a : owK} {X Q : Nat → Nat} {n v w set : Nat} : pdN a X Q n v w &&& set ≠ 0 ↔ ∃ s, s < n ∧ pdB a X Q v w s = true ∧ set.testBit s = true := by
  constructor
  · intro h
    by_cases c : ∃ s, s < n ∧ pdB a X Q v w s = true ∧ set.testBit s = true
    · exact c
    · refine absurd (Nat.eq_of_testBit_eq fun s => ?_) h
      rw [Nat.testBit_and, Nat.zero_testBit]
      unfold pdN
      rw [orN_tb]
      cases h1 : (decide (s < n) && pdB a X Q v w s && set.testBit s) with
      | false => rfl
      | true =>
        have h2 := Bool.and_eq_true_iff.mp h1
        have h3 := Bool.and_eq_true_iff.mp h2.1
        exact absurd ⟨s, of_decide_eq_true h3.1, h3.2, h2.2⟩ c
  · rintro ⟨s, hs, h1, h2⟩ z
    have h3 := congrArg (fun q => Nat.testBit q s) z
    simp only [Nat.testBit_and, Nat.zero_testBit] at h3
    unfold pdN at h3
    rw [orN_tb, decide_eq_true hs, h1, h2] at h3
    exact absurd h3 (by decide)
theorem apEq {a : owK} {X Q : Nat → Nat} {m n set : Nat} (ho : aOk a) (hm : m < 2 ^ aN a) (hn : n ≤ 12) (hs : set < 2 ^ n) : apB a X Q n (nI m) set = paB (ptP a X Q (nI m)) (ptA a X Q (nI m) n) set := by
  have h10 := ho.1
  have h12 : 2 ^ n ≤ 2 ^ 12 := Nat.pow_le_pow_right (by decide) hn
  have h4096 : (2 : Nat) ^ 12 = 4096 := by decide
  have hset : set < 2 ^ 31 := by omega
  rw [Bool.eq_iff_iff, apB_iff]
  unfold paB
  rw [decide_eq_true_iff, orL_eq (by decide)]
  constructor
  · intro h j hj
    have hp := prjj j hj
    rw [Bool.eq_iff_iff]
    unfold exS
    rw [exB_iff]
    constructor
    · rintro ⟨s, hs2, h2⟩
      have h3 := Bool.and_eq_true_iff.mp h2
      have h4 := bit_lt hs hn (by omega) h3.1
      exact exB_iff.mpr ⟨s, h4, h3.2⟩
    · intro h2
      rw [ptA_iff ho hm hj] at h2
      have h3 := Bool.and_eq_true_iff.mp h2
      have hl := boB_lt ho hm (by omega) hp.2.1 h3.1
      have h4 := h (prV j) hl.1 (prW j) hl.2 hp.1
      unfold apQ at h4
      rw [h3.1, Bool.true_and, h3.2, Bool.true_and] at h4
      have h5 : pdN a X Q n (prV j) (prW j) &&& set ≠ 0 := fun z => by rw [decide_eq_true z] at h4; exact absurd h4 (by decide)
      obtain ⟨s, s1, s2, s3⟩ := pd_and.mp h5
      exact ⟨s, by omega, by rw [among_tb hset (by omega), s3, ptP_iff ho hm hj, h3.1, s2]; rfl⟩
  · intro h v hv w hw hvw
    obtain ⟨p1, p2, p3⟩ := pr_of v (by omega) w (by omega) hvw
    have h2 := h _ p1
    rw [ptA_iff ho hm p1, p2, p3] at h2
    unfold apQ
    cases hb : (boB (nI m) v w && decide (pdN a X Q n v w ≠ 0)) with
    | false => rw [← Bool.and_assoc, hb]; rfl
    | true =>
      rw [← Bool.and_assoc, hb, Bool.true_and]
      rw [hb] at h2
      have hbo := (Bool.and_eq_true_iff.mp hb).1
      obtain ⟨s, s1, s2⟩ := exB_iff.mp h2
      have s3 := Bool.and_eq_true_iff.mp s2
      have s4 := bit_lt hs hn (by omega) s3.1
      rw [ptP_iff ho hm p1, p2, p3] at s3
      rw [among_tb hset (by omega)] at s3
      have h5 := pd_and.mpr ⟨s, s4, (Bool.and_eq_true_iff.mp s3.2).2, s3.1⟩
      rw [decide_eq_false h5]; rfl
/-- the model's search -/
def faS (g : Nat → Bool) : Nat → Option Nat
  | 0 => none
  | k + 1 => match faS g k with
    | none => if g k then some k else none
    | some b => if bcN k < bcN b ∧ g k = true then some k else some b
theorem faS_fe (g : Nat → Bool) : ∀ k, feS g k = (match faS g k with | none => (0, 13) | some b => (b, bcN b))
  | 0 => rfl
  | k + 1 => by
    have ih := faS_fe g k
    have hb := bcN_le k
    show (if bcN k < (feS g k).2 ∧ g k = true then (k, bcN k) else feS g k) = (match (match faS g k with | none => if g k then some k else none | some b => if bcN k < bcN b ∧ g k = true then some k else some b) with | none => (0, 13) | some b => (b, bcN b))
    rw [ih]
    cases hf : faS g k with
    | none =>
      show (if bcN k < 13 ∧ g k = true then (k, bcN k) else (0, 13)) = _
      cases hg : g k with
      | true => rw [if_pos ⟨by omega, rfl⟩]; rfl
      | false => rw [if_neg (fun q => absurd q.2 (by decide))]; rfl
    | some b =>
      show (if bcN k < bcN b ∧ g k = true then (k, bcN k) else (b, bcN b)) = _
      by_cases c : bcN k < bcN b ∧ g k = true
      · rw [if_pos c]; simp only [if_pos c]
      · rw [if_neg c]; simp only [if_neg c]
theorem faS_cong {g g2 : Nat → Bool} : ∀ {k}, (∀ i, i < k → g i = g2 i) → faS g k = faS g2 k
  | 0, _ => rfl
  | k + 1, h => by
    simp only [faS]
    rw [faS_cong (fun i hi => h i (by omega)), h k (by omega)]
theorem faS_lt {g : Nat → Bool} : ∀ {k b}, faS g k = some b → b < k
  | 0, b, h => by simp [faS] at h
  | k + 1, b, h => by
    simp only [faS] at h
    cases hf : faS g k with
    | none =>
      rw [hf] at h
      simp only at h
      split at h
      · obtain rfl := Option.some.inj h; omega
      · exact absurd h (by simp)
    | some c =>
      have := faS_lt hf
      rw [hf] at h
      simp only at h
      split at h
      · obtain rfl := Option.some.inj h; omega
      · obtain rfl := Option.some.inj h; omega
theorem faS_some {g : Nat → Bool} {k : Nat} (h : g k = true) : faS g (k + 1) ≠ none := by
  simp only [faS]
  cases hf : faS g k with
  | none => simp [h]
  | some b => simp only; split <;> simp
theorem faS_0 {g : Nat → Bool} {k : Nat} (h : faS g k = none) (hg : g k = true) : faS g (k + 1) = some k := by simp only [faS, h, hg]; rfl
theorem faS_0n {g : Nat → Bool} {k : Nat} (h : faS g k = none) (hg : g k = false) : faS g (k + 1) = none := by simp only [faS, h, hg]; rfl
theorem faS_y {g : Nat → Bool} {k b : Nat} (h : faS g k = some b) (hc : bcN k < bcN b) (hg : g k = true) : faS g (k + 1) = some k := by simp only [faS, h]; rw [if_pos ⟨hc, hg⟩]
theorem faS_n {g : Nat → Bool} {k b : Nat} (h : faS g k = some b) (hc : ¬ (bcN k < bcN b ∧ g k = true)) : faS g (k + 1) = some b := by simp only [faS, h]; rw [if_neg hc]
theorem apFull {a : owK} {X Q : Nat → Nat} {n : Nat} {b : Int32} : apB a X Q n b (2 ^ n - 1) = true := by
  rw [apB_iff]
  intro v hv w hw hvw
  unfold apQ
  by_cases c : pdN a X Q n v w = 0
  · rw [decide_eq_false (fun z => z c), Bool.false_and, Bool.and_false]; rfl
  · have h2 : pdN a X Q n v w &&& (2 ^ n - 1) ≠ 0 := by
      rw [Nat.and_two_pow_sub_one_eq_mod, Nat.mod_eq_of_lt (show pdN a X Q n v w < 2 ^ n from orN_lt _ n)]
      exact c
    rw [decide_eq_false h2, Bool.and_false, Bool.and_false]; rfl
theorem ap_end {a : owK} {h : owH} {d m : Nat} {bw : Nat} (ho : aOk a) (hm : m < 2 ^ aN a) (hn : shN h d ≤ 12) (hd : d < 8) (e : faS (apB a (shX h d) (shY h d) (shN h d) (nI m)) (2 ^ shN h d) = some bw) : apN a h (nI d) (nI m) = bw := by
  unfold apN
  have e1 : rN h (nI d) = shN h d := congrArg (shN h) (nI_clamp (by omega))
  have e2 : rX h (nI d) = shX h d := congrArg (shX h) (nI_clamp (by omega))
  have e3 : rQ h (nI d) = shY h d := congrArg (shY h) (nI_clamp (by omega))
  rw [e1, e2, e3, faS_fe, ← faS_cong (fun i hi => apEq ho hm hn hi), e]
theorem ap_none {a : owK} {X Q : Nat → Nat} {n : Nat} {b : Int32} (e : faS (apB a X Q n b) (2 ^ n) = none) : False := by
  obtain ⟨m, em⟩ : ∃ m, 2 ^ n = m + 1 := ⟨2 ^ n - 1, by have := Nat.two_pow_pos n; omega⟩
  have h := apFull (a := a) (X := X) (Q := Q) (n := n) (b := b)
  rw [em] at e h
  exact faS_some (show apB a X Q n b m = true from h) e
/-! pairs counted -/
theorem cntB_ind {p : Nat → Bool} : ∀ {n}, cntB p n = smN (fun i => if p i then 1 else 0) n
  | 0 => rfl
  | n + 1 => by
    show (if p n then cntB p n + 1 else cntB p n) = smN _ n + (if p n then 1 else 0)
    rw [cntB_ind]
    split <;> omega
theorem cntB_split {p q : Nat → Bool} : ∀ {n}, cntB p n = cntB (fun i => p i && q i) n + cntB (fun i => p i && !q i) n
  | 0 => rfl
  | n + 1 => by
    show (if p n then cntB p n + 1 else cntB p n) = (if (p n && q n) = true then _ else _) + (if (p n && !q n) = true then _ else _)
    rw [cntB_split (p := p) (q := q)]
    cases p n <;> cases q n <;> simp <;> omega
/-- rows: of each way the pairs with a later one -/
def rwS (q : Nat → Nat → Bool) (v n : Nat) : Nat := cntB (fun w => decide (v < w) && q v w) n
theorem rw_all {q : Nat → Nat → Bool} : smN (fun v => rwS q v 10) 10 = cntB (prP q) 45 := by
  unfold rwS prP
  rw [cntB_ind]
  simp only [cntB_ind]
  simp only [smN, prV, prW, ofs]
  simp
  omega
theorem rw_tri {b : Nat → Bool} : 2 * cntB (prP (fun v w => b v && b w)) 45 = cntB b 10 * (cntB b 10 - 1) := by
  unfold prP
  rw [cntB_ind]
  simp only [cntB_ind]
  simp only [smN, prV, prW, ofs]
  simp only [Nat.reduceLT, Nat.reduceAdd, Nat.reduceMul, Nat.reduceDiv, Nat.reduceSub, if_true, if_false]
  cases b 0 <;> cases b 1 <;> cases b 2 <;> cases b 3 <;> cases b 4 <;> cases b 5 <;> cases b 6 <;> cases b 7 <;> cases b 8 <;> cases b 9 <;> rfl
theorem rwS_ext {q : Nat → Nat → Bool} {v N : Nat} (hN : N ≤ 10) (hq : ∀ w, N ≤ w → w < 10 → q v w = false) : rwS q v 10 = rwS q v N := by
  unfold rwS
  have g : ∀ k, N + k ≤ 10 → cntB (fun w => decide (v < w) && q v w) (N + k) = cntB (fun w => decide (v < w) && q v w) N := by
    intro k
    induction k with
    | zero => intro _; rfl
    | succ k ih =>
      intro hk
      show (if (decide (v < N + k) && q v (N + k)) = true then _ else cntB (fun w => decide (v < w) && q v w) (N + k)) = _
      rw [hq (N + k) (by omega) (by omega), Bool.and_false, if_neg (by decide), ih (by omega)]
  have := g (10 - N) (by omega)
  rw [show N + (10 - N) = 10 by omega] at this
  exact this
theorem rw_ext {q : Nat → Nat → Bool} {N : Nat} (hN : N ≤ 10) (hq : ∀ v w, N ≤ w → w < 10 → q v w = false) : smN (fun v => rwS q v 10) 10 = smN (fun v => rwS q v N) N := by
  have e : (fun v => rwS q v 10) = (fun v => rwS q v N) := funext fun v => rwS_ext hN (hq v)
  rw [e]
  have z : ∀ v, N ≤ v → rwS q v N = 0 := fun v hv => by
    unfold rwS
    have g : ∀ n, n ≤ N → cntB (fun w => decide (v < w) && q v w) n = 0 := by
      intro n
      induction n with
      | zero => intro _; rfl
      | succ n ih =>
        intro hn
        show (if (decide (v < n) && q v n) = true then _ else _) = _
        rw [decide_eq_false (by omega), Bool.false_and, if_neg (by decide), ih (by omega)]
    exact g N (Nat.le_refl _)
  exact sm_tail z 10 hN
theorem mul_tri : ∀ k, k < 11 → nI k * (nI k - 1) / 2 = nI (k * (k - 1) / 2) := by decide +kernel
theorem never_eq {a : owK} {X Q : Nat → Nat} {m n : Nat} (ho : aOk a) (hm : m < 2 ^ aN a) : nI (bcN m) * (nI (bcN m) - 1) / 2 - nI (cntB (ptA a X Q (nI m) n) 45) = nI (smN (fun v => rwS (fun v w => boB (nI m) v w && decide (pdN a X Q n v w = 0)) v (aN a)) (aN a)) := by
  have h10 := ho.1
  have hp : 2 ^ aN a ≤ 2 ^ 10 := Nat.pow_le_pow_right (by decide) h10
  have h1024 : m < 1024 := pow10 ho hm
  have hb : bcN m = cntB (fun v => m.testBit v) 10 := by
    unfold bcN
    rw [cntB_ind]
    congr 1
    funext i
    rw [Nat.testBit_eq_decide_div_mod_eq]
    by_cases c : m / 2 ^ i % 2 = 1
    · rw [if_pos (decide_eq_true c)]; exact c
    · rw [if_neg (by simpa using c)]; omega
  have hbo : ∀ v w, v < 10 → w < 10 → boB (nI m) v w = (m.testBit v && m.testBit w) := fun v w hv hw => by
    unfold boB
    rw [among_tb (by omega) (by omega), among_tb (by omega) (by omega)]
  have hx := rw_ext (q := fun v w => boB (nI m) v w && decide (pdN a X Q n v w = 0)) h10 (fun v w h1 h2 => by
    have : amongB (nI m) (nI w) = false := by
      rw [among_tb (by omega) (by omega)]
      exact Nat.testBit_lt_two_pow (Nat.lt_of_lt_of_le hm (Nat.pow_le_pow_right (by decide) h1))
    unfold boB
    rw [this, Bool.and_false, Bool.false_and])
  rw [← hx, rw_all]
  have ht := rw_tri (b := fun v => m.testBit v)
  rw [← hb] at ht
  have hs := cntB_split (p := prP (fun v w => m.testBit v && m.testBit w)) (q := prP (fun v w => decide (pdN a X Q n v w ≠ 0))) (n := 45)
  have e1 : cntB (fun i => prP (fun v w => m.testBit v && m.testBit w) i && prP (fun v w => decide (pdN a X Q n v w ≠ 0)) i) 45 = cntB (ptA a X Q (nI m) n) 45 := cntB_cong fun j hj => by
    have hpj := prjj j hj
    rw [ptA_iff ho hm hj]
    unfold prP
    rw [hbo _ _ (by omega) hpj.2.1]
  have e2 : cntB (fun i => prP (fun v w => m.testBit v && m.testBit w) i && !prP (fun v w => decide (pdN a X Q n v w ≠ 0)) i) 45 = cntB (prP (fun v w => boB (nI m) v w && decide (pdN a X Q n v w = 0))) 45 := cntB_cong fun j hj => by
    have hpj := prjj j hj
    unfold prP
    show (m.testBit (prV j) && m.testBit (prW j) && !decide (pdN a X Q n (prV j) (prW j) ≠ 0)) = (boB (nI m) (prV j) (prW j) && decide (pdN a X Q n (prV j) (prW j) = 0))
    rw [hbo _ _ (by omega) hpj.2.1]
    congr 1
    by_cases c : pdN a X Q n (prV j) (prW j) = 0
    · rw [decide_eq_true c, decide_eq_false (fun z => z c)]; rfl
    · rw [decide_eq_false c, decide_eq_true c]; rfl
  rw [e1, e2] at hs
  have hk := bcN_le m
  rw [mul_tri _ (by omega)]
  have : bcN m * (bcN m - 1) / 2 = cntB (ptA a X Q (nI m) n) 45 + cntB (prP (fun v w => boB (nI m) v w && decide (pdN a X Q n v w = 0))) 45 := by omega
  rw [this, pk_sub (by omega), Nat.add_sub_cancel_left]
