theorem m_ldcw {l : Launch} {G : owG} {cc : ByteArray} {nL : Nat} {own : String} {rt : Option FieldType} {R : Room} {Ex : State → Prop} {Qf : List Frame → Array Value → State → State → Prop} {pc : Nat} {lv : List (Nat × Value)} {rest : List Value} {σ : owSt} {cells slots : Nat} {i : Nat} (v : Int32) (hc : Jvm.Cond.constant own i v ∈ owTB) (hd : decode cc pc = .ok (.ldc_w i, 3)) (kk : Wm l G cc nL own rt R Ex Qf (pc + 3) lv (.int v :: rest) σ cells slots) : Wm l G cc nL own rt R Ex Qf pc lv rest σ cells slots := by
  intro p e s m args below meth c H locs ls X
  obtain ⟨hx, hb, hml, ho, hts, hr, hk, hE, hK, hH, hS, hB, hl⟩ := id X
  intro T hT X1
  obtain ⟨t, st, b⟩ := kk _ _ _ _ _ _ _ _ _ _ _ X T hT X1
  obtain ⟨k_, cf_, bytes_, hk2, hcf, hcp, hbb⟩ := Cond.constant_spec ho (hts _ hc)
  obtain ⟨k2_, hk3, he_⟩ := X1.warmed.alike.2.2 _ _ hk2
  have hd2 : decode c.code pc = .ok (.ldc_w i, 3) := by rw [hb]; exact hd
  refine ⟨t, ?_, b⟩
  jvm_step X1.here [hx, hd2, ldc_w.sem, ldc.wp_int (s := T) (f := F0 m pc ls rest) X1.here.top hk3 (by rw [he_]; exact hcf) hcp, hbb]
  exact st
def fewF (sl : Nat → Nat) : Option Nat → Int32
  | none => 13
  | some b => nI (sl b)
theorem likS_0 {sl wt : Nat → Nat} {k : Nat} (h : likS sl wt k = none) : likS sl wt (k + 1) = some k := by simp only [likS, h]
theorem likS_y {sl wt : Nat → Nat} {k b : Nat} (h : likS sl wt k = some b) (hc : sl k < sl b ∨ sl k = sl b ∧ wt b < wt k) : likS sl wt (k + 1) = some k := by simp only [likS, h, if_pos hc]
theorem likS_n {sl wt : Nat → Nat} {k b : Nat} (h : likS sl wt k = some b) (hc : ¬ (sl k < sl b ∨ sl k = sl b ∧ wt b < wt k)) : likS sl wt (k + 1) = some b := by simp only [likS, h, if_neg hc]
/-- how likely a way is -/
def chN (a : owK) (n : Nat) (X Q : Nat → Nat) (V : Nat → Int32) (w : Nat) : Nat := aG a w * 2 ^ (12 - slN a n X Q V w)
theorem shl12 {g sl : Nat} (hs : sl ≤ 12) (hg : g ≤ 99) : nI g <<< ((12 - nI sl) &&& 31) = nI (g * 2 ^ (12 - sl)) := by
  have h : sl = 0 ∨ sl = 1 ∨ sl = 2 ∨ sl = 3 ∨ sl = 4 ∨ sl = 5 ∨ sl = 6 ∨ sl = 7 ∨ sl = 8 ∨ sl = 9 ∨ sl = 10 ∨ sl = 11 ∨ sl = 12 := by omega
  rcases h with rfl | rfl | rfl | rfl | rfl | rfl | rfl | rfl | rfl | rfl | rfl | rfl | rfl
  · exact pk_shlN _ 12 (by decide) (by omega)
  · exact pk_shlN _ 11 (by decide) (by omega)
  · exact pk_shlN _ 10 (by decide) (by omega)
  · exact pk_shlN _ 9 (by decide) (by omega)
  · exact pk_shlN _ 8 (by decide) (by omega)
  · exact pk_shlN _ 7 (by decide) (by omega)
  · exact pk_shlN _ 6 (by decide) (by omega)
  · exact pk_shlN _ 5 (by decide) (by omega)
  · exact pk_shlN _ 4 (by decide) (by omega)
  · exact pk_shlN _ 3 (by decide) (by omega)
  · exact pk_shlN _ 2 (by decide) (by omega)
  · exact pk_shlN _ 1 (by decide) (by omega)
  · exact pk_shlN _ 0 (by decide) (by omega)
theorem chN_le {a : owK} {n : Nat} {X Q : Nat → Nat} {V : Nat → Int32} {w : Nat} (ho : aOk a) (hw : w < aN a) : chN a n X Q V w ≤ 405504 := by
  have hg := (ho.2.2.1 w hw).2.2.2
  unfold chN
  have h2 : 2 ^ (12 - slN a n X Q V w) ≤ 2 ^ 12 := Nat.pow_le_pow_right (by decide) (by omega)
  calc aG a w * 2 ^ (12 - slN a n X Q V w) ≤ 99 * 2 ^ 12 := Nat.mul_le_mul hg h2
    _ = 405504 := by decide
theorem chN_pos {a : owK} {n : Nat} {X Q : Nat → Nat} {V : Nat → Int32} {w : Nat} (ho : aOk a) (hw : w < aN a) : 0 < chN a n X Q V w := by
  have hg := (ho.2.2.1 w hw).2.2.1
  exact Nat.mul_pos hg (Nat.pow_pos (by decide))
theorem smN_bound {f : Nat → Nat} {c : Nat} : ∀ {n}, (∀ k, k < n → f k ≤ c) → smN f n ≤ n * c
  | 0, _ => Nat.zero_le _
  | n + 1, h => by
    have h1 := smN_bound (n := n) (fun k hk => h k (by omega))
    have h2 := h n (by omega)
    show smN f n + f n ≤ (n + 1) * c
    rw [Nat.succ_mul]
    omega
theorem smN_part {f : Nat → Nat} {n k : Nat} (h : k < n) : f k ≤ smN f n := by
  induction n with
  | zero => exact absurd h (Nat.not_lt_zero k)
  | succ n ih =>
    show f k ≤ smN f n + f n
    rcases Nat.lt_or_ge k n with q | q
    · exact Nat.le_trans (ih q) (Nat.le_add_right _ _)
    · obtain rfl : n = k := by omega
      exact Nat.le_add_left _ _
/-- weights of told ways -/
def wgN (a : owK) (ws : Int32) (n : Nat) : Nat := smN (fun w => if amongB ws (nI w) then aG a w else 0) n
theorem wgN_t {a : owK} {ws : Int32} {k : Nat} (h : amongB ws (nI k) = true) : wgN a ws k + aG a k = wgN a ws (k + 1) := by
  show _ = smN _ k + (if amongB ws (nI k) then aG a k else 0)
  rw [if_pos h]; rfl
theorem wgN_f {a : owK} {ws : Int32} {k : Nat} (h : amongB ws (nI k) = false) : wgN a ws k = wgN a ws (k + 1) := by
  show _ = smN _ k + (if amongB ws (nI k) then aG a k else 0)
  rw [if_neg (by rw [h]; decide)]; rfl
theorem wgN_le {a : owK} {ws : Int32} {k : Nat} (ho : aOk a) (hk : k ≤ aN a) : wgN a ws k ≤ k * 99 := smN_bound fun j hj => by
  have := (ho.2.2.1 j (by omega)).2.2.2
  show (if amongB ws (nI j) then aG a j else 0) ≤ 99
  split <;> omega
/-- in least terms -/
def ltI (x y : Nat) (part : Int32) : Int32 := if part = 0 then nI (x / Nat.gcd x y) else nI (y / Nat.gcd x y)
theorem gd_half {g r : Nat} (h : r < g) (hr : 0 < r) : 2 * (g % r) ≤ g := by
  have h1 := Nat.div_add_mod g r
  have h2 : 1 ≤ g / r := (Nat.one_le_div_iff hr).mpr (by omega)
  have h3 : r * 1 ≤ r * (g / r) := Nat.mul_le_mul_left r h2
  have h4 := Nat.mod_lt g hr
  omega
def gdI (k g r x y : Nat) : Prop := Nat.gcd g r = Nat.gcd x y ∧ ((k = 0 ∧ g = x ∧ r = y) ∨ (1 ≤ k ∧ r < g ∧ g * r * 2 ^ (k - 1) ≤ x * y))
theorem gdI_step {k g r x y : Nat} (h : gdI k g r x y) (hr : 0 < r) : gdI (k + 1) r (g % r) x y := by
  refine ⟨?_, Or.inr ⟨by omega, Nat.mod_lt g hr, ?_⟩⟩
  · rw [← h.1, Nat.gcd_comm r, ← Nat.gcd_rec, Nat.gcd_comm]
  · rcases h.2 with ⟨rfl, rfl, rfl⟩ | ⟨h1, h2, h3⟩
    · show r * (g % r) * 2 ^ 0 ≤ g * r
      rw [Nat.pow_zero, Nat.mul_one, Nat.mul_comm]
      exact Nat.mul_le_mul_right r (Nat.mod_le g r)
    · refine Nat.le_trans ?_ h3
      show r * (g % r) * 2 ^ k ≤ _
      obtain ⟨j, rfl⟩ : ∃ j, k = j + 1 := ⟨k - 1, by omega⟩
      rw [Nat.pow_succ, show j + 1 - 1 = j from rfl]
      have h4 := gd_half h2 hr
      calc r * (g % r) * (2 ^ j * 2) = (2 * (g % r)) * r * 2 ^ j := by
            rw [Nat.mul_comm (2 ^ j) 2, ← Nat.mul_assoc, Nat.mul_comm (r * (g % r)) 2, Nat.mul_comm r, ← Nat.mul_assoc]
        _ ≤ g * r * 2 ^ j := Nat.mul_le_mul_right _ (Nat.mul_le_mul_right r h4)
theorem gdI_end {g r x y : Nat} (h : gdI 64 g r x y) (hx : x < 2 ^ 23) (hy : y < 2 ^ 23) : r = 0 := by
  rcases h.2 with ⟨h1, -⟩ | ⟨-, h2, h3⟩
  · omega
  · rcases Nat.eq_zero_or_pos r with q | q
    · exact q
    · have h4 : 1 ≤ g * r := Nat.mul_pos (by omega) q
      have h5 : x * y ≤ 2 ^ 23 * 2 ^ 23 := Nat.mul_le_mul (Nat.le_of_lt hx) (Nat.le_of_lt hy)
      have h6 : 1 * 2 ^ 63 ≤ g * r * 2 ^ (64 - 1) := Nat.mul_le_mul_right _ h4
      have h7 : (2 : Nat) ^ 23 * 2 ^ 23 < 1 * 2 ^ 63 := by decide
      have h8 := Nat.le_trans h6 (Nat.le_trans h3 h5)
      omega
/-- marks of a way on a sheet -/
def mkN (a : owK) (n : Nat) (X Q : Nat → Nat) (fl : Bool) (w : Nat) : Nat := cntB (fun s => decide (nI (ansA a w (X s) (Q s)) = nI (X s) - nI (Q s)) && (!fl || decide (stkI (aK a w) (aF a w) (X s) (Q s) 4 ≠ 0))) n
def nxt (s : Int32) : Int32 := s * 1103515245 + 12345
def drI (s n : Int32) : Int32 := (s &&& 2147483647) / 65536 - (s &&& 2147483647) / 65536 / n * n
theorem and31 (s : Int32) : ∃ k : Nat, k < 2 ^ 31 ∧ s &&& 2147483647 = nI k := pk_andE s 31 (by decide)
theorem drI_nat (s : Int32) {n : Nat} (h0 : 0 < n) (hn : n < 2 ^ 31) : ∃ k : Nat, k < n ∧ drI s (nI n) = nI k := by
  obtain ⟨k, hk, e⟩ := and31 s
  refine ⟨k / 65536 % n, Nat.mod_lt _ h0, ?_⟩
  unfold drI
  rw [e, show (65536 : Int32) = nI 65536 from rfl, pk_div hk (by decide) (by decide), pk_rem (by omega) h0 hn]
/-- a slip: column c, by st more -/
def slpI (v : Int32) (c : Nat) (st : Int32) : Int32 :=
  let t := nI (10 ^ c)
  let g := v / t - v / t / 10 * 10
  v + ((g + st) - (g + st) / 10 * 10 - g) * t
def chK (a : owK) (kd : Int32) : Nat := cntB (fun c => decide (nI (aK a (aH a c)) = kd)) (aC a)
def gkS (a : owK) (ws : Int32) : Nat → Nat × Nat
  | 0 => (0, 0)
  | k + 1 => if (gkS a ws k).2 < chK a (nI (k + 1)) ∧ amongB ws (nI (k + 1)) = false then (k + 1, chK a (nI (k + 1))) else gkS a ws k
def kdI (b : Nat) : Int32 := if b = 0 then -4 else nI b
theorem gkS_y {a : owK} {ws : Int32} {k : Nat} (h : (gkS a ws k).2 < chK a (nI (k + 1))) (h2 : amongB ws (nI (k + 1)) = false) : gkS a ws (k + 1) = (k + 1, chK a (nI (k + 1))) := by
  show (if _ then _ else _) = _
  rw [if_pos ⟨h, h2⟩]
theorem gkS_n {a : owK} {ws : Int32} {k : Nat} (h : ¬ ((gkS a ws k).2 < chK a (nI (k + 1)) ∧ amongB ws (nI (k + 1)) = false)) : gkS a ws (k + 1) = gkS a ws k := by
  show (if _ then _ else _) = _
  rw [if_neg h]
theorem gkS_le (a : owK) (ws : Int32) (ho : aOk a) : ∀ k, (gkS a ws k).2 ≤ 8
  | 0 => Nat.zero_le _
  | k + 1 => by
    show (if _ then _ else _ : Nat × Nat).2 ≤ 8
    split
    · exact Nat.le_trans (cntB_le _ _) ho.2.1
    · exact gkS_le a ws ho k
/-- copied at a place -/
def copB (X Q : Nat → Nat) (V V2 : Nat → Int32) (s : Nat) : Bool := decide (V s = V2 s ∧ V s ≠ -1 ∧ V s ≠ nI (X s) - nI (Q s))
/-- a week in mind, up to child c: the seed, who holds what -/
def wkS (a : owK) (p q : Int32) (sd : Int32) (f : Nat → Nat) : Nat → Int32 × (Nat → Nat)
  | 0 => (sd, f)
  | c + 1 =>
    let r := wkS a p q sd f c
    (nxt r.1, fun j => if j = c then (if drI (nxt r.1) 100 < p then tdW a 0 (r.2 c) else if drI (nxt r.1) 100 < p + q then aI a c else r.2 c) else r.2 j)
theorem wkS_lt {a : owK} {p q sd : Int32} {f : Nat → Nat} (ho : aOk a) (hf : ∀ j, j < aC a → f j < aN a) : ∀ c, c ≤ aC a → ∀ j, j < aC a → (wkS a p q sd f c).2 j < aN a
  | 0, _, j, hj => hf j hj
  | c + 1, hc, j, hj => by
    have ih := wkS_lt (p := p) (q := q) (sd := sd) ho hf c (by omega)
    show (if j = c then _ else _ : Nat) < aN a
    split
    · split
      · exact tdW_lt ho (by decide) (ih c (by omega))
      · split
        · exact (ho.2.2.2.1 c (by omega)).2.2
        · exact ih c (by omega)
    · exact ih j hj
set_option maxRecDepth 100000 in
set_option maxHeartbeats 4000000 in
theorem k_likeliest (l : Launch) (G : owG) {A S Z B T V : owF} {J : Nat → Nat → Int64} {Y : Nat → Nat → Nat → Option Nat} {P : Nat → Option owW} (a_ : owK) (ho_ : aOk a_) (hR : RX A Y P 0 a_) (n_ : Nat) (X Q : Nat → Nat) (hs_ : shS S n_ X Q) (V0 : Nat → Int32) (hv_ : anS S 32 n_ V0)  : Ct l G yX11_likeliest cX11_likeliest 5 ((some .int)) 7 0 0 [.ref (gK G 0 0)] (A, S, Z, B, T, V, J, Y, P) (qI (fun r_ σ => r_ = optI (likA a_ n_ X Q V0) ∧ ∃ Z2 : owF, σ = (A, S, Z2, B, T, V, J, Y, P))) := by
  refine ct_of (by decide +kernel) (Nat.le_of_ble_eq_true rfl) ?_
  have h10 := ho_.1
  have h8_ := ho_.2.1
  show Wm l G cX11_likeliest 5 RX11 ((some .int)) (rmk 7 0 0) (fun _ => True) (QfM G (qI (fun r_ σ => r_ = optI (likA a_ n_ X Q V0) ∧ ∃ Z2 : owF, σ = (A, S, Z2, B, T, V, J, Y, P))) 0 0) 0 [(0, .ref (gK G 0 0))] [] (A, S, Z, B, T, V, J, Y, P) 0 0
  refine m_bipush (-4) dX11_likeliest_0 rfl ?_
  refine m_istore_n [(1, .int (-4)), (0, .ref (gK G 0 0))] rfl (by decide) rfl dX11_likeliest_2 ?_
  refine m_bipush (13) dX11_likeliest_3 rfl ?_
  refine m_istore_n [(2, .int 13), (1, .int (-4)), (0, .ref (gK G 0 0))] rfl (by decide) rfl dX11_likeliest_5 ?_
  refine m_iconst 0 dX11_likeliest_6 rfl ?_
  refine m_istore_n [(3, .int 0), (2, .int 13), (1, .int (-4)), (0, .ref (gK G 0 0))] rfl (by decide) rfl dX11_likeliest_7 ?_
  have lp8 : ∀ (dd : Nat) (k_ : Nat) (Z9 : owF), k_ ≤ aN a_ → aN a_ - k_ < dd → Wm l G cX11_likeliest 5 RX11 ((some .int)) (rmk 7 0 0) (fun _ => True) (QfM G (qI (fun r_ σ => r_ = optI (likA a_ n_ X Q V0) ∧ ∃ Z2 : owF, σ = (A, S, Z2, B, T, V, J, Y, P))) 0 0) 8 [(0, .ref (gK G 0 0)), (1, .int (optI (likS (slN a_ n_ X Q V0) (aG a_) k_))), (2, .int (fewF (slN a_ n_ X Q V0) (likS (slN a_ n_ X Q V0) (aG a_) k_))), (3, .int (nI (k_)))] [] (A, S, Z9, B, T, V, J, Y, P) 0 0 := by
    intro dd
    induction dd with
    | zero => intro k_ Z9 hk_ hdd; exact absurd hdd (Nat.not_lt_zero _)
    | succ dd ih8 =>
      intro k_ Z9 hk_ hdd8
      refine m_iload_n 3 rfl rfl dX11_likeliest_8 ?_
      refine m_aload_n 0 rfl rfl dX11_likeliest_9 ?_
      refine gf_X11_10 dX11_likeliest_10 ?_
      refine gf_X11_164 (by decide) dX11_likeliest_13 ?_
      refine m_topi hR.1 ?_
      refine m_icmpn_ge k_ (aN a_) 68 (by omega) (by omega) dX11_likeliest_16 (by decide) (fun c1_ => ?_) (fun c1_ => ?_)
      ·
        refine m_iload_n 1 rfl rfl dX11_likeliest_68 ?_
        exact m_iret dX11_likeliest_69 (Nat.le_refl _) (Nat.le_refl _) ((by obtain rfl : k_ = aN a_ := (by omega); exact ⟨rfl, _, rfl⟩))
      ·
        refine m_aload_n 0 rfl rfl dX11_likeliest_19 ?_
        refine m_iload_n 3 rfl rfl dX11_likeliest_20 ?_
        refine m_callVi cv_X11_155 [.int (nI (k_))] [] (k_slipsBy l G a_ ho_ hR n_ X Q hs_ V0 hv_ k_ (by omega)) (by decide) (ce_0 G _ _ _ _ _ _ _ _ _ _) rfl rfl rfl ⟨Nat.le_of_ble_eq_true rfl, Nat.le_of_ble_eq_true rfl⟩ (Nat.le_of_ble_eq_true rfl) ⟨Nat.zero_le _, Nat.zero_le _⟩ dX11_likeliest_21 (fun xx σ2 hq => ?_)
        obtain ⟨rfl, Z2, rfl⟩ := hq
        have hsl := slN_le (a := a_) (X := X) (Q := Q) (V := V0) (w := k_) hs_.2.1
        refine m_istore [(4, .int (nI (slN a_ n_ X Q V0 k_))), (0, .ref (gK G 0 0)), (1, .int (optI (likS (slN a_ n_ X Q V0) (aG a_) k_))), (2, .int (fewF (slN a_ n_ X Q V0) (likS (slN a_ n_ X Q V0) (aG a_) k_))), (3, .int (nI (k_)))] (by decide) rfl dX11_likeliest_24 ?_
        cases hl0 : likS (slN a_ n_ X Q V0) (aG a_) k_ with
        | none =>
          have hk0 := likS_none hl0
          refine m_iload 0 rfl dX11_likeliest_26 ?_
          refine m_iload_n 3 rfl rfl dX11_likeliest_28 ?_
          refine m_icmpn_lt (slN a_ n_ X Q V0 k_) 13 57 (by omega) (by decide) dX11_likeliest_29 (by decide) (fun c3_ => ?_) (fun c3_ => ?_)
          ·
            refine m_iload 0 rfl dX11_likeliest_57 ?_
            refine m_istore_n [(2, .int (nI (slN a_ n_ X Q V0 k_))), (4, .int (nI (slN a_ n_ X Q V0 k_))), (0, .ref (gK G 0 0)), (1, .int (-4)), (3, .int (nI (k_)))] rfl (by decide) rfl dX11_likeliest_59 ?_
            refine m_iload_n 4 rfl rfl dX11_likeliest_60 ?_
            refine m_istore_n [(1, .int (nI (k_))), (2, .int (nI (slN a_ n_ X Q V0 k_))), (4, .int (nI (slN a_ n_ X Q V0 k_))), (0, .ref (gK G 0 0)), (3, .int (nI (k_)))] rfl (by decide) rfl dX11_likeliest_61 ?_
            refine m_iinc (nI (k_ + 1)) 4 [(3, .int (nI (k_ + 1))), (1, .int (nI (k_))), (2, .int (nI (slN a_ n_ X Q V0 k_))), (4, .int (nI (slN a_ n_ X Q V0 k_))), (0, .ref (gK G 0 0))] rfl (nI_1 _) (by decide) rfl dX11_likeliest_62 ?_
            refine m_goto 8 dX11_likeliest_65 (by decide) ?_
            refine m_lv [(0, .ref (gK G 0 0)), (1, .int (nI (k_))), (2, .int (nI (slN a_ n_ X Q V0 k_))), (3, .int (nI (k_ + 1)))] [4, 1, 2, 0] rfl ?_
            have ihx := ih8 (k_ + 1) Z2 (by omega) (by omega)
            rw [likS_0 hl0] at ihx
            exact ihx
          ·
            exact m_dead (by omega)
        | some bw =>
          have hbk := likS_lt hl0
          have hslb := slN_le (a := a_) (X := X) (Q := Q) (V := V0) (w := bw) hs_.2.1
          have hgb := (ho_.2.2.1 bw (by omega)).2.2.2
          have hgk := (ho_.2.2.1 k_ (by omega)).2.2.2
          refine m_iload 0 rfl dX11_likeliest_26 ?_
          refine m_iload_n 3 rfl rfl dX11_likeliest_28 ?_
          refine m_icmpn_lt (slN a_ n_ X Q V0 k_) (slN a_ n_ X Q V0 bw) 57 (by omega) (by omega) dX11_likeliest_29 (by decide) (fun c4_ => ?_) (fun c4_ => ?_)
          ·
            refine m_iload 0 rfl dX11_likeliest_57 ?_
            refine m_istore_n [(2, .int (nI (slN a_ n_ X Q V0 k_))), (4, .int (nI (slN a_ n_ X Q V0 k_))), (0, .ref (gK G 0 0)), (1, .int (nI (bw))), (3, .int (nI (k_)))] rfl (by decide) rfl dX11_likeliest_59 ?_
            refine m_iload_n 4 rfl rfl dX11_likeliest_60 ?_
            refine m_istore_n [(1, .int (nI (k_))), (2, .int (nI (slN a_ n_ X Q V0 k_))), (4, .int (nI (slN a_ n_ X Q V0 k_))), (0, .ref (gK G 0 0)), (3, .int (nI (k_)))] rfl (by decide) rfl dX11_likeliest_61 ?_
            refine m_iinc (nI (k_ + 1)) 4 [(3, .int (nI (k_ + 1))), (1, .int (nI (k_))), (2, .int (nI (slN a_ n_ X Q V0 k_))), (4, .int (nI (slN a_ n_ X Q V0 k_))), (0, .ref (gK G 0 0))] rfl (nI_1 _) (by decide) rfl dX11_likeliest_62 ?_
            refine m_goto 8 dX11_likeliest_65 (by decide) ?_
            refine m_lv [(0, .ref (gK G 0 0)), (1, .int (nI (k_))), (2, .int (nI (slN a_ n_ X Q V0 k_))), (3, .int (nI (k_ + 1)))] [4, 1, 2, 0] rfl ?_
            have ihx := ih8 (k_ + 1) Z2 (by omega) (by omega)
            rw [likS_y hl0 (Or.inl c4_)] at ihx
            exact ihx
          ·
            refine m_iload 0 rfl dX11_likeliest_32 ?_
            refine m_iload_n 3 rfl rfl dX11_likeliest_34 ?_
            refine m_icmpn_ne (slN a_ n_ X Q V0 k_) (slN a_ n_ X Q V0 bw) 62 (by omega) (by omega) dX11_likeliest_35 (by decide) (fun c5_ => ?_) (fun c5_ => ?_)
            ·
              refine m_iinc (nI (k_ + 1)) 4 [(3, .int (nI (k_ + 1))), (4, .int (nI (slN a_ n_ X Q V0 k_))), (0, .ref (gK G 0 0)), (1, .int (nI (bw))), (2, .int (nI (slN a_ n_ X Q V0 bw)))] rfl (nI_1 _) (by decide) rfl dX11_likeliest_62 ?_
              refine m_goto 8 dX11_likeliest_65 (by decide) ?_
              refine m_lv [(0, .ref (gK G 0 0)), (1, .int (nI (bw))), (2, .int (nI (slN a_ n_ X Q V0 bw))), (3, .int (nI (k_ + 1)))] [2, 3, 4, 0] rfl ?_
              have ihx := ih8 (k_ + 1) Z2 (by omega) (by omega)
              rw [likS_n hl0 (by rintro (q_ | q_) <;> omega)] at ihx
              exact ihx
            ·
              refine m_aload_n 1 rfl rfl dX11_likeliest_38 ?_
              refine gf_X11_10 dX11_likeliest_39 ?_
              refine m_iload_n 4 rfl rfl dX11_likeliest_42 ?_
              refine m_callVi cv_X11_337 [.int (nI (k_))] [] (k_weightOf l G 0 (by decide) a_ ho_ hR (nI (k_))) (by decide) (ce_1 G _ _ _ _ _ _ _ _ _ _) rfl rfl rfl ⟨Nat.le_of_ble_eq_true rfl, Nat.le_of_ble_eq_true rfl⟩ (Nat.le_of_ble_eq_true rfl) ⟨Nat.zero_le _, Nat.zero_le _⟩ dX11_likeliest_43 (fun xx σ2 hq => ?_)
              obtain ⟨hgx, rfl⟩ := hq
              obtain rfl := hgx.trans (wgtI_nat ho_ (by omega))
              refine m_aload_n 1 rfl rfl dX11_likeliest_46 ?_
              refine gf_X11_10 dX11_likeliest_47 ?_
              refine m_iload_n 2 rfl rfl dX11_likeliest_50 ?_
              refine m_callVi cv_X11_337 [.int (nI (bw))] [.int (nI (aG a_ k_))] (k_weightOf l G 0 (by decide) a_ ho_ hR (nI (bw))) (by decide) (ce_1 G _ _ _ _ _ _ _ _ _ _) rfl rfl rfl ⟨Nat.le_of_ble_eq_true rfl, Nat.le_of_ble_eq_true rfl⟩ (Nat.le_of_ble_eq_true rfl) ⟨Nat.zero_le _, Nat.zero_le _⟩ dX11_likeliest_51 (fun xx σ2 hq => ?_)
              obtain ⟨hgx, rfl⟩ := hq
              obtain rfl := hgx.trans (wgtI_nat ho_ (by omega))
              refine m_icmpn_le (aG a_ k_) (aG a_ bw) 62 (by omega) (by omega) dX11_likeliest_54 (by decide) (fun c6_ => ?_) (fun c6_ => ?_)
              ·
                refine m_iinc (nI (k_ + 1)) 4 [(3, .int (nI (k_ + 1))), (4, .int (nI (slN a_ n_ X Q V0 k_))), (0, .ref (gK G 0 0)), (1, .int (nI (bw))), (2, .int (nI (slN a_ n_ X Q V0 bw)))] rfl (nI_1 _) (by decide) rfl dX11_likeliest_62 ?_
                refine m_goto 8 dX11_likeliest_65 (by decide) ?_
                refine m_lv [(0, .ref (gK G 0 0)), (1, .int (nI (bw))), (2, .int (nI (slN a_ n_ X Q V0 bw))), (3, .int (nI (k_ + 1)))] [2, 3, 4, 0] rfl ?_
                have ihx := ih8 (k_ + 1) Z2 (by omega) (by omega)
                rw [likS_n hl0 (by rintro (q_ | q_) <;> omega)] at ihx
                exact ihx
              ·
                refine m_iload 0 rfl dX11_likeliest_57 ?_
                refine m_istore_n [(2, .int (nI (slN a_ n_ X Q V0 k_))), (4, .int (nI (slN a_ n_ X Q V0 k_))), (0, .ref (gK G 0 0)), (1, .int (nI (bw))), (3, .int (nI (k_)))] rfl (by decide) rfl dX11_likeliest_59 ?_
                refine m_iload_n 4 rfl rfl dX11_likeliest_60 ?_
                refine m_istore_n [(1, .int (nI (k_))), (2, .int (nI (slN a_ n_ X Q V0 k_))), (4, .int (nI (slN a_ n_ X Q V0 k_))), (0, .ref (gK G 0 0)), (3, .int (nI (k_)))] rfl (by decide) rfl dX11_likeliest_61 ?_
                refine m_iinc (nI (k_ + 1)) 4 [(3, .int (nI (k_ + 1))), (1, .int (nI (k_))), (2, .int (nI (slN a_ n_ X Q V0 k_))), (4, .int (nI (slN a_ n_ X Q V0 k_))), (0, .ref (gK G 0 0))] rfl (nI_1 _) (by decide) rfl dX11_likeliest_62 ?_
                refine m_goto 8 dX11_likeliest_65 (by decide) ?_
                refine m_lv [(0, .ref (gK G 0 0)), (1, .int (nI (k_))), (2, .int (nI (slN a_ n_ X Q V0 k_))), (3, .int (nI (k_ + 1)))] [4, 1, 2, 0] rfl ?_
                have ihx := ih8 (k_ + 1) Z2 (by omega) (by omega)
                rw [likS_y hl0 (Or.inr ⟨by omega, by omega⟩)] at ihx
                exact ihx
  refine m_lv [(0, .ref (gK G 0 0)), (1, .int (-4)), (2, .int 13), (3, .int 0)] [3, 2, 1, 0] rfl ?_
  exact lp8 ((aN a_ - 0) + 1) 0 Z (Nat.zero_le _) (Nat.lt_succ_self _)
set_option maxRecDepth 100000 in
set_option maxHeartbeats 4000000 in
theorem k_chance (l : Launch) (G : owG) {A S Z B T V : owF} {J : Nat → Nat → Int64} {Y : Nat → Nat → Nat → Option Nat} {P : Nat → Option owW} (a_ : owK) (ho_ : aOk a_) (hR : RX A Y P 0 a_) (n_ : Nat) (X Q : Nat → Nat) (hs_ : shS S n_ X Q) (V0 : Nat → Int32) (hv_ : anS S 32 n_ V0) (w_ : Nat) (hw_ : w_ < aN a_) : Ct l G yX11_chance cX11_chance 2 ((some .int)) 7 0 0 [.ref (gK G 0 0), .int (nI (w_))] (A, S, Z, B, T, V, J, Y, P) (qI (fun r_ σ => r_ = nI (chN a_ n_ X Q V0 w_) ∧ ∃ Z2 : owF, σ = (A, S, Z2, B, T, V, J, Y, P))) := by
  refine ct_of (by decide +kernel) (Nat.le_of_ble_eq_true rfl) ?_
  have h10 := ho_.1
  have h8_ := ho_.2.1
  have hg99 := (ho_.2.2.1 w_ hw_).2.2.2
  show Wm l G cX11_chance 2 RX11 ((some .int)) (rmk 7 0 0) (fun _ => True) (QfM G (qI (fun r_ σ => r_ = nI (chN a_ n_ X Q V0 w_) ∧ ∃ Z2 : owF, σ = (A, S, Z2, B, T, V, J, Y, P))) 0 0) 0 [(0, .ref (gK G 0 0)), (1, .int (nI (w_)))] [] (A, S, Z, B, T, V, J, Y, P) 0 0
  refine m_aload_n 0 rfl rfl dX11_chance_0 ?_
  refine gf_X11_10 dX11_chance_1 ?_
  refine m_iload_n 1 rfl rfl dX11_chance_4 ?_
  refine m_callVi cv_X11_337 [.int (nI (w_))] [] (k_weightOf l G 0 (by decide) a_ ho_ hR (nI (w_))) (by decide) (ce_1 G _ _ _ _ _ _ _ _ _ _) rfl rfl rfl ⟨Nat.le_of_ble_eq_true rfl, Nat.le_of_ble_eq_true rfl⟩ (Nat.le_of_ble_eq_true rfl) ⟨Nat.zero_le _, Nat.zero_le _⟩ dX11_chance_5 (fun xx σ2 hq => ?_)
  obtain ⟨hgx, rfl⟩ := hq
  obtain rfl := hgx.trans (wgtI_nat ho_ (by omega))
  refine m_bipush (12) dX11_chance_8 rfl ?_
  refine m_aload_n 0 rfl rfl dX11_chance_10 ?_
  refine m_iload_n 1 rfl rfl dX11_chance_11 ?_
  refine m_callVi cv_X11_155 [.int (nI (w_))] [.int 12, .int (nI (aG a_ w_))] (k_slipsBy l G a_ ho_ hR n_ X Q hs_ V0 hv_ w_ (by omega)) (by decide) (ce_0 G _ _ _ _ _ _ _ _ _ _) rfl rfl rfl ⟨Nat.le_of_ble_eq_true rfl, Nat.le_of_ble_eq_true rfl⟩ (Nat.le_of_ble_eq_true rfl) ⟨Nat.zero_le _, Nat.zero_le _⟩ dX11_chance_12 (fun xx σ2 hq => ?_)
  obtain ⟨rfl, Z1, rfl⟩ := hq
  have hsl := slN_le (a := a_) (X := X) (Q := Q) (V := V0) (w := w_) hs_.2.1
  refine m_isub dX11_chance_15 ?_
  refine m_ishl dX11_chance_16 ?_
  exact m_iret dX11_chance_17 (Nat.le_refl _) (Nat.le_refl _) (⟨shl12 hsl hg99, _, rfl⟩)
set_option maxRecDepth 100000 in
set_option maxHeartbeats 4000000 in
theorem k_weightOfAll (l : Launch) (G : owG) {A S Z B T V : owF} {J : Nat → Nat → Int64} {Y : Nat → Nat → Nat → Option Nat} {P : Nat → Option owW} (a_ : owK) (ho_ : aOk a_) (hR : RX A Y P 0 a_) (b_ : Int32) : Ct l G yX11_weightOfAll cX11_weightOfAll 4 ((some .int)) 2 0 0 [.ref (gK G 0 0), .int b_] (A, S, Z, B, T, V, J, Y, P) (qI (fun r_ σ => r_ = nI (wgN a_ b_ (aN a_)) ∧ σ = (A, S, Z, B, T, V, J, Y, P))) := by
  refine ct_of (by decide +kernel) (Nat.le_of_ble_eq_true rfl) ?_
  have h10 := ho_.1
  have h8_ := ho_.2.1
  show Wm l G cX11_weightOfAll 4 RX11 ((some .int)) (rmk 2 0 0) (fun _ => True) (QfM G (qI (fun r_ σ => r_ = nI (wgN a_ b_ (aN a_)) ∧ σ = (A, S, Z, B, T, V, J, Y, P))) 0 0) 0 [(0, .ref (gK G 0 0)), (1, .int b_)] [] (A, S, Z, B, T, V, J, Y, P) 0 0
  refine m_iconst 0 dX11_weightOfAll_0 rfl ?_
  refine m_istore_n [(2, .int 0), (0, .ref (gK G 0 0)), (1, .int b_)] rfl (by decide) rfl dX11_weightOfAll_1 ?_
  refine m_iconst 0 dX11_weightOfAll_2 rfl ?_
  refine m_istore_n [(3, .int 0), (2, .int 0), (0, .ref (gK G 0 0)), (1, .int b_)] rfl (by decide) rfl dX11_weightOfAll_3 ?_
  have lp4 : ∀ (dd : Nat) (k_ : Nat) , k_ ≤ aN a_ → aN a_ - k_ < dd → Wm l G cX11_weightOfAll 4 RX11 ((some .int)) (rmk 2 0 0) (fun _ => True) (QfM G (qI (fun r_ σ => r_ = nI (wgN a_ b_ (aN a_)) ∧ σ = (A, S, Z, B, T, V, J, Y, P))) 0 0) 4 [(0, .ref (gK G 0 0)), (1, .int b_), (2, .int (nI (wgN a_ b_ k_))), (3, .int (nI (k_)))] [] (A, S, Z, B, T, V, J, Y, P) 0 0 := by
    intro dd
    induction dd with
    | zero => intro k_  hk_ hdd; exact absurd hdd (Nat.not_lt_zero _)
    | succ dd ih4 =>
      intro k_  hk_ hdd4
      refine m_iload_n 3 rfl rfl dX11_weightOfAll_4 ?_
      refine m_aload_n 0 rfl rfl dX11_weightOfAll_5 ?_
      refine gf_X11_10 dX11_weightOfAll_6 ?_
      refine gf_X11_164 (by decide) dX11_weightOfAll_9 ?_
      refine m_topi hR.1 ?_
      refine m_icmpn_ge k_ (aN a_) 40 (by omega) (by omega) dX11_weightOfAll_12 (by decide) (fun c1_ => ?_) (fun c1_ => ?_)
      ·
        refine m_iload_n 2 rfl rfl dX11_weightOfAll_40 ?_
        exact m_iret dX11_weightOfAll_41 (Nat.le_refl _) (Nat.le_refl _) ((by obtain rfl : k_ = aN a_ := (by omega); exact ⟨rfl, rfl⟩))
      ·
        refine m_iload_n 1 rfl rfl dX11_weightOfAll_15 ?_
        refine m_iload_n 3 rfl rfl dX11_weightOfAll_16 ?_
        refine m_callSi cs_X11_331 [.int b_, .int (nI (k_))] [] (k_among l G b_ (nI (k_))) rfl rfl ⟨Nat.le_of_ble_eq_true rfl, Nat.le_of_ble_eq_true rfl⟩ (Nat.le_of_ble_eq_true rfl) ⟨Nat.zero_le _, Nat.zero_le _⟩ dX11_weightOfAll_17 (fun xx σ2 hq => ?_)
        obtain ⟨rfl, rfl⟩ := hq
        refine m_ifeq_b 34 dX11_weightOfAll_20 (by decide) (fun c2_ => ?_) (fun c2_ => ?_)
        ·
          have hb := c2_
          refine m_iinc (nI (k_ + 1)) 3 [(3, .int (nI (k_ + 1))), (0, .ref (gK G 0 0)), (1, .int b_), (2, .int (nI (wgN a_ b_ k_)))] rfl (nI_1 _) (by decide) rfl dX11_weightOfAll_34 ?_
          refine m_goto 4 dX11_weightOfAll_37 (by decide) ?_
          refine m_lv [(0, .ref (gK G 0 0)), (1, .int b_), (2, .int (nI (wgN a_ b_ k_))), (3, .int (nI (k_ + 1)))] [1, 2, 3, 0] rfl ?_
          rw [show wgN a_ b_ k_ = wgN a_ b_ (k_ + 1) from wgN_f hb]
          exact ih4 (k_ + 1)  (by omega) (by omega)
        ·
          have hb := c2_
          have hg99 := (ho_.2.2.1 k_ (by omega)).2.2.2
          have hwl := wgN_le (ws := b_) ho_ (k := k_) (by omega)
          refine m_iload_n 2 rfl rfl dX11_weightOfAll_23 ?_
          refine m_aload_n 0 rfl rfl dX11_weightOfAll_24 ?_
          refine gf_X11_10 dX11_weightOfAll_25 ?_
          refine m_iload_n 3 rfl rfl dX11_weightOfAll_28 ?_
          refine m_callVi cv_X11_337 [.int (nI (k_))] [.int (nI (wgN a_ b_ k_))] (k_weightOf l G 0 (by decide) a_ ho_ hR (nI (k_))) (by decide) (ce_1 G _ _ _ _ _ _ _ _ _ _) rfl rfl rfl ⟨Nat.le_of_ble_eq_true rfl, Nat.le_of_ble_eq_true rfl⟩ (Nat.le_of_ble_eq_true rfl) ⟨Nat.zero_le _, Nat.zero_le _⟩ dX11_weightOfAll_29 (fun xx σ2 hq => ?_)
          obtain ⟨hgx, rfl⟩ := hq
          obtain rfl := hgx.trans (wgtI_nat ho_ (by omega))
          refine m_iadd dX11_weightOfAll_32 ?_
          refine m_topi (show (nI (wgN a_ b_ k_)) + (nI (aG a_ k_)) = nI ((wgN a_ b_ k_) + (aG a_ k_)) from nI_add _ _) ?_
          refine m_istore_n [(2, .int (nI ((wgN a_ b_ k_) + (aG a_ k_)))), (0, .ref (gK G 0 0)), (1, .int b_), (3, .int (nI (k_)))] rfl (by decide) rfl dX11_weightOfAll_33 ?_
          refine m_iinc (nI (k_ + 1)) 3 [(3, .int (nI (k_ + 1))), (2, .int (nI ((wgN a_ b_ k_) + (aG a_ k_)))), (0, .ref (gK G 0 0)), (1, .int b_)] rfl (nI_1 _) (by decide) rfl dX11_weightOfAll_34 ?_
          refine m_goto 4 dX11_weightOfAll_37 (by decide) ?_
          refine m_lv [(0, .ref (gK G 0 0)), (1, .int b_), (2, .int (nI ((wgN a_ b_ k_) + (aG a_ k_)))), (3, .int (nI (k_ + 1)))] [2, 3, 1, 0] rfl ?_
          rw [show wgN a_ b_ k_ + aG a_ k_ = wgN a_ b_ (k_ + 1) from wgN_t hb]
          exact ih4 (k_ + 1)  (by omega) (by omega)
  refine m_lv [(0, .ref (gK G 0 0)), (1, .int b_), (2, .int 0), (3, .int 0)] [2, 3, 1, 0] rfl ?_
  exact lp4 ((aN a_ - 0) + 1) 0  (Nat.zero_le _) (Nat.lt_succ_self _)
set_option maxRecDepth 100000 in
set_option maxHeartbeats 4000000 in
theorem k_gcd (l : Launch) (G : owG) {A S Z B T V : owF} {J : Nat → Nat → Int64} {Y : Nat → Nat → Nat → Option Nat} {P : Nat → Option owW} (x_ y_ : Nat) (hx_ : x_ < 2 ^ 23) (hy_ : y_ < 2 ^ 23) : Ct l G yX11_greatestDivisor cX11_greatestDivisor 6 ((some .int)) 0 0 0 [.int (nI (x_)), .int (nI (y_))] (A, S, Z, B, T, V, J, Y, P) (qI (fun r_ σ => r_ = nI (Nat.gcd x_ y_) ∧ σ = (A, S, Z, B, T, V, J, Y, P))) := by
  refine ct_of (by decide +kernel) (Nat.le_of_ble_eq_true rfl) ?_
  show Wm l G cX11_greatestDivisor 6 RX11 ((some .int)) (rmk 0 0 0) (fun _ => True) (QfM G (qI (fun r_ σ => r_ = nI (Nat.gcd x_ y_) ∧ σ = (A, S, Z, B, T, V, J, Y, P))) 0 0) 0 [(0, .int (nI (x_))), (1, .int (nI (y_)))] [] (A, S, Z, B, T, V, J, Y, P) 0 0
  refine m_iload_n 0 rfl rfl dX11_greatestDivisor_0 ?_
  refine m_istore_n [(2, .int (nI (x_))), (0, .int (nI (x_))), (1, .int (nI (y_)))] rfl (by decide) rfl dX11_greatestDivisor_1 ?_
  refine m_iload_n 2 rfl rfl dX11_greatestDivisor_2 ?_
  refine m_istore_n [(3, .int (nI (y_))), (2, .int (nI (x_))), (0, .int (nI (x_))), (1, .int (nI (y_)))] rfl (by decide) rfl dX11_greatestDivisor_3 ?_
  refine m_iconst 0 dX11_greatestDivisor_4 rfl ?_
  refine m_istore [(4, .int 0), (3, .int (nI (y_))), (2, .int (nI (x_))), (0, .int (nI (x_))), (1, .int (nI (y_)))] (by decide) rfl dX11_greatestDivisor_5 ?_
  have lp7 : ∀ (dd : Nat) (k_ : Nat) (g9_ : Nat) (r9 : Nat) , k_ ≤ 64 → gdI k_ g9_ r9 x_ y_ → g9_ < 2 ^ 23 → r9 < 2 ^ 23 → 64 - k_ < dd → Wm l G cX11_greatestDivisor 6 RX11 ((some .int)) (rmk 0 0 0) (fun _ => True) (QfM G (qI (fun r_ σ => r_ = nI (Nat.gcd x_ y_) ∧ σ = (A, S, Z, B, T, V, J, Y, P))) 0 0) 7 [(0, .int (nI (x_))), (1, .int (nI (y_))), (2, .int (nI (g9_))), (3, .int (nI (r9))), (4, .int (nI (k_)))] [] (A, S, Z, B, T, V, J, Y, P) 0 0 := by
    intro dd
    induction dd with
    | zero => intro k_ g9_ r9  hk_ hgd hg hr hdd; exact absurd hdd (Nat.not_lt_zero _)
    | succ dd ih7 =>
      intro k_ g9_ r9  hk_ hgd hg hr hdd7
      refine m_iload 4 rfl dX11_greatestDivisor_7 ?_
      refine m_bipush (64) dX11_greatestDivisor_9 rfl ?_
      refine m_icmpn_ge k_ 64 34 (by omega) (by decide) dX11_greatestDivisor_11 (by decide) (fun c1_ => ?_) (fun c1_ => ?_)
      ·
        obtain rfl : k_ = 64 := (by omega)
        have hr0 := gdI_end hgd hx_ hy_
        refine m_iload_n 2 rfl rfl dX11_greatestDivisor_34 ?_
        exact m_iret dX11_greatestDivisor_35 (Nat.le_refl _) (Nat.le_refl _) (⟨congrArg nI (by have q_ := hgd.1; rw [hr0, Nat.gcd_zero_right] at q_; exact q_), rfl⟩)
      ·
        refine m_iload_n 3 rfl rfl dX11_greatestDivisor_14 ?_
        refine m_ifn_eq r9 34 (by omega) dX11_greatestDivisor_15 (by decide) (fun c2_ => ?_) (fun c2_ => ?_)
        ·
          have hr0 := c2_
          refine m_iload_n 2 rfl rfl dX11_greatestDivisor_34 ?_
          exact m_iret dX11_greatestDivisor_35 (Nat.le_refl _) (Nat.le_refl _) (⟨congrArg nI (by have q_ := hgd.1; rw [hr0, Nat.gcd_zero_right] at q_; exact q_), rfl⟩)
        ·
          refine m_iload_n 2 rfl rfl dX11_greatestDivisor_18 ?_
          refine m_iload_n 3 rfl rfl dX11_greatestDivisor_19 ?_
          refine m_irem (nI_ne0 (by omega) (by omega)) dX11_greatestDivisor_20 ?_
          refine m_topi ((show nI g9_ - nI g9_ / nI r9 * nI r9 = nI (g9_ % r9) from pk_rem (by omega) (by omega) (by omega))) ?_
          refine m_istore [(5, .int (nI (g9_ % r9))), (0, .int (nI (x_))), (1, .int (nI (y_))), (2, .int (nI (g9_))), (3, .int (nI (r9))), (4, .int (nI (k_)))] (by decide) rfl dX11_greatestDivisor_21 ?_
          refine m_iload_n 4 rfl rfl dX11_greatestDivisor_23 ?_
          refine m_istore_n [(2, .int (nI (r9))), (5, .int (nI (g9_ % r9))), (0, .int (nI (x_))), (1, .int (nI (y_))), (3, .int (nI (r9))), (4, .int (nI (k_)))] rfl (by decide) rfl dX11_greatestDivisor_24 ?_
          refine m_iload 1 rfl dX11_greatestDivisor_25 ?_
          refine m_istore_n [(3, .int (nI (g9_ % r9))), (2, .int (nI (r9))), (5, .int (nI (g9_ % r9))), (0, .int (nI (x_))), (1, .int (nI (y_))), (4, .int (nI (k_)))] rfl (by decide) rfl dX11_greatestDivisor_27 ?_
          refine m_iinc (nI (k_ + 1)) 5 [(4, .int (nI (k_ + 1))), (3, .int (nI (g9_ % r9))), (2, .int (nI (r9))), (5, .int (nI (g9_ % r9))), (0, .int (nI (x_))), (1, .int (nI (y_)))] rfl (nI_1 _) (by decide) rfl dX11_greatestDivisor_28 ?_
          refine m_goto 7 dX11_greatestDivisor_31 (by decide) ?_
          refine m_lv [(0, .int (nI (x_))), (1, .int (nI (y_))), (2, .int (nI (r9))), (3, .int (nI (g9_ % r9))), (4, .int (nI (k_ + 1)))] [4, 5, 2, 1, 0] rfl ?_
          exact ih7 (k_ + 1) r9 (g9_ % r9)  (by omega) (gdI_step hgd (by omega)) hr (Nat.lt_of_le_of_lt (Nat.mod_le _ _) hg) (by omega)
  refine m_lv [(0, .int (nI (x_))), (1, .int (nI (y_))), (2, .int (nI (x_))), (3, .int (nI (y_))), (4, .int 0)] [3, 4, 2, 1, 0] rfl ?_
  exact lp7 ((64 - 0) + 1) 0 x_ y_  (by omega) ⟨rfl, Or.inl ⟨rfl, rfl, rfl⟩⟩ hx_ hy_ (Nat.lt_succ_self _)
set_option maxRecDepth 100000 in
set_option maxHeartbeats 4000000 in
theorem k_least (l : Launch) (G : owG) {A S Z B T V : owF} {J : Nat → Nat → Int64} {Y : Nat → Nat → Nat → Option Nat} {P : Nat → Option owW} (x_ y_ : Nat) (hx_ : x_ < 2 ^ 23) (hy_ : y_ < 2 ^ 23) (h0_ : 0 < y_) (p_ : Int32) : Ct l G yX11_inLeastTerms cX11_inLeastTerms 4 ((some .int)) 1 0 0 [.int (nI (x_)), .int (nI (y_)), .int p_] (A, S, Z, B, T, V, J, Y, P) (qI (fun r_ σ => r_ = ltI x_ y_ p_ ∧ σ = (A, S, Z, B, T, V, J, Y, P))) := by
  refine ct_of (by decide +kernel) (Nat.le_of_ble_eq_true rfl) ?_
  have hgp : 0 < Nat.gcd x_ y_ := Nat.gcd_pos_of_pos_right x_ h0_
  have hgl : Nat.gcd x_ y_ ≤ y_ := Nat.gcd_le_right x_ h0_
  show Wm l G cX11_inLeastTerms 4 RX11 ((some .int)) (rmk 1 0 0) (fun _ => True) (QfM G (qI (fun r_ σ => r_ = ltI x_ y_ p_ ∧ σ = (A, S, Z, B, T, V, J, Y, P))) 0 0) 0 [(0, .int (nI (x_))), (1, .int (nI (y_))), (2, .int p_)] [] (A, S, Z, B, T, V, J, Y, P) 0 0
  refine m_iload_n 0 rfl rfl dX11_inLeastTerms_0 ?_
  refine m_iload_n 1 rfl rfl dX11_inLeastTerms_1 ?_
  refine m_callSi cs_X11_340 [.int (nI (x_)), .int (nI (y_))] [] (k_gcd l G x_ y_ (by omega) (by omega)) rfl rfl ⟨Nat.le_of_ble_eq_true rfl, Nat.le_of_ble_eq_true rfl⟩ (Nat.le_of_ble_eq_true rfl) ⟨Nat.zero_le _, Nat.zero_le _⟩ dX11_inLeastTerms_2 (fun xx σ2 hq => ?_)
  obtain ⟨rfl, rfl⟩ := hq
  refine m_istore_n [(3, .int (nI (Nat.gcd x_ y_))), (0, .int (nI (x_))), (1, .int (nI (y_))), (2, .int p_)] rfl (by decide) rfl dX11_inLeastTerms_5 ?_
  refine m_iload_n 0 rfl rfl dX11_inLeastTerms_6 ?_
  refine m_ifn_ne (Nat.gcd x_ y_) 12 (by omega) dX11_inLeastTerms_7 (by decide) (fun c1_ => ?_) (fun c1_ => ?_)
  ·
    refine m_iload_n 3 rfl rfl dX11_inLeastTerms_12 ?_
    refine m_if_ne 20 dX11_inLeastTerms_13 (by decide) (fun c2_ => ?_) (fun c2_ => ?_)
    ·
      refine m_iload_n 2 rfl rfl dX11_inLeastTerms_20 ?_
      refine m_iload_n 0 rfl rfl dX11_inLeastTerms_21 ?_
      refine m_idiv (nI_ne0 (by omega) (by omega)) dX11_inLeastTerms_22 ?_
      refine m_topi ((show (nI (y_)) / (nI (Nat.gcd x_ y_)) = nI (y_ / (Nat.gcd x_ y_)) from pk_div (by omega) (by omega) (by omega))) ?_
      exact m_iret dX11_inLeastTerms_23 (Nat.le_refl _) (Nat.le_refl _) (⟨by unfold ltI; simp [*], rfl⟩)
    ·
      refine m_iload_n 1 rfl rfl dX11_inLeastTerms_16 ?_
      refine m_goto 21 dX11_inLeastTerms_17 (by decide) ?_
      refine m_iload_n 0 rfl rfl dX11_inLeastTerms_21 ?_
      refine m_idiv (nI_ne0 (by omega) (by omega)) dX11_inLeastTerms_22 ?_
      refine m_topi ((show (nI (x_)) / (nI (Nat.gcd x_ y_)) = nI (x_ / (Nat.gcd x_ y_)) from pk_div (by omega) (by omega) (by omega))) ?_
      exact m_iret dX11_inLeastTerms_23 (Nat.le_refl _) (Nat.le_refl _) (⟨by unfold ltI; simp [*], rfl⟩)
  ·
    exact m_dead (by omega)
set_option maxRecDepth 100000 in
set_option maxHeartbeats 4000000 in
theorem k_isNew (l : Launch) (G : owG) {A S Z B T V : owF} {J : Nat → Nat → Int64} {Y : Nat → Nat → Nat → Option Nat} {P : Nat → Option owW} (v_ : Int32) (u_ : Nat) (hu : u_ ≤ 10) : Ct l G yX11_isNew cX11_isNew 4 ((some .boolean)) 1 0 0 [.ref (gK G 0 0), .int v_, .int (nI (u_))] (A, S, Z, B, T, V, J, Y, P) (qI (fun r_ σ => r_ = bI (allB (fun i_ => decide (S 34 0 i_ ≠ v_)) u_) ∧ σ = (A, S, Z, B, T, V, J, Y, P))) := by
  refine ct_of (by decide +kernel) (Nat.le_of_ble_eq_true rfl) ?_
  show Wm l G cX11_isNew 4 RX11 ((some .boolean)) (rmk 1 0 0) (fun _ => True) (QfM G (qI (fun r_ σ => r_ = bI (allB (fun i_ => decide (S 34 0 i_ ≠ v_)) u_) ∧ σ = (A, S, Z, B, T, V, J, Y, P))) 0 0) 0 [(0, .ref (gK G 0 0)), (1, .int v_), (2, .int (nI (u_)))] [] (A, S, Z, B, T, V, J, Y, P) 0 0
  refine m_iconst 0 dX11_isNew_0 rfl ?_
  refine m_istore_n [(3, .int 0), (0, .ref (gK G 0 0)), (1, .int v_), (2, .int (nI (u_)))] rfl (by decide) rfl dX11_isNew_1 ?_
  have lp2 : ∀ (dd : Nat) (k_ : Nat) , k_ ≤ u_ → allB (fun i_ => decide (S 34 0 i_ ≠ v_)) k_ = true → u_ - k_ < dd → Wm l G cX11_isNew 4 RX11 ((some .boolean)) (rmk 1 0 0) (fun _ => True) (QfM G (qI (fun r_ σ => r_ = bI (allB (fun i_ => decide (S 34 0 i_ ≠ v_)) u_) ∧ σ = (A, S, Z, B, T, V, J, Y, P))) 0 0) 2 [(0, .ref (gK G 0 0)), (1, .int v_), (2, .int (nI (u_))), (3, .int (nI (k_)))] [] (A, S, Z, B, T, V, J, Y, P) 0 0 := by
    intro dd
    induction dd with
    | zero => intro k_  hk_ hal hdd; exact absurd hdd (Nat.not_lt_zero _)
    | succ dd ih2 =>
      intro k_  hk_ hal hdd2
      refine m_iload_n 3 rfl rfl dX11_isNew_2 ?_
      refine m_iload_n 2 rfl rfl dX11_isNew_3 ?_
      refine m_icmpn_ge k_ u_ 27 (by omega) (by omega) dX11_isNew_4 (by decide) (fun c1_ => ?_) (fun c1_ => ?_)
      ·
        refine m_iconst 1 dX11_isNew_27 rfl ?_
        exact m_zret dX11_isNew_28 (Nat.le_refl _) (Nat.le_refl _) nar1 ((by obtain rfl : k_ = u_ := (by omega); exact ⟨by rw [hal]; rfl, rfl⟩))
      ·
        refine m_aload_n 0 rfl rfl dX11_isNew_7 ?_
        refine gf_X11_48 dX11_isNew_8 ?_
        refine m_iload_n 3 rfl rfl dX11_isNew_11 ?_
        refine m_callSi cs_X11_102 [.ref (gK G 34 0), .int (nI (k_))] [] (k_at (t := 34) (n := 10) l G (by decide) (ce_34 G _ _ _ _ _ _ _ _ _ 0) (by decide) (nI (k_))) rfl rfl ⟨Nat.le_of_ble_eq_true rfl, Nat.le_of_ble_eq_true rfl⟩ (Nat.le_of_ble_eq_true rfl) ⟨Nat.zero_le _, Nat.zero_le _⟩ dX11_isNew_12 (fun xx σ2 hq => ?_)
        obtain rfl : xx = S 34 0 k_ := hq.1.trans (atV_in (by omega) (by decide))
        obtain rfl := hq.2
        refine m_iload_n 1 rfl rfl dX11_isNew_15 ?_
        refine m_icmp_ne 21 dX11_isNew_16 (by decide) (fun c3_ => ?_) (fun c3_ => ?_)
        ·
          have hne := c3_
          refine m_iinc (nI (k_ + 1)) 3 [(3, .int (nI (k_ + 1))), (0, .ref (gK G 0 0)), (1, .int v_), (2, .int (nI (u_)))] rfl (nI_1 _) (by decide) rfl dX11_isNew_21 ?_
          refine m_goto 2 dX11_isNew_24 (by decide) ?_
          refine m_lv [(0, .ref (gK G 0 0)), (1, .int v_), (2, .int (nI (u_))), (3, .int (nI (k_ + 1)))] [1, 2, 3, 0] rfl ?_
          exact ih2 (k_ + 1)  (by omega) (by show (allB _ k_ && _) = true; rw [hal, Bool.true_and]; exact decide_eq_true hne) (by omega)
        ·
          have heq := c3_
          refine m_iconst 0 dX11_isNew_19 rfl ?_
          exact m_zret dX11_isNew_20 (Nat.le_refl _) (Nat.le_refl _) nar0 (⟨by rw [show allB (fun i_ => decide (S 34 0 i_ ≠ v_)) u_ = false from Bool.eq_false_iff.mpr fun q_ => (of_decide_eq_true (allB_iff.mp q_ k_ (by omega))) heq]; rfl, rfl⟩)
  refine m_lv [(0, .ref (gK G 0 0)), (1, .int v_), (2, .int (nI (u_))), (3, .int 0)] [1, 2, 3, 0] rfl ?_
  exact lp2 ((u_ - 0) + 1) 0  (Nat.zero_le _) rfl (Nat.lt_succ_self _)
def seenI (a_ : owK) (x_ y_ : Nat) (ws : Int32) (S : owF) (k_ u_ : Nat) : Prop := (∀ i_, i_ < u_ → ∃ v_, v_ < k_ ∧ amongB ws (nI v_) = true ∧ S 34 0 i_ = nI (ansA a_ v_ x_ y_)) ∧ ∀ v_, v_ < k_ → amongB ws (nI v_) = true → ∃ i_, i_ < u_ ∧ S 34 0 i_ = nI (ansA a_ v_ x_ y_)
theorem seen_new {a_ : owK} {x_ y_ : Nat} {ws : Int32} {S : owF} {k_ u_ : Nat} (h_ : seenI a_ x_ y_ ws S k_ u_) : allB (fun i_ => decide (S 34 0 i_ ≠ nI (ansA a_ k_ x_ y_))) u_ = allB (fun v_ => !(amongB ws (nI v_) && decide (nI (ansA a_ v_ x_ y_) = nI (ansA a_ k_ x_ y_)))) k_ := by
  rw [Bool.eq_iff_iff, allB_iff, allB_iff]
  constructor
  · intro g v_ hv_
    rw [Bool.not_eq_true', Bool.and_eq_false_iff]
    cases hb : amongB ws (nI v_) with
    | false => exact Or.inl rfl
    | true =>
      obtain ⟨i_, hi_, e_⟩ := h_.2 v_ hv_ hb
      refine Or.inr (decide_eq_false fun q_ => ?_)
      exact of_decide_eq_true (g i_ hi_) (e_.trans q_)
  · intro g i_ hi_
    obtain ⟨v_, hv_, hb, e_⟩ := h_.1 i_ hi_
    refine decide_eq_true fun q_ => ?_
    have := g v_ hv_
    rw [hb, decide_eq_true (e_.symm.trans q_)] at this
    cases this
theorem seen_skip {a_ : owK} {x_ y_ : Nat} {ws : Int32} {S : owF} {k_ u_ : Nat} (h_ : seenI a_ x_ y_ ws S k_ u_) (hb : amongB ws (nI k_) = false) : seenI a_ x_ y_ ws S (k_ + 1) u_ := by
  refine ⟨fun i_ hi_ => ?_, fun v_ hv_ hv2 => ?_⟩
  · obtain ⟨v_, h1_, h2_⟩ := h_.1 i_ hi_
    exact ⟨v_, by omega, h2_⟩
  · rcases Nat.lt_or_ge v_ k_ with q_ | q_
    · exact h_.2 v_ q_ hv2
    · obtain rfl : k_ = v_ := by omega
      rw [hb] at hv2; cases hv2
theorem seen_old {a_ : owK} {x_ y_ : Nat} {ws : Int32} {S : owF} {k_ u_ : Nat} (h_ : seenI a_ x_ y_ ws S k_ u_) (hn : allB (fun i_ => decide (S 34 0 i_ ≠ nI (ansA a_ k_ x_ y_))) u_ = false) : seenI a_ x_ y_ ws S (k_ + 1) u_ := by
  refine ⟨fun i_ hi_ => ?_, fun v_ hv_ hv2 => ?_⟩
  · obtain ⟨v_, h1_, h2_⟩ := h_.1 i_ hi_
    exact ⟨v_, by omega, h2_⟩
  · rcases Nat.lt_or_ge v_ k_ with q_ | q_
    · exact h_.2 v_ q_ hv2
    · obtain rfl : k_ = v_ := by omega
      refine Classical.byContradiction fun z_ => ?_
      have q2_ : allB (fun i_ => decide (S 34 0 i_ ≠ nI (ansA a_ k_ x_ y_))) u_ = true := allB_iff.mpr (fun i_ hi_ => decide_eq_true fun e_ => z_ ⟨i_, hi_, e_⟩)
      exact absurd (hn.symm.trans q2_) Bool.false_ne_true
theorem seen_add {a_ : owK} {x_ y_ : Nat} {ws : Int32} {S S2 : owF} {k_ u_ : Nat} (h_ : seenI a_ x_ y_ ws S k_ u_) (hb : amongB ws (nI k_) = true) (e_ : S2 = up3 S 34 0 u_ (nI (ansA a_ k_ x_ y_))) : seenI a_ x_ y_ ws S2 (k_ + 1) (u_ + 1) := by
  refine ⟨fun i_ hi_ => ?_, fun v_ hv_ hv2 => ?_⟩
  · rcases Nat.lt_or_ge i_ u_ with q_ | q_
    · obtain ⟨v_, h1_, h2_, h3_⟩ := h_.1 i_ q_
      exact ⟨v_, by omega, h2_, up3_j e_ (by omega) h3_⟩
    · obtain rfl : u_ = i_ := by omega
      exact ⟨k_, by omega, hb, up3_e e_⟩
  · rcases Nat.lt_or_ge v_ k_ with q_ | q_
    · obtain ⟨i_, hi_, h3_⟩ := h_.2 v_ q_ hv2
      exact ⟨i_, by omega, up3_j e_ (by omega) h3_⟩
    · obtain rfl : k_ = v_ := by omega
      exact ⟨u_, by omega, up3_e e_⟩
set_option maxRecDepth 100000 in
set_option maxHeartbeats 4000000 in
theorem k_unlike (l : Launch) (G : owG) {A S Z B T V : owF} {J : Nat → Nat → Int64} {Y : Nat → Nat → Nat → Option Nat} {P : Nat → Option owW} (a_ : owK) (ho_ : aOk a_) (hR : RX A Y P 0 a_) (x_ y_ : Nat) (hx_ : x_ ≤ 9999) (hy_ : y_ ≤ x_) (b_ : Int32) : Ct l G yX11_unlikeAnswers cX11_unlikeAnswers 7 ((some .int)) 6 0 0 [.ref (gK G 0 0), .int (nI (x_)), .int (nI (y_)), .int b_] (A, S, Z, B, T, V, J, Y, P) (qI (fun r_ σ => r_ = nI (parN a_ x_ y_ b_) ∧ ∃ (S2 Z2 : owF), σ = (A, S2, Z2, B, T, V, J, Y, P) ∧ sfrT 34 S S2)) := by
  refine ct_of (by decide +kernel) (Nat.le_of_ble_eq_true rfl) ?_
  have h10 := ho_.1
  have h8_ := ho_.2.1
  show Wm l G cX11_unlikeAnswers 7 RX11 ((some .int)) (rmk 6 0 0) (fun _ => True) (QfM G (qI (fun r_ σ => r_ = nI (parN a_ x_ y_ b_) ∧ ∃ (S2 Z2 : owF), σ = (A, S2, Z2, B, T, V, J, Y, P) ∧ sfrT 34 S S2)) 0 0) 0 [(0, .ref (gK G 0 0)), (1, .int (nI (x_))), (2, .int (nI (y_))), (3, .int b_)] [] (A, S, Z, B, T, V, J, Y, P) 0 0
  refine m_iconst 0 dX11_unlikeAnswers_0 rfl ?_
  refine m_istore [(4, .int 0), (0, .ref (gK G 0 0)), (1, .int (nI (x_))), (2, .int (nI (y_))), (3, .int b_)] (by decide) rfl dX11_unlikeAnswers_1 ?_
  refine m_iconst 0 dX11_unlikeAnswers_3 rfl ?_
  refine m_istore [(5, .int 0), (4, .int 0), (0, .ref (gK G 0 0)), (1, .int (nI (x_))), (2, .int (nI (y_))), (3, .int b_)] (by decide) rfl dX11_unlikeAnswers_4 ?_
  have lp6 : ∀ (dd : Nat) (k_ : Nat) (S9 : owF) (Z9 : owF), k_ ≤ aN a_ → sfrT 34 S S9 → seenI a_ x_ y_ b_ S9 k_ (cntB (fun w_ => amongB b_ (nI w_) && allB (fun v_ => !(amongB b_ (nI v_) && decide (nI (ansA a_ v_ x_ y_) = nI (ansA a_ w_ x_ y_)))) w_) k_) → aN a_ - k_ < dd → Wm l G cX11_unlikeAnswers 7 RX11 ((some .int)) (rmk 6 0 0) (fun _ => True) (QfM G (qI (fun r_ σ => r_ = nI (parN a_ x_ y_ b_) ∧ ∃ (S2 Z2 : owF), σ = (A, S2, Z2, B, T, V, J, Y, P) ∧ sfrT 34 S S2)) 0 0) 6 [(0, .ref (gK G 0 0)), (1, .int (nI (x_))), (2, .int (nI (y_))), (3, .int b_), (4, .int (nI (cntB (fun w_ => amongB b_ (nI w_) && allB (fun v_ => !(amongB b_ (nI v_) && decide (nI (ansA a_ v_ x_ y_) = nI (ansA a_ w_ x_ y_)))) w_) k_))), (5, .int (nI (k_)))] [] (A, S9, Z9, B, T, V, J, Y, P) 0 0 := by
    intro dd
    induction dd with
    | zero => intro k_ S9 Z9 hk_ hsf hsn hdd; exact absurd hdd (Nat.not_lt_zero _)
    | succ dd ih6 =>
      intro k_ S9 Z9 hk_ hsf hsn hdd6
      have hcl := cntB_le (fun w_ => amongB b_ (nI w_) && allB (fun v_ => !(amongB b_ (nI v_) && decide (nI (ansA a_ v_ x_ y_) = nI (ansA a_ w_ x_ y_)))) w_) k_
      refine m_iload 5 rfl dX11_unlikeAnswers_6 ?_
      refine m_aload_n 0 rfl rfl dX11_unlikeAnswers_8 ?_
      refine gf_X11_10 dX11_unlikeAnswers_9 ?_
      refine gf_X11_164 (by decide) dX11_unlikeAnswers_12 ?_
      refine m_topi hR.1 ?_
      refine m_icmpn_ge k_ (aN a_) 68 (by omega) (by omega) dX11_unlikeAnswers_15 (by decide) (fun c1_ => ?_) (fun c1_ => ?_)
      ·
        refine m_iload 4 rfl dX11_unlikeAnswers_68 ?_
        exact m_iret dX11_unlikeAnswers_70 (Nat.le_refl _) (Nat.le_refl _) ((by obtain rfl : k_ = aN a_ := (by omega); exact ⟨rfl, _, _, rfl, hsf⟩))
      ·
        refine m_aload_n 0 rfl rfl dX11_unlikeAnswers_18 ?_
        refine m_iload 5 rfl dX11_unlikeAnswers_19 ?_
        refine m_iload_n 1 rfl rfl dX11_unlikeAnswers_21 ?_
        refine m_iload_n 2 rfl rfl dX11_unlikeAnswers_22 ?_
        refine m_callVi cv_X11_124 [.int (nI (k_)), .int (nI (x_)), .int (nI (y_))] [] (k_answerTo l G a_ ho_ hR k_ (by omega) x_ y_ hx_ hy_) (by decide) (ce_0 G _ _ _ _ _ _ _ _ _ _) rfl rfl rfl ⟨Nat.le_of_ble_eq_true rfl, Nat.le_of_ble_eq_true rfl⟩ (Nat.le_of_ble_eq_true rfl) ⟨Nat.zero_le _, Nat.zero_le _⟩ dX11_unlikeAnswers_23 (fun xx σ2 hq => ?_)
        obtain ⟨rfl, Z2, rfl, hwZ2⟩ := hq
        refine m_istore [(6, .int (nI (ansA a_ k_ x_ y_))), (0, .ref (gK G 0 0)), (1, .int (nI (x_))), (2, .int (nI (y_))), (3, .int b_), (4, .int (nI (cntB (fun w_ => amongB b_ (nI w_) && allB (fun v_ => !(amongB b_ (nI v_) && decide (nI (ansA a_ v_ x_ y_) = nI (ansA a_ w_ x_ y_)))) w_) k_))), (5, .int (nI (k_)))] (by decide) rfl dX11_unlikeAnswers_26 ?_
        refine m_iload_n 4 rfl rfl dX11_unlikeAnswers_28 ?_
        refine m_iload 6 rfl dX11_unlikeAnswers_29 ?_
        refine m_callSi cs_X11_331 [.int b_, .int (nI (k_))] [] (k_among l G b_ (nI (k_))) rfl rfl ⟨Nat.le_of_ble_eq_true rfl, Nat.le_of_ble_eq_true rfl⟩ (Nat.le_of_ble_eq_true rfl) ⟨Nat.zero_le _, Nat.zero_le _⟩ dX11_unlikeAnswers_31 (fun xx σ2 hq => ?_)
        obtain ⟨rfl, rfl⟩ := hq
        refine m_ifeq_b 62 dX11_unlikeAnswers_34 (by decide) (fun c3_ => ?_) (fun c3_ => ?_)
        ·
          have hb1 := c3_
          refine m_iinc (nI (k_ + 1)) 6 [(5, .int (nI (k_ + 1))), (6, .int (nI (ansA a_ k_ x_ y_))), (0, .ref (gK G 0 0)), (1, .int (nI (x_))), (2, .int (nI (y_))), (3, .int b_), (4, .int (nI (cntB (fun w_ => amongB b_ (nI w_) && allB (fun v_ => !(amongB b_ (nI v_) && decide (nI (ansA a_ v_ x_ y_) = nI (ansA a_ w_ x_ y_)))) w_) k_)))] rfl (nI_1 _) (by decide) rfl dX11_unlikeAnswers_62 ?_
          refine m_goto 6 dX11_unlikeAnswers_65 (by decide) ?_
          refine m_lv [(0, .ref (gK G 0 0)), (1, .int (nI (x_))), (2, .int (nI (y_))), (3, .int b_), (4, .int (nI (cntB (fun w_ => amongB b_ (nI w_) && allB (fun v_ => !(amongB b_ (nI v_) && decide (nI (ansA a_ v_ x_ y_) = nI (ansA a_ w_ x_ y_)))) w_) k_))), (5, .int (nI (k_ + 1)))] [2, 3, 4, 5, 6, 0] rfl ?_
          rw [show cntB (fun w_ => amongB b_ (nI w_) && allB (fun v_ => !(amongB b_ (nI v_) && decide (nI (ansA a_ v_ x_ y_) = nI (ansA a_ w_ x_ y_)))) w_) k_ = cntB (fun w_ => amongB b_ (nI w_) && allB (fun v_ => !(amongB b_ (nI v_) && decide (nI (ansA a_ v_ x_ y_) = nI (ansA a_ w_ x_ y_)))) w_) (k_ + 1) from cntB_f (p := (fun w_ => amongB b_ (nI w_) && allB (fun v_ => !(amongB b_ (nI v_) && decide (nI (ansA a_ v_ x_ y_) = nI (ansA a_ w_ x_ y_)))) w_)) (by show (amongB b_ (nI k_) && _) = false; rw [hb1]; rfl)]
          exact ih6 (k_ + 1) S9 Z2 (by omega) hsf (by rw [← show cntB (fun w_ => amongB b_ (nI w_) && allB (fun v_ => !(amongB b_ (nI v_) && decide (nI (ansA a_ v_ x_ y_) = nI (ansA a_ w_ x_ y_)))) w_) k_ = cntB (fun w_ => amongB b_ (nI w_) && allB (fun v_ => !(amongB b_ (nI v_) && decide (nI (ansA a_ v_ x_ y_) = nI (ansA a_ w_ x_ y_)))) w_) (k_ + 1) from cntB_f (p := (fun w_ => amongB b_ (nI w_) && allB (fun v_ => !(amongB b_ (nI v_) && decide (nI (ansA a_ v_ x_ y_) = nI (ansA a_ w_ x_ y_)))) w_)) (by show (amongB b_ (nI k_) && _) = false; rw [hb1]; rfl)]; exact seen_skip hsn hb1) (by omega)
        ·
          have hb1 := c3_
          refine m_aload_n 1 rfl rfl dX11_unlikeAnswers_37 ?_
          refine m_iload 0 rfl dX11_unlikeAnswers_38 ?_
          refine m_iload 5 rfl dX11_unlikeAnswers_40 ?_
          refine m_callVi cv_X11_334 [.int (nI (ansA a_ k_ x_ y_)), .int (nI (cntB (fun w_ => amongB b_ (nI w_) && allB (fun v_ => !(amongB b_ (nI v_) && decide (nI (ansA a_ v_ x_ y_) = nI (ansA a_ w_ x_ y_)))) w_) k_))] [] (k_isNew l G (nI (ansA a_ k_ x_ y_)) (cntB (fun w_ => amongB b_ (nI w_) && allB (fun v_ => !(amongB b_ (nI v_) && decide (nI (ansA a_ v_ x_ y_) = nI (ansA a_ w_ x_ y_)))) w_) k_) (by omega)) (by decide) (ce_0 G _ _ _ _ _ _ _ _ _ _) rfl rfl rfl ⟨Nat.le_of_ble_eq_true rfl, Nat.le_of_ble_eq_true rfl⟩ (Nat.le_of_ble_eq_true rfl) ⟨Nat.zero_le _, Nat.zero_le _⟩ dX11_unlikeAnswers_42 (fun xx σ2 hq => ?_)
          obtain ⟨rfl, rfl⟩ := hq
          refine m_ifeq_b 62 dX11_unlikeAnswers_45 (by decide) (fun c4_ => ?_) (fun c4_ => ?_)
          ·
            have hb2 := c4_
            refine m_iinc (nI (k_ + 1)) 6 [(5, .int (nI (k_ + 1))), (6, .int (nI (ansA a_ k_ x_ y_))), (0, .ref (gK G 0 0)), (1, .int (nI (x_))), (2, .int (nI (y_))), (3, .int b_), (4, .int (nI (cntB (fun w_ => amongB b_ (nI w_) && allB (fun v_ => !(amongB b_ (nI v_) && decide (nI (ansA a_ v_ x_ y_) = nI (ansA a_ w_ x_ y_)))) w_) k_)))] rfl (nI_1 _) (by decide) rfl dX11_unlikeAnswers_62 ?_
            refine m_goto 6 dX11_unlikeAnswers_65 (by decide) ?_
            refine m_lv [(0, .ref (gK G 0 0)), (1, .int (nI (x_))), (2, .int (nI (y_))), (3, .int b_), (4, .int (nI (cntB (fun w_ => amongB b_ (nI w_) && allB (fun v_ => !(amongB b_ (nI v_) && decide (nI (ansA a_ v_ x_ y_) = nI (ansA a_ w_ x_ y_)))) w_) k_))), (5, .int (nI (k_ + 1)))] [2, 3, 4, 5, 6, 0] rfl ?_
            rw [show cntB (fun w_ => amongB b_ (nI w_) && allB (fun v_ => !(amongB b_ (nI v_) && decide (nI (ansA a_ v_ x_ y_) = nI (ansA a_ w_ x_ y_)))) w_) k_ = cntB (fun w_ => amongB b_ (nI w_) && allB (fun v_ => !(amongB b_ (nI v_) && decide (nI (ansA a_ v_ x_ y_) = nI (ansA a_ w_ x_ y_)))) w_) (k_ + 1) from cntB_f (p := (fun w_ => amongB b_ (nI w_) && allB (fun v_ => !(amongB b_ (nI v_) && decide (nI (ansA a_ v_ x_ y_) = nI (ansA a_ w_ x_ y_)))) w_)) (by show (amongB b_ (nI k_) && _) = false; rw [← seen_new hsn, hb2, Bool.and_false])]
            exact ih6 (k_ + 1) S9 Z2 (by omega) hsf (by rw [← show cntB (fun w_ => amongB b_ (nI w_) && allB (fun v_ => !(amongB b_ (nI v_) && decide (nI (ansA a_ v_ x_ y_) = nI (ansA a_ w_ x_ y_)))) w_) k_ = cntB (fun w_ => amongB b_ (nI w_) && allB (fun v_ => !(amongB b_ (nI v_) && decide (nI (ansA a_ v_ x_ y_) = nI (ansA a_ w_ x_ y_)))) w_) (k_ + 1) from cntB_f (p := (fun w_ => amongB b_ (nI w_) && allB (fun v_ => !(amongB b_ (nI v_) && decide (nI (ansA a_ v_ x_ y_) = nI (ansA a_ w_ x_ y_)))) w_)) (by show (amongB b_ (nI k_) && _) = false; rw [← seen_new hsn, hb2, Bool.and_false])]; exact seen_old hsn hb2) (by omega)
          ·
            have hb2 := c4_
            have hct := cntB_t (p := (fun w_ => amongB b_ (nI w_) && allB (fun v_ => !(amongB b_ (nI v_) && decide (nI (ansA a_ v_ x_ y_) = nI (ansA a_ w_ x_ y_)))) w_)) (n := k_) (by show (amongB b_ (nI k_) && _) = true; rw [← seen_new hsn, hb1, hb2]; rfl)
            refine m_aload_n 1 rfl rfl dX11_unlikeAnswers_48 ?_
            refine gf_X11_48 dX11_unlikeAnswers_49 ?_
            refine m_iload 5 rfl dX11_unlikeAnswers_52 ?_
            refine m_iload 0 rfl dX11_unlikeAnswers_54 ?_
            refine m_callSv cs_X11_116 [.ref (gK G 34 0), .int (nI (cntB (fun w_ => amongB b_ (nI w_) && allB (fun v_ => !(amongB b_ (nI v_) && decide (nI (ansA a_ v_ x_ y_) = nI (ansA a_ w_ x_ y_)))) w_) k_)), .int (nI (ansA a_ k_ x_ y_))] [] (k_set_34 l G (cntB (fun w_ => amongB b_ (nI w_) && allB (fun v_ => !(amongB b_ (nI v_) && decide (nI (ansA a_ v_ x_ y_) = nI (ansA a_ w_ x_ y_)))) w_) k_) (by omega) (nI (ansA a_ k_ x_ y_))) rfl rfl ⟨Nat.le_of_ble_eq_true rfl, Nat.le_of_ble_eq_true rfl⟩ (Nat.le_of_ble_eq_true rfl) ⟨Nat.zero_le _, Nat.zero_le _⟩ dX11_unlikeAnswers_56 (fun σ2 hq => ?_)
            obtain rfl := hq
            obtain ⟨S5, hS5⟩ : ∃ q_ : owF, q_ = up3 S9 34 0 (cntB (fun w_ => amongB b_ (nI w_) && allB (fun v_ => !(amongB b_ (nI v_) && decide (nI (ansA a_ v_ x_ y_) = nI (ansA a_ w_ x_ y_)))) w_) k_) (nI (ansA a_ k_ x_ y_)) := ⟨_, rfl⟩
            rw [← hS5]
            refine m_iinc (nI (cntB (fun w_ => amongB b_ (nI w_) && allB (fun v_ => !(amongB b_ (nI v_) && decide (nI (ansA a_ v_ x_ y_) = nI (ansA a_ w_ x_ y_)))) w_) k_ + 1)) 5 [(4, .int (nI (cntB (fun w_ => amongB b_ (nI w_) && allB (fun v_ => !(amongB b_ (nI v_) && decide (nI (ansA a_ v_ x_ y_) = nI (ansA a_ w_ x_ y_)))) w_) k_ + 1))), (6, .int (nI (ansA a_ k_ x_ y_))), (0, .ref (gK G 0 0)), (1, .int (nI (x_))), (2, .int (nI (y_))), (3, .int b_), (5, .int (nI (k_)))] rfl (nI_1 _) (by decide) rfl dX11_unlikeAnswers_59 ?_
            refine m_iinc (nI (k_ + 1)) 6 [(5, .int (nI (k_ + 1))), (4, .int (nI (cntB (fun w_ => amongB b_ (nI w_) && allB (fun v_ => !(amongB b_ (nI v_) && decide (nI (ansA a_ v_ x_ y_) = nI (ansA a_ w_ x_ y_)))) w_) k_ + 1))), (6, .int (nI (ansA a_ k_ x_ y_))), (0, .ref (gK G 0 0)), (1, .int (nI (x_))), (2, .int (nI (y_))), (3, .int b_)] rfl (nI_1 _) (by decide) rfl dX11_unlikeAnswers_62 ?_
            refine m_goto 6 dX11_unlikeAnswers_65 (by decide) ?_
            refine m_lv [(0, .ref (gK G 0 0)), (1, .int (nI (x_))), (2, .int (nI (y_))), (3, .int b_), (4, .int (nI (cntB (fun w_ => amongB b_ (nI w_) && allB (fun v_ => !(amongB b_ (nI v_) && decide (nI (ansA a_ v_ x_ y_) = nI (ansA a_ w_ x_ y_)))) w_) k_ + 1))), (5, .int (nI (k_ + 1)))] [3, 4, 5, 6, 1, 0] rfl ?_
            rw [show cntB (fun w_ => amongB b_ (nI w_) && allB (fun v_ => !(amongB b_ (nI v_) && decide (nI (ansA a_ v_ x_ y_) = nI (ansA a_ w_ x_ y_)))) w_) k_ + 1 = cntB (fun w_ => amongB b_ (nI w_) && allB (fun v_ => !(amongB b_ (nI v_) && decide (nI (ansA a_ v_ x_ y_) = nI (ansA a_ w_ x_ y_)))) w_) (k_ + 1) from hct]
            exact ih6 (k_ + 1) S5 Z2 (by omega) (sfrT_up hsf hS5) (by have q_ := seen_add hsn hb1 hS5; rw [show cntB (fun w_ => amongB b_ (nI w_) && allB (fun v_ => !(amongB b_ (nI v_) && decide (nI (ansA a_ v_ x_ y_) = nI (ansA a_ w_ x_ y_)))) w_) k_ + 1 = cntB (fun w_ => amongB b_ (nI w_) && allB (fun v_ => !(amongB b_ (nI v_) && decide (nI (ansA a_ v_ x_ y_) = nI (ansA a_ w_ x_ y_)))) w_) (k_ + 1) from hct] at q_; exact q_) (by omega)
  refine m_lv [(0, .ref (gK G 0 0)), (1, .int (nI (x_))), (2, .int (nI (y_))), (3, .int b_), (4, .int 0), (5, .int 0)] [2, 3, 4, 5, 1, 0] rfl ?_
  exact lp6 ((aN a_ - 0) + 1) 0 S Z (Nat.zero_le _) sfrT_rf ⟨fun i_ hi_ => absurd hi_ (Nat.not_lt_zero i_), fun v_ hv_ => absurd hv_ (Nat.not_lt_zero v_)⟩ (Nat.lt_succ_self _)
set_option maxRecDepth 100000 in
set_option maxHeartbeats 4000000 in
theorem k_marksBy (l : Launch) (G : owG) {A S Z B T V : owF} {J : Nat → Nat → Int64} {Y : Nat → Nat → Nat → Option Nat} {P : Nat → Option owW} (a_ : owK) (ho_ : aOk a_) (hR : RX A Y P 0 a_) (n_ : Nat) (X Q : Nat → Nat) (hs_ : shS S n_ X Q) (w_ : Nat) (hw_ : w_ < aN a_) (fl : Bool) : Ct l G yX11_marksBy cX11_marksBy 6 ((some .int)) 6 0 0 [.ref (gK G 0 0), .int (nI (w_)), .int (bI (fl))] (A, S, Z, B, T, V, J, Y, P) (qI (fun r_ σ => r_ = nI (mkN a_ n_ X Q fl w_) ∧ ∃ Z2 : owF, σ = (A, S, Z2, B, T, V, J, Y, P))) := by
  refine ct_of (by decide +kernel) (Nat.le_of_ble_eq_true rfl) ?_
  have h10 := ho_.1
  have h8_ := ho_.2.1
  have hn12 := hs_.2.1
  show Wm l G cX11_marksBy 6 RX11 ((some .int)) (rmk 6 0 0) (fun _ => True) (QfM G (qI (fun r_ σ => r_ = nI (mkN a_ n_ X Q fl w_) ∧ ∃ Z2 : owF, σ = (A, S, Z2, B, T, V, J, Y, P))) 0 0) 0 [(0, .ref (gK G 0 0)), (1, .int (nI (w_))), (2, .int (bI (fl)))] [] (A, S, Z, B, T, V, J, Y, P) 0 0
  refine m_iconst 0 dX11_marksBy_0 rfl ?_
  refine m_istore_n [(3, .int 0), (0, .ref (gK G 0 0)), (1, .int (nI (w_))), (2, .int (bI (fl)))] rfl (by decide) rfl dX11_marksBy_1 ?_
  refine m_iconst 0 dX11_marksBy_2 rfl ?_
  refine m_istore [(4, .int 0), (3, .int 0), (0, .ref (gK G 0 0)), (1, .int (nI (w_))), (2, .int (bI (fl)))] (by decide) rfl dX11_marksBy_3 ?_
  have lp5 : ∀ (dd : Nat) (k_ : Nat) (Z9 : owF), k_ ≤ n_ → n_ - k_ < dd → Wm l G cX11_marksBy 6 RX11 ((some .int)) (rmk 6 0 0) (fun _ => True) (QfM G (qI (fun r_ σ => r_ = nI (mkN a_ n_ X Q fl w_) ∧ ∃ Z2 : owF, σ = (A, S, Z2, B, T, V, J, Y, P))) 0 0) 5 [(0, .ref (gK G 0 0)), (1, .int (nI (w_))), (2, .int (bI (fl))), (3, .int (nI (cntB (fun s_ => decide (nI (ansA a_ w_ (X s_) (Q s_)) = nI (X s_) - nI (Q s_)) && (!fl || decide (stkI (aK a_ w_) (aF a_ w_) (X s_) (Q s_) 4 ≠ 0))) k_))), (4, .int (nI (k_)))] [] (A, S, Z9, B, T, V, J, Y, P) 0 0 := by
    intro dd
    induction dd with
    | zero => intro k_ Z9 hk_ hdd; exact absurd hdd (Nat.not_lt_zero _)
    | succ dd ih5 =>
      intro k_ Z9 hk_ hdd5
      have hc_ := cntB_le (fun s_ => decide (nI (ansA a_ w_ (X s_) (Q s_)) = nI (X s_) - nI (Q s_)) && (!fl || decide (stkI (aK a_ w_) (aF a_ w_) (X s_) (Q s_) 4 ≠ 0))) k_
      refine m_iload 4 rfl dX11_marksBy_5 ?_
      refine m_aload_n 0 rfl rfl dX11_marksBy_7 ?_
      refine gf_X11_179 dX11_marksBy_8 ?_
      refine m_topi hs_.1 ?_
      refine m_icmpn_ge k_ n_ 78 (by omega) (by omega) dX11_marksBy_11 (by decide) (fun c1_ => ?_) (fun c1_ => ?_)
      ·
        refine m_iload_n 3 rfl rfl dX11_marksBy_78 ?_
        exact m_iret dX11_marksBy_79 (Nat.le_refl _) (Nat.le_refl _) ((by obtain rfl : k_ = n_ := (by omega); exact ⟨rfl, _, rfl⟩))
      ·
        refine m_aload_n 0 rfl rfl dX11_marksBy_14 ?_
        refine m_iload_n 1 rfl rfl dX11_marksBy_15 ?_
        refine m_iload 4 rfl dX11_marksBy_16 ?_
        refine m_callVi cv_X11_210 [.int (nI (w_)), .int (nI (k_))] [] (k_answerToSum l G a_ ho_ hR n_ X Q hs_ w_ (by omega) k_ (by omega)) (by decide) (ce_0 G _ _ _ _ _ _ _ _ _ _) rfl rfl rfl ⟨Nat.le_of_ble_eq_true rfl, Nat.le_of_ble_eq_true rfl⟩ (Nat.le_of_ble_eq_true rfl) ⟨Nat.zero_le _, Nat.zero_le _⟩ dX11_marksBy_18 (fun xx σ2 hq => ?_)
        obtain ⟨rfl, Z2, rfl, hwZ2⟩ := hq
        refine m_aload_n 0 rfl rfl dX11_marksBy_21 ?_
        refine gf_X11_35 dX11_marksBy_22 ?_
        refine m_iload 4 rfl dX11_marksBy_25 ?_
        refine m_callSi cs_X11_102 [.ref (gK G 30 0), .int (nI (k_))] [.int (nI (ansA a_ w_ (X k_) (Q k_)))] (k_at (t := 30) (n := 12) l G (by decide) (ce_30 G _ _ _ _ _ _ _ _ _ 0) (by decide) (nI (k_))) rfl rfl ⟨Nat.le_of_ble_eq_true rfl, Nat.le_of_ble_eq_true rfl⟩ (Nat.le_of_ble_eq_true rfl) ⟨Nat.zero_le _, Nat.zero_le _⟩ dX11_marksBy_27 (fun xx σ2 hq => ?_)
        obtain rfl : xx = S 30 0 k_ := hq.1.trans (atV_in (by omega) (by decide))
        obtain rfl := hq.2
        refine m_topi (hs_.2.2 k_ (by omega)).1 ?_
        refine m_aload_n 0 rfl rfl dX11_marksBy_30 ?_
        refine gf_X11_39 dX11_marksBy_31 ?_
        refine m_iload 4 rfl dX11_marksBy_34 ?_
        refine m_callSi cs_X11_102 [.ref (gK G 31 0), .int (nI (k_))] [.int (nI (X k_)), .int (nI (ansA a_ w_ (X k_) (Q k_)))] (k_at (t := 31) (n := 12) l G (by decide) (ce_31 G _ _ _ _ _ _ _ _ _ 0) (by decide) (nI (k_))) rfl rfl ⟨Nat.le_of_ble_eq_true rfl, Nat.le_of_ble_eq_true rfl⟩ (Nat.le_of_ble_eq_true rfl) ⟨Nat.zero_le _, Nat.zero_le _⟩ dX11_marksBy_36 (fun xx σ2 hq => ?_)
        obtain rfl : xx = S 31 0 k_ := hq.1.trans (atV_in (by omega) (by decide))
        obtain rfl := hq.2
        refine m_topi (hs_.2.2 k_ (by omega)).2.1 ?_
        refine m_isub dX11_marksBy_39 ?_
        refine m_icmp_ne 47 dX11_marksBy_40 (by decide) (fun c5_ => ?_) (fun c5_ => ?_)
        ·
          refine m_iconst 0 dX11_marksBy_47 rfl ?_
          refine m_istore [(5, .int 0), (0, .ref (gK G 0 0)), (1, .int (nI (w_))), (2, .int (bI (fl))), (3, .int (nI (cntB (fun s_ => decide (nI (ansA a_ w_ (X s_) (Q s_)) = nI (X s_) - nI (Q s_)) && (!fl || decide (stkI (aK a_ w_) (aF a_ w_) (X s_) (Q s_) 4 ≠ 0))) k_))), (4, .int (nI (k_)))] (by decide) rfl dX11_marksBy_48 ?_
          refine m_iload 0 rfl dX11_marksBy_50 ?_
          refine m_if_eq 72 dX11_marksBy_52 (by decide) (fun _ => ?_) (fun c6_ => absurd c6_ (by decide))
          refine m_iinc (nI (k_ + 1)) 5 [(4, .int (nI (k_ + 1))), (5, .int 0), (0, .ref (gK G 0 0)), (1, .int (nI (w_))), (2, .int (bI (fl))), (3, .int (nI (cntB (fun s_ => decide (nI (ansA a_ w_ (X s_) (Q s_)) = nI (X s_) - nI (Q s_)) && (!fl || decide (stkI (aK a_ w_) (aF a_ w_) (X s_) (Q s_) 4 ≠ 0))) k_)))] rfl (nI_1 _) (by decide) rfl dX11_marksBy_72 ?_
          refine m_goto 5 dX11_marksBy_75 (by decide) ?_
          refine m_lv [(0, .ref (gK G 0 0)), (1, .int (nI (w_))), (2, .int (bI (fl))), (3, .int (nI (cntB (fun s_ => decide (nI (ansA a_ w_ (X s_) (Q s_)) = nI (X s_) - nI (Q s_)) && (!fl || decide (stkI (aK a_ w_) (aF a_ w_) (X s_) (Q s_) 4 ≠ 0))) k_))), (4, .int (nI (k_ + 1)))] [2, 3, 4, 5, 0] rfl ?_
          rw [show cntB (fun s_ => decide (nI (ansA a_ w_ (X s_) (Q s_)) = nI (X s_) - nI (Q s_)) && (!fl || decide (stkI (aK a_ w_) (aF a_ w_) (X s_) (Q s_) 4 ≠ 0))) k_ = cntB (fun s_ => decide (nI (ansA a_ w_ (X s_) (Q s_)) = nI (X s_) - nI (Q s_)) && (!fl || decide (stkI (aK a_ w_) (aF a_ w_) (X s_) (Q s_) 4 ≠ 0))) (k_ + 1) from cntB_f (p := (fun s_ => decide (nI (ansA a_ w_ (X s_) (Q s_)) = nI (X s_) - nI (Q s_)) && (!fl || decide (stkI (aK a_ w_) (aF a_ w_) (X s_) (Q s_) 4 ≠ 0)))) (by grind)]
          exact ih5 (k_ + 1) Z2 (by omega) (by omega)
        ·
          refine m_iconst 1 dX11_marksBy_43 rfl ?_
          refine m_goto 48 dX11_marksBy_44 (by decide) ?_
          refine m_istore [(5, .int 1), (0, .ref (gK G 0 0)), (1, .int (nI (w_))), (2, .int (bI (fl))), (3, .int (nI (cntB (fun s_ => decide (nI (ansA a_ w_ (X s_) (Q s_)) = nI (X s_) - nI (Q s_)) && (!fl || decide (stkI (aK a_ w_) (aF a_ w_) (X s_) (Q s_) 4 ≠ 0))) k_))), (4, .int (nI (k_)))] (by decide) rfl dX11_marksBy_48 ?_
          refine m_iload 0 rfl dX11_marksBy_50 ?_
          refine m_if_eq 72 dX11_marksBy_52 (by decide) (fun c7_ => absurd c7_ (by decide)) (fun _ => ?_)
          refine m_iload_n 3 rfl rfl dX11_marksBy_55 ?_
          refine m_ifeq_b 69 dX11_marksBy_56 (by decide) (fun c8_ => ?_) (fun c8_ => ?_)
          ·
            refine m_iinc (nI (cntB (fun s_ => decide (nI (ansA a_ w_ (X s_) (Q s_)) = nI (X s_) - nI (Q s_)) && (!fl || decide (stkI (aK a_ w_) (aF a_ w_) (X s_) (Q s_) 4 ≠ 0))) k_ + 1)) 4 [(3, .int (nI (cntB (fun s_ => decide (nI (ansA a_ w_ (X s_) (Q s_)) = nI (X s_) - nI (Q s_)) && (!fl || decide (stkI (aK a_ w_) (aF a_ w_) (X s_) (Q s_) 4 ≠ 0))) k_ + 1))), (5, .int 1), (0, .ref (gK G 0 0)), (1, .int (nI (w_))), (2, .int (bI (fl))), (4, .int (nI (k_)))] rfl (nI_1 _) (by decide) rfl dX11_marksBy_69 ?_
            refine m_iinc (nI (k_ + 1)) 5 [(4, .int (nI (k_ + 1))), (3, .int (nI (cntB (fun s_ => decide (nI (ansA a_ w_ (X s_) (Q s_)) = nI (X s_) - nI (Q s_)) && (!fl || decide (stkI (aK a_ w_) (aF a_ w_) (X s_) (Q s_) 4 ≠ 0))) k_ + 1))), (5, .int 1), (0, .ref (gK G 0 0)), (1, .int (nI (w_))), (2, .int (bI (fl)))] rfl (nI_1 _) (by decide) rfl dX11_marksBy_72 ?_
            refine m_goto 5 dX11_marksBy_75 (by decide) ?_
            refine m_lv [(0, .ref (gK G 0 0)), (1, .int (nI (w_))), (2, .int (bI (fl))), (3, .int (nI (cntB (fun s_ => decide (nI (ansA a_ w_ (X s_) (Q s_)) = nI (X s_) - nI (Q s_)) && (!fl || decide (stkI (aK a_ w_) (aF a_ w_) (X s_) (Q s_) 4 ≠ 0))) k_ + 1))), (4, .int (nI (k_ + 1)))] [3, 4, 5, 1, 0] rfl ?_
            rw [show (cntB (fun s_ => decide (nI (ansA a_ w_ (X s_) (Q s_)) = nI (X s_) - nI (Q s_)) && (!fl || decide (stkI (aK a_ w_) (aF a_ w_) (X s_) (Q s_) 4 ≠ 0))) k_) + 1 = cntB (fun s_ => decide (nI (ansA a_ w_ (X s_) (Q s_)) = nI (X s_) - nI (Q s_)) && (!fl || decide (stkI (aK a_ w_) (aF a_ w_) (X s_) (Q s_) 4 ≠ 0))) (k_ + 1) from cntB_t (p := (fun s_ => decide (nI (ansA a_ w_ (X s_) (Q s_)) = nI (X s_) - nI (Q s_)) && (!fl || decide (stkI (aK a_ w_) (aF a_ w_) (X s_) (Q s_) 4 ≠ 0)))) (by grind)]
            exact ih5 (k_ + 1) Z2 (by omega) (by omega)
          ·
            refine m_aload_n 1 rfl rfl dX11_marksBy_59 ?_
            refine gf_X11_31 dX11_marksBy_60 ?_
            refine gf_X11_137 dX11_marksBy_63 ?_
            refine m_topi hwZ2.2 ?_
            refine m_if_eq 72 dX11_marksBy_66 (by decide) (fun c9_ => ?_) (fun c9_ => ?_)
            ·
              refine m_iinc (nI (k_ + 1)) 5 [(4, .int (nI (k_ + 1))), (5, .int 1), (0, .ref (gK G 0 0)), (1, .int (nI (w_))), (2, .int (bI (fl))), (3, .int (nI (cntB (fun s_ => decide (nI (ansA a_ w_ (X s_) (Q s_)) = nI (X s_) - nI (Q s_)) && (!fl || decide (stkI (aK a_ w_) (aF a_ w_) (X s_) (Q s_) 4 ≠ 0))) k_)))] rfl (nI_1 _) (by decide) rfl dX11_marksBy_72 ?_
              refine m_goto 5 dX11_marksBy_75 (by decide) ?_
              refine m_lv [(0, .ref (gK G 0 0)), (1, .int (nI (w_))), (2, .int (bI (fl))), (3, .int (nI (cntB (fun s_ => decide (nI (ansA a_ w_ (X s_) (Q s_)) = nI (X s_) - nI (Q s_)) && (!fl || decide (stkI (aK a_ w_) (aF a_ w_) (X s_) (Q s_) 4 ≠ 0))) k_))), (4, .int (nI (k_ + 1)))] [2, 3, 4, 5, 0] rfl ?_
              rw [show cntB (fun s_ => decide (nI (ansA a_ w_ (X s_) (Q s_)) = nI (X s_) - nI (Q s_)) && (!fl || decide (stkI (aK a_ w_) (aF a_ w_) (X s_) (Q s_) 4 ≠ 0))) k_ = cntB (fun s_ => decide (nI (ansA a_ w_ (X s_) (Q s_)) = nI (X s_) - nI (Q s_)) && (!fl || decide (stkI (aK a_ w_) (aF a_ w_) (X s_) (Q s_) 4 ≠ 0))) (k_ + 1) from cntB_f (p := (fun s_ => decide (nI (ansA a_ w_ (X s_) (Q s_)) = nI (X s_) - nI (Q s_)) && (!fl || decide (stkI (aK a_ w_) (aF a_ w_) (X s_) (Q s_) 4 ≠ 0)))) (by grind)]
              exact ih5 (k_ + 1) Z2 (by omega) (by omega)
            ·
              refine m_iinc (nI (cntB (fun s_ => decide (nI (ansA a_ w_ (X s_) (Q s_)) = nI (X s_) - nI (Q s_)) && (!fl || decide (stkI (aK a_ w_) (aF a_ w_) (X s_) (Q s_) 4 ≠ 0))) k_ + 1)) 4 [(3, .int (nI (cntB (fun s_ => decide (nI (ansA a_ w_ (X s_) (Q s_)) = nI (X s_) - nI (Q s_)) && (!fl || decide (stkI (aK a_ w_) (aF a_ w_) (X s_) (Q s_) 4 ≠ 0))) k_ + 1))), (5, .int 1), (0, .ref (gK G 0 0)), (1, .int (nI (w_))), (2, .int (bI (fl))), (4, .int (nI (k_)))] rfl (nI_1 _) (by decide) rfl dX11_marksBy_69 ?_
              refine m_iinc (nI (k_ + 1)) 5 [(4, .int (nI (k_ + 1))), (3, .int (nI (cntB (fun s_ => decide (nI (ansA a_ w_ (X s_) (Q s_)) = nI (X s_) - nI (Q s_)) && (!fl || decide (stkI (aK a_ w_) (aF a_ w_) (X s_) (Q s_) 4 ≠ 0))) k_ + 1))), (5, .int 1), (0, .ref (gK G 0 0)), (1, .int (nI (w_))), (2, .int (bI (fl)))] rfl (nI_1 _) (by decide) rfl dX11_marksBy_72 ?_
              refine m_goto 5 dX11_marksBy_75 (by decide) ?_
              refine m_lv [(0, .ref (gK G 0 0)), (1, .int (nI (w_))), (2, .int (bI (fl))), (3, .int (nI (cntB (fun s_ => decide (nI (ansA a_ w_ (X s_) (Q s_)) = nI (X s_) - nI (Q s_)) && (!fl || decide (stkI (aK a_ w_) (aF a_ w_) (X s_) (Q s_) 4 ≠ 0))) k_ + 1))), (4, .int (nI (k_ + 1)))] [3, 4, 5, 1, 0] rfl ?_
              rw [show (cntB (fun s_ => decide (nI (ansA a_ w_ (X s_) (Q s_)) = nI (X s_) - nI (Q s_)) && (!fl || decide (stkI (aK a_ w_) (aF a_ w_) (X s_) (Q s_) 4 ≠ 0))) k_) + 1 = cntB (fun s_ => decide (nI (ansA a_ w_ (X s_) (Q s_)) = nI (X s_) - nI (Q s_)) && (!fl || decide (stkI (aK a_ w_) (aF a_ w_) (X s_) (Q s_) 4 ≠ 0))) (k_ + 1) from cntB_t (p := (fun s_ => decide (nI (ansA a_ w_ (X s_) (Q s_)) = nI (X s_) - nI (Q s_)) && (!fl || decide (stkI (aK a_ w_) (aF a_ w_) (X s_) (Q s_) 4 ≠ 0)))) (by grind)]
              exact ih5 (k_ + 1) Z2 (by omega) (by omega)
  refine m_lv [(0, .ref (gK G 0 0)), (1, .int (nI (w_))), (2, .int (bI (fl))), (3, .int 0), (4, .int 0)] [2, 3, 4, 1, 0] rfl ?_
  exact lp5 ((n_ - 0) + 1) 0 Z (Nat.zero_le _) (Nat.lt_succ_self _)
set_option maxRecDepth 100000 in
set_option maxHeartbeats 4000000 in
theorem k_draw (l : Launch) (G : owG) {A S Z B T V : owF} {J : Nat → Nat → Int64} {Y : Nat → Nat → Nat → Option Nat} {P : Nat → Option owW} (n_ : Int32) (hn : 0 < n_) : Ct l G yX11_draw cX11_draw 2 ((some .int)) 0 0 0 [.ref (gK G 0 0), .int n_] (A, S, Z, B, T, V, J, Y, P) (qI (fun r_ σ => r_ = drI (nxt (S 0 0 14)) n_ ∧ σ = (A, up3 S 0 0 14 (nxt (S 0 0 14)), Z, B, T, V, J, Y, P))) := by
  refine ct_of (by decide +kernel) (Nat.le_of_ble_eq_true rfl) ?_
  show Wm l G cX11_draw 2 RX11 ((some .int)) (rmk 0 0 0) (fun _ => True) (QfM G (qI (fun r_ σ => r_ = drI (nxt (S 0 0 14)) n_ ∧ σ = (A, up3 S 0 0 14 (nxt (S 0 0 14)), Z, B, T, V, J, Y, P))) 0 0) 0 [(0, .ref (gK G 0 0)), (1, .int n_)] [] (A, S, Z, B, T, V, J, Y, P) 0 0
  refine m_aload_n 0 rfl rfl dX11_draw_0 ?_
  refine m_aload_n 0 rfl rfl dX11_draw_1 ?_
  refine gf_X11_203 dX11_draw_2 ?_
  refine m_ldcw 1103515245 tw_735 dX11_draw_5 ?_
  refine m_imul dX11_draw_8 ?_
  refine m_sipush (12345) dX11_draw_9 rfl ?_
  refine m_iadd dX11_draw_12 ?_
  refine pf_X11_203 dX11_draw_13 (fun S1 hS1 => ?_)
  refine m_iload_n 1 rfl rfl dX11_draw_16 ?_
  refine m_if_le 37 dX11_draw_17 (by decide) (fun c2_ => ?_) (fun c2_ => ?_)
  · exact absurd c2_ (by grind)
  ·
    refine m_aload_n 0 rfl rfl dX11_draw_20 ?_
    refine gf_X11_203 dX11_draw_21 ?_
    refine m_topi (up3_e hS1) ?_
    refine m_ldcw 2147483647 tw_736 dX11_draw_24 ?_
    refine m_iand dX11_draw_27 ?_
    refine m_ldcw 65536 tw_737 dX11_draw_28 ?_
    refine m_idiv (by decide) dX11_draw_31 ?_
    refine m_iload_n 1 rfl rfl dX11_draw_32 ?_
    refine m_irem (by grind) dX11_draw_33 ?_
    refine m_goto 38 dX11_draw_34 (by decide) ?_
    exact m_iret dX11_draw_38 (Nat.le_refl _) (Nat.le_refl _) (⟨by unfold drI nxt; rfl, by rw [hS1]; rfl⟩)
