def bI : Bool → Int32 | true => 1 | false => 0
theorem bI_nar (b : Bool) : narrow .boolean (.int (bI b)) = .int (bI b) := by cases b <;> rfl
theorem bI_fit (b : Bool) : narrow .boolean (.int (bI b)) = .int (bI b) ∧ fits .boolean (.int (bI b)) = true := by cases b <;> exact ⟨rfl, rfl⟩
theorem bI_0 (b : Bool) : bI b = 0 ↔ b = false := by cases b <;> decide
theorem nar0 : narrow .boolean (.int 0) = .int 0 := rfl
theorem nar1 : narrow .boolean (.int 1) = .int 1 := rfl
section OWX
variable {l : Launch} {G : owG} {cc : ByteArray} {nL : Nat} {own : String} {rt : Option FieldType} {R : Room} {Ex : State → Prop} {Qf : List Frame → Array Value → State → State → Prop} {pc : Nat} {lv : List (Nat × Value)} {rest : List Value} {σ : owSt} {cells slots : Nat}
theorem m_topi {x y : Int32} (h : x = y) (kk : Wm l G cc nL own rt R Ex Qf pc lv (.int y :: rest) σ cells slots) : Wm l G cc nL own rt R Ex Qf pc lv (.int x :: rest) σ cells slots := h ▸ kk
theorem m_topl {x y : Int64} (h : x = y) (kk : Wm l G cc nL own rt R Ex Qf pc lv (.long y :: rest) σ cells slots) : Wm l G cc nL own rt R Ex Qf pc lv (.long x :: rest) σ cells slots := h ▸ kk
theorem m_topr {x y : Option Nat} (h : x = y) (kk : Wm l G cc nL own rt R Ex Qf pc lv (va_rf y :: rest) σ cells slots) : Wm l G cc nL own rt R Ex Qf pc lv (va_rf x :: rest) σ cells slots := h ▸ kk
theorem m_ifeq_b {b : Bool} {off : Int} (tgt : Nat) (hd : decode cc pc = .ok (.ifCond .eq off, 3)) (ht : (pc : Int) + off = (tgt : Int)) (kt : b = false → Wm l G cc nL own rt R Ex Qf tgt lv rest σ cells slots) (kf : b = true → Wm l G cc nL own rt R Ex Qf (pc + 3) lv rest σ cells slots) : Wm l G cc nL own rt R Ex Qf pc lv (.int (bI b) :: rest) σ cells slots :=
  m_if_eq tgt hd ht (fun q => kt ((bI_0 b).mp q)) (fun q => kf (by cases b; exact absurd rfl q; rfl))
theorem m_ifne_b {b : Bool} {off : Int} (tgt : Nat) (hd : decode cc pc = .ok (.ifCond .ne off, 3)) (ht : (pc : Int) + off = (tgt : Int)) (kt : b = true → Wm l G cc nL own rt R Ex Qf tgt lv rest σ cells slots) (kf : b = false → Wm l G cc nL own rt R Ex Qf (pc + 3) lv rest σ cells slots) : Wm l G cc nL own rt R Ex Qf pc lv (.int (bI b) :: rest) σ cells slots :=
  m_if_ne tgt hd ht (fun q => kt (by cases b; exact absurd rfl q; rfl)) (fun q => kf ((bI_0 b).mp q))
theorem m_if_or {c : Prop} [Decidable c] (kt : c → Wm l G cc nL own rt R Ex Qf pc lv rest σ cells slots) (kf : ¬ c → Wm l G cc nL own rt R Ex Qf pc lv rest σ cells slots) : Wm l G cc nL own rt R Ex Qf pc lv rest σ cells slots := if h : c then kt h else kf h
theorem m_aload_nN {k : Fin 4} {i : Nat} (q : Nat) (hq : lv[q]? = some (i, .null)) (hi : (k : Nat) = i) (hd : decode cc pc = .ok (.aload_n k, 1)) (kk : Wm l G cc nL own rt R Ex Qf (pc + 1) lv (.null :: rest) σ cells slots) : Wm l G cc nL own rt R Ex Qf pc lv rest σ cells slots := by
  intro p e s m args below meth c H locs ls X
  obtain ⟨hx, hb, hml, ho, hts, hr, hk, hE, hK, hH, hS, hB, hl⟩ := id X
  exact lv_aload_nN hx hb hd hi (lv_at hl q hq) (kk _ _ _ _ _ _ _ _ _ _ _ X)
theorem m_aloadN {i : Nat} (q : Nat) (hq : lv[q]? = some (i, .null)) (hd : decode cc pc = .ok (.aload i, 2)) (kk : Wm l G cc nL own rt R Ex Qf (pc + 2) lv (.null :: rest) σ cells slots) : Wm l G cc nL own rt R Ex Qf pc lv rest σ cells slots := by
  intro p e s m args below meth c H locs ls X
  obtain ⟨hx, hb, hml, ho, hts, hr, hk, hE, hK, hH, hS, hB, hl⟩ := id X
  exact lv_aloadN hx hb hd (lv_at hl q hq) (kk _ _ _ _ _ _ _ _ _ _ _ X)
theorem m_astore_nN {k : Fin 4} {i : Nat} (lv2 : List (Nat × Value)) (hi : (k : Nat) = i) (hn : i < nL) (hf : (i, Value.null) :: lv.filter (fun q => !(q.1 == i) && !(q.1 + 1 == i && q.2.category == 2)) = lv2) (hd : decode cc pc = .ok (.astore_n k, 1)) (kk : Wm l G cc nL own rt R Ex Qf (pc + 1) lv2 rest σ cells slots) : Wm l G cc nL own rt R Ex Qf pc lv (.null :: rest) σ cells slots := by
  intro p e s m args below meth c H locs ls X
  obtain ⟨hx, hb, hml, ho, hts, hr, hk, hE, hK, hH, hS, hB, hl⟩ := id X
  exact lv_astore_nN hx hb hd hi hl hn hf (fun ls2 h2 => kk _ _ _ _ _ _ _ _ _ _ _ (X.lv' h2))
theorem m_astoreN {i : Nat} (lv2 : List (Nat × Value)) (hn : i < nL) (hf : (i, Value.null) :: lv.filter (fun q => !(q.1 == i) && !(q.1 + 1 == i && q.2.category == 2)) = lv2) (hd : decode cc pc = .ok (.astore i, 2)) (kk : Wm l G cc nL own rt R Ex Qf (pc + 2) lv2 rest σ cells slots) : Wm l G cc nL own rt R Ex Qf pc lv (.null :: rest) σ cells slots := by
  intro p e s m args below meth c H locs ls X
  obtain ⟨hx, hb, hml, ho, hts, hr, hk, hE, hK, hH, hS, hB, hl⟩ := id X
  exact lv_astoreN hx hb hd hl hn hf (fun ls2 h2 => kk _ _ _ _ _ _ _ _ _ _ _ (X.lv' h2))
theorem m_dead {pc : Nat} {st : List Value} (h : False) : Wm l G cc nL own rt R Ex Qf pc lv st σ cells slots := h.elim
theorem up3_e {α : Type} {f g : Nat → Nat → Nat → α} {t i j : Nat} {v : α} (h : g = up3 f t i j v) : g t i j = v := by rw [h]; simp [up3]
theorem up3_j {α : Type} {f g : Nat → Nat → Nat → α} {t i j c : Nat} {v x : α} (h : g = up3 f t i j v) (hc : c ≠ j) (e : f t i c = x) : g t i c = x := by rw [h, ← e]; simp [up3, hc]
theorem up3_t {α : Type} {f g : Nat → Nat → Nat → α} {t i j a b c : Nat} {v x : α} (h : g = up3 f t i j v) (hc : a ≠ t) (e : f a b c = x) : g a b c = x := by rw [h, ← e]; simp [up3, hc]
theorem up3_i {α : Type} {f g : Nat → Nat → Nat → α} {t i j b c : Nat} {v x : α} (h : g = up3 f t i j v) (hc : b ≠ i) (e : f t b c = x) : g t b c = x := by rw [h, ← e]; simp [up3, hc]
theorem nI_neg {n : Nat} {c : Int32} (h : n < 2 ^ 31) (hc : c < 0) : ¬ nI n = c := fun e => by
  have := nI_pos' h
  rw [e] at this
  grind
theorem natOf {x : Int32} (h : 0 ≤ x) : ∃ k : Nat, k < 2 ^ 31 ∧ x = nI k := by
  obtain ⟨k, h1, h2⟩ := nI_of (x := x) (by grind)
  exact ⟨k, h1, h2⟩
theorem natOf2 {x : Int32} {n : Nat} (h : 0 ≤ x) (h2 : x < nI n) (hn : n < 2 ^ 31) : ∃ k : Nat, k < n ∧ x = nI k := by
  obtain ⟨k, h1, rfl⟩ := natOf h
  exact ⟨k, (nI_ltI h1 hn).mp h2, rfl⟩
theorem m_ifn_eq (a : Nat) {off : Int} (tgt : Nat) (ha : a < 2 ^ 31) (hd : decode cc pc = .ok (.ifCond .eq off, 3)) (ht : (pc : Int) + off = (tgt : Int)) (kt : a = 0 → Wm l G cc nL own rt R Ex Qf tgt lv rest σ cells slots) (kf : 0 < a → Wm l G cc nL own rt R Ex Qf (pc + 3) lv rest σ cells slots) : Wm l G cc nL own rt R Ex Qf pc lv (.int (nI a) :: rest) σ cells slots :=
  m_if_eq tgt hd ht (fun q => kt (by have := (nI_eq (b := 0) ha (by decide)).mp q; exact this)) (fun q => kf (Nat.pos_of_ne_zero (fun z => q (by rw [z]; rfl))))
theorem m_ifn_ne (a : Nat) {off : Int} (tgt : Nat) (ha : a < 2 ^ 31) (hd : decode cc pc = .ok (.ifCond .ne off, 3)) (ht : (pc : Int) + off = (tgt : Int)) (kt : 0 < a → Wm l G cc nL own rt R Ex Qf tgt lv rest σ cells slots) (kf : a = 0 → Wm l G cc nL own rt R Ex Qf (pc + 3) lv rest σ cells slots) : Wm l G cc nL own rt R Ex Qf pc lv (.int (nI a) :: rest) σ cells slots :=
  m_if_ne tgt hd ht (fun q => kt (Nat.pos_of_ne_zero (fun z => q (by rw [z]; rfl)))) (fun q => kf (by have := (nI_eq (b := 0) ha (by decide)).mp q; exact this))
theorem m_ifn_lt (a : Nat) {off : Int} (tgt : Nat) (ha : a < 2 ^ 31) (hd : decode cc pc = .ok (.ifCond .lt off, 3)) (ht : (pc : Int) + off = (tgt : Int)) (kt : False → Wm l G cc nL own rt R Ex Qf tgt lv rest σ cells slots) (kf : True → Wm l G cc nL own rt R Ex Qf (pc + 3) lv rest σ cells slots) : Wm l G cc nL own rt R Ex Qf pc lv (.int (nI a) :: rest) σ cells slots :=
  m_if_lt tgt hd ht (fun q => kt (nI_pos ha q)) (fun q => kf (trivial))
theorem m_ifn_ge (a : Nat) {off : Int} (tgt : Nat) (ha : a < 2 ^ 31) (hd : decode cc pc = .ok (.ifCond .ge off, 3)) (ht : (pc : Int) + off = (tgt : Int)) (kt : True → Wm l G cc nL own rt R Ex Qf tgt lv rest σ cells slots) (kf : False → Wm l G cc nL own rt R Ex Qf (pc + 3) lv rest σ cells slots) : Wm l G cc nL own rt R Ex Qf pc lv (.int (nI a) :: rest) σ cells slots :=
  m_if_ge tgt hd ht (fun q => kt (trivial)) (fun q => kf (q (nI_pos' ha)))
theorem m_ifn_gt (a : Nat) {off : Int} (tgt : Nat) (ha : a < 2 ^ 31) (hd : decode cc pc = .ok (.ifCond .gt off, 3)) (ht : (pc : Int) + off = (tgt : Int)) (kt : 0 < a → Wm l G cc nL own rt R Ex Qf tgt lv rest σ cells slots) (kf : a = 0 → Wm l G cc nL own rt R Ex Qf (pc + 3) lv rest σ cells slots) : Wm l G cc nL own rt R Ex Qf pc lv (.int (nI a) :: rest) σ cells slots :=
  m_if_gt tgt hd ht (fun q => kt ((nI_ltI (a := 0) (by decide) ha).mp q)) (fun q => kf (Nat.eq_zero_of_not_pos (fun z => q ((nI_ltI (a := 0) (by decide) ha).mpr z))))
theorem m_ifn_le (a : Nat) {off : Int} (tgt : Nat) (ha : a < 2 ^ 31) (hd : decode cc pc = .ok (.ifCond .le off, 3)) (ht : (pc : Int) + off = (tgt : Int)) (kt : a = 0 → Wm l G cc nL own rt R Ex Qf tgt lv rest σ cells slots) (kf : 0 < a → Wm l G cc nL own rt R Ex Qf (pc + 3) lv rest σ cells slots) : Wm l G cc nL own rt R Ex Qf pc lv (.int (nI a) :: rest) σ cells slots :=
  m_if_le tgt hd ht (fun q => kt (Nat.le_zero.mp ((nI_leI (b := 0) ha (by decide)).mp q))) (fun q => kf (Nat.pos_of_ne_zero (fun z => q (by rw [z]; exact nI_le (Nat.le_refl 0) (by decide)))))
theorem m_icmpn_eq (a b : Nat) {off : Int} (tgt : Nat) (ha : a < 2 ^ 31) (hb : b < 2 ^ 31) (hd : decode cc pc = .ok (.if_icmp .eq off, 3)) (ht : (pc : Int) + off = (tgt : Int)) (kt : a = b → Wm l G cc nL own rt R Ex Qf tgt lv rest σ cells slots) (kf : a ≠ b → Wm l G cc nL own rt R Ex Qf (pc + 3) lv rest σ cells slots) : Wm l G cc nL own rt R Ex Qf pc lv (.int (nI b) :: .int (nI a) :: rest) σ cells slots :=
  m_icmp_eq tgt hd ht (fun q => kt ((nI_eq ha hb).mp q)) (fun q => kf (fun z => q ((nI_eq ha hb).mpr z)))
theorem m_icmpn_ne (a b : Nat) {off : Int} (tgt : Nat) (ha : a < 2 ^ 31) (hb : b < 2 ^ 31) (hd : decode cc pc = .ok (.if_icmp .ne off, 3)) (ht : (pc : Int) + off = (tgt : Int)) (kt : a ≠ b → Wm l G cc nL own rt R Ex Qf tgt lv rest σ cells slots) (kf : a = b → Wm l G cc nL own rt R Ex Qf (pc + 3) lv rest σ cells slots) : Wm l G cc nL own rt R Ex Qf pc lv (.int (nI b) :: .int (nI a) :: rest) σ cells slots :=
  m_icmp_ne tgt hd ht (fun q => kt (fun z => q ((nI_eq ha hb).mpr z))) (fun q => kf ((nI_eq ha hb).mp q))
theorem m_icmpn_lt (a b : Nat) {off : Int} (tgt : Nat) (ha : a < 2 ^ 31) (hb : b < 2 ^ 31) (hd : decode cc pc = .ok (.if_icmp .lt off, 3)) (ht : (pc : Int) + off = (tgt : Int)) (kt : a < b → Wm l G cc nL own rt R Ex Qf tgt lv rest σ cells slots) (kf : b ≤ a → Wm l G cc nL own rt R Ex Qf (pc + 3) lv rest σ cells slots) : Wm l G cc nL own rt R Ex Qf pc lv (.int (nI b) :: .int (nI a) :: rest) σ cells slots :=
  m_icmp_lt tgt hd ht (fun q => kt ((nI_ltI ha hb).mp q)) (fun q => kf (Nat.not_lt.mp (fun z => q ((nI_ltI ha hb).mpr z))))
theorem m_icmpn_ge (a b : Nat) {off : Int} (tgt : Nat) (ha : a < 2 ^ 31) (hb : b < 2 ^ 31) (hd : decode cc pc = .ok (.if_icmp .ge off, 3)) (ht : (pc : Int) + off = (tgt : Int)) (kt : b ≤ a → Wm l G cc nL own rt R Ex Qf tgt lv rest σ cells slots) (kf : a < b → Wm l G cc nL own rt R Ex Qf (pc + 3) lv rest σ cells slots) : Wm l G cc nL own rt R Ex Qf pc lv (.int (nI b) :: .int (nI a) :: rest) σ cells slots :=
  m_icmp_ge tgt hd ht (fun q => kt ((nI_leI hb ha).mp q)) (fun q => kf (Nat.not_le.mp (fun z => q ((nI_leI hb ha).mpr z))))
theorem m_icmpn_gt (a b : Nat) {off : Int} (tgt : Nat) (ha : a < 2 ^ 31) (hb : b < 2 ^ 31) (hd : decode cc pc = .ok (.if_icmp .gt off, 3)) (ht : (pc : Int) + off = (tgt : Int)) (kt : b < a → Wm l G cc nL own rt R Ex Qf tgt lv rest σ cells slots) (kf : a ≤ b → Wm l G cc nL own rt R Ex Qf (pc + 3) lv rest σ cells slots) : Wm l G cc nL own rt R Ex Qf pc lv (.int (nI b) :: .int (nI a) :: rest) σ cells slots :=
  m_icmp_gt tgt hd ht (fun q => kt ((nI_ltI hb ha).mp q)) (fun q => kf (Nat.not_lt.mp (fun z => q ((nI_ltI hb ha).mpr z))))
theorem m_icmpn_le (a b : Nat) {off : Int} (tgt : Nat) (ha : a < 2 ^ 31) (hb : b < 2 ^ 31) (hd : decode cc pc = .ok (.if_icmp .le off, 3)) (ht : (pc : Int) + off = (tgt : Int)) (kt : a ≤ b → Wm l G cc nL own rt R Ex Qf tgt lv rest σ cells slots) (kf : b < a → Wm l G cc nL own rt R Ex Qf (pc + 3) lv rest σ cells slots) : Wm l G cc nL own rt R Ex Qf pc lv (.int (nI b) :: .int (nI a) :: rest) σ cells slots :=
  m_icmp_le tgt hd ht (fun q => kt ((nI_leI ha hb).mp q)) (fun q => kf (Nat.not_le.mp (fun z => q ((nI_leI ha hb).mpr z))))
theorem m_callVi {idx nb n lvl t i ci N : Nat} {y : MethodName} {cb : ByteArray} {rb : Option FieldType} {st : List Value} {P1 : Int32 → owSt → Prop} {T : u_T} {fs : List Value} (cv : cvOk own idx y cb nb rb n) (As : List Value) (rest : List Value) (hC : Ct l G y cb nb rb lvl 0 0 (.ref (gK G t i) :: As) σ (qI P1)) (hi : i < owN t) (he : owC G σ t i = .inr (ci, fs)) (hc : vwCl[ci]? = some (y.cls, T, N)) (hst : st = As.reverse ++ .ref (gK G t i) :: rest) (hn : As.length = n) (hR : lvl + 1 ≤ R.frames ∧ 8 + (nb + 11) + 40 * lvl ≤ R.locals) (hW : (rest.map fun v => v.category).sum ≤ 8) (hf : cells ≤ R.cells ∧ slots ≤ R.slots) (hd : decode cc pc = .ok (.invokevirtual idx, 3)) (kk : ∀ (x : Int32) (σ2 : owSt), P1 x σ2 → Wm l G cc nL own rt R Ex Qf (pc + 3) lv (.int x :: rest) σ2 cells slots) : Wm l G cc nL own rt R Ex Qf pc lv st σ cells slots :=
  m_callV cv As rest hC hi he hc hst hn hR hW hf hd (fun r σ2 h => by obtain ⟨x, rfl, h⟩ := h; exact kk x σ2 h)
theorem m_callVl {idx nb n lvl t i ci N : Nat} {y : MethodName} {cb : ByteArray} {rb : Option FieldType} {st : List Value} {P1 : Int64 → owSt → Prop} {T : u_T} {fs : List Value} (cv : cvOk own idx y cb nb rb n) (As : List Value) (rest : List Value) (hC : Ct l G y cb nb rb lvl 0 0 (.ref (gK G t i) :: As) σ (qL P1)) (hi : i < owN t) (he : owC G σ t i = .inr (ci, fs)) (hc : vwCl[ci]? = some (y.cls, T, N)) (hst : st = As.reverse ++ .ref (gK G t i) :: rest) (hn : As.length = n) (hR : lvl + 1 ≤ R.frames ∧ 8 + (nb + 11) + 40 * lvl ≤ R.locals) (hW : (rest.map fun v => v.category).sum ≤ 8) (hf : cells ≤ R.cells ∧ slots ≤ R.slots) (hd : decode cc pc = .ok (.invokevirtual idx, 3)) (kk : ∀ (x : Int64) (σ2 : owSt), P1 x σ2 → Wm l G cc nL own rt R Ex Qf (pc + 3) lv (.long x :: rest) σ2 cells slots) : Wm l G cc nL own rt R Ex Qf pc lv st σ cells slots :=
  m_callV cv As rest hC hi he hc hst hn hR hW hf hd (fun r σ2 h => by obtain ⟨x, rfl, h⟩ := h; exact kk x σ2 h)
theorem m_callVr {idx nb n lvl t i ci N : Nat} {y : MethodName} {cb : ByteArray} {rb : Option FieldType} {st : List Value} {P1 : Option Nat → owSt → Prop} {T : u_T} {fs : List Value} (cv : cvOk own idx y cb nb rb n) (As : List Value) (rest : List Value) (hC : Ct l G y cb nb rb lvl 0 0 (.ref (gK G t i) :: As) σ (qR P1)) (hi : i < owN t) (he : owC G σ t i = .inr (ci, fs)) (hc : vwCl[ci]? = some (y.cls, T, N)) (hst : st = As.reverse ++ .ref (gK G t i) :: rest) (hn : As.length = n) (hR : lvl + 1 ≤ R.frames ∧ 8 + (nb + 11) + 40 * lvl ≤ R.locals) (hW : (rest.map fun v => v.category).sum ≤ 8) (hf : cells ≤ R.cells ∧ slots ≤ R.slots) (hd : decode cc pc = .ok (.invokevirtual idx, 3)) (kk : ∀ (x : Option Nat) (σ2 : owSt), P1 x σ2 → Wm l G cc nL own rt R Ex Qf (pc + 3) lv (va_rf x :: rest) σ2 cells slots) : Wm l G cc nL own rt R Ex Qf pc lv st σ cells slots :=
  m_callV cv As rest hC hi he hc hst hn hR hW hf hd (fun r σ2 h => by obtain ⟨x, rfl, h⟩ := h; exact kk x σ2 h)
theorem m_callVv {idx nb n lvl t i ci N : Nat} {y : MethodName} {cb : ByteArray} {rb : Option FieldType} {st : List Value} {P1 : owSt → Prop} {T : u_T} {fs : List Value} (cv : cvOk own idx y cb nb rb n) (As : List Value) (rest : List Value) (hC : Ct l G y cb nb rb lvl 0 0 (.ref (gK G t i) :: As) σ (qV P1)) (hi : i < owN t) (he : owC G σ t i = .inr (ci, fs)) (hc : vwCl[ci]? = some (y.cls, T, N)) (hst : st = As.reverse ++ .ref (gK G t i) :: rest) (hn : As.length = n) (hR : lvl + 1 ≤ R.frames ∧ 8 + (nb + 11) + 40 * lvl ≤ R.locals) (hW : (rest.map fun v => v.category).sum ≤ 8) (hf : cells ≤ R.cells ∧ slots ≤ R.slots) (hd : decode cc pc = .ok (.invokevirtual idx, 3)) (kk : ∀  (σ2 : owSt), P1  σ2 → Wm l G cc nL own rt R Ex Qf (pc + 3) lv (rest) σ2 cells slots) : Wm l G cc nL own rt R Ex Qf pc lv st σ cells slots :=
  m_callV cv As rest hC hi he hc hst hn hR hW hf hd (fun r σ2 h => by obtain ⟨rfl, h⟩ := h; exact kk σ2 h)
theorem m_callSi {idx nb n lvl : Nat} {y : MethodName} {cb : ByteArray} {rb : Option FieldType} {st : List Value} {P1 : Int32 → owSt → Prop} (cv : csOk own idx y cb nb rb n) (As : List Value) (rest : List Value) (hC : Ct l G y cb nb rb lvl 0 0 As σ (qI P1)) (hst : st = As.reverse ++ rest) (hn : As.length = n) (hR : lvl + 1 ≤ R.frames ∧ 8 + (nb + 11) + 40 * lvl ≤ R.locals) (hW : (rest.map fun v => v.category).sum ≤ 8) (hf : cells ≤ R.cells ∧ slots ≤ R.slots) (hd : decode cc pc = .ok (.invokestatic idx, 3)) (kk : ∀ (x : Int32) (σ2 : owSt), P1 x σ2 → Wm l G cc nL own rt R Ex Qf (pc + 3) lv (.int x :: rest) σ2 cells slots) : Wm l G cc nL own rt R Ex Qf pc lv st σ cells slots :=
  m_callS cv As rest hC hst hn hR hW hf hd (fun r σ2 h => by obtain ⟨x, rfl, h⟩ := h; exact kk x σ2 h)
theorem m_callSl {idx nb n lvl : Nat} {y : MethodName} {cb : ByteArray} {rb : Option FieldType} {st : List Value} {P1 : Int64 → owSt → Prop} (cv : csOk own idx y cb nb rb n) (As : List Value) (rest : List Value) (hC : Ct l G y cb nb rb lvl 0 0 As σ (qL P1)) (hst : st = As.reverse ++ rest) (hn : As.length = n) (hR : lvl + 1 ≤ R.frames ∧ 8 + (nb + 11) + 40 * lvl ≤ R.locals) (hW : (rest.map fun v => v.category).sum ≤ 8) (hf : cells ≤ R.cells ∧ slots ≤ R.slots) (hd : decode cc pc = .ok (.invokestatic idx, 3)) (kk : ∀ (x : Int64) (σ2 : owSt), P1 x σ2 → Wm l G cc nL own rt R Ex Qf (pc + 3) lv (.long x :: rest) σ2 cells slots) : Wm l G cc nL own rt R Ex Qf pc lv st σ cells slots :=
  m_callS cv As rest hC hst hn hR hW hf hd (fun r σ2 h => by obtain ⟨x, rfl, h⟩ := h; exact kk x σ2 h)
theorem m_callSr {idx nb n lvl : Nat} {y : MethodName} {cb : ByteArray} {rb : Option FieldType} {st : List Value} {P1 : Option Nat → owSt → Prop} (cv : csOk own idx y cb nb rb n) (As : List Value) (rest : List Value) (hC : Ct l G y cb nb rb lvl 0 0 As σ (qR P1)) (hst : st = As.reverse ++ rest) (hn : As.length = n) (hR : lvl + 1 ≤ R.frames ∧ 8 + (nb + 11) + 40 * lvl ≤ R.locals) (hW : (rest.map fun v => v.category).sum ≤ 8) (hf : cells ≤ R.cells ∧ slots ≤ R.slots) (hd : decode cc pc = .ok (.invokestatic idx, 3)) (kk : ∀ (x : Option Nat) (σ2 : owSt), P1 x σ2 → Wm l G cc nL own rt R Ex Qf (pc + 3) lv (va_rf x :: rest) σ2 cells slots) : Wm l G cc nL own rt R Ex Qf pc lv st σ cells slots :=
  m_callS cv As rest hC hst hn hR hW hf hd (fun r σ2 h => by obtain ⟨x, rfl, h⟩ := h; exact kk x σ2 h)
theorem m_callSv {idx nb n lvl : Nat} {y : MethodName} {cb : ByteArray} {rb : Option FieldType} {st : List Value} {P1 : owSt → Prop} (cv : csOk own idx y cb nb rb n) (As : List Value) (rest : List Value) (hC : Ct l G y cb nb rb lvl 0 0 As σ (qV P1)) (hst : st = As.reverse ++ rest) (hn : As.length = n) (hR : lvl + 1 ≤ R.frames ∧ 8 + (nb + 11) + 40 * lvl ≤ R.locals) (hW : (rest.map fun v => v.category).sum ≤ 8) (hf : cells ≤ R.cells ∧ slots ≤ R.slots) (hd : decode cc pc = .ok (.invokestatic idx, 3)) (kk : ∀  (σ2 : owSt), P1  σ2 → Wm l G cc nL own rt R Ex Qf (pc + 3) lv (rest) σ2 cells slots) : Wm l G cc nL own rt R Ex Qf pc lv st σ cells slots :=
  m_callS cv As rest hC hst hn hR hW hf hd (fun r σ2 h => by obtain ⟨rfl, h⟩ := h; exact kk σ2 h)
theorem m_callNi {idx nb n lvl : Nat} {host : String} {y : MethodName} {cb : ByteArray} {rb : Option FieldType} {st : List Value} {P1 : Int32 → owSt → Prop} (cv : cnOk own idx host y cb nb rb n) (As : List Value) (rest : List Value) (hC : Ct l G y cb nb rb lvl 0 0 As σ (qI P1)) (hst : st = As.reverse ++ rest) (hn : As.length = n) (hR : lvl + 1 ≤ R.frames ∧ 8 + (nb + 11) + 40 * lvl ≤ R.locals) (hW : (rest.map fun v => v.category).sum ≤ 8) (hf : cells ≤ R.cells ∧ slots ≤ R.slots) (hd : decode cc pc = .ok (.invokestatic idx, 3)) (kk : ∀ (x : Int32) (σ2 : owSt), P1 x σ2 → Wm l G cc nL own rt R Ex Qf (pc + 3) lv (.int x :: rest) σ2 cells slots) : Wm l G cc nL own rt R Ex Qf pc lv st σ cells slots :=
  m_callN cv As rest hC hst hn hR hW hf hd (fun r σ2 h => by obtain ⟨x, rfl, h⟩ := h; exact kk x σ2 h)
theorem m_callNl {idx nb n lvl : Nat} {host : String} {y : MethodName} {cb : ByteArray} {rb : Option FieldType} {st : List Value} {P1 : Int64 → owSt → Prop} (cv : cnOk own idx host y cb nb rb n) (As : List Value) (rest : List Value) (hC : Ct l G y cb nb rb lvl 0 0 As σ (qL P1)) (hst : st = As.reverse ++ rest) (hn : As.length = n) (hR : lvl + 1 ≤ R.frames ∧ 8 + (nb + 11) + 40 * lvl ≤ R.locals) (hW : (rest.map fun v => v.category).sum ≤ 8) (hf : cells ≤ R.cells ∧ slots ≤ R.slots) (hd : decode cc pc = .ok (.invokestatic idx, 3)) (kk : ∀ (x : Int64) (σ2 : owSt), P1 x σ2 → Wm l G cc nL own rt R Ex Qf (pc + 3) lv (.long x :: rest) σ2 cells slots) : Wm l G cc nL own rt R Ex Qf pc lv st σ cells slots :=
  m_callN cv As rest hC hst hn hR hW hf hd (fun r σ2 h => by obtain ⟨x, rfl, h⟩ := h; exact kk x σ2 h)
theorem m_callNr {idx nb n lvl : Nat} {host : String} {y : MethodName} {cb : ByteArray} {rb : Option FieldType} {st : List Value} {P1 : Option Nat → owSt → Prop} (cv : cnOk own idx host y cb nb rb n) (As : List Value) (rest : List Value) (hC : Ct l G y cb nb rb lvl 0 0 As σ (qR P1)) (hst : st = As.reverse ++ rest) (hn : As.length = n) (hR : lvl + 1 ≤ R.frames ∧ 8 + (nb + 11) + 40 * lvl ≤ R.locals) (hW : (rest.map fun v => v.category).sum ≤ 8) (hf : cells ≤ R.cells ∧ slots ≤ R.slots) (hd : decode cc pc = .ok (.invokestatic idx, 3)) (kk : ∀ (x : Option Nat) (σ2 : owSt), P1 x σ2 → Wm l G cc nL own rt R Ex Qf (pc + 3) lv (va_rf x :: rest) σ2 cells slots) : Wm l G cc nL own rt R Ex Qf pc lv st σ cells slots :=
  m_callN cv As rest hC hst hn hR hW hf hd (fun r σ2 h => by obtain ⟨x, rfl, h⟩ := h; exact kk x σ2 h)
theorem m_callNv {idx nb n lvl : Nat} {host : String} {y : MethodName} {cb : ByteArray} {rb : Option FieldType} {st : List Value} {P1 : owSt → Prop} (cv : cnOk own idx host y cb nb rb n) (As : List Value) (rest : List Value) (hC : Ct l G y cb nb rb lvl 0 0 As σ (qV P1)) (hst : st = As.reverse ++ rest) (hn : As.length = n) (hR : lvl + 1 ≤ R.frames ∧ 8 + (nb + 11) + 40 * lvl ≤ R.locals) (hW : (rest.map fun v => v.category).sum ≤ 8) (hf : cells ≤ R.cells ∧ slots ≤ R.slots) (hd : decode cc pc = .ok (.invokestatic idx, 3)) (kk : ∀  (σ2 : owSt), P1  σ2 → Wm l G cc nL own rt R Ex Qf (pc + 3) lv (rest) σ2 cells slots) : Wm l G cc nL own rt R Ex Qf pc lv st σ cells slots :=
  m_callN cv As rest hC hst hn hR hW hf hd (fun r σ2 h => by obtain ⟨rfl, h⟩ := h; exact kk σ2 h)
end OWX
section OWU
variable {l : Launch} {G : owG} {cc : ByteArray} {nL : Nat} {own : String} {rt : Option FieldType} {R : Room} {Ex : State → Prop} {Qf : List Frame → Array Value → State → State → Prop} {pc : Nat} {lv : List (Nat × Value)} {rest : List Value} {σ : owSt} {cells slots : Nat}
def cuOk (own : String) (idx : Nat) (C : String) (x y : MethodName) (cb : ByteArray) (nb : Nat) (rb : Option FieldType) (n : Nat) : Prop := (Cond.methodLink own idx x ∈ owTB ∧ Cond.sameMethod x.cls "OwnWays$Way" x.name x.desc ∈ owTB ∧ Cond.instanceMethod ⟨"OwnWays$Way", x.name, x.desc⟩ ∈ owTB ∧ Cond.selects C x y ∈ owTB ∧ Cond.instanceMethod y ∈ owTB ∧ Cond.initialized y.cls ∈ owTB ∧ Cond.code y cb nb rb ∈ owTB) ∧ (∃ b0 m0 r0, Cond.code ⟨"OwnWays$Way", x.name, x.desc⟩ b0 m0 r0 ∈ owTB) ∧ (parseMethodDescriptor x.desc).map (fun d => d.parameters.length) = some n
def csuOk (own : String) (idx : Nat) (y : MethodName) (cb : ByteArray) (nb : Nat) (rb : Option FieldType) (n : Nat) : Prop := (Cond.methodLink own idx y ∈ owTB ∧ Cond.sameMethod y.cls y.cls y.name y.desc ∈ owTB ∧ Cond.superclass own y.cls ∈ owTB ∧ Cond.instanceMethod y ∈ owTB ∧ Cond.initialized y.cls ∈ owTB ∧ Cond.code y cb nb rb ∈ owTB) ∧ y.name ≠ "<init>" ∧ (parseMethodDescriptor y.desc).map (fun d => d.parameters.length) = some n
theorem m_callU {idx nb n lvl mc ms a N : Nat} {w : owW} {C : String} {x y : MethodName} {cb : ByteArray} {rb : Option FieldType} {st : List Value} {Q1 : Option Value → owSt → Prop} {T : u_T} (cu : cuOk own idx C x y cb nb rb n) (As : List Value) (rest : List Value) (hC : Ct l G y cb nb rb lvl mc ms (.ref a :: As) σ Q1) (ha : σ.2.2.2.2.2.2.2.2 a = some w) (hc : vwCl[owCi w.1]? = some (C, T, N)) (hst : st = As.reverse ++ .ref a :: rest) (hn : As.length = n) (hR : lvl + 1 ≤ R.frames ∧ 8 + (nb + 11) + 40 * lvl ≤ R.locals) (hW : (rest.map fun v => v.category).sum ≤ 8) (hf : cells + mc ≤ R.cells ∧ slots + ms ≤ R.slots) (hd : decode cc pc = .ok (.invokevirtual idx, 3))
    (kk : ∀ (r : Option Value) (σ2 : owSt), Q1 r σ2 → Wm l G cc nL own rt R Ex Qf (pc + 3) lv (r.toList ++ rest) σ2 (cells + mc) (slots + ms)) : Wm l G cc nL own rt R Ex Qf pc lv st σ cells slots := by
  intro p e s m args below meth c H locs ls X
  obtain ⟨hx, hb, hml, ho, hts, hr, hlk, hE, hK, hH, hS, hB, hl⟩ := id X
  obtain ⟨⟨w1, w2, w3, w4, w5, w6, w7⟩, ⟨b0, m0, r0, w8⟩, w9⟩ := cu
  have hsz : ls.size = nL := hl.1
  have hG : GoodIn owTB (va_wsO own idx C "OwnWays$Way" x y (owWs y cb nb rb)) := fun w hw => by
    unfold va_wsO at hw
    rcases List.mem_append.mp hw with hw | hw
    · have hw2 : w ∈ owTB := by
        simp only [List.mem_cons, List.not_mem_nil, or_false] at hw
        rcases hw with rfl | rfl | rfl | rfl | rfl | rfl <;> assumption
      exact ⟨hw2, owTB_good hw2⟩
    · exact owGood w7 w hw
  exact QQ.run (va_runU (As := As) (rest := rest) (b := a) ⟨hx, hb, hml, ho, hts⟩ hC (va_cwO n hts hG rfl rfl rfl w8 ⟨by decide, by decide, w9⟩ hR) ⟨owBlind, va_recv hK (owP1 (hH.2.1 a w ha).1) hc (q0 := 0) rfl, owPre X _⟩ rfl hn hsz hst (lv_room hW) hd hf) X (fun r σ2 H1 locs1 hq X1 => kk r σ2 hq _ _ _ _ _ _ _ _ _ _ _ X1)
theorem m_callSU {idx nb n lvl mc ms a N : Nat} {w : owW} {C : String} {y : MethodName} {cb : ByteArray} {rb : Option FieldType} {st : List Value} {Q1 : Option Value → owSt → Prop} {T : u_T} (cu : csuOk own idx y cb nb rb n) (As : List Value) (rest : List Value) (hC : Ct l G y cb nb rb lvl mc ms (.ref a :: As) σ Q1) (ha : σ.2.2.2.2.2.2.2.2 a = some w) (hc : vwCl[owCi w.1]? = some (C, T, N)) (hst : st = As.reverse ++ .ref a :: rest) (hn : As.length = n) (hR : lvl + 1 ≤ R.frames ∧ 8 + (nb + 11) + 40 * lvl ≤ R.locals) (hW : (rest.map fun v => v.category).sum ≤ 8) (hf : cells + mc ≤ R.cells ∧ slots + ms ≤ R.slots) (hd : decode cc pc = .ok (.invokespecial idx, 3))
    (kk : ∀ (r : Option Value) (σ2 : owSt), Q1 r σ2 → Wm l G cc nL own rt R Ex Qf (pc + 3) lv (r.toList ++ rest) σ2 (cells + mc) (slots + ms)) : Wm l G cc nL own rt R Ex Qf pc lv st σ cells slots := by
  intro p e s m args below meth c H locs ls X
  obtain ⟨hx, hb, hml, ho, hts, hr, hlk, hE, hK, hH, hS, hB, hl⟩ := id X
  obtain ⟨⟨w1, w2, w3, w4, w5, w6⟩, w8, w9⟩ := cu
  have hsz : ls.size = nL := hl.1
  have hG : GoodIn owTB (va_wsSU own idx y (owWs y cb nb rb)) := fun w hw => by
    unfold va_wsSU at hw
    rcases List.mem_append.mp hw with hw | hw
    · have hw2 : w ∈ owTB := by
        simp only [List.mem_cons, List.not_mem_nil, or_false] at hw
        rcases hw with rfl | rfl | rfl | rfl | rfl <;> assumption
      exact ⟨hw2, owTB_good hw2⟩
    · exact owGood w6 w hw
  exact QQ.run (va_runSU (As := As) (rest := rest) (b := a) (hK.1 _ _ hc).2 ⟨hx, hb, hml, ho, hts⟩ hC (va_cwSU n hts hG rfl rfl rfl ⟨w8, w9⟩ hR) ⟨owBlind, va_recv hK (owP1 (hH.2.1 a w ha).1) hc (q0 := 0) rfl, owPre X _⟩ rfl hn hsz hst (lv_room hW) hd hf) X (fun r σ2 H1 locs1 hq X1 => kk r σ2 hq _ _ _ _ _ _ _ _ _ _ _ X1)
theorem m_callUi {idx nb n lvl a N : Nat} {w : owW} {C : String} {x y : MethodName} {cb : ByteArray} {rb : Option FieldType} {st : List Value} {P1 : Int32 → owSt → Prop} {T : u_T} (cu : cuOk own idx C x y cb nb rb n) (As : List Value) (rest : List Value) (hC : Ct l G y cb nb rb lvl 0 0 (.ref a :: As) σ (qI P1)) (ha : σ.2.2.2.2.2.2.2.2 a = some w) (hc : vwCl[owCi w.1]? = some (C, T, N)) (hst : st = As.reverse ++ .ref a :: rest) (hn : As.length = n) (hR : lvl + 1 ≤ R.frames ∧ 8 + (nb + 11) + 40 * lvl ≤ R.locals) (hW : (rest.map fun v => v.category).sum ≤ 8) (hf : cells ≤ R.cells ∧ slots ≤ R.slots) (hd : decode cc pc = .ok (.invokevirtual idx, 3))
    (kk : ∀ (x : Int32) (σ2 : owSt), P1 x σ2 → Wm l G cc nL own rt R Ex Qf (pc + 3) lv (.int x :: rest) σ2 cells slots) : Wm l G cc nL own rt R Ex Qf pc lv st σ cells slots :=
  m_callU cu As rest hC ha hc hst hn hR hW hf hd (fun r σ2 h => by obtain ⟨x, rfl, h⟩ := h; exact kk x σ2 h)
theorem m_callSUi {idx nb n lvl a N : Nat} {w : owW} {C : String} {y : MethodName} {cb : ByteArray} {rb : Option FieldType} {st : List Value} {P1 : Int32 → owSt → Prop} {T : u_T} (cu : csuOk own idx y cb nb rb n) (As : List Value) (rest : List Value) (hC : Ct l G y cb nb rb lvl 0 0 (.ref a :: As) σ (qI P1)) (ha : σ.2.2.2.2.2.2.2.2 a = some w) (hc : vwCl[owCi w.1]? = some (C, T, N)) (hst : st = As.reverse ++ .ref a :: rest) (hn : As.length = n) (hR : lvl + 1 ≤ R.frames ∧ 8 + (nb + 11) + 40 * lvl ≤ R.locals) (hW : (rest.map fun v => v.category).sum ≤ 8) (hf : cells ≤ R.cells ∧ slots ≤ R.slots) (hd : decode cc pc = .ok (.invokespecial idx, 3))
    (kk : ∀ (x : Int32) (σ2 : owSt), P1 x σ2 → Wm l G cc nL own rt R Ex Qf (pc + 3) lv (.int x :: rest) σ2 cells slots) : Wm l G cc nL own rt R Ex Qf pc lv st σ cells slots :=
  m_callSU cu As rest hC ha hc hst hn hR hW hf hd (fun r σ2 h => by obtain ⟨x, rfl, h⟩ := h; exact kk x σ2 h)
end OWU
theorem tw_82 : (Jvm.Cond.initialized "OwnWays$Turned") ∈ owTB := owTB_of (List.mem_of_getElem? (i := 82) (by decide +kernel)) rfl
theorem tw_83 : (Jvm.Cond.initialized "OwnWays$Nought") ∈ owTB := owTB_of (List.mem_of_getElem? (i := 83) (by decide +kernel)) rfl
theorem tw_84 : (Jvm.Cond.initialized "OwnWays$Given") ∈ owTB := owTB_of (List.mem_of_getElem? (i := 84) (by decide +kernel)) rfl
theorem tw_85 : (Jvm.Cond.initialized "OwnWays$Across") ∈ owTB := owTB_of (List.mem_of_getElem? (i := 85) (by decide +kernel)) rfl
theorem tw_86 : (Jvm.Cond.initialized "OwnWays$Zero") ∈ owTB := owTB_of (List.mem_of_getElem? (i := 86) (by decide +kernel)) rfl
theorem tw_87 : (Jvm.Cond.initialized "OwnWays$Patched") ∈ owTB := owTB_of (List.mem_of_getElem? (i := 87) (by decide +kernel)) rfl
theorem tw_88 : (Jvm.Cond.initialized "OwnWays$Topped") ∈ owTB := owTB_of (List.mem_of_getElem? (i := 88) (by decide +kernel)) rfl
theorem tw_353 : (Jvm.Cond.superclass "OwnWays$Turned" "OwnWays$Way") ∈ owTB := owTB_of (List.mem_of_getElem? (i := 353) (by decide +kernel)) rfl
theorem tw_364 : (Jvm.Cond.superclass "OwnWays$Nought" "OwnWays$Way") ∈ owTB := owTB_of (List.mem_of_getElem? (i := 364) (by decide +kernel)) rfl
theorem tw_375 : (Jvm.Cond.superclass "OwnWays$Given" "OwnWays$Way") ∈ owTB := owTB_of (List.mem_of_getElem? (i := 375) (by decide +kernel)) rfl
theorem tw_386 : (Jvm.Cond.superclass "OwnWays$Across" "OwnWays$Way") ∈ owTB := owTB_of (List.mem_of_getElem? (i := 386) (by decide +kernel)) rfl
theorem tw_397 : (Jvm.Cond.superclass "OwnWays$Zero" "OwnWays$Turned") ∈ owTB := owTB_of (List.mem_of_getElem? (i := 397) (by decide +kernel)) rfl
theorem tw_408 : (Jvm.Cond.superclass "OwnWays$Patched" "OwnWays$Across") ∈ owTB := owTB_of (List.mem_of_getElem? (i := 408) (by decide +kernel)) rfl
theorem tw_419 : (Jvm.Cond.superclass "OwnWays$Topped" "OwnWays$Given") ∈ owTB := owTB_of (List.mem_of_getElem? (i := 419) (by decide +kernel)) rfl
theorem tw_448 : (Jvm.Cond.sameMethod "OwnWays$Way" "OwnWays$Way" "teachingCost" "()I") ∈ owTB := owTB_of (List.mem_of_getElem? (i := 448) (by decide +kernel)) rfl
theorem tw_449 : (Jvm.Cond.selects "OwnWays$Across" ({ cls := "OwnWays$Way", name := "teachingCost", desc := "()I" } : Jvm.MethodName) ({ cls := "OwnWays$Across", name := "teachingCost", desc := "()I" } : Jvm.MethodName)) ∈ owTB := owTB_of (List.mem_of_getElem? (i := 449) (by decide +kernel)) rfl
theorem tw_450 : (Jvm.Cond.instanceMethod ({ cls := "OwnWays$Across", name := "teachingCost", desc := "()I" } : Jvm.MethodName)) ∈ owTB := owTB_of (List.mem_of_getElem? (i := 450) (by decide +kernel)) rfl
theorem tw_451 : (Jvm.Cond.code ({ cls := "OwnWays$Across", name := "teachingCost", desc := "()I" } : Jvm.MethodName) prog_2_method_2_code (1 : Nat) (Option.some Jvm.ClassFile.FieldType.int)) ∈ owTB := owTB_of (List.mem_of_getElem? (i := 451) (by decide +kernel)) rfl
theorem tw_453 : (Jvm.Cond.selects "OwnWays$Given" ({ cls := "OwnWays$Way", name := "teachingCost", desc := "()I" } : Jvm.MethodName) ({ cls := "OwnWays$Given", name := "teachingCost", desc := "()I" } : Jvm.MethodName)) ∈ owTB := owTB_of (List.mem_of_getElem? (i := 453) (by decide +kernel)) rfl
theorem tw_454 : (Jvm.Cond.instanceMethod ({ cls := "OwnWays$Given", name := "teachingCost", desc := "()I" } : Jvm.MethodName)) ∈ owTB := owTB_of (List.mem_of_getElem? (i := 454) (by decide +kernel)) rfl
theorem tw_455 : (Jvm.Cond.code ({ cls := "OwnWays$Given", name := "teachingCost", desc := "()I" } : Jvm.MethodName) prog_3_method_2_code (1 : Nat) (Option.some Jvm.ClassFile.FieldType.int)) ∈ owTB := owTB_of (List.mem_of_getElem? (i := 455) (by decide +kernel)) rfl
theorem tw_457 : (Jvm.Cond.selects "OwnWays$Nought" ({ cls := "OwnWays$Way", name := "teachingCost", desc := "()I" } : Jvm.MethodName) ({ cls := "OwnWays$Nought", name := "teachingCost", desc := "()I" } : Jvm.MethodName)) ∈ owTB := owTB_of (List.mem_of_getElem? (i := 457) (by decide +kernel)) rfl
theorem tw_458 : (Jvm.Cond.instanceMethod ({ cls := "OwnWays$Nought", name := "teachingCost", desc := "()I" } : Jvm.MethodName)) ∈ owTB := owTB_of (List.mem_of_getElem? (i := 458) (by decide +kernel)) rfl
theorem tw_459 : (Jvm.Cond.code ({ cls := "OwnWays$Nought", name := "teachingCost", desc := "()I" } : Jvm.MethodName) prog_4_method_2_code (1 : Nat) (Option.some Jvm.ClassFile.FieldType.int)) ∈ owTB := owTB_of (List.mem_of_getElem? (i := 459) (by decide +kernel)) rfl
theorem tw_461 : (Jvm.Cond.selects "OwnWays$Patched" ({ cls := "OwnWays$Way", name := "teachingCost", desc := "()I" } : Jvm.MethodName) ({ cls := "OwnWays$Patched", name := "teachingCost", desc := "()I" } : Jvm.MethodName)) ∈ owTB := owTB_of (List.mem_of_getElem? (i := 461) (by decide +kernel)) rfl
theorem tw_462 : (Jvm.Cond.instanceMethod ({ cls := "OwnWays$Patched", name := "teachingCost", desc := "()I" } : Jvm.MethodName)) ∈ owTB := owTB_of (List.mem_of_getElem? (i := 462) (by decide +kernel)) rfl
theorem tw_463 : (Jvm.Cond.code ({ cls := "OwnWays$Patched", name := "teachingCost", desc := "()I" } : Jvm.MethodName) prog_6_method_2_code (1 : Nat) (Option.some Jvm.ClassFile.FieldType.int)) ∈ owTB := owTB_of (List.mem_of_getElem? (i := 463) (by decide +kernel)) rfl
theorem tw_464 : (Jvm.Cond.methodLink "OwnWays$Patched" (9 : Nat) ({ cls := "OwnWays$Across", name := "teachingCost", desc := "()I" } : Jvm.MethodName)) ∈ owTB := owTB_of (List.mem_of_getElem? (i := 464) (by decide +kernel)) rfl
theorem tw_465 : (Jvm.Cond.selects "OwnWays$Topped" ({ cls := "OwnWays$Way", name := "teachingCost", desc := "()I" } : Jvm.MethodName) ({ cls := "OwnWays$Topped", name := "teachingCost", desc := "()I" } : Jvm.MethodName)) ∈ owTB := owTB_of (List.mem_of_getElem? (i := 465) (by decide +kernel)) rfl
theorem tw_466 : (Jvm.Cond.instanceMethod ({ cls := "OwnWays$Topped", name := "teachingCost", desc := "()I" } : Jvm.MethodName)) ∈ owTB := owTB_of (List.mem_of_getElem? (i := 466) (by decide +kernel)) rfl
theorem tw_467 : (Jvm.Cond.code ({ cls := "OwnWays$Topped", name := "teachingCost", desc := "()I" } : Jvm.MethodName) prog_9_method_2_code (1 : Nat) (Option.some Jvm.ClassFile.FieldType.int)) ∈ owTB := owTB_of (List.mem_of_getElem? (i := 467) (by decide +kernel)) rfl
theorem tw_468 : (Jvm.Cond.methodLink "OwnWays$Topped" (9 : Nat) ({ cls := "OwnWays$Given", name := "teachingCost", desc := "()I" } : Jvm.MethodName)) ∈ owTB := owTB_of (List.mem_of_getElem? (i := 468) (by decide +kernel)) rfl
theorem tw_469 : (Jvm.Cond.selects "OwnWays$Turned" ({ cls := "OwnWays$Way", name := "teachingCost", desc := "()I" } : Jvm.MethodName) ({ cls := "OwnWays$Turned", name := "teachingCost", desc := "()I" } : Jvm.MethodName)) ∈ owTB := owTB_of (List.mem_of_getElem? (i := 469) (by decide +kernel)) rfl
theorem tw_470 : (Jvm.Cond.instanceMethod ({ cls := "OwnWays$Turned", name := "teachingCost", desc := "()I" } : Jvm.MethodName)) ∈ owTB := owTB_of (List.mem_of_getElem? (i := 470) (by decide +kernel)) rfl
theorem tw_471 : (Jvm.Cond.code ({ cls := "OwnWays$Turned", name := "teachingCost", desc := "()I" } : Jvm.MethodName) prog_10_method_2_code (1 : Nat) (Option.some Jvm.ClassFile.FieldType.int)) ∈ owTB := owTB_of (List.mem_of_getElem? (i := 471) (by decide +kernel)) rfl
theorem tw_473 : (Jvm.Cond.selects "OwnWays$Zero" ({ cls := "OwnWays$Way", name := "teachingCost", desc := "()I" } : Jvm.MethodName) ({ cls := "OwnWays$Zero", name := "teachingCost", desc := "()I" } : Jvm.MethodName)) ∈ owTB := owTB_of (List.mem_of_getElem? (i := 473) (by decide +kernel)) rfl
theorem tw_474 : (Jvm.Cond.instanceMethod ({ cls := "OwnWays$Zero", name := "teachingCost", desc := "()I" } : Jvm.MethodName)) ∈ owTB := owTB_of (List.mem_of_getElem? (i := 474) (by decide +kernel)) rfl
theorem tw_475 : (Jvm.Cond.code ({ cls := "OwnWays$Zero", name := "teachingCost", desc := "()I" } : Jvm.MethodName) prog_12_method_2_code (1 : Nat) (Option.some Jvm.ClassFile.FieldType.int)) ∈ owTB := owTB_of (List.mem_of_getElem? (i := 475) (by decide +kernel)) rfl
theorem tw_476 : (Jvm.Cond.methodLink "OwnWays$Zero" (7 : Nat) ({ cls := "OwnWays$Turned", name := "teachingCost", desc := "()I" } : Jvm.MethodName)) ∈ owTB := owTB_of (List.mem_of_getElem? (i := 476) (by decide +kernel)) rfl
theorem tw_521 : (Jvm.Cond.sameMethod "OwnWays$Way" "OwnWays$Way" "writes" "(LOwnWays$Paper;III)I") ∈ owTB := owTB_of (List.mem_of_getElem? (i := 521) (by decide +kernel)) rfl
theorem tw_522 : (Jvm.Cond.selects "OwnWays$Across" ({ cls := "OwnWays$Way", name := "writes", desc := "(LOwnWays$Paper;III)I" } : Jvm.MethodName) ({ cls := "OwnWays$Across", name := "writes", desc := "(LOwnWays$Paper;III)I" } : Jvm.MethodName)) ∈ owTB := owTB_of (List.mem_of_getElem? (i := 522) (by decide +kernel)) rfl
theorem tw_523 : (Jvm.Cond.instanceMethod ({ cls := "OwnWays$Across", name := "writes", desc := "(LOwnWays$Paper;III)I" } : Jvm.MethodName)) ∈ owTB := owTB_of (List.mem_of_getElem? (i := 523) (by decide +kernel)) rfl
theorem tw_524 : (Jvm.Cond.code ({ cls := "OwnWays$Across", name := "writes", desc := "(LOwnWays$Paper;III)I" } : Jvm.MethodName) prog_2_method_3_code (5 : Nat) (Option.some Jvm.ClassFile.FieldType.int)) ∈ owTB := owTB_of (List.mem_of_getElem? (i := 524) (by decide +kernel)) rfl
theorem tw_529 : (Jvm.Cond.selects "OwnWays$Given" ({ cls := "OwnWays$Way", name := "writes", desc := "(LOwnWays$Paper;III)I" } : Jvm.MethodName) ({ cls := "OwnWays$Given", name := "writes", desc := "(LOwnWays$Paper;III)I" } : Jvm.MethodName)) ∈ owTB := owTB_of (List.mem_of_getElem? (i := 529) (by decide +kernel)) rfl
theorem tw_530 : (Jvm.Cond.instanceMethod ({ cls := "OwnWays$Given", name := "writes", desc := "(LOwnWays$Paper;III)I" } : Jvm.MethodName)) ∈ owTB := owTB_of (List.mem_of_getElem? (i := 530) (by decide +kernel)) rfl
theorem tw_531 : (Jvm.Cond.code ({ cls := "OwnWays$Given", name := "writes", desc := "(LOwnWays$Paper;III)I" } : Jvm.MethodName) prog_3_method_3_code (5 : Nat) (Option.some Jvm.ClassFile.FieldType.int)) ∈ owTB := owTB_of (List.mem_of_getElem? (i := 531) (by decide +kernel)) rfl
theorem tw_532 : (Jvm.Cond.selects "OwnWays$Nought" ({ cls := "OwnWays$Way", name := "writes", desc := "(LOwnWays$Paper;III)I" } : Jvm.MethodName) ({ cls := "OwnWays$Nought", name := "writes", desc := "(LOwnWays$Paper;III)I" } : Jvm.MethodName)) ∈ owTB := owTB_of (List.mem_of_getElem? (i := 532) (by decide +kernel)) rfl
theorem tw_533 : (Jvm.Cond.instanceMethod ({ cls := "OwnWays$Nought", name := "writes", desc := "(LOwnWays$Paper;III)I" } : Jvm.MethodName)) ∈ owTB := owTB_of (List.mem_of_getElem? (i := 533) (by decide +kernel)) rfl
theorem tw_534 : (Jvm.Cond.code ({ cls := "OwnWays$Nought", name := "writes", desc := "(LOwnWays$Paper;III)I" } : Jvm.MethodName) prog_4_method_3_code (5 : Nat) (Option.some Jvm.ClassFile.FieldType.int)) ∈ owTB := owTB_of (List.mem_of_getElem? (i := 534) (by decide +kernel)) rfl
theorem tw_535 : (Jvm.Cond.selects "OwnWays$Patched" ({ cls := "OwnWays$Way", name := "writes", desc := "(LOwnWays$Paper;III)I" } : Jvm.MethodName) ({ cls := "OwnWays$Patched", name := "writes", desc := "(LOwnWays$Paper;III)I" } : Jvm.MethodName)) ∈ owTB := owTB_of (List.mem_of_getElem? (i := 535) (by decide +kernel)) rfl
theorem tw_536 : (Jvm.Cond.instanceMethod ({ cls := "OwnWays$Patched", name := "writes", desc := "(LOwnWays$Paper;III)I" } : Jvm.MethodName)) ∈ owTB := owTB_of (List.mem_of_getElem? (i := 536) (by decide +kernel)) rfl
theorem tw_537 : (Jvm.Cond.code ({ cls := "OwnWays$Patched", name := "writes", desc := "(LOwnWays$Paper;III)I" } : Jvm.MethodName) prog_6_method_3_code (5 : Nat) (Option.some Jvm.ClassFile.FieldType.int)) ∈ owTB := owTB_of (List.mem_of_getElem? (i := 537) (by decide +kernel)) rfl
theorem tw_539 : (Jvm.Cond.methodLink "OwnWays$Patched" (29 : Nat) ({ cls := "OwnWays$Across", name := "writes", desc := "(LOwnWays$Paper;III)I" } : Jvm.MethodName)) ∈ owTB := owTB_of (List.mem_of_getElem? (i := 539) (by decide +kernel)) rfl
theorem tw_540 : (Jvm.Cond.selects "OwnWays$Topped" ({ cls := "OwnWays$Way", name := "writes", desc := "(LOwnWays$Paper;III)I" } : Jvm.MethodName) ({ cls := "OwnWays$Topped", name := "writes", desc := "(LOwnWays$Paper;III)I" } : Jvm.MethodName)) ∈ owTB := owTB_of (List.mem_of_getElem? (i := 540) (by decide +kernel)) rfl
theorem tw_541 : (Jvm.Cond.instanceMethod ({ cls := "OwnWays$Topped", name := "writes", desc := "(LOwnWays$Paper;III)I" } : Jvm.MethodName)) ∈ owTB := owTB_of (List.mem_of_getElem? (i := 541) (by decide +kernel)) rfl
theorem tw_542 : (Jvm.Cond.code ({ cls := "OwnWays$Topped", name := "writes", desc := "(LOwnWays$Paper;III)I" } : Jvm.MethodName) prog_9_method_3_code (5 : Nat) (Option.some Jvm.ClassFile.FieldType.int)) ∈ owTB := owTB_of (List.mem_of_getElem? (i := 542) (by decide +kernel)) rfl
theorem tw_543 : (Jvm.Cond.methodLink "OwnWays$Topped" (13 : Nat) ({ cls := "OwnWays$Given", name := "writes", desc := "(LOwnWays$Paper;III)I" } : Jvm.MethodName)) ∈ owTB := owTB_of (List.mem_of_getElem? (i := 543) (by decide +kernel)) rfl
theorem tw_544 : (Jvm.Cond.selects "OwnWays$Turned" ({ cls := "OwnWays$Way", name := "writes", desc := "(LOwnWays$Paper;III)I" } : Jvm.MethodName) ({ cls := "OwnWays$Turned", name := "writes", desc := "(LOwnWays$Paper;III)I" } : Jvm.MethodName)) ∈ owTB := owTB_of (List.mem_of_getElem? (i := 544) (by decide +kernel)) rfl
theorem tw_545 : (Jvm.Cond.instanceMethod ({ cls := "OwnWays$Turned", name := "writes", desc := "(LOwnWays$Paper;III)I" } : Jvm.MethodName)) ∈ owTB := owTB_of (List.mem_of_getElem? (i := 545) (by decide +kernel)) rfl
theorem tw_546 : (Jvm.Cond.code ({ cls := "OwnWays$Turned", name := "writes", desc := "(LOwnWays$Paper;III)I" } : Jvm.MethodName) prog_10_method_3_code (5 : Nat) (Option.some Jvm.ClassFile.FieldType.int)) ∈ owTB := owTB_of (List.mem_of_getElem? (i := 546) (by decide +kernel)) rfl
theorem tw_547 : (Jvm.Cond.selects "OwnWays$Zero" ({ cls := "OwnWays$Way", name := "writes", desc := "(LOwnWays$Paper;III)I" } : Jvm.MethodName) ({ cls := "OwnWays$Zero", name := "writes", desc := "(LOwnWays$Paper;III)I" } : Jvm.MethodName)) ∈ owTB := owTB_of (List.mem_of_getElem? (i := 547) (by decide +kernel)) rfl
theorem tw_548 : (Jvm.Cond.instanceMethod ({ cls := "OwnWays$Zero", name := "writes", desc := "(LOwnWays$Paper;III)I" } : Jvm.MethodName)) ∈ owTB := owTB_of (List.mem_of_getElem? (i := 548) (by decide +kernel)) rfl
theorem tw_549 : (Jvm.Cond.code ({ cls := "OwnWays$Zero", name := "writes", desc := "(LOwnWays$Paper;III)I" } : Jvm.MethodName) prog_12_method_3_code (5 : Nat) (Option.some Jvm.ClassFile.FieldType.int)) ∈ owTB := owTB_of (List.mem_of_getElem? (i := 549) (by decide +kernel)) rfl
theorem tw_550 : (Jvm.Cond.methodLink "OwnWays$Zero" (11 : Nat) ({ cls := "OwnWays$Turned", name := "writes", desc := "(LOwnWays$Paper;III)I" } : Jvm.MethodName)) ∈ owTB := owTB_of (List.mem_of_getElem? (i := 550) (by decide +kernel)) rfl
theorem tw_882 : (Jvm.Cond.sameMethod "OwnWays$Way" "OwnWays$Way" "hasFailure" "()Z") ∈ owTB := owTB_of (List.mem_of_getElem? (i := 882) (by decide +kernel)) rfl
theorem tw_883 : (Jvm.Cond.selects "OwnWays$Across" ({ cls := "OwnWays$Way", name := "hasFailure", desc := "()Z" } : Jvm.MethodName) ({ cls := "OwnWays$Way", name := "hasFailure", desc := "()Z" } : Jvm.MethodName)) ∈ owTB := owTB_of (List.mem_of_getElem? (i := 883) (by decide +kernel)) rfl
theorem tw_884 : (Jvm.Cond.selects "OwnWays$Given" ({ cls := "OwnWays$Way", name := "hasFailure", desc := "()Z" } : Jvm.MethodName) ({ cls := "OwnWays$Way", name := "hasFailure", desc := "()Z" } : Jvm.MethodName)) ∈ owTB := owTB_of (List.mem_of_getElem? (i := 884) (by decide +kernel)) rfl
theorem tw_885 : (Jvm.Cond.selects "OwnWays$Nought" ({ cls := "OwnWays$Way", name := "hasFailure", desc := "()Z" } : Jvm.MethodName) ({ cls := "OwnWays$Way", name := "hasFailure", desc := "()Z" } : Jvm.MethodName)) ∈ owTB := owTB_of (List.mem_of_getElem? (i := 885) (by decide +kernel)) rfl
theorem tw_886 : (Jvm.Cond.selects "OwnWays$Patched" ({ cls := "OwnWays$Way", name := "hasFailure", desc := "()Z" } : Jvm.MethodName) ({ cls := "OwnWays$Way", name := "hasFailure", desc := "()Z" } : Jvm.MethodName)) ∈ owTB := owTB_of (List.mem_of_getElem? (i := 886) (by decide +kernel)) rfl
theorem tw_887 : (Jvm.Cond.selects "OwnWays$Topped" ({ cls := "OwnWays$Way", name := "hasFailure", desc := "()Z" } : Jvm.MethodName) ({ cls := "OwnWays$Way", name := "hasFailure", desc := "()Z" } : Jvm.MethodName)) ∈ owTB := owTB_of (List.mem_of_getElem? (i := 887) (by decide +kernel)) rfl
theorem tw_888 : (Jvm.Cond.selects "OwnWays$Turned" ({ cls := "OwnWays$Way", name := "hasFailure", desc := "()Z" } : Jvm.MethodName) ({ cls := "OwnWays$Way", name := "hasFailure", desc := "()Z" } : Jvm.MethodName)) ∈ owTB := owTB_of (List.mem_of_getElem? (i := 888) (by decide +kernel)) rfl
theorem tw_889 : (Jvm.Cond.selects "OwnWays$Zero" ({ cls := "OwnWays$Way", name := "hasFailure", desc := "()Z" } : Jvm.MethodName) ({ cls := "OwnWays$Zero", name := "hasFailure", desc := "()Z" } : Jvm.MethodName)) ∈ owTB := owTB_of (List.mem_of_getElem? (i := 889) (by decide +kernel)) rfl
theorem tw_890 : (Jvm.Cond.instanceMethod ({ cls := "OwnWays$Zero", name := "hasFailure", desc := "()Z" } : Jvm.MethodName)) ∈ owTB := owTB_of (List.mem_of_getElem? (i := 890) (by decide +kernel)) rfl
theorem tw_891 : (Jvm.Cond.code ({ cls := "OwnWays$Zero", name := "hasFailure", desc := "()Z" } : Jvm.MethodName) prog_12_method_4_code (1 : Nat) (Option.some Jvm.ClassFile.FieldType.boolean)) ∈ owTB := owTB_of (List.mem_of_getElem? (i := 891) (by decide +kernel)) rfl
theorem tw_1459 : (Jvm.Cond.sameMethod "OwnWays$Across" "OwnWays$Across" "teachingCost" "()I") ∈ owTB := owTB_of (List.mem_of_getElem? (i := 1459) (by decide +kernel)) rfl
theorem tw_1460 : (Jvm.Cond.sameMethod "OwnWays$Given" "OwnWays$Given" "teachingCost" "()I") ∈ owTB := owTB_of (List.mem_of_getElem? (i := 1460) (by decide +kernel)) rfl
theorem tw_1461 : (Jvm.Cond.sameMethod "OwnWays$Turned" "OwnWays$Turned" "teachingCost" "()I") ∈ owTB := owTB_of (List.mem_of_getElem? (i := 1461) (by decide +kernel)) rfl
theorem tw_1462 : (Jvm.Cond.sameMethod "OwnWays$Across" "OwnWays$Across" "writes" "(LOwnWays$Paper;III)I") ∈ owTB := owTB_of (List.mem_of_getElem? (i := 1462) (by decide +kernel)) rfl
theorem tw_1463 : (Jvm.Cond.sameMethod "OwnWays$Given" "OwnWays$Given" "writes" "(LOwnWays$Paper;III)I") ∈ owTB := owTB_of (List.mem_of_getElem? (i := 1463) (by decide +kernel)) rfl
theorem tw_1464 : (Jvm.Cond.sameMethod "OwnWays$Turned" "OwnWays$Turned" "writes" "(LOwnWays$Paper;III)I") ∈ owTB := owTB_of (List.mem_of_getElem? (i := 1464) (by decide +kernel)) rfl
theorem cu_X3_29_0 : cuOk RX3 29 RX9 yX9_writes yX9_writes cX9_writes 5 ((some .int)) 4 := ⟨⟨tw_518, tw_521, tw_519, tw_520, tw_519, tw_81, tw_552⟩, ⟨_, _, _, tw_552⟩, by decide +kernel⟩
theorem cu_X3_29_1 : cuOk RX3 29 RX8 yX9_writes yX8_writes cX8_writes 5 ((some .int)) 4 := ⟨⟨tw_518, tw_521, tw_519, tw_544, tw_545, tw_82, tw_546⟩, ⟨_, _, _, tw_552⟩, by decide +kernel⟩
theorem cu_X3_29_2 : cuOk RX3 29 RX2 yX9_writes yX2_writes cX2_writes 5 ((some .int)) 4 := ⟨⟨tw_518, tw_521, tw_519, tw_532, tw_533, tw_83, tw_534⟩, ⟨_, _, _, tw_552⟩, by decide +kernel⟩
theorem cu_X3_29_3 : cuOk RX3 29 RX1 yX9_writes yX1_writes cX1_writes 5 ((some .int)) 4 := ⟨⟨tw_518, tw_521, tw_519, tw_529, tw_530, tw_84, tw_531⟩, ⟨_, _, _, tw_552⟩, by decide +kernel⟩
theorem cu_X3_29_4 : cuOk RX3 29 RX0 yX9_writes yX0_writes cX0_writes 5 ((some .int)) 4 := ⟨⟨tw_518, tw_521, tw_519, tw_522, tw_523, tw_85, tw_524⟩, ⟨_, _, _, tw_552⟩, by decide +kernel⟩
theorem cu_X3_29_5 : cuOk RX3 29 RX10 yX9_writes yX10_writes cX10_writes 5 ((some .int)) 4 := ⟨⟨tw_518, tw_521, tw_519, tw_547, tw_548, tw_86, tw_549⟩, ⟨_, _, _, tw_552⟩, by decide +kernel⟩
theorem cu_X3_29_6 : cuOk RX3 29 RX4 yX9_writes yX4_writes cX4_writes 5 ((some .int)) 4 := ⟨⟨tw_518, tw_521, tw_519, tw_535, tw_536, tw_87, tw_537⟩, ⟨_, _, _, tw_552⟩, by decide +kernel⟩
theorem cu_X3_29_7 : cuOk RX3 29 RX7 yX9_writes yX7_writes cX7_writes 5 ((some .int)) 4 := ⟨⟨tw_518, tw_521, tw_519, tw_540, tw_541, tw_88, tw_542⟩, ⟨_, _, _, tw_552⟩, by decide +kernel⟩
theorem cu_X11_91_0 : cuOk RX11 91 RX9 yX9_teachingCost yX9_teachingCost cX9_teachingCost 1 ((some .int)) 0 := ⟨⟨tw_445, tw_448, tw_446, tw_447, tw_446, tw_81, tw_477⟩, ⟨_, _, _, tw_477⟩, by decide +kernel⟩
theorem cu_X11_91_1 : cuOk RX11 91 RX8 yX9_teachingCost yX8_teachingCost cX8_teachingCost 1 ((some .int)) 0 := ⟨⟨tw_445, tw_448, tw_446, tw_469, tw_470, tw_82, tw_471⟩, ⟨_, _, _, tw_477⟩, by decide +kernel⟩
theorem cu_X11_91_2 : cuOk RX11 91 RX2 yX9_teachingCost yX2_teachingCost cX2_teachingCost 1 ((some .int)) 0 := ⟨⟨tw_445, tw_448, tw_446, tw_457, tw_458, tw_83, tw_459⟩, ⟨_, _, _, tw_477⟩, by decide +kernel⟩
theorem cu_X11_91_3 : cuOk RX11 91 RX1 yX9_teachingCost yX1_teachingCost cX1_teachingCost 1 ((some .int)) 0 := ⟨⟨tw_445, tw_448, tw_446, tw_453, tw_454, tw_84, tw_455⟩, ⟨_, _, _, tw_477⟩, by decide +kernel⟩
theorem cu_X11_91_4 : cuOk RX11 91 RX0 yX9_teachingCost yX0_teachingCost cX0_teachingCost 1 ((some .int)) 0 := ⟨⟨tw_445, tw_448, tw_446, tw_449, tw_450, tw_85, tw_451⟩, ⟨_, _, _, tw_477⟩, by decide +kernel⟩
theorem cu_X11_91_5 : cuOk RX11 91 RX10 yX9_teachingCost yX10_teachingCost cX10_teachingCost 1 ((some .int)) 0 := ⟨⟨tw_445, tw_448, tw_446, tw_473, tw_474, tw_86, tw_475⟩, ⟨_, _, _, tw_477⟩, by decide +kernel⟩
theorem cu_X11_91_6 : cuOk RX11 91 RX4 yX9_teachingCost yX4_teachingCost cX4_teachingCost 1 ((some .int)) 0 := ⟨⟨tw_445, tw_448, tw_446, tw_461, tw_462, tw_87, tw_463⟩, ⟨_, _, _, tw_477⟩, by decide +kernel⟩
theorem cu_X11_91_7 : cuOk RX11 91 RX7 yX9_teachingCost yX7_teachingCost cX7_teachingCost 1 ((some .int)) 0 := ⟨⟨tw_445, tw_448, tw_446, tw_465, tw_466, tw_88, tw_467⟩, ⟨_, _, _, tw_477⟩, by decide +kernel⟩
theorem cu_X11_320_0 : cuOk RX11 320 RX9 yX9_hasFailure yX9_hasFailure cX9_hasFailure 1 ((some .boolean)) 0 := ⟨⟨tw_879, tw_882, tw_880, tw_881, tw_880, tw_81, tw_892⟩, ⟨_, _, _, tw_892⟩, by decide +kernel⟩
theorem cu_X11_320_1 : cuOk RX11 320 RX8 yX9_hasFailure yX9_hasFailure cX9_hasFailure 1 ((some .boolean)) 0 := ⟨⟨tw_879, tw_882, tw_880, tw_888, tw_880, tw_81, tw_892⟩, ⟨_, _, _, tw_892⟩, by decide +kernel⟩
theorem cu_X11_320_2 : cuOk RX11 320 RX2 yX9_hasFailure yX9_hasFailure cX9_hasFailure 1 ((some .boolean)) 0 := ⟨⟨tw_879, tw_882, tw_880, tw_885, tw_880, tw_81, tw_892⟩, ⟨_, _, _, tw_892⟩, by decide +kernel⟩
theorem cu_X11_320_3 : cuOk RX11 320 RX1 yX9_hasFailure yX9_hasFailure cX9_hasFailure 1 ((some .boolean)) 0 := ⟨⟨tw_879, tw_882, tw_880, tw_884, tw_880, tw_81, tw_892⟩, ⟨_, _, _, tw_892⟩, by decide +kernel⟩
theorem cu_X11_320_4 : cuOk RX11 320 RX0 yX9_hasFailure yX9_hasFailure cX9_hasFailure 1 ((some .boolean)) 0 := ⟨⟨tw_879, tw_882, tw_880, tw_883, tw_880, tw_81, tw_892⟩, ⟨_, _, _, tw_892⟩, by decide +kernel⟩
theorem cu_X11_320_5 : cuOk RX11 320 RX10 yX9_hasFailure yX10_hasFailure cX10_hasFailure 1 ((some .boolean)) 0 := ⟨⟨tw_879, tw_882, tw_880, tw_889, tw_890, tw_86, tw_891⟩, ⟨_, _, _, tw_892⟩, by decide +kernel⟩
theorem cu_X11_320_6 : cuOk RX11 320 RX4 yX9_hasFailure yX9_hasFailure cX9_hasFailure 1 ((some .boolean)) 0 := ⟨⟨tw_879, tw_882, tw_880, tw_886, tw_880, tw_81, tw_892⟩, ⟨_, _, _, tw_892⟩, by decide +kernel⟩
theorem cu_X11_320_7 : cuOk RX11 320 RX7 yX9_hasFailure yX9_hasFailure cX9_hasFailure 1 ((some .boolean)) 0 := ⟨⟨tw_879, tw_882, tw_880, tw_887, tw_880, tw_81, tw_892⟩, ⟨_, _, _, tw_892⟩, by decide +kernel⟩
theorem csu_X0_7 : csuOk RX0 7 yX9_teachingCost cX9_teachingCost 1 ((some .int)) 0 := ⟨⟨tw_452, tw_448, tw_386, tw_446, tw_81, tw_477⟩, by decide +kernel, by decide +kernel⟩
theorem csu_X1_9 : csuOk RX1 9 yX9_teachingCost cX9_teachingCost 1 ((some .int)) 0 := ⟨⟨tw_456, tw_448, tw_375, tw_446, tw_81, tw_477⟩, by decide +kernel, by decide +kernel⟩
theorem csu_X2_7 : csuOk RX2 7 yX9_teachingCost cX9_teachingCost 1 ((some .int)) 0 := ⟨⟨tw_460, tw_448, tw_364, tw_446, tw_81, tw_477⟩, by decide +kernel, by decide +kernel⟩
theorem csu_X4_9 : csuOk RX4 9 yX0_teachingCost cX0_teachingCost 1 ((some .int)) 0 := ⟨⟨tw_464, tw_1459, tw_408, tw_450, tw_85, tw_451⟩, by decide +kernel, by decide +kernel⟩
theorem csu_X7_9 : csuOk RX7 9 yX1_teachingCost cX1_teachingCost 1 ((some .int)) 0 := ⟨⟨tw_468, tw_1460, tw_419, tw_454, tw_84, tw_455⟩, by decide +kernel, by decide +kernel⟩
theorem csu_X8_7 : csuOk RX8 7 yX9_teachingCost cX9_teachingCost 1 ((some .int)) 0 := ⟨⟨tw_472, tw_448, tw_353, tw_446, tw_81, tw_477⟩, by decide +kernel, by decide +kernel⟩
theorem csu_X10_7 : csuOk RX10 7 yX8_teachingCost cX8_teachingCost 1 ((some .int)) 0 := ⟨⟨tw_476, tw_1461, tw_397, tw_470, tw_82, tw_471⟩, by decide +kernel, by decide +kernel⟩
theorem csu_X4_29 : csuOk RX4 29 yX0_writes cX0_writes 5 ((some .int)) 4 := ⟨⟨tw_539, tw_1462, tw_408, tw_523, tw_85, tw_524⟩, by decide +kernel, by decide +kernel⟩
theorem csu_X7_13 : csuOk RX7 13 yX1_writes cX1_writes 5 ((some .int)) 4 := ⟨⟨tw_543, tw_1463, tw_419, tw_530, tw_84, tw_531⟩, by decide +kernel, by decide +kernel⟩
theorem csu_X10_11 : csuOk RX10 11 yX8_writes cX8_writes 5 ((some .int)) 4 := ⟨⟨tw_550, tw_1464, tw_397, tw_545, tw_82, tw_546⟩, by decide +kernel, by decide +kernel⟩
section OWY
variable {l : Launch} {G : owG} {cc : ByteArray} {nL : Nat} {own : String} {rt : Option FieldType} {R : Room} {Ex : State → Prop} {Qf : List Frame → Array Value → State → State → Prop} {pc : Nat} {lv : List (Nat × Value)} {rest : List Value} {cells slots : Nat} {A S Z B T V : owF} {J : Nat → Nat → Int64} {Y : Nat → Nat → Nat → Option Nat} {P : Nat → Option owW}
theorem owY15 {i k : Nat} {x : Option Nat} {H1 : Heap} {a n : Nat} {c : ClassId} (e : H1[a]? = some ((vp_cell c (n, .inr (.inr (.inr (.inr (Y 15 i)))))).setSlot k (va_rf x))) : H1[a]? = some (vp_cell c (n, .inr (.inr (.inr (.inr (up3 Y 15 i k x 15 i)))))) := by
  rw [e]
  rw [vp_cell_q, vp_cell_q, arrV_store]
  congr 2
  funext q
  by_cases hq : q = k
  · subst hq
    simp [updV, up3]
  · simp [updV, up3, hq]
theorem m_aastN {i : Nat} (hi : i < owN 15) (k : Nat) (hk : k < 10) (hd : decode cc pc = .ok (.aastore, 1)) (kk : Wm l G cc nL own rt R Ex Qf (pc + 1) lv rest (A, S, Z, B, T, V, J, up3 Y 15 i k none, P) cells slots) : Wm l G cc nL own rt R Ex Qf pc lv (.null :: .int (nI k) :: .ref (gK G 15 i) :: rest) (A, S, Z, B, T, V, J, Y, P) cells slots := by
  intro p e s m args below meth c H locs ls X
  obtain ⟨hx, hb, hml, ho, hts, hr, hlk, hE, hK, hH, hS, hB, hl⟩ := id X
  have hat : H[gK G 15 i]? = some (vp_cell (gW G) (10, .inr (.inr (.inr (.inr (Y 15 i)))))) := hH.1 15 i hi
  have hin : vp_in (nI k) 10 := vp_in_nI hk (by decide)
  have hcl : (nI k).toNatClampNeg = k := nI_clamp (by omega)
  refine va_WaastN (C := "OwnWays$Way") hx hb hat ((hK.2 3 _ rfl).1 10 (fun j => va_rf (Y 15 i j))) (fun h => by cases h) (by show ¬ (nI k < 0 ∨ (arrV _ _ _).slots.size ≤ _); rw [arrV_size]; exact hin) rfl rfl hd fun H1 e z oq => ?_
  rw [hcl] at e
  refine kk _ _ _ _ _ _ _ _ _ _ _ (X.hp (hH.set hi ?_ oq (fun t2 i2 _ h => fr_Y A S Z B T V J Y P k none h) rfl) (hS.put z oq (hH.2.2.2 15 i hi)))
  exact owY15 (x := none) e
theorem m_aastW {i ad : Nat} {w : owW} (hi : i < owN 15) (ha : P ad = some w) (hw : w.1 < 8) (k : Nat) (hk : k < 10) (hd : decode cc pc = .ok (.aastore, 1)) (kk : Wm l G cc nL own rt R Ex Qf (pc + 1) lv rest (A, S, Z, B, T, V, J, up3 Y 15 i k (some ad), P) cells slots) : Wm l G cc nL own rt R Ex Qf pc lv (.ref ad :: .int (nI k) :: .ref (gK G 15 i) :: rest) (A, S, Z, B, T, V, J, Y, P) cells slots := by
  intro p e s m args below meth c H locs ls X
  obtain ⟨hx, hb, hml, ho, hts, hr, hlk, hE, hK, hH, hS, hB, hl⟩ := id X
  have hat : H[gK G 15 i]? = some (vp_cell (gW G) (10, .inr (.inr (.inr (.inr (Y 15 i)))))) := hH.1 15 i hi
  have hin : vp_in (nI k) 10 := vp_in_nI hk (by decide)
  have hcl : (nI k).toNatClampNeg = k := nI_clamp (by omega)
  have hlt : (nI k).toNatClampNeg < 10 := by rw [hcl]; exact hk
  have h0 : ¬ nI k < 0 := nI_pos (by omega)
  obtain ⟨r', hr', cellV, g1, g2, g3, -⟩ := (hH.2.1 ad w ha).1
  have hcls := (hK.1 _ r' hr').2
  obtain ⟨kA, comp, k1, k2, k3, -⟩ := (hK.2 3 _ rfl).2
  obtain ⟨kE, hkE, -⟩ := Vm.findClass_spec k3
  obtain ⟨kC, hkC, -⟩ := hcls.2
  have has : s.vm.assignable ((gD G).1 (owCi w.1)) comp = true := by
    by_cases h9 : w.1 = 0
    · rw [h9] at hr' hcls ⊢
      have hr2 : r' = (RX9, TX9, 4) := (Option.some.inj hr').symm
      subst hr2
      have hcomp : comp = (gD G).1 (owCi 0) := Option.some.inj (k3.symm.trans hcls.1)
      rw [hcomp]
      exact va_assign hcls
    · have hm : (r'.1, "OwnWays$Way") ∈ owNC := by
        have h8 : w.1 = 1 ∨ w.1 = 2 ∨ w.1 = 3 ∨ w.1 = 4 ∨ w.1 = 5 ∨ w.1 = 6 ∨ w.1 = 7 := by omega
        rcases h8 with q | q | q | q | q | q | q <;> (rw [q] at hr'; cases hr'; decide +kernel)
      obtain ⟨c0, t1, f1, f2, f3⟩ := Cond.castable_spec (va_Nw.use (A := args) rfl (hB.2.2 _ hm))
      cases hcls.1.symm.trans f1
      cases k3.symm.trans f2
      exact f3
  refine W.aast hx hb hat (fun q h => by cases h) (fun h => by cases h) k1 k2 rfl hkE ⟨h0, by show _ < (arrV _ _ _).slots.size; rw [arrV_size]; exact hlt⟩ g1 (fun q h => by rw [g3] at h; cases h) (by rw [g2]; exact hkC) (by rw [g2]; exact has) rfl rfl hd fun H1 e z oq => ?_
  rw [hcl] at e
  refine kk _ _ _ _ _ _ _ _ _ _ _ (X.hp (hH.set hi ?_ oq (fun t2 i2 _ h => fr_Y A S Z B T V J Y P k (some ad) h) rfl) (hS.put z oq (hH.2.2.2 15 i hi)))
  exact owY15 (x := some ad) e
theorem va_rf_nar (x : Option Nat) (cn : String) : narrow (.object cn) (va_rf x) = va_rf x ∧ fits (.object cn) (va_rf x) = true := by cases x <;> exact ⟨rfl, rfl⟩
theorem pf_X6_19 {i : Nat} (hi : i < owN 3) (x : Option Nat) (hd : decode cc pc = .ok (.putfield 19, 3)) (kk : ∀ Y2 : Nat → Nat → Nat → Option Nat, Y2 = up3 Y 3 i 0 x → Wm l G cc nL RX6 rt R Ex Qf (pc + 3) lv rest (A, S, Z, B, T, V, J, Y2, P) cells slots) : Wm l G cc nL RX6 rt R Ex Qf pc lv (va_rf x :: .ref (gK G 3 i) :: rest) (A, S, Z, B, T, V, J, Y, P) cells slots :=
  m_putf (ty := .object "OwnWays$Way") (A, S, Z, B, T, V, J, up3 Y 3 i 0 x, P) 0 hi (ce_3 G A S Z B T V J Y P i) rfl inTX6 tyX6_ok nmX6 (by decide) tw_180 rfl rfl (by decide +kernel) (va_rf_nar x _).1 (va_rf_nar x _).2 (Nat.le_of_ble_eq_true rfl) (by rw [ce_3]; simp [up3]) (fun t2 i2 _ h => fr_Y A S Z B T V J Y P 0 x h) rfl hd (kk _ rfl)
theorem gwa_X11_79 {a kd : Nat} {wn wf ww : Int32} (hkd : kd < 8) (ha : P a = some (kd, wn, wf, ww)) (hd : decode cc pc = .ok (.getfield 79, 3)) (kk : Wm l G cc nL RX11 rt R Ex Qf (pc + 3) lv (.int (nI kd) :: rest) (A, S, Z, B, T, V, J, Y, P) cells slots) : Wm l G cc nL RX11 rt R Ex Qf pc lv (.ref a :: rest) (A, S, Z, B, T, V, J, Y, P) cells slots := by
  match kd, hkd with
  | 0, _ => exact gw_X11_79_0 ha hd kk
  | 1, _ => exact gw_X11_79_1 ha hd kk
  | 2, _ => exact gw_X11_79_2 ha hd kk
  | 3, _ => exact gw_X11_79_3 ha hd kk
  | 4, _ => exact gw_X11_79_4 ha hd kk
  | 5, _ => exact gw_X11_79_5 ha hd kk
  | 6, _ => exact gw_X11_79_6 ha hd kk
  | 7, _ => exact gw_X11_79_7 ha hd kk
theorem gwa_X5_48 {a kd : Nat} {wn wf ww : Int32} (hkd : kd < 8) (ha : P a = some (kd, wn, wf, ww)) (hd : decode cc pc = .ok (.getfield 48, 3)) (kk : Wm l G cc nL RX5 rt R Ex Qf (pc + 3) lv (.int (nI kd) :: rest) (A, S, Z, B, T, V, J, Y, P) cells slots) : Wm l G cc nL RX5 rt R Ex Qf pc lv (.ref a :: rest) (A, S, Z, B, T, V, J, Y, P) cells slots := by
  match kd, hkd with
  | 0, _ => exact gw_X5_48_0 ha hd kk
  | 1, _ => exact gw_X5_48_1 ha hd kk
  | 2, _ => exact gw_X5_48_2 ha hd kk
  | 3, _ => exact gw_X5_48_3 ha hd kk
  | 4, _ => exact gw_X5_48_4 ha hd kk
  | 5, _ => exact gw_X5_48_5 ha hd kk
  | 6, _ => exact gw_X5_48_6 ha hd kk
  | 7, _ => exact gw_X5_48_7 ha hd kk
theorem gwa_X11_357 {a kd : Nat} {wn wf ww : Int32} (hkd : kd < 8) (ha : P a = some (kd, wn, wf, ww)) (hd : decode cc pc = .ok (.getfield 357, 3)) (kk : Wm l G cc nL RX11 rt R Ex Qf (pc + 3) lv (.int wn :: rest) (A, S, Z, B, T, V, J, Y, P) cells slots) : Wm l G cc nL RX11 rt R Ex Qf pc lv (.ref a :: rest) (A, S, Z, B, T, V, J, Y, P) cells slots := by
  match kd, hkd with
  | 0, _ => exact gw_X11_357_0 ha hd kk
  | 1, _ => exact gw_X11_357_1 ha hd kk
  | 2, _ => exact gw_X11_357_2 ha hd kk
  | 3, _ => exact gw_X11_357_3 ha hd kk
  | 4, _ => exact gw_X11_357_4 ha hd kk
  | 5, _ => exact gw_X11_357_5 ha hd kk
  | 6, _ => exact gw_X11_357_6 ha hd kk
  | 7, _ => exact gw_X11_357_7 ha hd kk
theorem gwa_X11_85 {a kd : Nat} {wn wf ww : Int32} (hkd : kd < 8) (ha : P a = some (kd, wn, wf, ww)) (hd : decode cc pc = .ok (.getfield 85, 3)) (kk : Wm l G cc nL RX11 rt R Ex Qf (pc + 3) lv (.int wf :: rest) (A, S, Z, B, T, V, J, Y, P) cells slots) : Wm l G cc nL RX11 rt R Ex Qf pc lv (.ref a :: rest) (A, S, Z, B, T, V, J, Y, P) cells slots := by
  match kd, hkd with
  | 0, _ => exact gw_X11_85_0 ha hd kk
  | 1, _ => exact gw_X11_85_1 ha hd kk
  | 2, _ => exact gw_X11_85_2 ha hd kk
  | 3, _ => exact gw_X11_85_3 ha hd kk
  | 4, _ => exact gw_X11_85_4 ha hd kk
  | 5, _ => exact gw_X11_85_5 ha hd kk
  | 6, _ => exact gw_X11_85_6 ha hd kk
  | 7, _ => exact gw_X11_85_7 ha hd kk
theorem gwa_X11_88 {a kd : Nat} {wn wf ww : Int32} (hkd : kd < 8) (ha : P a = some (kd, wn, wf, ww)) (hd : decode cc pc = .ok (.getfield 88, 3)) (kk : Wm l G cc nL RX11 rt R Ex Qf (pc + 3) lv (.int ww :: rest) (A, S, Z, B, T, V, J, Y, P) cells slots) : Wm l G cc nL RX11 rt R Ex Qf pc lv (.ref a :: rest) (A, S, Z, B, T, V, J, Y, P) cells slots := by
  match kd, hkd with
  | 0, _ => exact gw_X11_88_0 ha hd kk
  | 1, _ => exact gw_X11_88_1 ha hd kk
  | 2, _ => exact gw_X11_88_2 ha hd kk
  | 3, _ => exact gw_X11_88_3 ha hd kk
  | 4, _ => exact gw_X11_88_4 ha hd kk
  | 5, _ => exact gw_X11_88_5 ha hd kk
  | 6, _ => exact gw_X11_88_6 ha hd kk
  | 7, _ => exact gw_X11_88_7 ha hd kk
theorem gwa_X5_51 {a kd : Nat} {wn wf ww : Int32} (hkd : kd < 8) (ha : P a = some (kd, wn, wf, ww)) (hd : decode cc pc = .ok (.getfield 51, 3)) (kk : Wm l G cc nL RX5 rt R Ex Qf (pc + 3) lv (.int ww :: rest) (A, S, Z, B, T, V, J, Y, P) cells slots) : Wm l G cc nL RX5 rt R Ex Qf pc lv (.ref a :: rest) (A, S, Z, B, T, V, J, Y, P) cells slots := by
  match kd, hkd with
  | 0, _ => exact gw_X5_51_0 ha hd kk
  | 1, _ => exact gw_X5_51_1 ha hd kk
  | 2, _ => exact gw_X5_51_2 ha hd kk
  | 3, _ => exact gw_X5_51_3 ha hd kk
  | 4, _ => exact gw_X5_51_4 ha hd kk
  | 5, _ => exact gw_X5_51_5 ha hd kk
  | 6, _ => exact gw_X5_51_6 ha hd kk
  | 7, _ => exact gw_X5_51_7 ha hd kk
end OWY
