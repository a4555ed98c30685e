/-! the law's cases: a call of the class, the same call of the model, the answers compared -/
theorem slipsA_ok {a : owK} {x n : Int32} (ho : aOk a) : aOk (slipsA a x n) := by
  unfold slipsA
  by_cases c : slipsB a x n = true
  · rw [if_pos c]
    unfold slipsB at c
    have h := of_decide_eq_true (Bool.and_eq_true _ _ |>.mp c).2
    refine setS_ok ho ?_
    obtain ⟨k, hk, rfl⟩ := natOf2 (n := 51) h.1 (Int32.lt_of_le_of_lt h.2 (by decide)) (by decide)
    rw [nI_clamp (by omega)]
    omega
  · rw [if_neg c]
    exact ho
theorem sayA_ok {a : owK} {x n : Int32} (ho : aOk a) : aOk (sayA a x n) := by
  unfold sayA
  by_cases c : sayB a x n = true
  · rw [if_pos c]
    unfold sayB at c
    have h := Bool.and_eq_true _ _ |>.mp c
    have h2 := of_decide_eq_true h.2
    obtain ⟨k, hk, rfl⟩ := natOf2 (n := 10) h2.1 h2.2 (by decide)
    obtain ⟨cc, hc, rfl⟩ := isC_nat ho h.1
    have h8 := ho.2.1
    rw [nI_clamp (by omega), nI_clamp (by omega)]
    exact setH_ok ho (tdW_lt ho hk (ho.2.2.2.1 cc hc).1)
  · rw [if_neg c]
    exact ho
/-- the two systems agree -/
def LI (σ : owSt) : Prop := ∃ (A S Z B T V : owF) (J : Nat → Nat → Int64) (Y : Nat → Nat → Nat → Option Nat) (P : Nat → Option owW) (a : owK) (im : Option owK) (h : owH), σ = (A, S, Z, B, T, V, J, Y, P) ∧ CR A Y P a im h ∧ MR B a im h ∧ aOk a ∧ ∀ b, im = some b → aOk b
theorem li_mk {A S Z B T V : owF} {J : Nat → Nat → Int64} {Y : Nat → Nat → Nat → Option Nat} {P : Nat → Option owW} {a : owK} {im : Option owK} {h : owH} (hC : CR A Y P a im h) (hM : MR B a im h) (ho : aOk a) (hb : ∀ b, im = some b → aOk b) : LI (A, S, Z, B, T, V, J, Y, P) := ⟨A, S, Z, B, T, V, J, Y, P, a, im, h, rfl, hC, hM, ho, hb⟩
def ExL (G : owG) (b L : Nat) (xs : Nat → Int32) : State → Prop := fun s => XOk G s ∧ va_X b L xs s s.heap ∧ b < s.heap.size ∧ s.heap.size ≤ gB G
abbrev lvL (G : owG) (b i : Nat) : List (Nat × Value) := [(0, .ref b), (1, .ref (gK G 0 0)), (2, .ref (gK G 4 0)), (3, .ref (gK G 60 0)), (4, .int (nI i))]
abbrev WL (l : Launch) (G : owG) (Qf : List Frame → Array Value → State → State → Prop) (b L : Nat) (xs : Nat → Int32) (pc : Nat) (lv : List (Nat × Value)) (st : List Value) (σ : owSt) (cells slots : Nat) : Prop := Wm l G cL_law 8 RL ret room_1 (ExL G b L xs) Qf pc lv st σ cells slots
section LAWC
variable {l : Launch} {G : owG} {Qf : List Frame → Array Value → State → State → Prop} {b L : Nat} {xs : Nat → Int32} {pc : Nat} {lv : List (Nat × Value)} {st : List Value} {σ : owSt} {cells slots : Nat}
theorem la_ld {x : Int32} {n : Nat} (hq : x = nI n) (hn : n < L) (hL : L ≤ 3072) (hd : decode cL_law pc = .ok (.iaload, 1)) (kk : WL l G Qf b L xs (pc + 1) lv (.int (xs n) :: st) σ cells slots) : WL l G Qf b L xs pc lv (.int x :: .ref b :: st) σ cells slots := by
  intro p e s m args below meth c H locs ls X
  obtain ⟨hx, hb, hml, ho, hts, hr, hlk, hE, hK, hH, hS, hB, hl⟩ := id X
  obtain ⟨hXO, hXs, hbl, hbg⟩ := hE
  subst hq
  refine va_sld hx hb hXs hbl (fun q => absurd q (Nat.not_le.mpr (Nat.lt_of_lt_of_le hbl hbg))) hS (vp_in_nI hn (by omega)) hd ?_
  rw [nI_clamp (by omega)]
  exact kk _ _ _ _ _ _ _ _ _ _ _ X
theorem la_len (hd : decode cL_law pc = .ok (.arraylength, 1)) (kk : WL l G Qf b L xs (pc + 1) lv (.int (Int32.ofNat L) :: st) σ cells slots) : WL l G Qf b L xs pc lv (.ref b :: st) σ cells slots := by
  intro p e s m args below meth c H locs ls X
  obtain ⟨hx, hb, hml, ho, hts, hr, hlk, hE, hK, hH, hS, hB, hl⟩ := id X
  obtain ⟨hXO, hXs, hbl, hbg⟩ := hE
  exact va_slen hx hb hXs hbl (fun q => absurd q (Nat.not_le.mpr (Nat.lt_of_lt_of_le hbl hbg))) hS hd (kk _ _ _ _ _ _ _ _ _ _ _ X)
theorem la_arg {i : Nat} {n : Int} (j : Nat) (hj : i + j < L) (hL : L ≤ 3072) (hn : Int32.ofInt n = nI j) (hlv : lv[0]? = some (0, .ref b) ∧ lv[4]? = some (4, .int (nI i))) (d0 : decode cL_law pc = .ok (.aload_n 0, 1)) (d1 : decode cL_law (pc + 1) = .ok (.iload 4, 2)) (d3 : decode cL_law (pc + 3) = .ok (.iconst n, 1)) (d4 : decode cL_law (pc + 4) = .ok (.iadd, 1)) (d5 : decode cL_law (pc + 5) = .ok (.iaload, 1)) (kk : WL l G Qf b L xs (pc + 6) lv (.int (xs (i + j)) :: st) σ cells slots) : WL l G Qf b L xs pc lv st σ cells slots := by
  refine m_aload_n 0 hlv.1 rfl d0 ?_
  refine m_iload 4 hlv.2 d1 ?_
  refine m_iconst (nI j) d3 hn ?_
  refine m_iadd d4 ?_
  exact la_ld (nI_add i j) hj hL d5 kk
theorem la_arg2 {i : Nat} {n : Int} (j : Nat) (hj : i + j < L) (hL : L ≤ 3072) (hn : Int32.ofInt n = nI j) (hlv : lv[1]? = some (0, .ref b) ∧ lv[5]? = some (4, .int (nI i))) (d0 : decode cL_law pc = .ok (.aload_n 0, 1)) (d1 : decode cL_law (pc + 1) = .ok (.iload 4, 2)) (d3 : decode cL_law (pc + 3) = .ok (.iconst n, 1)) (d4 : decode cL_law (pc + 4) = .ok (.iadd, 1)) (d5 : decode cL_law (pc + 5) = .ok (.iaload, 1)) (kk : WL l G Qf b L xs (pc + 6) lv (.int (xs (i + j)) :: st) σ cells slots) : WL l G Qf b L xs pc lv st σ cells slots := by
  refine m_aload_n 1 hlv.1 rfl d0 ?_
  refine m_iload 5 hlv.2 d1 ?_
  refine m_iconst (nI j) d3 hn ?_
  refine m_iadd d4 ?_
  exact la_ld (nI_add i j) hj hL d5 kk
end LAWC

theorem cw_L_175 : cwOk RL 175 yL_element cL_element 5 (some .int) [(0, 9, 12, 13), (0, 9, 16, 15)] 4 := ⟨owTB_of (by decide +kernel) rfl, owTB_of (by decide +kernel) rfl, owTB_of (by decide +kernel) rfl, owTB_of (by decide +kernel) rfl, by decide, by decide, by decide +kernel⟩
set_option maxRecDepth 100000 in
set_option maxHeartbeats 4000000 in
theorem lw_c_0 (l : Launch) (hl_ : l.stackTraces = false) (G : owG) {Qf : List Frame → Array Value → State → State → Prop} {b L i cells slots : Nat} {xs : Nat → Int32} (hL : L ≤ 3072) (hi : i + 6 ≤ L) (hf : cells + 25 ≤ room_1.cells ∧ slots + 100 ≤ room_1.slots) {A S Z B T V : owF} {J : Nat → Nat → Int64} {Y : Nat → Nat → Nat → Option Nat} {P : Nat → Option owW} {a_ : owK} {im_ : Option owK} {h_ : owH} (hC_ : CR A Y P a_ im_ h_) (hM_ : MR B a_ im_ h_) (ho_ : aOk a_) (hb_ : ∀ b, im_ = some b → aOk b) (kk : ∀ (σ2 : owSt) (c2 s2 : Nat), LI σ2 → c2 ≤ cells + 25 → s2 ≤ slots + 100 → WL l G Qf b L xs 1923 (lvL G b i) [] σ2 c2 s2) : WL l G Qf b L xs 220 (lvL G b i) [] (A, S, Z, B, T, V, J, Y, P) cells slots := by
  refine m_aload_n 1 rfl rfl dL_law_220 ?_
  refine la_arg 1 (by omega) hL rfl ⟨rfl, rfl⟩ dL_law_221 dL_law_222 dL_law_224 dL_law_225 dL_law_226 ?_
  refine m_callV cv_L_21 [.int (xs (i + 1))] [] (k_group l G a_ ho_ im_ h_ hC_ (xs (i + 1))) (by decide) (ce_0 G _ _ _ _ _ _ _ _ _ _) rfl rfl rfl ⟨Nat.le_of_ble_eq_true rfl, Nat.le_of_ble_eq_true rfl⟩ (Nat.le_of_ble_eq_true rfl) ⟨by omega, by omega⟩ dL_law_227 (fun rr σ2 hq => ?_)
  obtain ⟨x1_, rfl, hq⟩ := hq
  obtain ⟨e1_, A2, S2, Z2, J2, Y2, P2, rfl, hPX, hC_, ho9_⟩ := hq
  refine m_aload_n 2 rfl rfl dL_law_230 ?_
  refine la_arg 1 (by omega) hL rfl ⟨rfl, rfl⟩ dL_law_231 dL_law_232 dL_law_234 dL_law_235 dL_law_236 ?_
  refine m_callVi cv_L_25 [.int (xs (i + 1))] [.int (x1_)] (k_m_group l G a_ ho_ im_ h_ hM_ (xs (i + 1))) (by decide) (ce_4 G _ _ _ _ _ _ _ _ _ _) rfl rfl rfl ⟨Nat.le_of_ble_eq_true rfl, Nat.le_of_ble_eq_true rfl⟩ (Nat.le_of_ble_eq_true rfl) ⟨by omega, by omega⟩ dL_law_237 (fun x2_ σ2 hq => ?_)
  obtain ⟨e2_, B2, T2, V2, rfl, hM_⟩ := hq
  refine m_icmp_eq 1923 dL_law_240 (by decide) (fun _ => ?_) (fun hc => absurd (e1_.trans e2_.symm) hc)
  exact kk _ _ _ (li_mk hC_ hM_ ho9_ hb_) (by omega) (by omega)
set_option maxRecDepth 100000 in
set_option maxHeartbeats 4000000 in
theorem lw_c_1 (l : Launch) (hl_ : l.stackTraces = false) (G : owG) {Qf : List Frame → Array Value → State → State → Prop} {b L i cells slots : Nat} {xs : Nat → Int32} (hL : L ≤ 3072) (hi : i + 6 ≤ L) (hf : cells + 25 ≤ room_1.cells ∧ slots + 100 ≤ room_1.slots) {A S Z B T V : owF} {J : Nat → Nat → Int64} {Y : Nat → Nat → Nat → Option Nat} {P : Nat → Option owW} {a_ : owK} {im_ : Option owK} {h_ : owH} (hC_ : CR A Y P a_ im_ h_) (hM_ : MR B a_ im_ h_) (ho_ : aOk a_) (hb_ : ∀ b, im_ = some b → aOk b) (kk : ∀ (σ2 : owSt) (c2 s2 : Nat), LI σ2 → c2 ≤ cells + 25 → s2 ≤ slots + 100 → WL l G Qf b L xs 1923 (lvL G b i) [] σ2 c2 s2) : WL l G Qf b L xs 245 (lvL G b i) [] (A, S, Z, B, T, V, J, Y, P) cells slots := by
  refine m_aload_n 1 rfl rfl dL_law_245 ?_
  refine la_arg 1 (by omega) hL rfl ⟨rfl, rfl⟩ dL_law_246 dL_law_247 dL_law_249 dL_law_250 dL_law_251 ?_
  refine la_arg 2 (by omega) hL rfl ⟨rfl, rfl⟩ dL_law_252 dL_law_253 dL_law_255 dL_law_256 dL_law_257 ?_
  refine m_callVi cv_L_26 [.int (xs (i + 1)), .int (xs (i + 2))] [] (k_way l G a_ ho_ hC_.1 (xs (i + 1)) (xs (i + 2))) (by decide) (ce_0 G _ _ _ _ _ _ _ _ _ _) rfl rfl rfl ⟨Nat.le_of_ble_eq_true rfl, Nat.le_of_ble_eq_true rfl⟩ (Nat.le_of_ble_eq_true rfl) ⟨by omega, by omega⟩ dL_law_258 (fun x1_ σ2 hq => ?_)
  obtain ⟨e1_, S2, Z2, J2, rfl⟩ := hq
  refine m_aload_n 2 rfl rfl dL_law_261 ?_
  refine la_arg 1 (by omega) hL rfl ⟨rfl, rfl⟩ dL_law_262 dL_law_263 dL_law_265 dL_law_266 dL_law_267 ?_
  refine la_arg 2 (by omega) hL rfl ⟨rfl, rfl⟩ dL_law_268 dL_law_269 dL_law_271 dL_law_272 dL_law_273 ?_
  refine m_callVi cv_L_30 [.int (xs (i + 1)), .int (xs (i + 2))] [.int (x1_)] (k_m_way l G a_ ho_ im_ h_ hM_ (xs (i + 1)) (xs (i + 2))) (by decide) (ce_4 G _ _ _ _ _ _ _ _ _ _) rfl rfl rfl ⟨Nat.le_of_ble_eq_true rfl, Nat.le_of_ble_eq_true rfl⟩ (Nat.le_of_ble_eq_true rfl) ⟨by omega, by omega⟩ dL_law_274 (fun x2_ σ2 hq => ?_)
  obtain ⟨e2_, T2, V2, rfl⟩ := hq
  refine m_icmp_eq 1923 dL_law_277 (by decide) (fun _ => ?_) (fun hc => absurd (e1_.trans e2_.symm) hc)
  exact kk _ _ _ (li_mk hC_ hM_ ho_ hb_) (by omega) (by omega)
set_option maxRecDepth 100000 in
set_option maxHeartbeats 4000000 in
theorem lw_c_2 (l : Launch) (hl_ : l.stackTraces = false) (G : owG) {Qf : List Frame → Array Value → State → State → Prop} {b L i cells slots : Nat} {xs : Nat → Int32} (hL : L ≤ 3072) (hi : i + 6 ≤ L) (hf : cells + 25 ≤ room_1.cells ∧ slots + 100 ≤ room_1.slots) {A S Z B T V : owF} {J : Nat → Nat → Int64} {Y : Nat → Nat → Nat → Option Nat} {P : Nat → Option owW} {a_ : owK} {im_ : Option owK} {h_ : owH} (hC_ : CR A Y P a_ im_ h_) (hM_ : MR B a_ im_ h_) (ho_ : aOk a_) (hb_ : ∀ b, im_ = some b → aOk b) (kk : ∀ (σ2 : owSt) (c2 s2 : Nat), LI σ2 → c2 ≤ cells + 25 → s2 ≤ slots + 100 → WL l G Qf b L xs 1923 (lvL G b i) [] σ2 c2 s2) : WL l G Qf b L xs 282 (lvL G b i) [] (A, S, Z, B, T, V, J, Y, P) cells slots := by
  refine m_aload_n 1 rfl rfl dL_law_282 ?_
  refine la_arg 1 (by omega) hL rfl ⟨rfl, rfl⟩ dL_law_283 dL_law_284 dL_law_286 dL_law_287 dL_law_288 ?_
  refine la_arg 2 (by omega) hL rfl ⟨rfl, rfl⟩ dL_law_289 dL_law_290 dL_law_292 dL_law_293 dL_law_294 ?_
  refine m_callVi cv_L_31 [.int (xs (i + 1)), .int (xs (i + 2))] [] (k_child l G a_ ho_ hC_.1 (xs (i + 1)) (xs (i + 2))) (by decide) (ce_0 G _ _ _ _ _ _ _ _ _ _) rfl rfl rfl ⟨Nat.le_of_ble_eq_true rfl, Nat.le_of_ble_eq_true rfl⟩ (Nat.le_of_ble_eq_true rfl) ⟨by omega, by omega⟩ dL_law_295 (fun x1_ σ2 hq => ?_)
  obtain ⟨e1_, S2, Z2, J2, rfl⟩ := hq
  refine m_aload_n 2 rfl rfl dL_law_298 ?_
  refine la_arg 1 (by omega) hL rfl ⟨rfl, rfl⟩ dL_law_299 dL_law_300 dL_law_302 dL_law_303 dL_law_304 ?_
  refine la_arg 2 (by omega) hL rfl ⟨rfl, rfl⟩ dL_law_305 dL_law_306 dL_law_308 dL_law_309 dL_law_310 ?_
  refine m_callVi cv_L_34 [.int (xs (i + 1)), .int (xs (i + 2))] [.int (x1_)] (k_m_child l G a_ ho_ im_ h_ hM_ (xs (i + 1)) (xs (i + 2))) (by decide) (ce_4 G _ _ _ _ _ _ _ _ _ _) rfl rfl rfl ⟨Nat.le_of_ble_eq_true rfl, Nat.le_of_ble_eq_true rfl⟩ (Nat.le_of_ble_eq_true rfl) ⟨by omega, by omega⟩ dL_law_311 (fun x2_ σ2 hq => ?_)
  obtain ⟨e2_, T2, V2, rfl⟩ := hq
  refine m_icmp_eq 1923 dL_law_314 (by decide) (fun _ => ?_) (fun hc => absurd (e1_.trans e2_.symm) hc)
  exact kk _ _ _ (li_mk hC_ hM_ ho_ hb_) (by omega) (by omega)
set_option maxRecDepth 100000 in
set_option maxHeartbeats 4000000 in
theorem lw_c_3 (l : Launch) (hl_ : l.stackTraces = false) (G : owG) {Qf : List Frame → Array Value → State → State → Prop} {b L i cells slots : Nat} {xs : Nat → Int32} (hL : L ≤ 3072) (hi : i + 6 ≤ L) (hf : cells + 25 ≤ room_1.cells ∧ slots + 100 ≤ room_1.slots) {A S Z B T V : owF} {J : Nat → Nat → Int64} {Y : Nat → Nat → Nat → Option Nat} {P : Nat → Option owW} {a_ : owK} {im_ : Option owK} {h_ : owH} (hC_ : CR A Y P a_ im_ h_) (hM_ : MR B a_ im_ h_) (ho_ : aOk a_) (hb_ : ∀ b, im_ = some b → aOk b) (kk : ∀ (σ2 : owSt) (c2 s2 : Nat), LI σ2 → c2 ≤ cells + 25 → s2 ≤ slots + 100 → WL l G Qf b L xs 1923 (lvL G b i) [] σ2 c2 s2) : WL l G Qf b L xs 319 (lvL G b i) [] (A, S, Z, B, T, V, J, Y, P) cells slots := by
  refine m_aload_n 1 rfl rfl dL_law_319 ?_
  refine la_arg 1 (by omega) hL rfl ⟨rfl, rfl⟩ dL_law_320 dL_law_321 dL_law_323 dL_law_324 dL_law_325 ?_
  refine la_arg 2 (by omega) hL rfl ⟨rfl, rfl⟩ dL_law_326 dL_law_327 dL_law_329 dL_law_330 dL_law_331 ?_
  refine m_callVi cv_L_35 [.int (xs (i + 1)), .int (xs (i + 2))] [] (k_told l G a_ ho_ hC_.1 (xs (i + 1)) (xs (i + 2))) (by decide) (ce_0 G _ _ _ _ _ _ _ _ _ _) rfl rfl rfl ⟨Nat.le_of_ble_eq_true rfl, Nat.le_of_ble_eq_true rfl⟩ (Nat.le_of_ble_eq_true rfl) ⟨by omega, by omega⟩ dL_law_332 (fun x1_ σ2 hq => ?_)
  obtain ⟨e1_, S2, Z2, J2, rfl⟩ := hq
  refine m_aload_n 2 rfl rfl dL_law_335 ?_
  refine la_arg 1 (by omega) hL rfl ⟨rfl, rfl⟩ dL_law_336 dL_law_337 dL_law_339 dL_law_340 dL_law_341 ?_
  refine la_arg 2 (by omega) hL rfl ⟨rfl, rfl⟩ dL_law_342 dL_law_343 dL_law_345 dL_law_346 dL_law_347 ?_
  refine m_callVi cv_L_38 [.int (xs (i + 1)), .int (xs (i + 2))] [.int (x1_)] (k_m_told l G a_ ho_ im_ h_ hM_ (xs (i + 1)) (xs (i + 2))) (by decide) (ce_4 G _ _ _ _ _ _ _ _ _ _) rfl rfl rfl ⟨Nat.le_of_ble_eq_true rfl, Nat.le_of_ble_eq_true rfl⟩ (Nat.le_of_ble_eq_true rfl) ⟨by omega, by omega⟩ dL_law_348 (fun x2_ σ2 hq => ?_)
  obtain ⟨e2_, T2, V2, rfl⟩ := hq
  refine m_icmp_eq 1923 dL_law_351 (by decide) (fun _ => ?_) (fun hc => absurd (e1_.trans e2_.symm) hc)
  exact kk _ _ _ (li_mk hC_ hM_ ho_ hb_) (by omega) (by omega)
set_option maxRecDepth 100000 in
set_option maxHeartbeats 4000000 in
theorem lw_c_4 (l : Launch) (hl_ : l.stackTraces = false) (G : owG) {Qf : List Frame → Array Value → State → State → Prop} {b L i cells slots : Nat} {xs : Nat → Int32} (hL : L ≤ 3072) (hi : i + 6 ≤ L) (hf : cells + 25 ≤ room_1.cells ∧ slots + 100 ≤ room_1.slots) {A S Z B T V : owF} {J : Nat → Nat → Int64} {Y : Nat → Nat → Nat → Option Nat} {P : Nat → Option owW} {a_ : owK} {im_ : Option owK} {h_ : owH} (hC_ : CR A Y P a_ im_ h_) (hM_ : MR B a_ im_ h_) (ho_ : aOk a_) (hb_ : ∀ b, im_ = some b → aOk b) (kk : ∀ (σ2 : owSt) (c2 s2 : Nat), LI σ2 → c2 ≤ cells + 25 → s2 ≤ slots + 100 → WL l G Qf b L xs 1923 (lvL G b i) [] σ2 c2 s2) : WL l G Qf b L xs 356 (lvL G b i) [] (A, S, Z, B, T, V, J, Y, P) cells slots := by
  refine m_aload_n 1 rfl rfl dL_law_356 ?_
  refine la_arg 1 (by omega) hL rfl ⟨rfl, rfl⟩ dL_law_357 dL_law_358 dL_law_360 dL_law_361 dL_law_362 ?_
  refine la_arg 2 (by omega) hL rfl ⟨rfl, rfl⟩ dL_law_363 dL_law_364 dL_law_366 dL_law_367 dL_law_368 ?_
  refine m_callVi cv_L_39 [.int (xs (i + 1)), .int (xs (i + 2))] [] (k_slips l G a_ ho_ im_ h_ hC_ (xs (i + 1)) (xs (i + 2))) (by decide) (ce_0 G _ _ _ _ _ _ _ _ _ _) rfl rfl rfl ⟨Nat.le_of_ble_eq_true rfl, Nat.le_of_ble_eq_true rfl⟩ (Nat.le_of_ble_eq_true rfl) ⟨by omega, by omega⟩ dL_law_369 (fun x1_ σ2 hq => ?_)
  obtain ⟨e1_, A2, S2, Z2, J2, Y2, rfl, hC_⟩ := hq
  refine m_aload_n 2 rfl rfl dL_law_372 ?_
  refine la_arg 1 (by omega) hL rfl ⟨rfl, rfl⟩ dL_law_373 dL_law_374 dL_law_376 dL_law_377 dL_law_378 ?_
  refine la_arg 2 (by omega) hL rfl ⟨rfl, rfl⟩ dL_law_379 dL_law_380 dL_law_382 dL_law_383 dL_law_384 ?_
  refine m_callVi cv_L_42 [.int (xs (i + 1)), .int (xs (i + 2))] [.int (x1_)] (k_m_slips l G a_ ho_ im_ h_ hM_ (xs (i + 1)) (xs (i + 2))) (by decide) (ce_4 G _ _ _ _ _ _ _ _ _ _) rfl rfl rfl ⟨Nat.le_of_ble_eq_true rfl, Nat.le_of_ble_eq_true rfl⟩ (Nat.le_of_ble_eq_true rfl) ⟨by omega, by omega⟩ dL_law_385 (fun x2_ σ2 hq => ?_)
  obtain ⟨e2_, B2, T2, V2, rfl, hM_⟩ := hq
  refine m_icmp_eq 1923 dL_law_388 (by decide) (fun _ => ?_) (fun hc => absurd (e1_.trans e2_.symm) hc)
  exact kk _ _ _ (li_mk hC_ hM_ (slipsA_ok ho_) hb_) (by omega) (by omega)
set_option maxRecDepth 100000 in
set_option maxHeartbeats 4000000 in
theorem lw_c_5 (l : Launch) (hl_ : l.stackTraces = false) (G : owG) {Qf : List Frame → Array Value → State → State → Prop} {b L i cells slots : Nat} {xs : Nat → Int32} (hL : L ≤ 3072) (hi : i + 6 ≤ L) (hf : cells + 25 ≤ room_1.cells ∧ slots + 100 ≤ room_1.slots) {A S Z B T V : owF} {J : Nat → Nat → Int64} {Y : Nat → Nat → Nat → Option Nat} {P : Nat → Option owW} {a_ : owK} {im_ : Option owK} {h_ : owH} (hC_ : CR A Y P a_ im_ h_) (hM_ : MR B a_ im_ h_) (ho_ : aOk a_) (hb_ : ∀ b, im_ = some b → aOk b) (kk : ∀ (σ2 : owSt) (c2 s2 : Nat), LI σ2 → c2 ≤ cells + 25 → s2 ≤ slots + 100 → WL l G Qf b L xs 1923 (lvL G b i) [] σ2 c2 s2) : WL l G Qf b L xs 393 (lvL G b i) [] (A, S, Z, B, T, V, J, Y, P) cells slots := by
  refine m_aload_n 1 rfl rfl dL_law_393 ?_
  refine la_arg 1 (by omega) hL rfl ⟨rfl, rfl⟩ dL_law_394 dL_law_395 dL_law_397 dL_law_398 dL_law_399 ?_
  refine la_arg 2 (by omega) hL rfl ⟨rfl, rfl⟩ dL_law_400 dL_law_401 dL_law_403 dL_law_404 dL_law_405 ?_
  refine la_arg 3 (by omega) hL rfl ⟨rfl, rfl⟩ dL_law_406 dL_law_407 dL_law_409 dL_law_410 dL_law_411 ?_
  refine m_callVi cv_L_43 [.int (xs (i + 1)), .int (xs (i + 2)), .int (xs (i + 3))] [] (k_work l G a_ ho_ hC_.1 (xs (i + 1)) (xs (i + 2)) (xs (i + 3))) (by decide) (ce_0 G _ _ _ _ _ _ _ _ _ _) rfl rfl rfl ⟨Nat.le_of_ble_eq_true rfl, Nat.le_of_ble_eq_true rfl⟩ (Nat.le_of_ble_eq_true rfl) ⟨by omega, by omega⟩ dL_law_412 (fun x1_ σ2 hq => ?_)
  obtain ⟨e1_, S2, Z2, J2, rfl⟩ := hq
  refine m_aload_n 2 rfl rfl dL_law_415 ?_
  refine la_arg 1 (by omega) hL rfl ⟨rfl, rfl⟩ dL_law_416 dL_law_417 dL_law_419 dL_law_420 dL_law_421 ?_
  refine la_arg 2 (by omega) hL rfl ⟨rfl, rfl⟩ dL_law_422 dL_law_423 dL_law_425 dL_law_426 dL_law_427 ?_
  refine la_arg 3 (by omega) hL rfl ⟨rfl, rfl⟩ dL_law_428 dL_law_429 dL_law_431 dL_law_432 dL_law_433 ?_
  refine m_callVi cv_L_47 [.int (xs (i + 1)), .int (xs (i + 2)), .int (xs (i + 3))] [.int (x1_)] (k_m_work l G a_ ho_ im_ h_ hM_ (xs (i + 1)) (xs (i + 2)) (xs (i + 3))) (by decide) (ce_4 G _ _ _ _ _ _ _ _ _ _) rfl rfl rfl ⟨Nat.le_of_ble_eq_true rfl, Nat.le_of_ble_eq_true rfl⟩ (Nat.le_of_ble_eq_true rfl) ⟨by omega, by omega⟩ dL_law_434 (fun x2_ σ2 hq => ?_)
  obtain ⟨e2_, T2, V2, rfl⟩ := hq
  refine m_icmp_eq 1923 dL_law_437 (by decide) (fun _ => ?_) (fun hc => absurd (e1_.trans e2_.symm) hc)
  exact kk _ _ _ (li_mk hC_ hM_ ho_ hb_) (by omega) (by omega)
set_option maxRecDepth 100000 in
set_option maxHeartbeats 4000000 in
theorem lw_c_6 (l : Launch) (hl_ : l.stackTraces = false) (G : owG) {Qf : List Frame → Array Value → State → State → Prop} {b L i cells slots : Nat} {xs : Nat → Int32} (hL : L ≤ 3072) (hi : i + 6 ≤ L) (hf : cells + 25 ≤ room_1.cells ∧ slots + 100 ≤ room_1.slots) {A S Z B T V : owF} {J : Nat → Nat → Int64} {Y : Nat → Nat → Nat → Option Nat} {P : Nat → Option owW} {a_ : owK} {im_ : Option owK} {h_ : owH} (hC_ : CR A Y P a_ im_ h_) (hM_ : MR B a_ im_ h_) (ho_ : aOk a_) (hb_ : ∀ b, im_ = some b → aOk b) (kk : ∀ (σ2 : owSt) (c2 s2 : Nat), LI σ2 → c2 ≤ cells + 25 → s2 ≤ slots + 100 → WL l G Qf b L xs 1923 (lvL G b i) [] σ2 c2 s2) : WL l G Qf b L xs 442 (lvL G b i) [] (A, S, Z, B, T, V, J, Y, P) cells slots := by
  refine m_aload_n 1 rfl rfl dL_law_442 ?_
  refine la_arg 1 (by omega) hL rfl ⟨rfl, rfl⟩ dL_law_443 dL_law_444 dL_law_446 dL_law_447 dL_law_448 ?_
  refine la_arg 2 (by omega) hL rfl ⟨rfl, rfl⟩ dL_law_449 dL_law_450 dL_law_452 dL_law_453 dL_law_454 ?_
  refine la_arg 3 (by omega) hL rfl ⟨rfl, rfl⟩ dL_law_455 dL_law_456 dL_law_458 dL_law_459 dL_law_460 ?_
  refine la_arg 4 (by omega) hL rfl ⟨rfl, rfl⟩ dL_law_461 dL_law_462 dL_law_464 dL_law_465 dL_law_466 ?_
  refine la_arg 5 (by omega) hL rfl ⟨rfl, rfl⟩ dL_law_467 dL_law_468 dL_law_470 dL_law_471 dL_law_472 ?_
  refine m_callVi cv_L_48 [.int (xs (i + 1)), .int (xs (i + 2)), .int (xs (i + 3)), .int (xs (i + 4)), .int (xs (i + 5))] [] (k_column l G a_ ho_ hC_.1 (xs (i + 1)) (xs (i + 2)) (xs (i + 3)) (xs (i + 4)) (xs (i + 5))) (by decide) (ce_0 G _ _ _ _ _ _ _ _ _ _) rfl rfl rfl ⟨Nat.le_of_ble_eq_true rfl, Nat.le_of_ble_eq_true rfl⟩ (Nat.le_of_ble_eq_true rfl) ⟨by omega, by omega⟩ dL_law_473 (fun x1_ σ2 hq => ?_)
  obtain ⟨e1_, S2, Z2, J2, rfl⟩ := hq
  refine m_aload_n 2 rfl rfl dL_law_476 ?_
  refine la_arg 1 (by omega) hL rfl ⟨rfl, rfl⟩ dL_law_477 dL_law_478 dL_law_480 dL_law_481 dL_law_482 ?_
  refine la_arg 2 (by omega) hL rfl ⟨rfl, rfl⟩ dL_law_483 dL_law_484 dL_law_486 dL_law_487 dL_law_488 ?_
  refine la_arg 3 (by omega) hL rfl ⟨rfl, rfl⟩ dL_law_489 dL_law_490 dL_law_492 dL_law_493 dL_law_494 ?_
  refine la_arg 4 (by omega) hL rfl ⟨rfl, rfl⟩ dL_law_495 dL_law_496 dL_law_498 dL_law_499 dL_law_500 ?_
  refine la_arg 5 (by omega) hL rfl ⟨rfl, rfl⟩ dL_law_501 dL_law_502 dL_law_504 dL_law_505 dL_law_506 ?_
  refine m_callVi cv_L_52 [.int (xs (i + 1)), .int (xs (i + 2)), .int (xs (i + 3)), .int (xs (i + 4)), .int (xs (i + 5))] [.int (x1_)] (k_m_column l G a_ ho_ im_ h_ hM_ (xs (i + 1)) (xs (i + 2)) (xs (i + 3)) (xs (i + 4)) (xs (i + 5))) (by decide) (ce_4 G _ _ _ _ _ _ _ _ _ _) rfl rfl rfl ⟨Nat.le_of_ble_eq_true rfl, Nat.le_of_ble_eq_true rfl⟩ (Nat.le_of_ble_eq_true rfl) ⟨by omega, by omega⟩ dL_law_507 (fun x2_ σ2 hq => ?_)
  obtain ⟨e2_, T2, V2, rfl⟩ := hq
  refine m_icmp_eq 1923 dL_law_510 (by decide) (fun _ => ?_) (fun hc => absurd (e1_.trans e2_.symm) hc)
  exact kk _ _ _ (li_mk hC_ hM_ ho_ hb_) (by omega) (by omega)
set_option maxRecDepth 100000 in
set_option maxHeartbeats 4000000 in
theorem lw_c_7 (l : Launch) (hl_ : l.stackTraces = false) (G : owG) {Qf : List Frame → Array Value → State → State → Prop} {b L i cells slots : Nat} {xs : Nat → Int32} (hL : L ≤ 3072) (hi : i + 6 ≤ L) (hf : cells + 25 ≤ room_1.cells ∧ slots + 100 ≤ room_1.slots) {A S Z B T V : owF} {J : Nat → Nat → Int64} {Y : Nat → Nat → Nat → Option Nat} {P : Nat → Option owW} {a_ : owK} {im_ : Option owK} {h_ : owH} (hC_ : CR A Y P a_ im_ h_) (hM_ : MR B a_ im_ h_) (ho_ : aOk a_) (hb_ : ∀ b, im_ = some b → aOk b) (kk : ∀ (σ2 : owSt) (c2 s2 : Nat), LI σ2 → c2 ≤ cells + 25 → s2 ≤ slots + 100 → WL l G Qf b L xs 1923 (lvL G b i) [] σ2 c2 s2) : WL l G Qf b L xs 515 (lvL G b i) [] (A, S, Z, B, T, V, J, Y, P) cells slots := by
  refine m_aload_n 1 rfl rfl dL_law_515 ?_
  refine la_arg 1 (by omega) hL rfl ⟨rfl, rfl⟩ dL_law_516 dL_law_517 dL_law_519 dL_law_520 dL_law_521 ?_
  refine la_arg 2 (by omega) hL rfl ⟨rfl, rfl⟩ dL_law_522 dL_law_523 dL_law_525 dL_law_526 dL_law_527 ?_
  refine m_callVi cv_L_53 [.int (xs (i + 1)), .int (xs (i + 2))] [] (k_right l G a_ ho_ hC_.1 (xs (i + 1)) (xs (i + 2))) (by decide) (ce_0 G _ _ _ _ _ _ _ _ _ _) rfl rfl rfl ⟨Nat.le_of_ble_eq_true rfl, Nat.le_of_ble_eq_true rfl⟩ (Nat.le_of_ble_eq_true rfl) ⟨by omega, by omega⟩ dL_law_528 (fun x1_ σ2 hq => ?_)
  obtain ⟨e1_, S2, Z2, J2, rfl⟩ := hq
  refine m_aload_n 2 rfl rfl dL_law_531 ?_
  refine la_arg 1 (by omega) hL rfl ⟨rfl, rfl⟩ dL_law_532 dL_law_533 dL_law_535 dL_law_536 dL_law_537 ?_
  refine la_arg 2 (by omega) hL rfl ⟨rfl, rfl⟩ dL_law_538 dL_law_539 dL_law_541 dL_law_542 dL_law_543 ?_
  refine m_callVi cv_L_56 [.int (xs (i + 1)), .int (xs (i + 2))] [.int (x1_)] (k_m_right l G a_ ho_ im_ h_ hM_ (xs (i + 1)) (xs (i + 2))) (by decide) (ce_4 G _ _ _ _ _ _ _ _ _ _) rfl rfl rfl ⟨Nat.le_of_ble_eq_true rfl, Nat.le_of_ble_eq_true rfl⟩ (Nat.le_of_ble_eq_true rfl) ⟨by omega, by omega⟩ dL_law_544 (fun x2_ σ2 hq => ?_)
  obtain ⟨e2_, T2, V2, rfl⟩ := hq
  refine m_icmp_eq 1923 dL_law_547 (by decide) (fun _ => ?_) (fun hc => absurd (e1_.trans e2_.symm) hc)
  exact kk _ _ _ (li_mk hC_ hM_ ho_ hb_) (by omega) (by omega)
set_option maxRecDepth 100000 in
set_option maxHeartbeats 4000000 in
theorem lw_c_8 (l : Launch) (hl_ : l.stackTraces = false) (G : owG) {Qf : List Frame → Array Value → State → State → Prop} {b L i cells slots : Nat} {xs : Nat → Int32} (hL : L ≤ 3072) (hi : i + 6 ≤ L) (hf : cells + 25 ≤ room_1.cells ∧ slots + 100 ≤ room_1.slots) {A S Z B T V : owF} {J : Nat → Nat → Int64} {Y : Nat → Nat → Nat → Option Nat} {P : Nat → Option owW} {a_ : owK} {im_ : Option owK} {h_ : owH} (hC_ : CR A Y P a_ im_ h_) (hM_ : MR B a_ im_ h_) (ho_ : aOk a_) (hb_ : ∀ b, im_ = some b → aOk b) (kk : ∀ (σ2 : owSt) (c2 s2 : Nat), LI σ2 → c2 ≤ cells + 25 → s2 ≤ slots + 100 → WL l G Qf b L xs 1923 (lvL G b i) [] σ2 c2 s2) : WL l G Qf b L xs 552 (lvL G b i) [] (A, S, Z, B, T, V, J, Y, P) cells slots := by
  refine m_aload_n 1 rfl rfl dL_law_552 ?_
  refine la_arg 1 (by omega) hL rfl ⟨rfl, rfl⟩ dL_law_553 dL_law_554 dL_law_556 dL_law_557 dL_law_558 ?_
  refine la_arg 2 (by omega) hL rfl ⟨rfl, rfl⟩ dL_law_559 dL_law_560 dL_law_562 dL_law_563 dL_law_564 ?_
  refine la_arg 3 (by omega) hL rfl ⟨rfl, rfl⟩ dL_law_565 dL_law_566 dL_law_568 dL_law_569 dL_law_570 ?_
  refine m_callVi cv_L_57 [.int (xs (i + 1)), .int (xs (i + 2)), .int (xs (i + 3))] [] (k_parts l G a_ ho_ hC_.1 (xs (i + 1)) (xs (i + 2)) (xs (i + 3))) (by decide) (ce_0 G _ _ _ _ _ _ _ _ _ _) rfl rfl rfl ⟨Nat.le_of_ble_eq_true rfl, Nat.le_of_ble_eq_true rfl⟩ (Nat.le_of_ble_eq_true rfl) ⟨by omega, by omega⟩ dL_law_571 (fun x1_ σ2 hq => ?_)
  obtain ⟨e1_, S2, Z2, J2, rfl⟩ := hq
  refine m_aload_n 2 rfl rfl dL_law_574 ?_
  refine la_arg 1 (by omega) hL rfl ⟨rfl, rfl⟩ dL_law_575 dL_law_576 dL_law_578 dL_law_579 dL_law_580 ?_
  refine la_arg 2 (by omega) hL rfl ⟨rfl, rfl⟩ dL_law_581 dL_law_582 dL_law_584 dL_law_585 dL_law_586 ?_
  refine la_arg 3 (by omega) hL rfl ⟨rfl, rfl⟩ dL_law_587 dL_law_588 dL_law_590 dL_law_591 dL_law_592 ?_
  refine m_callVi cv_L_60 [.int (xs (i + 1)), .int (xs (i + 2)), .int (xs (i + 3))] [.int (x1_)] (k_m_parts l G a_ ho_ im_ h_ hM_ (xs (i + 1)) (xs (i + 2)) (xs (i + 3))) (by decide) (ce_4 G _ _ _ _ _ _ _ _ _ _) rfl rfl rfl ⟨Nat.le_of_ble_eq_true rfl, Nat.le_of_ble_eq_true rfl⟩ (Nat.le_of_ble_eq_true rfl) ⟨by omega, by omega⟩ dL_law_593 (fun x2_ σ2 hq => ?_)
  obtain ⟨e2_, T2, V2, rfl⟩ := hq
  refine m_icmp_eq 1923 dL_law_596 (by decide) (fun _ => ?_) (fun hc => absurd (e1_.trans e2_.symm) hc)
  exact kk _ _ _ (li_mk hC_ hM_ ho_ hb_) (by omega) (by omega)
set_option maxRecDepth 100000 in
set_option maxHeartbeats 4000000 in
theorem lw_c_9 (l : Launch) (hl_ : l.stackTraces = false) (G : owG) {Qf : List Frame → Array Value → State → State → Prop} {b L i cells slots : Nat} {xs : Nat → Int32} (hL : L ≤ 3072) (hi : i + 6 ≤ L) (hf : cells + 25 ≤ room_1.cells ∧ slots + 100 ≤ room_1.slots) {A S Z B T V : owF} {J : Nat → Nat → Int64} {Y : Nat → Nat → Nat → Option Nat} {P : Nat → Option owW} {a_ : owK} {im_ : Option owK} {h_ : owH} (hC_ : CR A Y P a_ im_ h_) (hM_ : MR B a_ im_ h_) (ho_ : aOk a_) (hb_ : ∀ b, im_ = some b → aOk b) (kk : ∀ (σ2 : owSt) (c2 s2 : Nat), LI σ2 → c2 ≤ cells + 25 → s2 ≤ slots + 100 → WL l G Qf b L xs 1923 (lvL G b i) [] σ2 c2 s2) : WL l G Qf b L xs 601 (lvL G b i) [] (A, S, Z, B, T, V, J, Y, P) cells slots := by
  refine m_aload_n 1 rfl rfl dL_law_601 ?_
  refine la_arg 1 (by omega) hL rfl ⟨rfl, rfl⟩ dL_law_602 dL_law_603 dL_law_605 dL_law_606 dL_law_607 ?_
  refine la_arg 2 (by omega) hL rfl ⟨rfl, rfl⟩ dL_law_608 dL_law_609 dL_law_611 dL_law_612 dL_law_613 ?_
  refine la_arg 3 (by omega) hL rfl ⟨rfl, rfl⟩ dL_law_614 dL_law_615 dL_law_617 dL_law_618 dL_law_619 ?_
  refine m_callVi cv_L_61 [.int (xs (i + 1)), .int (xs (i + 2)), .int (xs (i + 3))] [] (k_whose l G a_ ho_ hC_.1 (xs (i + 1)) (xs (i + 2)) (xs (i + 3))) (by decide) (ce_0 G _ _ _ _ _ _ _ _ _ _) rfl rfl rfl ⟨Nat.le_of_ble_eq_true rfl, Nat.le_of_ble_eq_true rfl⟩ (Nat.le_of_ble_eq_true rfl) ⟨by omega, by omega⟩ dL_law_620 (fun x1_ σ2 hq => ?_)
  obtain ⟨e1_, S2, Z2, J2, rfl⟩ := hq
  refine m_aload_n 2 rfl rfl dL_law_623 ?_
  refine la_arg 1 (by omega) hL rfl ⟨rfl, rfl⟩ dL_law_624 dL_law_625 dL_law_627 dL_law_628 dL_law_629 ?_
  refine la_arg 2 (by omega) hL rfl ⟨rfl, rfl⟩ dL_law_630 dL_law_631 dL_law_633 dL_law_634 dL_law_635 ?_
  refine la_arg 3 (by omega) hL rfl ⟨rfl, rfl⟩ dL_law_636 dL_law_637 dL_law_639 dL_law_640 dL_law_641 ?_
  refine m_callVi cv_L_64 [.int (xs (i + 1)), .int (xs (i + 2)), .int (xs (i + 3))] [.int (x1_)] (k_m_whose l G a_ ho_ im_ h_ hM_ (xs (i + 1)) (xs (i + 2)) (xs (i + 3))) (by decide) (ce_4 G _ _ _ _ _ _ _ _ _ _) rfl rfl rfl ⟨Nat.le_of_ble_eq_true rfl, Nat.le_of_ble_eq_true rfl⟩ (Nat.le_of_ble_eq_true rfl) ⟨by omega, by omega⟩ dL_law_642 (fun x2_ σ2 hq => ?_)
  obtain ⟨e2_, T2, V2, rfl⟩ := hq
  refine m_icmp_eq 1923 dL_law_645 (by decide) (fun _ => ?_) (fun hc => absurd (e1_.trans e2_.symm) hc)
  exact kk _ _ _ (li_mk hC_ hM_ ho_ hb_) (by omega) (by omega)
set_option maxRecDepth 100000 in
set_option maxHeartbeats 4000000 in
theorem lw_c_10 (l : Launch) (hl_ : l.stackTraces = false) (G : owG) {Qf : List Frame → Array Value → State → State → Prop} {b L i cells slots : Nat} {xs : Nat → Int32} (hL : L ≤ 3072) (hi : i + 6 ≤ L) (hf : cells + 25 ≤ room_1.cells ∧ slots + 100 ≤ room_1.slots) {A S Z B T V : owF} {J : Nat → Nat → Int64} {Y : Nat → Nat → Nat → Option Nat} {P : Nat → Option owW} {a_ : owK} {im_ : Option owK} {h_ : owH} (hC_ : CR A Y P a_ im_ h_) (hM_ : MR B a_ im_ h_) (ho_ : aOk a_) (hb_ : ∀ b, im_ = some b → aOk b) (kk : ∀ (σ2 : owSt) (c2 s2 : Nat), LI σ2 → c2 ≤ cells + 25 → s2 ≤ slots + 100 → WL l G Qf b L xs 1923 (lvL G b i) [] σ2 c2 s2) : WL l G Qf b L xs 650 (lvL G b i) [] (A, S, Z, B, T, V, J, Y, P) cells slots := by
  refine m_aload_n 1 rfl rfl dL_law_650 ?_
  refine la_arg 1 (by omega) hL rfl ⟨rfl, rfl⟩ dL_law_651 dL_law_652 dL_law_654 dL_law_655 dL_law_656 ?_
  refine la_arg 2 (by omega) hL rfl ⟨rfl, rfl⟩ dL_law_657 dL_law_658 dL_law_660 dL_law_661 dL_law_662 ?_
  refine la_arg 3 (by omega) hL rfl ⟨rfl, rfl⟩ dL_law_663 dL_law_664 dL_law_666 dL_law_667 dL_law_668 ?_
  refine m_callVi cv_L_65 [.int (xs (i + 1)), .int (xs (i + 2)), .int (xs (i + 3))] [] (k_slip l G a_ ho_ hC_.1 h_ hC_.2.2.2.1 (xs (i + 1)) (xs (i + 2)) (xs (i + 3))) (by decide) (ce_0 G _ _ _ _ _ _ _ _ _ _) rfl rfl rfl ⟨Nat.le_of_ble_eq_true rfl, Nat.le_of_ble_eq_true rfl⟩ (Nat.le_of_ble_eq_true rfl) ⟨by omega, by omega⟩ dL_law_669 (fun x1_ σ2 hq => ?_)
  obtain ⟨e1_, S2, Z2, J2, rfl⟩ := hq
  refine m_aload_n 2 rfl rfl dL_law_672 ?_
  refine la_arg 1 (by omega) hL rfl ⟨rfl, rfl⟩ dL_law_673 dL_law_674 dL_law_676 dL_law_677 dL_law_678 ?_
  refine la_arg 2 (by omega) hL rfl ⟨rfl, rfl⟩ dL_law_679 dL_law_680 dL_law_682 dL_law_683 dL_law_684 ?_
  refine la_arg 3 (by omega) hL rfl ⟨rfl, rfl⟩ dL_law_685 dL_law_686 dL_law_688 dL_law_689 dL_law_690 ?_
  refine m_callVi cv_L_68 [.int (xs (i + 1)), .int (xs (i + 2)), .int (xs (i + 3))] [.int (x1_)] (k_m_slip l G a_ ho_ im_ h_ hM_ (xs (i + 1)) (xs (i + 2)) (xs (i + 3))) (by decide) (ce_4 G _ _ _ _ _ _ _ _ _ _) rfl rfl rfl ⟨Nat.le_of_ble_eq_true rfl, Nat.le_of_ble_eq_true rfl⟩ (Nat.le_of_ble_eq_true rfl) ⟨by omega, by omega⟩ dL_law_691 (fun x2_ σ2 hq => ?_)
  obtain ⟨e2_, T2, V2, rfl⟩ := hq
  refine m_icmp_eq 1923 dL_law_694 (by decide) (fun _ => ?_) (fun hc => absurd (e1_.trans e2_.symm) hc)
  exact kk _ _ _ (li_mk hC_ hM_ ho_ hb_) (by omega) (by omega)
set_option maxRecDepth 100000 in
set_option maxHeartbeats 4000000 in
theorem lw_c_11 (l : Launch) (hl_ : l.stackTraces = false) (G : owG) {Qf : List Frame → Array Value → State → State → Prop} {b L i cells slots : Nat} {xs : Nat → Int32} (hL : L ≤ 3072) (hi : i + 6 ≤ L) (hf : cells + 25 ≤ room_1.cells ∧ slots + 100 ≤ room_1.slots) {A S Z B T V : owF} {J : Nat → Nat → Int64} {Y : Nat → Nat → Nat → Option Nat} {P : Nat → Option owW} {a_ : owK} {im_ : Option owK} {h_ : owH} (hC_ : CR A Y P a_ im_ h_) (hM_ : MR B a_ im_ h_) (ho_ : aOk a_) (hb_ : ∀ b, im_ = some b → aOk b) (kk : ∀ (σ2 : owSt) (c2 s2 : Nat), LI σ2 → c2 ≤ cells + 25 → s2 ≤ slots + 100 → WL l G Qf b L xs 1923 (lvL G b i) [] σ2 c2 s2) : WL l G Qf b L xs 699 (lvL G b i) [] (A, S, Z, B, T, V, J, Y, P) cells slots := by
  refine m_aload_n 1 rfl rfl dL_law_699 ?_
  refine la_arg 1 (by omega) hL rfl ⟨rfl, rfl⟩ dL_law_700 dL_law_701 dL_law_703 dL_law_704 dL_law_705 ?_
  refine la_arg 2 (by omega) hL rfl ⟨rfl, rfl⟩ dL_law_706 dL_law_707 dL_law_709 dL_law_710 dL_law_711 ?_
  refine la_arg 3 (by omega) hL rfl ⟨rfl, rfl⟩ dL_law_712 dL_law_713 dL_law_715 dL_law_716 dL_law_717 ?_
  refine m_callVi cv_L_69 [.int (xs (i + 1)), .int (xs (i + 2)), .int (xs (i + 3))] [] (k_fits l G a_ ho_ hC_.1 h_ hC_.2.2.2.1 (xs (i + 1)) (xs (i + 2)) (xs (i + 3))) (by decide) (ce_0 G _ _ _ _ _ _ _ _ _ _) rfl rfl rfl ⟨Nat.le_of_ble_eq_true rfl, Nat.le_of_ble_eq_true rfl⟩ (Nat.le_of_ble_eq_true rfl) ⟨by omega, by omega⟩ dL_law_718 (fun x1_ σ2 hq => ?_)
  obtain ⟨e1_, S2, Z2, J2, rfl⟩ := hq
  refine m_aload_n 2 rfl rfl dL_law_721 ?_
  refine la_arg 1 (by omega) hL rfl ⟨rfl, rfl⟩ dL_law_722 dL_law_723 dL_law_725 dL_law_726 dL_law_727 ?_
  refine la_arg 2 (by omega) hL rfl ⟨rfl, rfl⟩ dL_law_728 dL_law_729 dL_law_731 dL_law_732 dL_law_733 ?_
  refine la_arg 3 (by omega) hL rfl ⟨rfl, rfl⟩ dL_law_734 dL_law_735 dL_law_737 dL_law_738 dL_law_739 ?_
  refine m_callVi cv_L_72 [.int (xs (i + 1)), .int (xs (i + 2)), .int (xs (i + 3))] [.int (x1_)] (k_m_fits l G a_ ho_ im_ h_ hM_ (xs (i + 1)) (xs (i + 2)) (xs (i + 3))) (by decide) (ce_4 G _ _ _ _ _ _ _ _ _ _) rfl rfl rfl ⟨Nat.le_of_ble_eq_true rfl, Nat.le_of_ble_eq_true rfl⟩ (Nat.le_of_ble_eq_true rfl) ⟨by omega, by omega⟩ dL_law_740 (fun x2_ σ2 hq => ?_)
  obtain ⟨e2_, T2, V2, rfl⟩ := hq
  refine m_icmp_eq 1923 dL_law_743 (by decide) (fun _ => ?_) (fun hc => absurd (e1_.trans e2_.symm) hc)
  exact kk _ _ _ (li_mk hC_ hM_ ho_ hb_) (by omega) (by omega)
set_option maxRecDepth 100000 in
set_option maxHeartbeats 4000000 in
theorem lw_c_12 (l : Launch) (hl_ : l.stackTraces = false) (G : owG) {Qf : List Frame → Array Value → State → State → Prop} {b L i cells slots : Nat} {xs : Nat → Int32} (hL : L ≤ 3072) (hi : i + 6 ≤ L) (hf : cells + 25 ≤ room_1.cells ∧ slots + 100 ≤ room_1.slots) {A S Z B T V : owF} {J : Nat → Nat → Int64} {Y : Nat → Nat → Nat → Option Nat} {P : Nat → Option owW} {a_ : owK} {im_ : Option owK} {h_ : owH} (hC_ : CR A Y P a_ im_ h_) (hM_ : MR B a_ im_ h_) (ho_ : aOk a_) (hb_ : ∀ b, im_ = some b → aOk b) (kk : ∀ (σ2 : owSt) (c2 s2 : Nat), LI σ2 → c2 ≤ cells + 25 → s2 ≤ slots + 100 → WL l G Qf b L xs 1923 (lvL G b i) [] σ2 c2 s2) : WL l G Qf b L xs 748 (lvL G b i) [] (A, S, Z, B, T, V, J, Y, P) cells slots := by
  refine m_aload_n 1 rfl rfl dL_law_748 ?_
  refine la_arg 1 (by omega) hL rfl ⟨rfl, rfl⟩ dL_law_749 dL_law_750 dL_law_752 dL_law_753 dL_law_754 ?_
  refine la_arg 2 (by omega) hL rfl ⟨rfl, rfl⟩ dL_law_755 dL_law_756 dL_law_758 dL_law_759 dL_law_760 ?_
  refine m_callVi cv_L_73 [.int (xs (i + 1)), .int (xs (i + 2))] [] (k_likely l G a_ ho_ hC_.1 h_ hC_.2.2.2.1 (xs (i + 1)) (xs (i + 2))) (by decide) (ce_0 G _ _ _ _ _ _ _ _ _ _) rfl rfl rfl ⟨Nat.le_of_ble_eq_true rfl, Nat.le_of_ble_eq_true rfl⟩ (Nat.le_of_ble_eq_true rfl) ⟨by omega, by omega⟩ dL_law_761 (fun x1_ σ2 hq => ?_)
  obtain ⟨e1_, S2, Z2, J2, rfl⟩ := hq
  refine m_aload_n 2 rfl rfl dL_law_764 ?_
  refine la_arg 1 (by omega) hL rfl ⟨rfl, rfl⟩ dL_law_765 dL_law_766 dL_law_768 dL_law_769 dL_law_770 ?_
  refine la_arg 2 (by omega) hL rfl ⟨rfl, rfl⟩ dL_law_771 dL_law_772 dL_law_774 dL_law_775 dL_law_776 ?_
  refine m_callVi cv_L_76 [.int (xs (i + 1)), .int (xs (i + 2))] [.int (x1_)] (k_m_likely l G a_ ho_ im_ h_ hM_ (xs (i + 1)) (xs (i + 2))) (by decide) (ce_4 G _ _ _ _ _ _ _ _ _ _) rfl rfl rfl ⟨Nat.le_of_ble_eq_true rfl, Nat.le_of_ble_eq_true rfl⟩ (Nat.le_of_ble_eq_true rfl) ⟨by omega, by omega⟩ dL_law_777 (fun x2_ σ2 hq => ?_)
  obtain ⟨e2_, T2, V2, rfl⟩ := hq
  refine m_icmp_eq 1923 dL_law_780 (by decide) (fun _ => ?_) (fun hc => absurd (e1_.trans e2_.symm) hc)
  exact kk _ _ _ (li_mk hC_ hM_ ho_ hb_) (by omega) (by omega)
set_option maxRecDepth 100000 in
set_option maxHeartbeats 4000000 in
theorem lw_c_13 (l : Launch) (hl_ : l.stackTraces = false) (G : owG) {Qf : List Frame → Array Value → State → State → Prop} {b L i cells slots : Nat} {xs : Nat → Int32} (hL : L ≤ 3072) (hi : i + 6 ≤ L) (hf : cells + 25 ≤ room_1.cells ∧ slots + 100 ≤ room_1.slots) {A S Z B T V : owF} {J : Nat → Nat → Int64} {Y : Nat → Nat → Nat → Option Nat} {P : Nat → Option owW} {a_ : owK} {im_ : Option owK} {h_ : owH} (hC_ : CR A Y P a_ im_ h_) (hM_ : MR B a_ im_ h_) (ho_ : aOk a_) (hb_ : ∀ b, im_ = some b → aOk b) (kk : ∀ (σ2 : owSt) (c2 s2 : Nat), LI σ2 → c2 ≤ cells + 25 → s2 ≤ slots + 100 → WL l G Qf b L xs 1923 (lvL G b i) [] σ2 c2 s2) : WL l G Qf b L xs 785 (lvL G b i) [] (A, S, Z, B, T, V, J, Y, P) cells slots := by
  refine m_aload_n 1 rfl rfl dL_law_785 ?_
  refine la_arg 1 (by omega) hL rfl ⟨rfl, rfl⟩ dL_law_786 dL_law_787 dL_law_789 dL_law_790 dL_law_791 ?_
  refine la_arg 2 (by omega) hL rfl ⟨rfl, rfl⟩ dL_law_792 dL_law_793 dL_law_795 dL_law_796 dL_law_797 ?_
  refine la_arg 3 (by omega) hL rfl ⟨rfl, rfl⟩ dL_law_798 dL_law_799 dL_law_801 dL_law_802 dL_law_803 ?_
  refine la_arg 4 (by omega) hL rfl ⟨rfl, rfl⟩ dL_law_804 dL_law_805 dL_law_807 dL_law_808 dL_law_809 ?_
  refine m_callVi cv_L_77 [.int (xs (i + 1)), .int (xs (i + 2)), .int (xs (i + 3)), .int (xs (i + 4))] [] (k_odds l G a_ ho_ hC_.1 h_ hC_.2.2.2.1 (xs (i + 1)) (xs (i + 2)) (xs (i + 3)) (xs (i + 4))) (by decide) (ce_0 G _ _ _ _ _ _ _ _ _ _) rfl rfl rfl ⟨Nat.le_of_ble_eq_true rfl, Nat.le_of_ble_eq_true rfl⟩ (Nat.le_of_ble_eq_true rfl) ⟨by omega, by omega⟩ dL_law_810 (fun x1_ σ2 hq => ?_)
  obtain ⟨e1_, S2, Z2, J2, rfl⟩ := hq
  refine m_aload_n 2 rfl rfl dL_law_813 ?_
  refine la_arg 1 (by omega) hL rfl ⟨rfl, rfl⟩ dL_law_814 dL_law_815 dL_law_817 dL_law_818 dL_law_819 ?_
  refine la_arg 2 (by omega) hL rfl ⟨rfl, rfl⟩ dL_law_820 dL_law_821 dL_law_823 dL_law_824 dL_law_825 ?_
  refine la_arg 3 (by omega) hL rfl ⟨rfl, rfl⟩ dL_law_826 dL_law_827 dL_law_829 dL_law_830 dL_law_831 ?_
  refine la_arg 4 (by omega) hL rfl ⟨rfl, rfl⟩ dL_law_832 dL_law_833 dL_law_835 dL_law_836 dL_law_837 ?_
  refine m_callVi cv_L_81 [.int (xs (i + 1)), .int (xs (i + 2)), .int (xs (i + 3)), .int (xs (i + 4))] [.int (x1_)] (k_m_odds l G a_ ho_ im_ h_ hM_ (xs (i + 1)) (xs (i + 2)) (xs (i + 3)) (xs (i + 4))) (by decide) (ce_4 G _ _ _ _ _ _ _ _ _ _) rfl rfl rfl ⟨Nat.le_of_ble_eq_true rfl, Nat.le_of_ble_eq_true rfl⟩ (Nat.le_of_ble_eq_true rfl) ⟨by omega, by omega⟩ dL_law_838 (fun x2_ σ2 hq => ?_)
  obtain ⟨e2_, T2, V2, rfl⟩ := hq
  refine m_icmp_eq 1923 dL_law_841 (by decide) (fun _ => ?_) (fun hc => absurd (e1_.trans e2_.symm) hc)
  exact kk _ _ _ (li_mk hC_ hM_ ho_ hb_) (by omega) (by omega)
set_option maxRecDepth 100000 in
set_option maxHeartbeats 4000000 in
theorem lw_c_14 (l : Launch) (hl_ : l.stackTraces = false) (G : owG) {Qf : List Frame → Array Value → State → State → Prop} {b L i cells slots : Nat} {xs : Nat → Int32} (hL : L ≤ 3072) (hi : i + 6 ≤ L) (hf : cells + 25 ≤ room_1.cells ∧ slots + 100 ≤ room_1.slots) {A S Z B T V : owF} {J : Nat → Nat → Int64} {Y : Nat → Nat → Nat → Option Nat} {P : Nat → Option owW} {a_ : owK} {im_ : Option owK} {h_ : owH} (hC_ : CR A Y P a_ im_ h_) (hM_ : MR B a_ im_ h_) (ho_ : aOk a_) (hb_ : ∀ b, im_ = some b → aOk b) (kk : ∀ (σ2 : owSt) (c2 s2 : Nat), LI σ2 → c2 ≤ cells + 25 → s2 ≤ slots + 100 → WL l G Qf b L xs 1923 (lvL G b i) [] σ2 c2 s2) : WL l G Qf b L xs 846 (lvL G b i) [] (A, S, Z, B, T, V, J, Y, P) cells slots := by
  refine m_aload_n 1 rfl rfl dL_law_846 ?_
  refine la_arg 1 (by omega) hL rfl ⟨rfl, rfl⟩ dL_law_847 dL_law_848 dL_law_850 dL_law_851 dL_law_852 ?_
  refine la_arg 2 (by omega) hL rfl ⟨rfl, rfl⟩ dL_law_853 dL_law_854 dL_law_856 dL_law_857 dL_law_858 ?_
  refine la_arg 3 (by omega) hL rfl ⟨rfl, rfl⟩ dL_law_859 dL_law_860 dL_law_862 dL_law_863 dL_law_864 ?_
  refine la_arg 4 (by omega) hL rfl ⟨rfl, rfl⟩ dL_law_865 dL_law_866 dL_law_868 dL_law_869 dL_law_870 ?_
  refine la_arg 5 (by omega) hL rfl ⟨rfl, rfl⟩ dL_law_871 dL_law_872 dL_law_874 dL_law_875 dL_law_876 ?_
  refine m_callVi cv_L_82 [.int (xs (i + 1)), .int (xs (i + 2)), .int (xs (i + 3)), .int (xs (i + 4)), .int (xs (i + 5))] [] (k_held l G a_ ho_ hC_.1 h_ hC_.2.2.2.1 (xs (i + 1)) (xs (i + 2)) (xs (i + 3)) (xs (i + 4)) (xs (i + 5))) (by decide) (ce_0 G _ _ _ _ _ _ _ _ _ _) rfl rfl rfl ⟨Nat.le_of_ble_eq_true rfl, Nat.le_of_ble_eq_true rfl⟩ (Nat.le_of_ble_eq_true rfl) ⟨by omega, by omega⟩ dL_law_877 (fun x1_ σ2 hq => ?_)
  obtain ⟨e1_, S2, Z2, J2, rfl⟩ := hq
  refine m_aload_n 2 rfl rfl dL_law_880 ?_
  refine la_arg 1 (by omega) hL rfl ⟨rfl, rfl⟩ dL_law_881 dL_law_882 dL_law_884 dL_law_885 dL_law_886 ?_
  refine la_arg 2 (by omega) hL rfl ⟨rfl, rfl⟩ dL_law_887 dL_law_888 dL_law_890 dL_law_891 dL_law_892 ?_
  refine la_arg 3 (by omega) hL rfl ⟨rfl, rfl⟩ dL_law_893 dL_law_894 dL_law_896 dL_law_897 dL_law_898 ?_
  refine la_arg 4 (by omega) hL rfl ⟨rfl, rfl⟩ dL_law_899 dL_law_900 dL_law_902 dL_law_903 dL_law_904 ?_
  refine la_arg 5 (by omega) hL rfl ⟨rfl, rfl⟩ dL_law_905 dL_law_906 dL_law_908 dL_law_909 dL_law_910 ?_
  refine m_callVi cv_L_85 [.int (xs (i + 1)), .int (xs (i + 2)), .int (xs (i + 3)), .int (xs (i + 4)), .int (xs (i + 5))] [.int (x1_)] (k_m_held l G a_ ho_ im_ h_ hM_ (xs (i + 1)) (xs (i + 2)) (xs (i + 3)) (xs (i + 4)) (xs (i + 5))) (by decide) (ce_4 G _ _ _ _ _ _ _ _ _ _) rfl rfl rfl ⟨Nat.le_of_ble_eq_true rfl, Nat.le_of_ble_eq_true rfl⟩ (Nat.le_of_ble_eq_true rfl) ⟨by omega, by omega⟩ dL_law_911 (fun x2_ σ2 hq => ?_)
  obtain ⟨e2_, T2, V2, rfl⟩ := hq
  refine m_icmp_eq 1923 dL_law_914 (by decide) (fun _ => ?_) (fun hc => absurd (e1_.trans e2_.symm) hc)
  exact kk _ _ _ (li_mk hC_ hM_ ho_ hb_) (by omega) (by omega)
set_option maxRecDepth 100000 in
set_option maxHeartbeats 4000000 in
theorem lw_c_15 (l : Launch) (hl_ : l.stackTraces = false) (G : owG) {Qf : List Frame → Array Value → State → State → Prop} {b L i cells slots : Nat} {xs : Nat → Int32} (hL : L ≤ 3072) (hi : i + 6 ≤ L) (hf : cells + 25 ≤ room_1.cells ∧ slots + 100 ≤ room_1.slots) {A S Z B T V : owF} {J : Nat → Nat → Int64} {Y : Nat → Nat → Nat → Option Nat} {P : Nat → Option owW} {a_ : owK} {im_ : Option owK} {h_ : owH} (hC_ : CR A Y P a_ im_ h_) (hM_ : MR B a_ im_ h_) (ho_ : aOk a_) (hb_ : ∀ b, im_ = some b → aOk b) (kk : ∀ (σ2 : owSt) (c2 s2 : Nat), LI σ2 → c2 ≤ cells + 25 → s2 ≤ slots + 100 → WL l G Qf b L xs 1923 (lvL G b i) [] σ2 c2 s2) : WL l G Qf b L xs 919 (lvL G b i) [] (A, S, Z, B, T, V, J, Y, P) cells slots := by
  refine m_aload_n 1 rfl rfl dL_law_919 ?_
  refine la_arg 1 (by omega) hL rfl ⟨rfl, rfl⟩ dL_law_920 dL_law_921 dL_law_923 dL_law_924 dL_law_925 ?_
  refine la_arg 2 (by omega) hL rfl ⟨rfl, rfl⟩ dL_law_926 dL_law_927 dL_law_929 dL_law_930 dL_law_931 ?_
  refine m_callVi cv_L_86 [.int (xs (i + 1)), .int (xs (i + 2))] [] (k_most l G a_ ho_ hC_.1 h_ hC_.2.2.2.1 (xs (i + 1)) (xs (i + 2))) (by decide) (ce_0 G _ _ _ _ _ _ _ _ _ _) rfl rfl rfl ⟨Nat.le_of_ble_eq_true rfl, Nat.le_of_ble_eq_true rfl⟩ (Nat.le_of_ble_eq_true rfl) ⟨by omega, by omega⟩ dL_law_932 (fun x1_ σ2 hq => ?_)
  obtain ⟨e1_, S2, Z2, J2, rfl⟩ := hq
  refine m_aload_n 2 rfl rfl dL_law_935 ?_
  refine la_arg 1 (by omega) hL rfl ⟨rfl, rfl⟩ dL_law_936 dL_law_937 dL_law_939 dL_law_940 dL_law_941 ?_
  refine la_arg 2 (by omega) hL rfl ⟨rfl, rfl⟩ dL_law_942 dL_law_943 dL_law_945 dL_law_946 dL_law_947 ?_
  refine m_callVi cv_L_89 [.int (xs (i + 1)), .int (xs (i + 2))] [.int (x1_)] (k_m_most l G a_ ho_ im_ h_ hM_ (xs (i + 1)) (xs (i + 2))) (by decide) (ce_4 G _ _ _ _ _ _ _ _ _ _) rfl rfl rfl ⟨Nat.le_of_ble_eq_true rfl, Nat.le_of_ble_eq_true rfl⟩ (Nat.le_of_ble_eq_true rfl) ⟨by omega, by omega⟩ dL_law_948 (fun x2_ σ2 hq => ?_)
  obtain ⟨e2_, T2, V2, rfl⟩ := hq
  refine m_icmp_eq 1923 dL_law_951 (by decide) (fun _ => ?_) (fun hc => absurd (e1_.trans e2_.symm) hc)
  exact kk _ _ _ (li_mk hC_ hM_ ho_ hb_) (by omega) (by omega)
set_option maxRecDepth 100000 in
set_option maxHeartbeats 4000000 in
theorem lw_c_16 (l : Launch) (hl_ : l.stackTraces = false) (G : owG) {Qf : List Frame → Array Value → State → State → Prop} {b L i cells slots : Nat} {xs : Nat → Int32} (hL : L ≤ 3072) (hi : i + 6 ≤ L) (hf : cells + 25 ≤ room_1.cells ∧ slots + 100 ≤ room_1.slots) {A S Z B T V : owF} {J : Nat → Nat → Int64} {Y : Nat → Nat → Nat → Option Nat} {P : Nat → Option owW} {a_ : owK} {im_ : Option owK} {h_ : owH} (hC_ : CR A Y P a_ im_ h_) (hM_ : MR B a_ im_ h_) (ho_ : aOk a_) (hb_ : ∀ b, im_ = some b → aOk b) (kk : ∀ (σ2 : owSt) (c2 s2 : Nat), LI σ2 → c2 ≤ cells + 25 → s2 ≤ slots + 100 → WL l G Qf b L xs 1923 (lvL G b i) [] σ2 c2 s2) : WL l G Qf b L xs 956 (lvL G b i) [] (A, S, Z, B, T, V, J, Y, P) cells slots := by
  refine m_aload_n 1 rfl rfl dL_law_956 ?_
  refine la_arg 1 (by omega) hL rfl ⟨rfl, rfl⟩ dL_law_957 dL_law_958 dL_law_960 dL_law_961 dL_law_962 ?_
  refine la_arg 2 (by omega) hL rfl ⟨rfl, rfl⟩ dL_law_963 dL_law_964 dL_law_966 dL_law_967 dL_law_968 ?_
  refine la_arg 3 (by omega) hL rfl ⟨rfl, rfl⟩ dL_law_969 dL_law_970 dL_law_972 dL_law_973 dL_law_974 ?_
  refine m_callVi cv_L_90 [.int (xs (i + 1)), .int (xs (i + 2)), .int (xs (i + 3))] [] (k_apart l G a_ ho_ hC_.1 h_ hC_.2.2.2.1 (xs (i + 1)) (xs (i + 2)) (xs (i + 3))) (by decide) (ce_0 G _ _ _ _ _ _ _ _ _ _) rfl rfl rfl ⟨Nat.le_of_ble_eq_true rfl, Nat.le_of_ble_eq_true rfl⟩ (Nat.le_of_ble_eq_true rfl) ⟨by omega, by omega⟩ dL_law_975 (fun x1_ σ2 hq => ?_)
  obtain ⟨e1_, S2, Z2, J2, rfl⟩ := hq
  refine m_aload_n 2 rfl rfl dL_law_978 ?_
  refine la_arg 1 (by omega) hL rfl ⟨rfl, rfl⟩ dL_law_979 dL_law_980 dL_law_982 dL_law_983 dL_law_984 ?_
  refine la_arg 2 (by omega) hL rfl ⟨rfl, rfl⟩ dL_law_985 dL_law_986 dL_law_988 dL_law_989 dL_law_990 ?_
  refine la_arg 3 (by omega) hL rfl ⟨rfl, rfl⟩ dL_law_991 dL_law_992 dL_law_994 dL_law_995 dL_law_996 ?_
  refine m_callVi cv_L_93 [.int (xs (i + 1)), .int (xs (i + 2)), .int (xs (i + 3))] [.int (x1_)] (k_m_apart l G a_ ho_ im_ h_ hM_ (xs (i + 1)) (xs (i + 2)) (xs (i + 3))) (by decide) (ce_4 G _ _ _ _ _ _ _ _ _ _) rfl rfl rfl ⟨Nat.le_of_ble_eq_true rfl, Nat.le_of_ble_eq_true rfl⟩ (Nat.le_of_ble_eq_true rfl) ⟨by omega, by omega⟩ dL_law_997 (fun x2_ σ2 hq => ?_)
  obtain ⟨e2_, T2, V2, rfl⟩ := hq
  refine m_icmp_eq 1923 dL_law_1000 (by decide) (fun _ => ?_) (fun hc => absurd (e1_.trans e2_.symm) hc)
  exact kk _ _ _ (li_mk hC_ hM_ ho_ hb_) (by omega) (by omega)
set_option maxRecDepth 100000 in
set_option maxHeartbeats 4000000 in
theorem lw_c_17 (l : Launch) (hl_ : l.stackTraces = false) (G : owG) {Qf : List Frame → Array Value → State → State → Prop} {b L i cells slots : Nat} {xs : Nat → Int32} (hL : L ≤ 3072) (hi : i + 6 ≤ L) (hf : cells + 25 ≤ room_1.cells ∧ slots + 100 ≤ room_1.slots) {A S Z B T V : owF} {J : Nat → Nat → Int64} {Y : Nat → Nat → Nat → Option Nat} {P : Nat → Option owW} {a_ : owK} {im_ : Option owK} {h_ : owH} (hC_ : CR A Y P a_ im_ h_) (hM_ : MR B a_ im_ h_) (ho_ : aOk a_) (hb_ : ∀ b, im_ = some b → aOk b) (kk : ∀ (σ2 : owSt) (c2 s2 : Nat), LI σ2 → c2 ≤ cells + 25 → s2 ≤ slots + 100 → WL l G Qf b L xs 1923 (lvL G b i) [] σ2 c2 s2) : WL l G Qf b L xs 1005 (lvL G b i) [] (A, S, Z, B, T, V, J, Y, P) cells slots := by
  refine m_aload_n 1 rfl rfl dL_law_1005 ?_
  refine la_arg 1 (by omega) hL rfl ⟨rfl, rfl⟩ dL_law_1006 dL_law_1007 dL_law_1009 dL_law_1010 dL_law_1011 ?_
  refine la_arg 2 (by omega) hL rfl ⟨rfl, rfl⟩ dL_law_1012 dL_law_1013 dL_law_1015 dL_law_1016 dL_law_1017 ?_
  refine m_callVi cv_L_94 [.int (xs (i + 1)), .int (xs (i + 2))] [] (k_never l G a_ ho_ hC_.1 h_ hC_.2.2.2.1 (xs (i + 1)) (xs (i + 2))) (by decide) (ce_0 G _ _ _ _ _ _ _ _ _ _) rfl rfl rfl ⟨Nat.le_of_ble_eq_true rfl, Nat.le_of_ble_eq_true rfl⟩ (Nat.le_of_ble_eq_true rfl) ⟨by omega, by omega⟩ dL_law_1018 (fun x1_ σ2 hq => ?_)
  obtain ⟨e1_, S2, Z2, J2, rfl⟩ := hq
  refine m_aload_n 2 rfl rfl dL_law_1021 ?_
  refine la_arg 1 (by omega) hL rfl ⟨rfl, rfl⟩ dL_law_1022 dL_law_1023 dL_law_1025 dL_law_1026 dL_law_1027 ?_
  refine la_arg 2 (by omega) hL rfl ⟨rfl, rfl⟩ dL_law_1028 dL_law_1029 dL_law_1031 dL_law_1032 dL_law_1033 ?_
  refine m_callVi cv_L_97 [.int (xs (i + 1)), .int (xs (i + 2))] [.int (x1_)] (k_m_never l G a_ ho_ im_ h_ hM_ (xs (i + 1)) (xs (i + 2))) (by decide) (ce_4 G _ _ _ _ _ _ _ _ _ _) rfl rfl rfl ⟨Nat.le_of_ble_eq_true rfl, Nat.le_of_ble_eq_true rfl⟩ (Nat.le_of_ble_eq_true rfl) ⟨by omega, by omega⟩ dL_law_1034 (fun x2_ σ2 hq => ?_)
  obtain ⟨e2_, T2, V2, rfl⟩ := hq
  refine m_icmp_eq 1923 dL_law_1037 (by decide) (fun _ => ?_) (fun hc => absurd (e1_.trans e2_.symm) hc)
  exact kk _ _ _ (li_mk hC_ hM_ ho_ hb_) (by omega) (by omega)
set_option maxRecDepth 100000 in
set_option maxHeartbeats 4000000 in
theorem lw_c_18 (l : Launch) (hl_ : l.stackTraces = false) (G : owG) {Qf : List Frame → Array Value → State → State → Prop} {b L i cells slots : Nat} {xs : Nat → Int32} (hL : L ≤ 3072) (hi : i + 6 ≤ L) (hf : cells + 25 ≤ room_1.cells ∧ slots + 100 ≤ room_1.slots) {A S Z B T V : owF} {J : Nat → Nat → Int64} {Y : Nat → Nat → Nat → Option Nat} {P : Nat → Option owW} {a_ : owK} {im_ : Option owK} {h_ : owH} (hC_ : CR A Y P a_ im_ h_) (hM_ : MR B a_ im_ h_) (ho_ : aOk a_) (hb_ : ∀ b, im_ = some b → aOk b) (kk : ∀ (σ2 : owSt) (c2 s2 : Nat), LI σ2 → c2 ≤ cells + 25 → s2 ≤ slots + 100 → WL l G Qf b L xs 1923 (lvL G b i) [] σ2 c2 s2) : WL l G Qf b L xs 1042 (lvL G b i) [] (A, S, Z, B, T, V, J, Y, P) cells slots := by
  refine m_aload_n 1 rfl rfl dL_law_1042 ?_
  refine la_arg 1 (by omega) hL rfl ⟨rfl, rfl⟩ dL_law_1043 dL_law_1044 dL_law_1046 dL_law_1047 dL_law_1048 ?_
  refine la_arg 2 (by omega) hL rfl ⟨rfl, rfl⟩ dL_law_1049 dL_law_1050 dL_law_1052 dL_law_1053 dL_law_1054 ?_
  refine la_arg 3 (by omega) hL rfl ⟨rfl, rfl⟩ dL_law_1055 dL_law_1056 dL_law_1058 dL_law_1059 dL_law_1060 ?_
  refine m_callVi cv_L_98 [.int (xs (i + 1)), .int (xs (i + 2)), .int (xs (i + 3))] [] (k_luck l G a_ ho_ hC_.1 h_ hC_.2.2.2.1 (xs (i + 1)) (xs (i + 2)) (xs (i + 3))) (by decide) (ce_0 G _ _ _ _ _ _ _ _ _ _) rfl rfl rfl ⟨Nat.le_of_ble_eq_true rfl, Nat.le_of_ble_eq_true rfl⟩ (Nat.le_of_ble_eq_true rfl) ⟨by omega, by omega⟩ dL_law_1061 (fun x1_ σ2 hq => ?_)
  obtain ⟨e1_, S2, Z2, J2, rfl⟩ := hq
  refine m_aload_n 2 rfl rfl dL_law_1064 ?_
  refine la_arg 1 (by omega) hL rfl ⟨rfl, rfl⟩ dL_law_1065 dL_law_1066 dL_law_1068 dL_law_1069 dL_law_1070 ?_
  refine la_arg 2 (by omega) hL rfl ⟨rfl, rfl⟩ dL_law_1071 dL_law_1072 dL_law_1074 dL_law_1075 dL_law_1076 ?_
  refine la_arg 3 (by omega) hL rfl ⟨rfl, rfl⟩ dL_law_1077 dL_law_1078 dL_law_1080 dL_law_1081 dL_law_1082 ?_
  refine m_callVi cv_L_101 [.int (xs (i + 1)), .int (xs (i + 2)), .int (xs (i + 3))] [.int (x1_)] (k_m_luck l G a_ ho_ im_ h_ hM_ (xs (i + 1)) (xs (i + 2)) (xs (i + 3))) (by decide) (ce_4 G _ _ _ _ _ _ _ _ _ _) rfl rfl rfl ⟨Nat.le_of_ble_eq_true rfl, Nat.le_of_ble_eq_true rfl⟩ (Nat.le_of_ble_eq_true rfl) ⟨by omega, by omega⟩ dL_law_1083 (fun x2_ σ2 hq => ?_)
  obtain ⟨e2_, T2, V2, rfl⟩ := hq
  refine m_icmp_eq 1923 dL_law_1086 (by decide) (fun _ => ?_) (fun hc => absurd (e1_.trans e2_.symm) hc)
  exact kk _ _ _ (li_mk hC_ hM_ ho_ hb_) (by omega) (by omega)
set_option maxRecDepth 100000 in
set_option maxHeartbeats 4000000 in
theorem lw_c_19 (l : Launch) (hl_ : l.stackTraces = false) (G : owG) {Qf : List Frame → Array Value → State → State → Prop} {b L i cells slots : Nat} {xs : Nat → Int32} (hL : L ≤ 3072) (hi : i + 6 ≤ L) (hf : cells + 25 ≤ room_1.cells ∧ slots + 100 ≤ room_1.slots) {A S Z B T V : owF} {J : Nat → Nat → Int64} {Y : Nat → Nat → Nat → Option Nat} {P : Nat → Option owW} {a_ : owK} {im_ : Option owK} {h_ : owH} (hC_ : CR A Y P a_ im_ h_) (hM_ : MR B a_ im_ h_) (ho_ : aOk a_) (hb_ : ∀ b, im_ = some b → aOk b) (kk : ∀ (σ2 : owSt) (c2 s2 : Nat), LI σ2 → c2 ≤ cells + 25 → s2 ≤ slots + 100 → WL l G Qf b L xs 1923 (lvL G b i) [] σ2 c2 s2) : WL l G Qf b L xs 1091 (lvL G b i) [] (A, S, Z, B, T, V, J, Y, P) cells slots := by
  refine m_aload_n 1 rfl rfl dL_law_1091 ?_
  refine la_arg 1 (by omega) hL rfl ⟨rfl, rfl⟩ dL_law_1092 dL_law_1093 dL_law_1095 dL_law_1096 dL_law_1097 ?_
  refine m_callVi cv_L_102 [.int (xs (i + 1))] [] (k_clash l G a_ ho_ hC_.1 (xs (i + 1))) (by decide) (ce_0 G _ _ _ _ _ _ _ _ _ _) rfl rfl rfl ⟨Nat.le_of_ble_eq_true rfl, Nat.le_of_ble_eq_true rfl⟩ (Nat.le_of_ble_eq_true rfl) ⟨by omega, by omega⟩ dL_law_1098 (fun x1_ σ2 hq => ?_)
  obtain ⟨e1_, S2, Z2, J2, rfl⟩ := hq
  refine m_aload_n 2 rfl rfl dL_law_1101 ?_
  refine la_arg 1 (by omega) hL rfl ⟨rfl, rfl⟩ dL_law_1102 dL_law_1103 dL_law_1105 dL_law_1106 dL_law_1107 ?_
  refine m_callVi cv_L_105 [.int (xs (i + 1))] [.int (x1_)] (k_m_clash l G a_ ho_ im_ h_ hM_ (xs (i + 1))) (by decide) (ce_4 G _ _ _ _ _ _ _ _ _ _) rfl rfl rfl ⟨Nat.le_of_ble_eq_true rfl, Nat.le_of_ble_eq_true rfl⟩ (Nat.le_of_ble_eq_true rfl) ⟨by omega, by omega⟩ dL_law_1108 (fun x2_ σ2 hq => ?_)
  obtain ⟨e2_, T2, V2, rfl⟩ := hq
  refine m_icmp_eq 1923 dL_law_1111 (by decide) (fun _ => ?_) (fun hc => absurd (e1_.trans e2_.symm) hc)
  exact kk _ _ _ (li_mk hC_ hM_ ho_ hb_) (by omega) (by omega)
set_option maxRecDepth 100000 in
set_option maxHeartbeats 4000000 in
theorem lw_c_20 (l : Launch) (hl_ : l.stackTraces = false) (G : owG) {Qf : List Frame → Array Value → State → State → Prop} {b L i cells slots : Nat} {xs : Nat → Int32} (hL : L ≤ 3072) (hi : i + 6 ≤ L) (hf : cells + 25 ≤ room_1.cells ∧ slots + 100 ≤ room_1.slots) {A S Z B T V : owF} {J : Nat → Nat → Int64} {Y : Nat → Nat → Nat → Option Nat} {P : Nat → Option owW} {a_ : owK} {im_ : Option owK} {h_ : owH} (hC_ : CR A Y P a_ im_ h_) (hM_ : MR B a_ im_ h_) (ho_ : aOk a_) (hb_ : ∀ b, im_ = some b → aOk b) (kk : ∀ (σ2 : owSt) (c2 s2 : Nat), LI σ2 → c2 ≤ cells + 25 → s2 ≤ slots + 100 → WL l G Qf b L xs 1923 (lvL G b i) [] σ2 c2 s2) : WL l G Qf b L xs 1116 (lvL G b i) [] (A, S, Z, B, T, V, J, Y, P) cells slots := by
  refine m_aload_n 1 rfl rfl dL_law_1116 ?_
  refine la_arg 1 (by omega) hL rfl ⟨rfl, rfl⟩ dL_law_1117 dL_law_1118 dL_law_1120 dL_law_1121 dL_law_1122 ?_
  refine la_arg 2 (by omega) hL rfl ⟨rfl, rfl⟩ dL_law_1123 dL_law_1124 dL_law_1126 dL_law_1127 dL_law_1128 ?_
  refine m_callVi cv_L_106 [.int (xs (i + 1)), .int (xs (i + 2))] [] (k_comes l G a_ ho_ hC_.1 (xs (i + 1)) (xs (i + 2))) (by decide) (ce_0 G _ _ _ _ _ _ _ _ _ _) rfl rfl rfl ⟨Nat.le_of_ble_eq_true rfl, Nat.le_of_ble_eq_true rfl⟩ (Nat.le_of_ble_eq_true rfl) ⟨by omega, by omega⟩ dL_law_1129 (fun x1_ σ2 hq => ?_)
  obtain ⟨e1_, S2, Z2, J2, rfl⟩ := hq
  refine m_aload_n 2 rfl rfl dL_law_1132 ?_
  refine la_arg 1 (by omega) hL rfl ⟨rfl, rfl⟩ dL_law_1133 dL_law_1134 dL_law_1136 dL_law_1137 dL_law_1138 ?_
  refine la_arg 2 (by omega) hL rfl ⟨rfl, rfl⟩ dL_law_1139 dL_law_1140 dL_law_1142 dL_law_1143 dL_law_1144 ?_
  refine m_callVi cv_L_109 [.int (xs (i + 1)), .int (xs (i + 2))] [.int (x1_)] (k_m_comes l G a_ ho_ im_ h_ hM_ (xs (i + 1)) (xs (i + 2))) (by decide) (ce_4 G _ _ _ _ _ _ _ _ _ _) rfl rfl rfl ⟨Nat.le_of_ble_eq_true rfl, Nat.le_of_ble_eq_true rfl⟩ (Nat.le_of_ble_eq_true rfl) ⟨by omega, by omega⟩ dL_law_1145 (fun x2_ σ2 hq => ?_)
  obtain ⟨e2_, T2, V2, rfl⟩ := hq
  refine m_icmp_eq 1923 dL_law_1148 (by decide) (fun _ => ?_) (fun hc => absurd (e1_.trans e2_.symm) hc)
  exact kk _ _ _ (li_mk hC_ hM_ ho_ hb_) (by omega) (by omega)
set_option maxRecDepth 100000 in
set_option maxHeartbeats 4000000 in
theorem lw_c_21 (l : Launch) (hl_ : l.stackTraces = false) (G : owG) {Qf : List Frame → Array Value → State → State → Prop} {b L i cells slots : Nat} {xs : Nat → Int32} (hL : L ≤ 3072) (hi : i + 6 ≤ L) (hf : cells + 25 ≤ room_1.cells ∧ slots + 100 ≤ room_1.slots) {A S Z B T V : owF} {J : Nat → Nat → Int64} {Y : Nat → Nat → Nat → Option Nat} {P : Nat → Option owW} {a_ : owK} {im_ : Option owK} {h_ : owH} (hC_ : CR A Y P a_ im_ h_) (hM_ : MR B a_ im_ h_) (ho_ : aOk a_) (hb_ : ∀ b, im_ = some b → aOk b) (kk : ∀ (σ2 : owSt) (c2 s2 : Nat), LI σ2 → c2 ≤ cells + 25 → s2 ≤ slots + 100 → WL l G Qf b L xs 1923 (lvL G b i) [] σ2 c2 s2) : WL l G Qf b L xs 1153 (lvL G b i) [] (A, S, Z, B, T, V, J, Y, P) cells slots := by
  refine m_aload_n 1 rfl rfl dL_law_1153 ?_
  refine la_arg 1 (by omega) hL rfl ⟨rfl, rfl⟩ dL_law_1154 dL_law_1155 dL_law_1157 dL_law_1158 dL_law_1159 ?_
  refine la_arg 2 (by omega) hL rfl ⟨rfl, rfl⟩ dL_law_1160 dL_law_1161 dL_law_1163 dL_law_1164 dL_law_1165 ?_
  refine la_arg 3 (by omega) hL rfl ⟨rfl, rfl⟩ dL_law_1166 dL_law_1167 dL_law_1169 dL_law_1170 dL_law_1171 ?_
  refine la_arg 4 (by omega) hL rfl ⟨rfl, rfl⟩ dL_law_1172 dL_law_1173 dL_law_1175 dL_law_1176 dL_law_1177 ?_
  refine m_callVi cv_L_110 [.int (xs (i + 1)), .int (xs (i + 2)), .int (xs (i + 3)), .int (xs (i + 4))] [] (k_day l G a_ ho_ im_ h_ hC_ (xs (i + 1)) (xs (i + 2)) (xs (i + 3)) (xs (i + 4))) (by decide) (ce_0 G _ _ _ _ _ _ _ _ _ _) rfl rfl rfl ⟨Nat.le_of_ble_eq_true rfl, Nat.le_of_ble_eq_true rfl⟩ (Nat.le_of_ble_eq_true rfl) ⟨by omega, by omega⟩ dL_law_1178 (fun x1_ σ2 hq => ?_)
  obtain ⟨e1_, A2, S2, Z2, J2, Y2, rfl, hC_⟩ := hq
  refine m_aload_n 2 rfl rfl dL_law_1181 ?_
  refine la_arg 1 (by omega) hL rfl ⟨rfl, rfl⟩ dL_law_1182 dL_law_1183 dL_law_1185 dL_law_1186 dL_law_1187 ?_
  refine la_arg 2 (by omega) hL rfl ⟨rfl, rfl⟩ dL_law_1188 dL_law_1189 dL_law_1191 dL_law_1192 dL_law_1193 ?_
  refine la_arg 3 (by omega) hL rfl ⟨rfl, rfl⟩ dL_law_1194 dL_law_1195 dL_law_1197 dL_law_1198 dL_law_1199 ?_
  refine la_arg 4 (by omega) hL rfl ⟨rfl, rfl⟩ dL_law_1200 dL_law_1201 dL_law_1203 dL_law_1204 dL_law_1205 ?_
  refine m_callVi cv_L_113 [.int (xs (i + 1)), .int (xs (i + 2)), .int (xs (i + 3)), .int (xs (i + 4))] [.int (x1_)] (k_m_day l G a_ ho_ im_ h_ hM_ (xs (i + 1)) (xs (i + 2)) (xs (i + 3)) (xs (i + 4))) (by decide) (ce_4 G _ _ _ _ _ _ _ _ _ _) rfl rfl rfl ⟨Nat.le_of_ble_eq_true rfl, Nat.le_of_ble_eq_true rfl⟩ (Nat.le_of_ble_eq_true rfl) ⟨by omega, by omega⟩ dL_law_1206 (fun x2_ σ2 hq => ?_)
  obtain ⟨e2_, B2, T2, V2, rfl, hM_⟩ := hq
  refine m_icmp_eq 1923 dL_law_1209 (by decide) (fun _ => ?_) (fun hc => absurd (e1_.trans e2_.symm) hc)
  exact kk _ _ _ (li_mk hC_ hM_ ho_ hb_) (by omega) (by omega)
set_option maxRecDepth 100000 in
set_option maxHeartbeats 4000000 in
theorem lw_c_22 (l : Launch) (hl_ : l.stackTraces = false) (G : owG) {Qf : List Frame → Array Value → State → State → Prop} {b L i cells slots : Nat} {xs : Nat → Int32} (hL : L ≤ 3072) (hi : i + 6 ≤ L) (hf : cells + 25 ≤ room_1.cells ∧ slots + 100 ≤ room_1.slots) {A S Z B T V : owF} {J : Nat → Nat → Int64} {Y : Nat → Nat → Nat → Option Nat} {P : Nat → Option owW} {a_ : owK} {im_ : Option owK} {h_ : owH} (hC_ : CR A Y P a_ im_ h_) (hM_ : MR B a_ im_ h_) (ho_ : aOk a_) (hb_ : ∀ b, im_ = some b → aOk b) (kk : ∀ (σ2 : owSt) (c2 s2 : Nat), LI σ2 → c2 ≤ cells + 25 → s2 ≤ slots + 100 → WL l G Qf b L xs 1923 (lvL G b i) [] σ2 c2 s2) : WL l G Qf b L xs 1214 (lvL G b i) [] (A, S, Z, B, T, V, J, Y, P) cells slots := by
  refine m_aload_n 1 rfl rfl dL_law_1214 ?_
  refine la_arg 1 (by omega) hL rfl ⟨rfl, rfl⟩ dL_law_1215 dL_law_1216 dL_law_1218 dL_law_1219 dL_law_1220 ?_
  refine la_arg 2 (by omega) hL rfl ⟨rfl, rfl⟩ dL_law_1221 dL_law_1222 dL_law_1224 dL_law_1225 dL_law_1226 ?_
  refine m_callVi cv_L_114 [.int (xs (i + 1)), .int (xs (i + 2))] [] (k_say l G a_ ho_ im_ h_ hC_ (xs (i + 1)) (xs (i + 2))) (by decide) (ce_0 G _ _ _ _ _ _ _ _ _ _) rfl rfl rfl ⟨Nat.le_of_ble_eq_true rfl, Nat.le_of_ble_eq_true rfl⟩ (Nat.le_of_ble_eq_true rfl) ⟨by omega, by omega⟩ dL_law_1227 (fun x1_ σ2 hq => ?_)
  obtain ⟨e1_, A2, S2, Z2, J2, Y2, rfl, hC_⟩ := hq
  refine m_aload_n 2 rfl rfl dL_law_1230 ?_
  refine la_arg 1 (by omega) hL rfl ⟨rfl, rfl⟩ dL_law_1231 dL_law_1232 dL_law_1234 dL_law_1235 dL_law_1236 ?_
  refine la_arg 2 (by omega) hL rfl ⟨rfl, rfl⟩ dL_law_1237 dL_law_1238 dL_law_1240 dL_law_1241 dL_law_1242 ?_
  refine m_callVi cv_L_117 [.int (xs (i + 1)), .int (xs (i + 2))] [.int (x1_)] (k_m_say l G a_ ho_ im_ h_ hM_ (xs (i + 1)) (xs (i + 2))) (by decide) (ce_4 G _ _ _ _ _ _ _ _ _ _) rfl rfl rfl ⟨Nat.le_of_ble_eq_true rfl, Nat.le_of_ble_eq_true rfl⟩ (Nat.le_of_ble_eq_true rfl) ⟨by omega, by omega⟩ dL_law_1243 (fun x2_ σ2 hq => ?_)
  obtain ⟨e2_, B2, T2, V2, rfl, hM_⟩ := hq
  refine m_icmp_eq 1923 dL_law_1246 (by decide) (fun _ => ?_) (fun hc => absurd (e1_.trans e2_.symm) hc)
  exact kk _ _ _ (li_mk hC_ hM_ (sayA_ok ho_) hb_) (by omega) (by omega)
set_option maxRecDepth 100000 in
set_option maxHeartbeats 4000000 in
theorem lw_c_23 (l : Launch) (hl_ : l.stackTraces = false) (G : owG) {Qf : List Frame → Array Value → State → State → Prop} {b L i cells slots : Nat} {xs : Nat → Int32} (hL : L ≤ 3072) (hi : i + 6 ≤ L) (hf : cells + 25 ≤ room_1.cells ∧ slots + 100 ≤ room_1.slots) {A S Z B T V : owF} {J : Nat → Nat → Int64} {Y : Nat → Nat → Nat → Option Nat} {P : Nat → Option owW} {a_ : owK} {im_ : Option owK} {h_ : owH} (hC_ : CR A Y P a_ im_ h_) (hM_ : MR B a_ im_ h_) (ho_ : aOk a_) (hb_ : ∀ b, im_ = some b → aOk b) (kk : ∀ (σ2 : owSt) (c2 s2 : Nat), LI σ2 → c2 ≤ cells + 25 → s2 ≤ slots + 100 → WL l G Qf b L xs 1923 (lvL G b i) [] σ2 c2 s2) : WL l G Qf b L xs 1251 (lvL G b i) [] (A, S, Z, B, T, V, J, Y, P) cells slots := by
  refine m_aload_n 1 rfl rfl dL_law_1251 ?_
  refine la_arg 1 (by omega) hL rfl ⟨rfl, rfl⟩ dL_law_1252 dL_law_1253 dL_law_1255 dL_law_1256 dL_law_1257 ?_
  refine m_callVi cv_L_118 [.int (xs (i + 1))] [] (k_bestSaying l G a_ ho_ hC_.1 h_ hC_.2.2.2.1 (xs (i + 1))) (by decide) (ce_0 G _ _ _ _ _ _ _ _ _ _) rfl rfl rfl ⟨Nat.le_of_ble_eq_true rfl, Nat.le_of_ble_eq_true rfl⟩ (Nat.le_of_ble_eq_true rfl) ⟨by omega, by omega⟩ dL_law_1258 (fun x1_ σ2 hq => ?_)
  obtain ⟨e1_, S2, Z2, J2, rfl⟩ := hq
  refine m_aload_n 2 rfl rfl dL_law_1261 ?_
  refine la_arg 1 (by omega) hL rfl ⟨rfl, rfl⟩ dL_law_1262 dL_law_1263 dL_law_1265 dL_law_1266 dL_law_1267 ?_
  refine m_callVi cv_L_121 [.int (xs (i + 1))] [.int (x1_)] (k_m_bestSaying l G a_ ho_ im_ h_ hM_ (xs (i + 1))) (by decide) (ce_4 G _ _ _ _ _ _ _ _ _ _) rfl rfl rfl ⟨Nat.le_of_ble_eq_true rfl, Nat.le_of_ble_eq_true rfl⟩ (Nat.le_of_ble_eq_true rfl) ⟨by omega, by omega⟩ dL_law_1268 (fun x2_ σ2 hq => ?_)
  obtain ⟨e2_, T2, V2, rfl⟩ := hq
  refine m_icmp_eq 1923 dL_law_1271 (by decide) (fun _ => ?_) (fun hc => absurd (e1_.trans e2_.symm) hc)
  exact kk _ _ _ (li_mk hC_ hM_ ho_ hb_) (by omega) (by omega)
set_option maxRecDepth 100000 in
set_option maxHeartbeats 4000000 in
theorem lw_c_24 (l : Launch) (hl_ : l.stackTraces = false) (G : owG) {Qf : List Frame → Array Value → State → State → Prop} {b L i cells slots : Nat} {xs : Nat → Int32} (hL : L ≤ 3072) (hi : i + 6 ≤ L) (hf : cells + 25 ≤ room_1.cells ∧ slots + 100 ≤ room_1.slots) {A S Z B T V : owF} {J : Nat → Nat → Int64} {Y : Nat → Nat → Nat → Option Nat} {P : Nat → Option owW} {a_ : owK} {im_ : Option owK} {h_ : owH} (hC_ : CR A Y P a_ im_ h_) (hM_ : MR B a_ im_ h_) (ho_ : aOk a_) (hb_ : ∀ b, im_ = some b → aOk b) (kk : ∀ (σ2 : owSt) (c2 s2 : Nat), LI σ2 → c2 ≤ cells + 25 → s2 ≤ slots + 100 → WL l G Qf b L xs 1923 (lvL G b i) [] σ2 c2 s2) : WL l G Qf b L xs 1276 (lvL G b i) [] (A, S, Z, B, T, V, J, Y, P) cells slots := by
  refine m_aload_n 1 rfl rfl dL_law_1276 ?_
  refine la_arg 1 (by omega) hL rfl ⟨rfl, rfl⟩ dL_law_1277 dL_law_1278 dL_law_1280 dL_law_1281 dL_law_1282 ?_
  refine la_arg 2 (by omega) hL rfl ⟨rfl, rfl⟩ dL_law_1283 dL_law_1284 dL_law_1286 dL_law_1287 dL_law_1288 ?_
  refine la_arg 3 (by omega) hL rfl ⟨rfl, rfl⟩ dL_law_1289 dL_law_1290 dL_law_1292 dL_law_1293 dL_law_1294 ?_
  refine la_arg 4 (by omega) hL rfl ⟨rfl, rfl⟩ dL_law_1295 dL_law_1296 dL_law_1298 dL_law_1299 dL_law_1300 ?_
  refine m_callVi cv_L_122 [.int (xs (i + 1)), .int (xs (i + 2)), .int (xs (i + 3)), .int (xs (i + 4))] [] (k_weeks l G a_ ho_ hC_.1 (xs (i + 1)) (xs (i + 2)) (xs (i + 3)) (xs (i + 4))) (by decide) (ce_0 G _ _ _ _ _ _ _ _ _ _) rfl rfl rfl ⟨Nat.le_of_ble_eq_true rfl, Nat.le_of_ble_eq_true rfl⟩ (Nat.le_of_ble_eq_true rfl) ⟨by omega, by omega⟩ dL_law_1301 (fun x1_ σ2 hq => ?_)
  obtain ⟨e1_, S2, Z2, J2, rfl⟩ := hq
  refine m_aload_n 2 rfl rfl dL_law_1304 ?_
  refine la_arg 1 (by omega) hL rfl ⟨rfl, rfl⟩ dL_law_1305 dL_law_1306 dL_law_1308 dL_law_1309 dL_law_1310 ?_
  refine la_arg 2 (by omega) hL rfl ⟨rfl, rfl⟩ dL_law_1311 dL_law_1312 dL_law_1314 dL_law_1315 dL_law_1316 ?_
  refine la_arg 3 (by omega) hL rfl ⟨rfl, rfl⟩ dL_law_1317 dL_law_1318 dL_law_1320 dL_law_1321 dL_law_1322 ?_
  refine la_arg 4 (by omega) hL rfl ⟨rfl, rfl⟩ dL_law_1323 dL_law_1324 dL_law_1326 dL_law_1327 dL_law_1328 ?_
  refine m_callVi cv_L_125 [.int (xs (i + 1)), .int (xs (i + 2)), .int (xs (i + 3)), .int (xs (i + 4))] [.int (x1_)] (k_m_weeks l G a_ ho_ im_ h_ hM_ (xs (i + 1)) (xs (i + 2)) (xs (i + 3)) (xs (i + 4))) (by decide) (ce_4 G _ _ _ _ _ _ _ _ _ _) rfl rfl rfl ⟨Nat.le_of_ble_eq_true rfl, Nat.le_of_ble_eq_true rfl⟩ (Nat.le_of_ble_eq_true rfl) ⟨by omega, by omega⟩ dL_law_1329 (fun x2_ σ2 hq => ?_)
  obtain ⟨e2_, T2, V2, rfl⟩ := hq
  refine m_icmp_eq 1923 dL_law_1332 (by decide) (fun _ => ?_) (fun hc => absurd (e1_.trans e2_.symm) hc)
  exact kk _ _ _ (li_mk hC_ hM_ ho_ hb_) (by omega) (by omega)
set_option maxRecDepth 100000 in
set_option maxHeartbeats 4000000 in
theorem lw_c_25 (l : Launch) (hl_ : l.stackTraces = false) (G : owG) {Qf : List Frame → Array Value → State → State → Prop} {b L i cells slots : Nat} {xs : Nat → Int32} (hL : L ≤ 3072) (hi : i + 6 ≤ L) (hf : cells + 25 ≤ room_1.cells ∧ slots + 100 ≤ room_1.slots) {A S Z B T V : owF} {J : Nat → Nat → Int64} {Y : Nat → Nat → Nat → Option Nat} {P : Nat → Option owW} {a_ : owK} {im_ : Option owK} {h_ : owH} (hC_ : CR A Y P a_ im_ h_) (hM_ : MR B a_ im_ h_) (ho_ : aOk a_) (hb_ : ∀ b, im_ = some b → aOk b) (kk : ∀ (σ2 : owSt) (c2 s2 : Nat), LI σ2 → c2 ≤ cells + 25 → s2 ≤ slots + 100 → WL l G Qf b L xs 1923 (lvL G b i) [] σ2 c2 s2) : WL l G Qf b L xs 1337 (lvL G b i) [] (A, S, Z, B, T, V, J, Y, P) cells slots := by
  refine m_aload_n 1 rfl rfl dL_law_1337 ?_
  refine la_arg 1 (by omega) hL rfl ⟨rfl, rfl⟩ dL_law_1338 dL_law_1339 dL_law_1341 dL_law_1342 dL_law_1343 ?_
  refine m_callVi cv_L_126 [.int (xs (i + 1))] [] (k_groups l G a_ ho_ hC_.1 (xs (i + 1))) (by decide) (ce_0 G _ _ _ _ _ _ _ _ _ _) rfl rfl rfl ⟨Nat.le_of_ble_eq_true rfl, Nat.le_of_ble_eq_true rfl⟩ (Nat.le_of_ble_eq_true rfl) ⟨by omega, by omega⟩ dL_law_1344 (fun x1_ σ2 hq => ?_)
  obtain ⟨e1_, S2, Z2, J2, rfl⟩ := hq
  refine m_aload_n 2 rfl rfl dL_law_1347 ?_
  refine la_arg 1 (by omega) hL rfl ⟨rfl, rfl⟩ dL_law_1348 dL_law_1349 dL_law_1351 dL_law_1352 dL_law_1353 ?_
  refine m_callVi cv_L_129 [.int (xs (i + 1))] [.int (x1_)] (k_m_groups l G a_ ho_ im_ h_ hM_ (xs (i + 1))) (by decide) (ce_4 G _ _ _ _ _ _ _ _ _ _) rfl rfl rfl ⟨Nat.le_of_ble_eq_true rfl, Nat.le_of_ble_eq_true rfl⟩ (Nat.le_of_ble_eq_true rfl) ⟨by omega, by omega⟩ dL_law_1354 (fun x2_ σ2 hq => ?_)
  obtain ⟨e2_, T2, V2, rfl⟩ := hq
  refine m_icmp_eq 1923 dL_law_1357 (by decide) (fun _ => ?_) (fun hc => absurd (e1_.trans e2_.symm) hc)
  exact kk _ _ _ (li_mk hC_ hM_ ho_ hb_) (by omega) (by omega)
set_option maxRecDepth 100000 in
set_option maxHeartbeats 4000000 in
theorem lw_c_26 (l : Launch) (hl_ : l.stackTraces = false) (G : owG) {Qf : List Frame → Array Value → State → State → Prop} {b L i cells slots : Nat} {xs : Nat → Int32} (hL : L ≤ 3072) (hi : i + 6 ≤ L) (hf : cells + 25 ≤ room_1.cells ∧ slots + 100 ≤ room_1.slots) {A S Z B T V : owF} {J : Nat → Nat → Int64} {Y : Nat → Nat → Nat → Option Nat} {P : Nat → Option owW} {a_ : owK} {im_ : Option owK} {h_ : owH} (hC_ : CR A Y P a_ im_ h_) (hM_ : MR B a_ im_ h_) (ho_ : aOk a_) (hb_ : ∀ b, im_ = some b → aOk b) (kk : ∀ (σ2 : owSt) (c2 s2 : Nat), LI σ2 → c2 ≤ cells + 25 → s2 ≤ slots + 100 → WL l G Qf b L xs 1923 (lvL G b i) [] σ2 c2 s2) : WL l G Qf b L xs 1362 (lvL G b i) [] (A, S, Z, B, T, V, J, Y, P) cells slots := by
  refine m_aload_n 1 rfl rfl dL_law_1362 ?_
  refine m_callVi cv_L_130 [] [] (k_greatestP l G a_ ho_ hC_.1) (by decide) (ce_0 G _ _ _ _ _ _ _ _ _ _) rfl rfl rfl ⟨Nat.le_of_ble_eq_true rfl, Nat.le_of_ble_eq_true rfl⟩ (Nat.le_of_ble_eq_true rfl) ⟨by omega, by omega⟩ dL_law_1363 (fun x1_ σ2 hq => ?_)
  obtain ⟨e1_, S2, Z2, J2, rfl⟩ := hq
  refine m_aload_n 2 rfl rfl dL_law_1366 ?_
  refine m_callVi cv_L_134 [] [.int (x1_)] (k_m_greatest l G a_ ho_ im_ h_ hM_) (by decide) (ce_4 G _ _ _ _ _ _ _ _ _ _) rfl rfl rfl ⟨Nat.le_of_ble_eq_true rfl, Nat.le_of_ble_eq_true rfl⟩ (Nat.le_of_ble_eq_true rfl) ⟨by omega, by omega⟩ dL_law_1367 (fun x2_ σ2 hq => ?_)
  obtain ⟨e2_, T2, V2, rfl⟩ := hq
  refine m_icmp_eq 1923 dL_law_1370 (by decide) (fun _ => ?_) (fun hc => absurd (e1_.trans e2_.symm) hc)
  exact kk _ _ _ (li_mk hC_ hM_ ho_ hb_) (by omega) (by omega)
set_option maxRecDepth 100000 in
set_option maxHeartbeats 4000000 in
theorem lw_c_27 (l : Launch) (hl_ : l.stackTraces = false) (G : owG) {Qf : List Frame → Array Value → State → State → Prop} {b L i cells slots : Nat} {xs : Nat → Int32} (hL : L ≤ 3072) (hi : i + 6 ≤ L) (hf : cells + 25 ≤ room_1.cells ∧ slots + 100 ≤ room_1.slots) {A S Z B T V : owF} {J : Nat → Nat → Int64} {Y : Nat → Nat → Nat → Option Nat} {P : Nat → Option owW} {a_ : owK} {im_ : Option owK} {h_ : owH} (hC_ : CR A Y P a_ im_ h_) (hM_ : MR B a_ im_ h_) (ho_ : aOk a_) (hb_ : ∀ b, im_ = some b → aOk b) (kk : ∀ (σ2 : owSt) (c2 s2 : Nat), LI σ2 → c2 ≤ cells + 25 → s2 ≤ slots + 100 → WL l G Qf b L xs 1923 (lvL G b i) [] σ2 c2 s2) : WL l G Qf b L xs 1375 (lvL G b i) [] (A, S, Z, B, T, V, J, Y, P) cells slots := by
  refine m_aload_n 1 rfl rfl dL_law_1375 ?_
  refine la_arg 1 (by omega) hL rfl ⟨rfl, rfl⟩ dL_law_1376 dL_law_1377 dL_law_1379 dL_law_1380 dL_law_1381 ?_
  refine m_callVi cv_L_135 [.int (xs (i + 1))] [] (k_lesson l G a_ ho_ hC_.1 (xs (i + 1))) (by decide) (ce_0 G _ _ _ _ _ _ _ _ _ _) rfl rfl rfl ⟨Nat.le_of_ble_eq_true rfl, Nat.le_of_ble_eq_true rfl⟩ (Nat.le_of_ble_eq_true rfl) ⟨by omega, by omega⟩ dL_law_1382 (fun x1_ σ2 hq => ?_)
  obtain ⟨e1_, S2, Z2, J2, rfl⟩ := hq
  refine m_aload_n 2 rfl rfl dL_law_1385 ?_
  refine la_arg 1 (by omega) hL rfl ⟨rfl, rfl⟩ dL_law_1386 dL_law_1387 dL_law_1389 dL_law_1390 dL_law_1391 ?_
  refine m_callVi cv_L_138 [.int (xs (i + 1))] [.int (x1_)] (k_m_lesson l G a_ ho_ im_ h_ hM_ (xs (i + 1))) (by decide) (ce_4 G _ _ _ _ _ _ _ _ _ _) rfl rfl rfl ⟨Nat.le_of_ble_eq_true rfl, Nat.le_of_ble_eq_true rfl⟩ (Nat.le_of_ble_eq_true rfl) ⟨by omega, by omega⟩ dL_law_1392 (fun x2_ σ2 hq => ?_)
  obtain ⟨e2_, T2, V2, rfl⟩ := hq
  refine m_icmp_eq 1923 dL_law_1395 (by decide) (fun _ => ?_) (fun hc => absurd (e1_.trans e2_.symm) hc)
  exact kk _ _ _ (li_mk hC_ hM_ ho_ hb_) (by omega) (by omega)
set_option maxRecDepth 100000 in
set_option maxHeartbeats 4000000 in
theorem lw_c_28 (l : Launch) (hl_ : l.stackTraces = false) (G : owG) {Qf : List Frame → Array Value → State → State → Prop} {b L i cells slots : Nat} {xs : Nat → Int32} (hL : L ≤ 3072) (hi : i + 6 ≤ L) (hf : cells + 25 ≤ room_1.cells ∧ slots + 100 ≤ room_1.slots) {A S Z B T V : owF} {J : Nat → Nat → Int64} {Y : Nat → Nat → Nat → Option Nat} {P : Nat → Option owW} {a_ : owK} {im_ : Option owK} {h_ : owH} (hC_ : CR A Y P a_ im_ h_) (hM_ : MR B a_ im_ h_) (ho_ : aOk a_) (hb_ : ∀ b, im_ = some b → aOk b) (kk : ∀ (σ2 : owSt) (c2 s2 : Nat), LI σ2 → c2 ≤ cells + 25 → s2 ≤ slots + 100 → WL l G Qf b L xs 1923 (lvL G b i) [] σ2 c2 s2) : WL l G Qf b L xs 1400 (lvL G b i) [] (A, S, Z, B, T, V, J, Y, P) cells slots := by
  refine m_aload_n 1 rfl rfl dL_law_1400 ?_
  refine la_arg 1 (by omega) hL rfl ⟨rfl, rfl⟩ dL_law_1401 dL_law_1402 dL_law_1404 dL_law_1405 dL_law_1406 ?_
  refine la_arg 2 (by omega) hL rfl ⟨rfl, rfl⟩ dL_law_1407 dL_law_1408 dL_law_1410 dL_law_1411 dL_law_1412 ?_
  refine m_callVi cv_L_139 [.int (xs (i + 1)), .int (xs (i + 2))] [] (k_lacks l G a_ ho_ hC_.1 h_ hC_.2.2.2.1 (xs (i + 1)) (xs (i + 2))) (by decide) (ce_0 G _ _ _ _ _ _ _ _ _ _) rfl rfl rfl ⟨Nat.le_of_ble_eq_true rfl, Nat.le_of_ble_eq_true rfl⟩ (Nat.le_of_ble_eq_true rfl) ⟨by omega, by omega⟩ dL_law_1413 (fun x1_ σ2 hq => ?_)
  obtain ⟨e1_, S2, Z2, J2, rfl⟩ := hq
  refine m_aload_n 2 rfl rfl dL_law_1416 ?_
  refine la_arg 1 (by omega) hL rfl ⟨rfl, rfl⟩ dL_law_1417 dL_law_1418 dL_law_1420 dL_law_1421 dL_law_1422 ?_
  refine la_arg 2 (by omega) hL rfl ⟨rfl, rfl⟩ dL_law_1423 dL_law_1424 dL_law_1426 dL_law_1427 dL_law_1428 ?_
  refine m_callVi cv_L_142 [.int (xs (i + 1)), .int (xs (i + 2))] [.int (x1_)] (k_m_lacks l G a_ ho_ im_ h_ hM_ (xs (i + 1)) (xs (i + 2))) (by decide) (ce_4 G _ _ _ _ _ _ _ _ _ _) rfl rfl rfl ⟨Nat.le_of_ble_eq_true rfl, Nat.le_of_ble_eq_true rfl⟩ (Nat.le_of_ble_eq_true rfl) ⟨by omega, by omega⟩ dL_law_1429 (fun x2_ σ2 hq => ?_)
  obtain ⟨e2_, T2, V2, rfl⟩ := hq
  refine m_icmp_eq 1923 dL_law_1432 (by decide) (fun _ => ?_) (fun hc => absurd (e1_.trans e2_.symm) hc)
  exact kk _ _ _ (li_mk hC_ hM_ ho_ hb_) (by omega) (by omega)
set_option maxRecDepth 100000 in
set_option maxHeartbeats 4000000 in
theorem lw_c_29 (l : Launch) (hl_ : l.stackTraces = false) (G : owG) {Qf : List Frame → Array Value → State → State → Prop} {b L i cells slots : Nat} {xs : Nat → Int32} (hL : L ≤ 3072) (hi : i + 6 ≤ L) (hf : cells + 25 ≤ room_1.cells ∧ slots + 100 ≤ room_1.slots) {A S Z B T V : owF} {J : Nat → Nat → Int64} {Y : Nat → Nat → Nat → Option Nat} {P : Nat → Option owW} {a_ : owK} {im_ : Option owK} {h_ : owH} (hC_ : CR A Y P a_ im_ h_) (hM_ : MR B a_ im_ h_) (ho_ : aOk a_) (hb_ : ∀ b, im_ = some b → aOk b) (kk : ∀ (σ2 : owSt) (c2 s2 : Nat), LI σ2 → c2 ≤ cells + 25 → s2 ≤ slots + 100 → WL l G Qf b L xs 1923 (lvL G b i) [] σ2 c2 s2) : WL l G Qf b L xs 1437 (lvL G b i) [] (A, S, Z, B, T, V, J, Y, P) cells slots := by
  refine m_aload_n 1 rfl rfl dL_law_1437 ?_
  refine la_arg 1 (by omega) hL rfl ⟨rfl, rfl⟩ dL_law_1438 dL_law_1439 dL_law_1441 dL_law_1442 dL_law_1443 ?_
  refine la_arg 2 (by omega) hL rfl ⟨rfl, rfl⟩ dL_law_1444 dL_law_1445 dL_law_1447 dL_law_1448 dL_law_1449 ?_
  refine la_arg 3 (by omega) hL rfl ⟨rfl, rfl⟩ dL_law_1450 dL_law_1451 dL_law_1453 dL_law_1454 dL_law_1455 ?_
  refine la_arg 4 (by omega) hL rfl ⟨rfl, rfl⟩ dL_law_1456 dL_law_1457 dL_law_1459 dL_law_1460 dL_law_1461 ?_
  refine m_callVi cv_L_143 [.int (xs (i + 1)), .int (xs (i + 2)), .int (xs (i + 3)), .int (xs (i + 4))] [] (k_copied l G a_ ho_ hC_.1 h_ hC_.2.2.2.1 (xs (i + 1)) (xs (i + 2)) (xs (i + 3)) (xs (i + 4))) (by decide) (ce_0 G _ _ _ _ _ _ _ _ _ _) rfl rfl rfl ⟨Nat.le_of_ble_eq_true rfl, Nat.le_of_ble_eq_true rfl⟩ (Nat.le_of_ble_eq_true rfl) ⟨by omega, by omega⟩ dL_law_1462 (fun x1_ σ2 hq => ?_)
  obtain ⟨e1_, S2, Z2, J2, rfl⟩ := hq
  refine m_aload_n 2 rfl rfl dL_law_1465 ?_
  refine la_arg 1 (by omega) hL rfl ⟨rfl, rfl⟩ dL_law_1466 dL_law_1467 dL_law_1469 dL_law_1470 dL_law_1471 ?_
  refine la_arg 2 (by omega) hL rfl ⟨rfl, rfl⟩ dL_law_1472 dL_law_1473 dL_law_1475 dL_law_1476 dL_law_1477 ?_
  refine la_arg 3 (by omega) hL rfl ⟨rfl, rfl⟩ dL_law_1478 dL_law_1479 dL_law_1481 dL_law_1482 dL_law_1483 ?_
  refine la_arg 4 (by omega) hL rfl ⟨rfl, rfl⟩ dL_law_1484 dL_law_1485 dL_law_1487 dL_law_1488 dL_law_1489 ?_
  refine m_callVi cv_L_146 [.int (xs (i + 1)), .int (xs (i + 2)), .int (xs (i + 3)), .int (xs (i + 4))] [.int (x1_)] (k_m_copied l G a_ ho_ im_ h_ hM_ (xs (i + 1)) (xs (i + 2)) (xs (i + 3)) (xs (i + 4))) (by decide) (ce_4 G _ _ _ _ _ _ _ _ _ _) rfl rfl rfl ⟨Nat.le_of_ble_eq_true rfl, Nat.le_of_ble_eq_true rfl⟩ (Nat.le_of_ble_eq_true rfl) ⟨by omega, by omega⟩ dL_law_1490 (fun x2_ σ2 hq => ?_)
  obtain ⟨e2_, T2, V2, rfl⟩ := hq
  refine m_icmp_eq 1923 dL_law_1493 (by decide) (fun _ => ?_) (fun hc => absurd (e1_.trans e2_.symm) hc)
  exact kk _ _ _ (li_mk hC_ hM_ ho_ hb_) (by omega) (by omega)
set_option maxRecDepth 100000 in
set_option maxHeartbeats 4000000 in
theorem lw_c_30 (l : Launch) (hl_ : l.stackTraces = false) (G : owG) {Qf : List Frame → Array Value → State → State → Prop} {b L i cells slots : Nat} {xs : Nat → Int32} (hL : L ≤ 3072) (hi : i + 6 ≤ L) (hf : cells + 25 ≤ room_1.cells ∧ slots + 100 ≤ room_1.slots) {A S Z B T V : owF} {J : Nat → Nat → Int64} {Y : Nat → Nat → Nat → Option Nat} {P : Nat → Option owW} {a_ : owK} {im_ : Option owK} {h_ : owH} (hC_ : CR A Y P a_ im_ h_) (hM_ : MR B a_ im_ h_) (ho_ : aOk a_) (hb_ : ∀ b, im_ = some b → aOk b) (kk : ∀ (σ2 : owSt) (c2 s2 : Nat), LI σ2 → c2 ≤ cells + 25 → s2 ≤ slots + 100 → WL l G Qf b L xs 1923 (lvL G b i) [] σ2 c2 s2) : WL l G Qf b L xs 1498 (lvL G b i) [] (A, S, Z, B, T, V, J, Y, P) cells slots := by
  refine m_aload_n 1 rfl rfl dL_law_1498 ?_
  refine la_arg 1 (by omega) hL rfl ⟨rfl, rfl⟩ dL_law_1499 dL_law_1500 dL_law_1502 dL_law_1503 dL_law_1504 ?_
  refine la_arg 2 (by omega) hL rfl ⟨rfl, rfl⟩ dL_law_1505 dL_law_1506 dL_law_1508 dL_law_1509 dL_law_1510 ?_
  refine m_callVi cv_L_147 [.int (xs (i + 1)), .int (xs (i + 2))] [] (k_judge l G a_ ho_ hC_.1 h_ hC_.2.2.2.1 (xs (i + 1)) (xs (i + 2))) (by decide) (ce_0 G _ _ _ _ _ _ _ _ _ _) rfl rfl rfl ⟨Nat.le_of_ble_eq_true rfl, Nat.le_of_ble_eq_true rfl⟩ (Nat.le_of_ble_eq_true rfl) ⟨by omega, by omega⟩ dL_law_1511 (fun x1_ σ2 hq => ?_)
  obtain ⟨e1_, S2, Z2, J2, rfl⟩ := hq
  refine m_aload_n 2 rfl rfl dL_law_1514 ?_
  refine la_arg 1 (by omega) hL rfl ⟨rfl, rfl⟩ dL_law_1515 dL_law_1516 dL_law_1518 dL_law_1519 dL_law_1520 ?_
  refine la_arg 2 (by omega) hL rfl ⟨rfl, rfl⟩ dL_law_1521 dL_law_1522 dL_law_1524 dL_law_1525 dL_law_1526 ?_
  refine m_callVi cv_L_150 [.int (xs (i + 1)), .int (xs (i + 2))] [.int (x1_)] (k_m_judge l G a_ ho_ im_ h_ hM_ (xs (i + 1)) (xs (i + 2))) (by decide) (ce_4 G _ _ _ _ _ _ _ _ _ _) rfl rfl rfl ⟨Nat.le_of_ble_eq_true rfl, Nat.le_of_ble_eq_true rfl⟩ (Nat.le_of_ble_eq_true rfl) ⟨by omega, by omega⟩ dL_law_1527 (fun x2_ σ2 hq => ?_)
  obtain ⟨e2_, T2, V2, rfl⟩ := hq
  refine m_icmp_eq 1923 dL_law_1530 (by decide) (fun _ => ?_) (fun hc => absurd (e1_.trans e2_.symm) hc)
  exact kk _ _ _ (li_mk hC_ hM_ ho_ hb_) (by omega) (by omega)
set_option maxRecDepth 100000 in
set_option maxHeartbeats 4000000 in
theorem lw_c_31 (l : Launch) (hl_ : l.stackTraces = false) (G : owG) {Qf : List Frame → Array Value → State → State → Prop} {b L i cells slots : Nat} {xs : Nat → Int32} (hL : L ≤ 3072) (hi : i + 6 ≤ L) (hf : cells + 25 ≤ room_1.cells ∧ slots + 100 ≤ room_1.slots) {A S Z B T V : owF} {J : Nat → Nat → Int64} {Y : Nat → Nat → Nat → Option Nat} {P : Nat → Option owW} {a_ : owK} {im_ : Option owK} {h_ : owH} (hC_ : CR A Y P a_ im_ h_) (hM_ : MR B a_ im_ h_) (ho_ : aOk a_) (hb_ : ∀ b, im_ = some b → aOk b) (kk : ∀ (σ2 : owSt) (c2 s2 : Nat), LI σ2 → c2 ≤ cells + 25 → s2 ≤ slots + 100 → WL l G Qf b L xs 1923 (lvL G b i) [] σ2 c2 s2) : WL l G Qf b L xs 1535 (lvL G b i) [] (A, S, Z, B, T, V, J, Y, P) cells slots := by
  refine m_aload_n 1 rfl rfl dL_law_1535 ?_
  refine m_callVi cv_L_151 [] [] (k_image l G a_ ho_ im_ h_ hC_) (by decide) (ce_0 G _ _ _ _ _ _ _ _ _ _) rfl rfl rfl ⟨Nat.le_of_ble_eq_true rfl, Nat.le_of_ble_eq_true rfl⟩ (Nat.le_of_ble_eq_true rfl) ⟨by omega, by omega⟩ dL_law_1536 (fun x1_ σ2 hq => ?_)
  obtain ⟨e1_, A2, S2, Z2, J2, Y2, rfl, hC_⟩ := hq
  refine m_aload_n 2 rfl rfl dL_law_1539 ?_
  refine m_callVi cv_L_154 [] [.int (x1_)] (k_m_image l G a_ ho_ im_ h_ hM_) (by decide) (ce_4 G _ _ _ _ _ _ _ _ _ _) rfl rfl rfl ⟨Nat.le_of_ble_eq_true rfl, Nat.le_of_ble_eq_true rfl⟩ (Nat.le_of_ble_eq_true rfl) ⟨by omega, by omega⟩ dL_law_1540 (fun x2_ σ2 hq => ?_)
  obtain ⟨e2_, B2, T2, V2, rfl, hM_⟩ := hq
  refine m_icmp_eq 1923 dL_law_1543 (by decide) (fun _ => ?_) (fun hc => absurd (e1_.trans e2_.symm) hc)
  exact kk _ _ _ (li_mk hC_ hM_ ho_ (fun b hb => by cases hb; exact ho_)) (by omega) (by omega)
set_option maxRecDepth 100000 in
set_option maxHeartbeats 4000000 in
theorem lw_c_32 (l : Launch) (hl_ : l.stackTraces = false) (G : owG) {Qf : List Frame → Array Value → State → State → Prop} {b L i cells slots : Nat} {xs : Nat → Int32} (hL : L ≤ 3072) (hi : i + 6 ≤ L) (hf : cells + 25 ≤ room_1.cells ∧ slots + 100 ≤ room_1.slots) {A S Z B T V : owF} {J : Nat → Nat → Int64} {Y : Nat → Nat → Nat → Option Nat} {P : Nat → Option owW} {a_ : owK} {im_ : Option owK} {h_ : owH} (hC_ : CR A Y P a_ im_ h_) (hM_ : MR B a_ im_ h_) (ho_ : aOk a_) (hb_ : ∀ b, im_ = some b → aOk b) (kk : ∀ (σ2 : owSt) (c2 s2 : Nat), LI σ2 → c2 ≤ cells + 25 → s2 ≤ slots + 100 → WL l G Qf b L xs 1923 (lvL G b i) [] σ2 c2 s2) : WL l G Qf b L xs 1548 (lvL G b i) [] (A, S, Z, B, T, V, J, Y, P) cells slots := by
  rcases im_ with _ | b_
  · refine m_aload_n 1 rfl rfl dL_law_1548 ?_
    refine m_callVi cv_L_155 [] [] (k_restore_n l G a_ ho_ h_ hC_) (by decide) (ce_0 G _ _ _ _ _ _ _ _ _ _) rfl rfl rfl ⟨Nat.le_of_ble_eq_true rfl, Nat.le_of_ble_eq_true rfl⟩ (Nat.le_of_ble_eq_true rfl) ⟨by omega, by omega⟩ dL_law_1549 (fun x1_ σ2 hq => ?_)
    obtain ⟨e1_, A2, S2, Z2, J2, Y2, rfl, hC_⟩ := hq
    refine m_aload_n 2 rfl rfl dL_law_1552 ?_
    refine m_callVi cv_L_158 [] [.int x1_] (k_m_restore_n l G a_ ho_ h_ hM_) (by decide) (ce_4 G _ _ _ _ _ _ _ _ _ _) rfl rfl rfl ⟨Nat.le_of_ble_eq_true rfl, Nat.le_of_ble_eq_true rfl⟩ (Nat.le_of_ble_eq_true rfl) ⟨by omega, by omega⟩ dL_law_1553 (fun x2_ σ2 hq => ?_)
    obtain ⟨e2_, B2, T2, V2, rfl, hM_⟩ := hq
    refine m_icmp_eq 1923 dL_law_1556 (by decide) (fun _ => ?_) (fun hc => absurd (e1_.trans e2_.symm) hc)
    exact kk _ _ _ (li_mk hC_ hM_ ho_ hb_) (by omega) (by omega)
  · refine m_aload_n 1 rfl rfl dL_law_1548 ?_
    refine m_callVi cv_L_155 [] [] (k_restore_s l G a_ ho_ b_ (hb_ b_ rfl) h_ hC_) (by decide) (ce_0 G _ _ _ _ _ _ _ _ _ _) rfl rfl rfl ⟨Nat.le_of_ble_eq_true rfl, Nat.le_of_ble_eq_true rfl⟩ (Nat.le_of_ble_eq_true rfl) ⟨by omega, by omega⟩ dL_law_1549 (fun x1_ σ2 hq => ?_)
    obtain ⟨e1_, A2, S2, Z2, J2, Y2, rfl, hC_⟩ := hq
    refine m_aload_n 2 rfl rfl dL_law_1552 ?_
    refine m_callVi cv_L_158 [] [.int x1_] (k_m_restore_s l G a_ ho_ b_ (hb_ b_ rfl) h_ hM_) (by decide) (ce_4 G _ _ _ _ _ _ _ _ _ _) rfl rfl rfl ⟨Nat.le_of_ble_eq_true rfl, Nat.le_of_ble_eq_true rfl⟩ (Nat.le_of_ble_eq_true rfl) ⟨by omega, by omega⟩ dL_law_1553 (fun x2_ σ2 hq => ?_)
    obtain ⟨e2_, B2, T2, V2, rfl, hM_⟩ := hq
    refine m_icmp_eq 1923 dL_law_1556 (by decide) (fun _ => ?_) (fun hc => absurd (e1_.trans e2_.symm) hc)
    exact kk _ _ _ (li_mk hC_ hM_ (hb_ b_ rfl) hb_) (by omega) (by omega)
set_option maxRecDepth 100000 in
set_option maxHeartbeats 4000000 in
theorem lw_c_33 (l : Launch) (hl_ : l.stackTraces = false) (G : owG) {Qf : List Frame → Array Value → State → State → Prop} {b L i cells slots : Nat} {xs : Nat → Int32} (hL : L ≤ 3072) (hi : i + 6 ≤ L) (hf : cells + 25 ≤ room_1.cells ∧ slots + 100 ≤ room_1.slots) {A S Z B T V : owF} {J : Nat → Nat → Int64} {Y : Nat → Nat → Nat → Option Nat} {P : Nat → Option owW} {a_ : owK} {im_ : Option owK} {h_ : owH} (hC_ : CR A Y P a_ im_ h_) (hM_ : MR B a_ im_ h_) (ho_ : aOk a_) (hb_ : ∀ b, im_ = some b → aOk b) (kk : ∀ (σ2 : owSt) (c2 s2 : Nat), LI σ2 → c2 ≤ cells + 25 → s2 ≤ slots + 100 → WL l G Qf b L xs 1923 (lvL G b i) [] σ2 c2 s2) : WL l G Qf b L xs 1561 (lvL G b i) [] (A, S, Z, B, T, V, J, Y, P) cells slots := by
  refine m_aload_n 1 rfl rfl dL_law_1561 ?_
  refine la_arg 1 (by omega) hL rfl ⟨rfl, rfl⟩ dL_law_1562 dL_law_1563 dL_law_1565 dL_law_1566 dL_law_1567 ?_
  refine m_callVi cv_L_159 [.int (xs (i + 1))] [] (k_count l G a_ ho_ hC_.1 (xs (i + 1))) (by decide) (ce_0 G _ _ _ _ _ _ _ _ _ _) rfl rfl rfl ⟨Nat.le_of_ble_eq_true rfl, Nat.le_of_ble_eq_true rfl⟩ (Nat.le_of_ble_eq_true rfl) ⟨by omega, by omega⟩ dL_law_1568 (fun x1_ σ2 hq => ?_)
  obtain ⟨e1_, S2, Z2, J2, rfl⟩ := hq
  refine m_aload_n 2 rfl rfl dL_law_1571 ?_
  refine la_arg 1 (by omega) hL rfl ⟨rfl, rfl⟩ dL_law_1572 dL_law_1573 dL_law_1575 dL_law_1576 dL_law_1577 ?_
  refine m_callVi cv_L_162 [.int (xs (i + 1))] [.int (x1_)] (k_m_count l G a_ ho_ im_ h_ hM_ (xs (i + 1))) (by decide) (ce_4 G _ _ _ _ _ _ _ _ _ _) rfl rfl rfl ⟨Nat.le_of_ble_eq_true rfl, Nat.le_of_ble_eq_true rfl⟩ (Nat.le_of_ble_eq_true rfl) ⟨by omega, by omega⟩ dL_law_1578 (fun x2_ σ2 hq => ?_)
  obtain ⟨e2_, T2, V2, rfl⟩ := hq
  refine m_icmp_eq 1923 dL_law_1581 (by decide) (fun _ => ?_) (fun hc => absurd (e1_.trans e2_.symm) hc)
  exact kk _ _ _ (li_mk hC_ hM_ ho_ hb_) (by omega) (by omega)
set_option maxRecDepth 100000 in
set_option maxHeartbeats 4000000 in
theorem lw_c_34 (l : Launch) (hl_ : l.stackTraces = false) (G : owG) {Qf : List Frame → Array Value → State → State → Prop} {b L i cells slots : Nat} {xs : Nat → Int32} (hL : L ≤ 3072) (hi : i + 6 ≤ L) (hf : cells + 25 ≤ room_1.cells ∧ slots + 100 ≤ room_1.slots) {A S Z B T V : owF} {J : Nat → Nat → Int64} {Y : Nat → Nat → Nat → Option Nat} {P : Nat → Option owW} {a_ : owK} {im_ : Option owK} {h_ : owH} (hC_ : CR A Y P a_ im_ h_) (hM_ : MR B a_ im_ h_) (ho_ : aOk a_) (hb_ : ∀ b, im_ = some b → aOk b) (kk : ∀ (σ2 : owSt) (c2 s2 : Nat), LI σ2 → c2 ≤ cells + 25 → s2 ≤ slots + 100 → WL l G Qf b L xs 1923 (lvL G b i) [] σ2 c2 s2) : WL l G Qf b L xs 1586 (lvL G b i) [] (A, S, Z, B, T, V, J, Y, P) cells slots := by
  refine m_aload_n 1 rfl rfl dL_law_1586 ?_
  refine la_arg 1 (by omega) hL rfl ⟨rfl, rfl⟩ dL_law_1587 dL_law_1588 dL_law_1590 dL_law_1591 dL_law_1592 ?_
  refine la_arg 2 (by omega) hL rfl ⟨rfl, rfl⟩ dL_law_1593 dL_law_1594 dL_law_1596 dL_law_1597 dL_law_1598 ?_
  refine la_arg 3 (by omega) hL rfl ⟨rfl, rfl⟩ dL_law_1599 dL_law_1600 dL_law_1602 dL_law_1603 dL_law_1604 ?_
  refine m_callVi cv_L_163 [.int (xs (i + 1)), .int (xs (i + 2)), .int (xs (i + 3))] [] (k_keep l G a_ ho_ im_ h_ hC_ (xs (i + 1)) (xs (i + 2)) (xs (i + 3))) (by decide) (ce_0 G _ _ _ _ _ _ _ _ _ _) rfl rfl rfl ⟨Nat.le_of_ble_eq_true rfl, Nat.le_of_ble_eq_true rfl⟩ (Nat.le_of_ble_eq_true rfl) ⟨by omega, by omega⟩ dL_law_1605 (fun x1_ σ2 hq => ?_)
  obtain ⟨e1_, A2, S2, Z2, J2, Y2, rfl, hC_⟩ := hq
  refine m_aload_n 2 rfl rfl dL_law_1608 ?_
  refine la_arg 1 (by omega) hL rfl ⟨rfl, rfl⟩ dL_law_1609 dL_law_1610 dL_law_1612 dL_law_1613 dL_law_1614 ?_
  refine la_arg 2 (by omega) hL rfl ⟨rfl, rfl⟩ dL_law_1615 dL_law_1616 dL_law_1618 dL_law_1619 dL_law_1620 ?_
  refine la_arg 3 (by omega) hL rfl ⟨rfl, rfl⟩ dL_law_1621 dL_law_1622 dL_law_1624 dL_law_1625 dL_law_1626 ?_
  refine m_callVi cv_L_166 [.int (xs (i + 1)), .int (xs (i + 2)), .int (xs (i + 3))] [.int (x1_)] (k_m_keep l G a_ ho_ im_ h_ hM_ (xs (i + 1)) (xs (i + 2)) (xs (i + 3))) (by decide) (ce_4 G _ _ _ _ _ _ _ _ _ _) rfl rfl rfl ⟨Nat.le_of_ble_eq_true rfl, Nat.le_of_ble_eq_true rfl⟩ (Nat.le_of_ble_eq_true rfl) ⟨by omega, by omega⟩ dL_law_1627 (fun x2_ σ2 hq => ?_)
  obtain ⟨e2_, B2, T2, V2, rfl, hM_⟩ := hq
  refine m_icmp_eq 1923 dL_law_1630 (by decide) (fun _ => ?_) (fun hc => absurd (e1_.trans e2_.symm) hc)
  exact kk _ _ _ (li_mk hC_ hM_ ho_ hb_) (by omega) (by omega)
set_option maxRecDepth 100000 in
set_option maxHeartbeats 4000000 in
theorem lw_c_35 (l : Launch) (hl_ : l.stackTraces = false) (G : owG) {Qf : List Frame → Array Value → State → State → Prop} {b L i cells slots : Nat} {xs : Nat → Int32} (hL : L ≤ 3072) (hi : i + 6 ≤ L) (hf : cells + 25 ≤ room_1.cells ∧ slots + 100 ≤ room_1.slots) {A S Z B T V : owF} {J : Nat → Nat → Int64} {Y : Nat → Nat → Nat → Option Nat} {P : Nat → Option owW} {a_ : owK} {im_ : Option owK} {h_ : owH} (hC_ : CR A Y P a_ im_ h_) (hM_ : MR B a_ im_ h_) (ho_ : aOk a_) (hb_ : ∀ b, im_ = some b → aOk b) (kk : ∀ (σ2 : owSt) (c2 s2 : Nat), LI σ2 → c2 ≤ cells + 25 → s2 ≤ slots + 100 → WL l G Qf b L xs 1923 (lvL G b i) [] σ2 c2 s2) : WL l G Qf b L xs 1635 (lvL G b i) [] (A, S, Z, B, T, V, J, Y, P) cells slots := by
  refine m_aload_n 1 rfl rfl dL_law_1635 ?_
  refine la_arg 1 (by omega) hL rfl ⟨rfl, rfl⟩ dL_law_1636 dL_law_1637 dL_law_1639 dL_law_1640 dL_law_1641 ?_
  refine la_arg 2 (by omega) hL rfl ⟨rfl, rfl⟩ dL_law_1642 dL_law_1643 dL_law_1645 dL_law_1646 dL_law_1647 ?_
  refine la_arg 3 (by omega) hL rfl ⟨rfl, rfl⟩ dL_law_1648 dL_law_1649 dL_law_1651 dL_law_1652 dL_law_1653 ?_
  refine m_callVi cv_L_167 [.int (xs (i + 1)), .int (xs (i + 2)), .int (xs (i + 3))] [] (k_row l G a_ ho_ im_ h_ hC_ (xs (i + 1)) (xs (i + 2)) (xs (i + 3))) (by decide) (ce_0 G _ _ _ _ _ _ _ _ _ _) rfl rfl rfl ⟨Nat.le_of_ble_eq_true rfl, Nat.le_of_ble_eq_true rfl⟩ (Nat.le_of_ble_eq_true rfl) ⟨by omega, by omega⟩ dL_law_1654 (fun x1_ σ2 hq => ?_)
  obtain ⟨e1_, A2, S2, Z2, J2, Y2, rfl, hC_⟩ := hq
  refine m_aload_n 2 rfl rfl dL_law_1657 ?_
  refine la_arg 1 (by omega) hL rfl ⟨rfl, rfl⟩ dL_law_1658 dL_law_1659 dL_law_1661 dL_law_1662 dL_law_1663 ?_
  refine la_arg 2 (by omega) hL rfl ⟨rfl, rfl⟩ dL_law_1664 dL_law_1665 dL_law_1667 dL_law_1668 dL_law_1669 ?_
  refine la_arg 3 (by omega) hL rfl ⟨rfl, rfl⟩ dL_law_1670 dL_law_1671 dL_law_1673 dL_law_1674 dL_law_1675 ?_
  refine m_callVi cv_L_170 [.int (xs (i + 1)), .int (xs (i + 2)), .int (xs (i + 3))] [.int (x1_)] (k_m_row l G a_ ho_ im_ h_ hM_ (xs (i + 1)) (xs (i + 2)) (xs (i + 3))) (by decide) (ce_4 G _ _ _ _ _ _ _ _ _ _) rfl rfl rfl ⟨Nat.le_of_ble_eq_true rfl, Nat.le_of_ble_eq_true rfl⟩ (Nat.le_of_ble_eq_true rfl) ⟨by omega, by omega⟩ dL_law_1676 (fun x2_ σ2 hq => ?_)
  obtain ⟨e2_, B2, rfl, hM_⟩ := hq
  refine m_icmp_eq 1923 dL_law_1679 (by decide) (fun _ => ?_) (fun hc => absurd (e1_.trans e2_.symm) hc)
  exact kk _ _ _ (li_mk hC_ hM_ ho_ hb_) (by omega) (by omega)
set_option maxRecDepth 100000 in
set_option maxHeartbeats 4000000 in
theorem lw_c_36 (l : Launch) (hl_ : l.stackTraces = false) (G : owG) {Qf : List Frame → Array Value → State → State → Prop} {b L i cells slots : Nat} {xs : Nat → Int32} (hL : L ≤ 3072) (hi : i + 6 ≤ L) (hf : cells + 25 ≤ room_1.cells ∧ slots + 100 ≤ room_1.slots) {A S Z B T V : owF} {J : Nat → Nat → Int64} {Y : Nat → Nat → Nat → Option Nat} {P : Nat → Option owW} {a_ : owK} {im_ : Option owK} {h_ : owH} (hC_ : CR A Y P a_ im_ h_) (hM_ : MR B a_ im_ h_) (ho_ : aOk a_) (hb_ : ∀ b, im_ = some b → aOk b) (kk : ∀ (σ2 : owSt) (c2 s2 : Nat), LI σ2 → c2 ≤ cells + 25 → s2 ≤ slots + 100 → WL l G Qf b L xs 1923 (lvL G b i) [] σ2 c2 s2) : WL l G Qf b L xs 1684 (lvL G b i) [] (A, S, Z, B, T, V, J, Y, P) cells slots := by
  refine m_aload_n 1 rfl rfl dL_law_1684 ?_
  refine la_arg 1 (by omega) hL rfl ⟨rfl, rfl⟩ dL_law_1685 dL_law_1686 dL_law_1688 dL_law_1689 dL_law_1690 ?_
  refine la_arg 2 (by omega) hL rfl ⟨rfl, rfl⟩ dL_law_1691 dL_law_1692 dL_law_1694 dL_law_1695 dL_law_1696 ?_
  refine la_arg 3 (by omega) hL rfl ⟨rfl, rfl⟩ dL_law_1697 dL_law_1698 dL_law_1700 dL_law_1701 dL_law_1702 ?_
  refine m_callVi cv_L_171 [.int (xs (i + 1)), .int (xs (i + 2)), .int (xs (i + 3))] [] (k_put l G a_ ho_ im_ h_ hC_ (xs (i + 1)) (xs (i + 2)) (xs (i + 3))) (by decide) (ce_0 G _ _ _ _ _ _ _ _ _ _) rfl rfl rfl ⟨Nat.le_of_ble_eq_true rfl, Nat.le_of_ble_eq_true rfl⟩ (Nat.le_of_ble_eq_true rfl) ⟨by omega, by omega⟩ dL_law_1703 (fun x1_ σ2 hq => ?_)
  obtain ⟨e1_, A2, S2, Z2, J2, Y2, rfl, hC_⟩ := hq
  refine m_aload_n 2 rfl rfl dL_law_1706 ?_
  refine la_arg 1 (by omega) hL rfl ⟨rfl, rfl⟩ dL_law_1707 dL_law_1708 dL_law_1710 dL_law_1711 dL_law_1712 ?_
  refine la_arg 2 (by omega) hL rfl ⟨rfl, rfl⟩ dL_law_1713 dL_law_1714 dL_law_1716 dL_law_1717 dL_law_1718 ?_
  refine la_arg 3 (by omega) hL rfl ⟨rfl, rfl⟩ dL_law_1719 dL_law_1720 dL_law_1722 dL_law_1723 dL_law_1724 ?_
  refine m_callVi cv_L_174 [.int (xs (i + 1)), .int (xs (i + 2)), .int (xs (i + 3))] [.int (x1_)] (k_m_put l G a_ ho_ im_ h_ hM_ (xs (i + 1)) (xs (i + 2)) (xs (i + 3))) (by decide) (ce_4 G _ _ _ _ _ _ _ _ _ _) rfl rfl rfl ⟨Nat.le_of_ble_eq_true rfl, Nat.le_of_ble_eq_true rfl⟩ (Nat.le_of_ble_eq_true rfl) ⟨by omega, by omega⟩ dL_law_1725 (fun x2_ σ2 hq => ?_)
  obtain ⟨e2_, B2, T2, V2, rfl, hM_⟩ := hq
  refine m_icmp_eq 1923 dL_law_1728 (by decide) (fun _ => ?_) (fun hc => absurd (e1_.trans e2_.symm) hc)
  exact kk _ _ _ (li_mk hC_ hM_ ho_ hb_) (by omega) (by omega)
set_option maxRecDepth 100000 in
set_option maxHeartbeats 4000000 in
theorem lw_c_37 (l : Launch) (hl_ : l.stackTraces = false) (G : owG) {Qf : List Frame → Array Value → State → State → Prop} {b L i cells slots : Nat} {xs : Nat → Int32} (hL : L ≤ 3072) (hi : i + 6 ≤ L) (hf : cells + 25 ≤ room_1.cells ∧ slots + 100 ≤ room_1.slots) {A S Z B T V : owF} {J : Nat → Nat → Int64} {Y : Nat → Nat → Nat → Option Nat} {P : Nat → Option owW} {a_ : owK} {im_ : Option owK} {h_ : owH} (hC_ : CR A Y P a_ im_ h_) (hM_ : MR B a_ im_ h_) (ho_ : aOk a_) (hb_ : ∀ b, im_ = some b → aOk b) (kk : ∀ (σ2 : owSt) (c2 s2 : Nat), LI σ2 → c2 ≤ cells + 25 → s2 ≤ slots + 100 → WL l G Qf b L xs 1923 (lvL G b i) [] σ2 c2 s2) : WL l G Qf b L xs 1733 (lvL G b i) [] (A, S, Z, B, T, V, J, Y, P) cells slots := by
  refine m_aload_n 1 rfl rfl dL_law_1733 ?_
  refine la_arg 1 (by omega) hL rfl ⟨rfl, rfl⟩ dL_law_1734 dL_law_1735 dL_law_1737 dL_law_1738 dL_law_1739 ?_
  refine la_arg 2 (by omega) hL rfl ⟨rfl, rfl⟩ dL_law_1740 dL_law_1741 dL_law_1743 dL_law_1744 dL_law_1745 ?_
  refine m_aload_n 3 rfl rfl dL_law_1746 ?_
  refine m_callSW (fun _ h9 => h9.1) cw_L_175 [.ref (gK G 0 0), .int (xs (i + 1)), .int (xs (i + 2)), .ref (gK G 60 0)] [] (k_law_element l G hl_ h_ hC_.2.2.2.1 (xs (i + 1)) (xs (i + 2))) rfl rfl ⟨Nat.le_of_ble_eq_true rfl, Nat.le_of_ble_eq_true rfl⟩ (Nat.le_of_ble_eq_true rfl) ⟨by omega, by omega⟩ dL_law_1747 (fun rr σ2 hq => ?_)
  obtain ⟨x1_, rfl, e1_, S2, Z2, J2, rfl, hJ_⟩ := hq
  refine m_istore ((5, .int x1_) :: lvL G b i) (by decide) rfl dL_law_1750 ?_
  refine m_aload_n 3 rfl rfl dL_law_1752 ?_
  refine la_arg2 1 (by omega) hL rfl ⟨rfl, rfl⟩ dL_law_1753 dL_law_1754 dL_law_1756 dL_law_1757 dL_law_1758 ?_
  refine la_arg2 2 (by omega) hL rfl ⟨rfl, rfl⟩ dL_law_1759 dL_law_1760 dL_law_1762 dL_law_1763 dL_law_1764 ?_
  refine m_callVl cv_L_180 [.int (xs (i + 1)), .int (xs (i + 2))] [] (k_m_element l G a_ ho_ im_ h_ hM_ (xs (i + 1)) (xs (i + 2))) (by decide) (ce_4 G _ _ _ _ _ _ _ _ _ _) rfl rfl rfl ⟨Nat.le_of_ble_eq_true rfl, Nat.le_of_ble_eq_true rfl⟩ (Nat.le_of_ble_eq_true rfl) ⟨by omega, by omega⟩ dL_law_1765 (fun x2_ σ2 hq => ?_)
  obtain ⟨e2_, T2, rfl, hT_⟩ := hq
  refine m_lstore ((6, .long x2_) :: (5, .int x1_) :: lvL G b i) (by decide) rfl dL_law_1768 ?_
  refine m_aload_n 4 rfl rfl dL_law_1770 ?_
  refine m_callVi cv_L_181 [] [] (k_m_thrown l G) (by decide) (ce_4 G _ _ _ _ _ _ _ _ _ _) rfl rfl rfl ⟨Nat.le_of_ble_eq_true rfl, Nat.le_of_ble_eq_true rfl⟩ (Nat.le_of_ble_eq_true rfl) ⟨by omega, by omega⟩ dL_law_1771 (fun x3_ σ2 hq => ?_)
  obtain ⟨e3_, rfl⟩ := hq
  refine m_iload 1 rfl dL_law_1774 ?_
  refine m_icmp_eq 1781 dL_law_1776 (by decide) (fun _ => ?_) (fun hc => absurd (e3_.trans (hT_.trans e1_.symm)) hc)
  refine m_iload 1 rfl dL_law_1781 ?_
  refine m_if_ne 1797 dL_law_1783 (by decide) (fun _ => ?_) (fun h0_ => ?_)
  · refine m_goto 1923 dL_law_1797 (by decide) ?_
    refine m_lv (lvL G b i) [2, 3, 4, 5, 6] rfl ?_
    exact kk _ _ _ (li_mk hC_ hM_ ho_ hb_) (by omega) (by omega)
  · have h0_ : x1_ = 0 := by first | exact h0_ | exact Decidable.not_not.mp h0_
    refine m_aload_n 5 rfl rfl dL_law_1786 ?_
    refine m_iconst 0 dL_law_1787 rfl ?_
    refine al_60 0 rfl (by decide) dL_law_1788 ?_
    refine m_lload 0 rfl dL_law_1789 ?_
    refine m_lcmp dL_law_1791 ?_
    refine m_if_eq 1797 dL_law_1792 (by decide) (fun _ => ?_) (fun hc => absurd (cmp0.mpr ((hJ_ (e1_.symm.trans h0_)).trans e2_.symm)) hc)
    refine m_goto 1923 dL_law_1797 (by decide) ?_
    refine m_lv (lvL G b i) [2, 3, 4, 5, 6] rfl ?_
    exact kk _ _ _ (li_mk hC_ hM_ ho_ hb_) (by omega) (by omega)
set_option maxRecDepth 100000 in
set_option maxHeartbeats 4000000 in
theorem lw_c_38 (l : Launch) (hl_ : l.stackTraces = false) (G : owG) {Qf : List Frame → Array Value → State → State → Prop} {b L i cells slots : Nat} {xs : Nat → Int32} (hL : L ≤ 3072) (hi : i + 6 ≤ L) (hf : cells + 25 ≤ room_1.cells ∧ slots + 100 ≤ room_1.slots) {A S Z B T V : owF} {J : Nat → Nat → Int64} {Y : Nat → Nat → Nat → Option Nat} {P : Nat → Option owW} {a_ : owK} {im_ : Option owK} {h_ : owH} (hC_ : CR A Y P a_ im_ h_) (hM_ : MR B a_ im_ h_) (ho_ : aOk a_) (hb_ : ∀ b, im_ = some b → aOk b) (kk : ∀ (σ2 : owSt) (c2 s2 : Nat), LI σ2 → c2 ≤ cells + 25 → s2 ≤ slots + 100 → WL l G Qf b L xs 1923 (lvL G b i) [] σ2 c2 s2) : WL l G Qf b L xs 1800 (lvL G b i) [] (A, S, Z, B, T, V, J, Y, P) cells slots := by
  refine m_aload_n 1 rfl rfl dL_law_1800 ?_
  refine la_arg 1 (by omega) hL rfl ⟨rfl, rfl⟩ dL_law_1801 dL_law_1802 dL_law_1804 dL_law_1805 dL_law_1806 ?_
  refine la_arg 2 (by omega) hL rfl ⟨rfl, rfl⟩ dL_law_1807 dL_law_1808 dL_law_1810 dL_law_1811 dL_law_1812 ?_
  refine la_arg 3 (by omega) hL rfl ⟨rfl, rfl⟩ dL_law_1813 dL_law_1814 dL_law_1816 dL_law_1817 dL_law_1818 ?_
  refine la_arg 4 (by omega) hL rfl ⟨rfl, rfl⟩ dL_law_1819 dL_law_1820 dL_law_1822 dL_law_1823 dL_law_1824 ?_
  refine la_arg 5 (by omega) hL rfl ⟨rfl, rfl⟩ dL_law_1825 dL_law_1826 dL_law_1828 dL_law_1829 dL_law_1830 ?_
  refine m_callVi cv_L_184 [.int (xs (i + 1)), .int (xs (i + 2)), .int (xs (i + 3)), .int (xs (i + 4)), .int (xs (i + 5))] [] (k_copy l G a_ ho_ im_ h_ hC_ (xs (i + 1)) (xs (i + 2)) (xs (i + 3)) (xs (i + 4)) (xs (i + 5))) (by decide) (ce_0 G _ _ _ _ _ _ _ _ _ _) rfl rfl rfl ⟨Nat.le_of_ble_eq_true rfl, Nat.le_of_ble_eq_true rfl⟩ (Nat.le_of_ble_eq_true rfl) ⟨by omega, by omega⟩ dL_law_1831 (fun x1_ σ2 hq => ?_)
  obtain ⟨e1_, A2, S2, Z2, J2, Y2, rfl, hC_⟩ := hq
  refine m_aload_n 2 rfl rfl dL_law_1834 ?_
  refine la_arg 1 (by omega) hL rfl ⟨rfl, rfl⟩ dL_law_1835 dL_law_1836 dL_law_1838 dL_law_1839 dL_law_1840 ?_
  refine la_arg 2 (by omega) hL rfl ⟨rfl, rfl⟩ dL_law_1841 dL_law_1842 dL_law_1844 dL_law_1845 dL_law_1846 ?_
  refine la_arg 3 (by omega) hL rfl ⟨rfl, rfl⟩ dL_law_1847 dL_law_1848 dL_law_1850 dL_law_1851 dL_law_1852 ?_
  refine la_arg 4 (by omega) hL rfl ⟨rfl, rfl⟩ dL_law_1853 dL_law_1854 dL_law_1856 dL_law_1857 dL_law_1858 ?_
  refine la_arg 5 (by omega) hL rfl ⟨rfl, rfl⟩ dL_law_1859 dL_law_1860 dL_law_1862 dL_law_1863 dL_law_1864 ?_
  refine m_callVi cv_L_187 [.int (xs (i + 1)), .int (xs (i + 2)), .int (xs (i + 3)), .int (xs (i + 4)), .int (xs (i + 5))] [.int (x1_)] (k_m_copy l G a_ ho_ im_ h_ hM_ (xs (i + 1)) (xs (i + 2)) (xs (i + 3)) (xs (i + 4)) (xs (i + 5))) (by decide) (ce_4 G _ _ _ _ _ _ _ _ _ _) rfl rfl rfl ⟨Nat.le_of_ble_eq_true rfl, Nat.le_of_ble_eq_true rfl⟩ (Nat.le_of_ble_eq_true rfl) ⟨by omega, by omega⟩ dL_law_1865 (fun x2_ σ2 hq => ?_)
  obtain ⟨e2_, B2, T2, V2, rfl, hM_⟩ := hq
  refine m_icmp_eq 1923 dL_law_1868 (by decide) (fun _ => ?_) (fun hc => absurd (e1_.trans e2_.symm) hc)
  exact kk _ _ _ (li_mk hC_ hM_ ho_ hb_) (by omega) (by omega)
set_option maxRecDepth 100000 in
set_option maxHeartbeats 4000000 in
theorem lw_c_39 (l : Launch) (hl_ : l.stackTraces = false) (G : owG) {Qf : List Frame → Array Value → State → State → Prop} {b L i cells slots : Nat} {xs : Nat → Int32} (hL : L ≤ 3072) (hi : i + 6 ≤ L) (hf : cells + 25 ≤ room_1.cells ∧ slots + 100 ≤ room_1.slots) {A S Z B T V : owF} {J : Nat → Nat → Int64} {Y : Nat → Nat → Nat → Option Nat} {P : Nat → Option owW} {a_ : owK} {im_ : Option owK} {h_ : owH} (hC_ : CR A Y P a_ im_ h_) (hM_ : MR B a_ im_ h_) (ho_ : aOk a_) (hb_ : ∀ b, im_ = some b → aOk b) (kk : ∀ (σ2 : owSt) (c2 s2 : Nat), LI σ2 → c2 ≤ cells + 25 → s2 ≤ slots + 100 → WL l G Qf b L xs 1923 (lvL G b i) [] σ2 c2 s2) : WL l G Qf b L xs 1873 (lvL G b i) [] (A, S, Z, B, T, V, J, Y, P) cells slots := by
  refine m_aload_n 1 rfl rfl dL_law_1873 ?_
  refine la_arg 1 (by omega) hL rfl ⟨rfl, rfl⟩ dL_law_1874 dL_law_1875 dL_law_1877 dL_law_1878 dL_law_1879 ?_
  refine m_callVi cv_L_188 [.int (xs (i + 1))] [] (k_costP l G h_ hC_.2.2.2.1 (xs (i + 1))) (by decide) (ce_0 G _ _ _ _ _ _ _ _ _ _) rfl rfl rfl ⟨Nat.le_of_ble_eq_true rfl, Nat.le_of_ble_eq_true rfl⟩ (Nat.le_of_ble_eq_true rfl) ⟨by omega, by omega⟩ dL_law_1880 (fun x1_ σ2 hq => ?_)
  obtain ⟨e1_, S2, Z2, J2, rfl⟩ := hq
  refine m_aload_n 2 rfl rfl dL_law_1883 ?_
  refine la_arg 1 (by omega) hL rfl ⟨rfl, rfl⟩ dL_law_1884 dL_law_1885 dL_law_1887 dL_law_1888 dL_law_1889 ?_
  refine m_callVi cv_L_191 [.int (xs (i + 1))] [.int (x1_)] (k_m_cost l G a_ ho_ im_ h_ hM_ (xs (i + 1))) (by decide) (ce_4 G _ _ _ _ _ _ _ _ _ _) rfl rfl rfl ⟨Nat.le_of_ble_eq_true rfl, Nat.le_of_ble_eq_true rfl⟩ (Nat.le_of_ble_eq_true rfl) ⟨by omega, by omega⟩ dL_law_1890 (fun x2_ σ2 hq => ?_)
  obtain ⟨e2_, T2, V2, rfl⟩ := hq
  refine m_icmp_eq 1923 dL_law_1893 (by decide) (fun _ => ?_) (fun hc => absurd (e1_.trans e2_.symm) hc)
  exact kk _ _ _ (li_mk hC_ hM_ ho_ hb_) (by omega) (by omega)
set_option maxRecDepth 100000 in
set_option maxHeartbeats 4000000 in
theorem lw_c_40 (l : Launch) (hl_ : l.stackTraces = false) (G : owG) {Qf : List Frame → Array Value → State → State → Prop} {b L i cells slots : Nat} {xs : Nat → Int32} (hL : L ≤ 3072) (hi : i + 6 ≤ L) (hf : cells + 25 ≤ room_1.cells ∧ slots + 100 ≤ room_1.slots) {A S Z B T V : owF} {J : Nat → Nat → Int64} {Y : Nat → Nat → Nat → Option Nat} {P : Nat → Option owW} {a_ : owK} {im_ : Option owK} {h_ : owH} (hC_ : CR A Y P a_ im_ h_) (hM_ : MR B a_ im_ h_) (ho_ : aOk a_) (hb_ : ∀ b, im_ = some b → aOk b) (kk : ∀ (σ2 : owSt) (c2 s2 : Nat), LI σ2 → c2 ≤ cells + 25 → s2 ≤ slots + 100 → WL l G Qf b L xs 1923 (lvL G b i) [] σ2 c2 s2) : WL l G Qf b L xs 1898 (lvL G b i) [] (A, S, Z, B, T, V, J, Y, P) cells slots := by
  refine m_aload_n 1 rfl rfl dL_law_1898 ?_
  refine la_arg 1 (by omega) hL rfl ⟨rfl, rfl⟩ dL_law_1899 dL_law_1900 dL_law_1902 dL_law_1903 dL_law_1904 ?_
  refine m_callVE (fun _ h9 => h9.1) cv_L_192 [.int (xs (i + 1))] [] (k_toss l G hl_ h_ hC_.2.2.2.1 (xs (i + 1))) (by decide) (ce_0 G _ _ _ _ _ _ _ _ _ _) rfl rfl rfl ⟨Nat.le_of_ble_eq_true rfl, Nat.le_of_ble_eq_true rfl⟩ (Nat.le_of_ble_eq_true rfl) ⟨by omega, by omega⟩ dL_law_1905 (fun rr σ2 hq => ?_)
  obtain ⟨x1_, rfl, hq⟩ := hq
  obtain ⟨e1_, S2, Z2, J2, rfl⟩ := hq
  refine m_aload_n 2 rfl rfl dL_law_1908 ?_
  refine la_arg 1 (by omega) hL rfl ⟨rfl, rfl⟩ dL_law_1909 dL_law_1910 dL_law_1912 dL_law_1913 dL_law_1914 ?_
  refine m_callVi cv_L_195 [.int (xs (i + 1))] [.int (x1_)] (k_m_toss l G a_ ho_ im_ h_ hM_ (xs (i + 1))) (by decide) (ce_4 G _ _ _ _ _ _ _ _ _ _) rfl rfl rfl ⟨Nat.le_of_ble_eq_true rfl, Nat.le_of_ble_eq_true rfl⟩ (Nat.le_of_ble_eq_true rfl) ⟨by omega, by omega⟩ dL_law_1915 (fun x2_ σ2 hq => ?_)
  obtain ⟨e2_, T2, V2, rfl⟩ := hq
  refine m_icmp_eq 1923 dL_law_1918 (by decide) (fun _ => ?_) (fun hc => absurd (e1_.trans e2_.symm) hc)
  exact kk _ _ _ (li_mk hC_ hM_ ho_ hb_) (by omega) (by omega)
