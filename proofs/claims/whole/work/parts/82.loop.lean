/-! the law's loop -/
def R_law : String := "OwnWaysLaw"
def lw_P (b : Addr) (xs : List Int32) (args : Array Value) (s : State) : Prop := args = #[.ref b] ∧ s.IntsAt b xs ∧ xs.length ≤ 3072 ∧ (Jvm.Cond.and given_1 narrow_1).before args s = true
def lw_Q (_ : Array Value) (s : State) (o : Outcome) (t : State) : Prop := o = .returned (some (.int 1)) ∧ Framed s o t [] 601024 7293034
def lw_Z (below : List Frame) (a : Array Value) (s : State) : State → Prop := fun t => ∃ o, t.status = .running ∧ Ended t below o ∧ lw_Q a s o t
/-- the law's own end, with 1 on the stack, nothing written that was there before, its room as the claim has it -/
theorem law_ret {p : Program} {l : Launch} {e : Env} {s : State} {m : MethodId} {args : Array Value} {below : List Frame} {meth : Method} {c : Code} (hx : p.tables.exec = Jvm.exec) (hb : c.code = code) (hr : meth.sig.returnType = ret) (hlocks : meth.locks = false) {pc : Nat} {H : Heap} {ls : Array Slot} (hdg : decode code pc = .ok (.ireturn, 1)) : W p l e room_1 s m args below meth c H [] 601024 7293034 (lw_Z below args s) (F0 m pc ls [.int 1]) := by
  intro T hT X
  obtain ⟨fs, hret, hrun, hended, hW, hframe⟩ := X.leave (v := some (.int 1)) (hlocks := hlocks) (fun h => by rw [hr] at h; cases h)
  have hmeth' : T.vm.method? m = some meth := X.method'
  refine ⟨T.setFrames fs, ?_, .returned (some (.int 1)), hrun, hended, rfl, ⟨_, rfl⟩, hW, hframe⟩
  jvm_step X.here [X.here.top, hx, hb, hdg, hmeth', hr, ret, narrow_b1]
  (try refine ⟨rfl, ?_⟩); (try refine ⟨rfl, ?_⟩)
  first | (intro acts; rw [hret _ acts rfl rfl rfl]) | rw [hret _ _ rfl rfl rfl]
  exact Steps.refl _
theorem la_ret {l : Launch} {G : owG} {b L : Nat} {xs : Nat → Int32} {lv : List (Nat × Value)} {σ : owSt} {cells slots : Nat} (hf : cells ≤ 601024 ∧ slots ≤ 7293034) : WL l G lw_Z b L xs 1930 lv [.int 1] σ cells slots := by
  intro p e s m args below meth c H locs ls X
  obtain ⟨hx, hb, hml, ho, hts, hr, hlk, hE, hK, hH, hS, hB, hl⟩ := X
  refine va_forget (fun q hq => Nat.le_trans hE.2.2.2 (hS.2.2 q hq)) ?_
  refine W.widen hf.1 hf.2 ?_
  exact law_ret hx hb hr hlk dL_law_1930
theorem and63 (x : Int32) : ∃ k : Nat, k < 64 ∧ x &&& 63 = nI k := by
  refine ⟨x.toBitVec.toNat % 64, Nat.mod_lt _ (by decide), ?_⟩
  apply Int32.toBitVec_inj.mp
  apply BitVec.eq_of_toNat_eq
  have h := Nat.mod_lt x.toBitVec.toNat (show 0 < 64 by decide)
  have e1 : x.toBitVec.toNat &&& (2 ^ 6 - 1) = x.toBitVec.toNat % 2 ^ 6 := Nat.and_two_pow_sub_one_eq_mod _ 6
  exact e1.trans (Nat.mod_eq_of_lt (a := x.toBitVec.toNat % 64) (b := 2 ^ 32) (by omega)).symm
theorem la_end {L i : Nat} (hL : L ≤ 3072) (hi : i ≤ L) (h : ¬ Int32.ofNat L - 6 < nI i) : i + 6 ≤ L := by
  rcases Nat.lt_or_ge L (i + 6) with q | q
  · refine absurd ?_ h
    rw [Int32.lt_iff_toInt_lt, Int32.toInt_sub, show Int32.ofNat L = nI L from rfl, nI_toInt (by omega), nI_toInt (by omega), show (6 : Int32).toInt = 6 from rfl, Int.bmod_eq_of_le (by omega) (by omega)]
    omega
  · exact q

set_option maxRecDepth 100000 in
set_option maxHeartbeats 4000000 in
theorem law_switch (l : Launch) (hl_ : l.stackTraces = false) (G : owG) {Qf : List Frame → Array Value → State → State → Prop} {b L i cells slots : Nat} {xs : Nat → Int32} (hL : L ≤ 3072) (hi : i + 6 ≤ L) (hf : cells + 25 ≤ room_1.cells ∧ slots + 100 ≤ room_1.slots) {A S Z B T V : owF} {J : Nat → Nat → Int64} {Y : Nat → Nat → Nat → Option Nat} {P : Nat → Option owW} {a_ : owK} {im_ : Option owK} {h_ : owH} (hC_ : CR A Y P a_ im_ h_) (hM_ : MR B a_ im_ h_) (ho_ : aOk a_) (hb_ : ∀ b, im_ = some b → aOk b) (kk : ∀ (σ2 : owSt) (c2 s2 : Nat), LI σ2 → c2 ≤ cells + 25 → s2 ≤ slots + 100 → WL l G Qf b L xs 1923 (lvL G b i) [] σ2 c2 s2) (k : Nat) (hk : k < 64) : WL l G Qf b L xs 40 (lvL G b i) [.int (nI k)] (A, S, Z, B, T, V, J, Y, P) cells slots := by
  match k, hk with
  | 0, _ =>
    refine m_tableIn 220 dL_law_40 (by decide) (by decide) (by rfl) (by decide) ?_
    exact lw_c_0 l hl_ G hL hi hf hC_ hM_ ho_ hb_ kk
  | 1, _ =>
    refine m_tableIn 245 dL_law_40 (by decide) (by decide) (by rfl) (by decide) ?_
    exact lw_c_1 l hl_ G hL hi hf hC_ hM_ ho_ hb_ kk
  | 2, _ =>
    refine m_tableIn 282 dL_law_40 (by decide) (by decide) (by rfl) (by decide) ?_
    exact lw_c_2 l hl_ G hL hi hf hC_ hM_ ho_ hb_ kk
  | 3, _ =>
    refine m_tableIn 319 dL_law_40 (by decide) (by decide) (by rfl) (by decide) ?_
    exact lw_c_3 l hl_ G hL hi hf hC_ hM_ ho_ hb_ kk
  | 4, _ =>
    refine m_tableIn 356 dL_law_40 (by decide) (by decide) (by rfl) (by decide) ?_
    exact lw_c_4 l hl_ G hL hi hf hC_ hM_ ho_ hb_ kk
  | 5, _ =>
    refine m_tableIn 393 dL_law_40 (by decide) (by decide) (by rfl) (by decide) ?_
    exact lw_c_5 l hl_ G hL hi hf hC_ hM_ ho_ hb_ kk
  | 6, _ =>
    refine m_tableIn 442 dL_law_40 (by decide) (by decide) (by rfl) (by decide) ?_
    exact lw_c_6 l hl_ G hL hi hf hC_ hM_ ho_ hb_ kk
  | 7, _ =>
    refine m_tableIn 515 dL_law_40 (by decide) (by decide) (by rfl) (by decide) ?_
    exact lw_c_7 l hl_ G hL hi hf hC_ hM_ ho_ hb_ kk
  | 8, _ =>
    refine m_tableIn 552 dL_law_40 (by decide) (by decide) (by rfl) (by decide) ?_
    exact lw_c_8 l hl_ G hL hi hf hC_ hM_ ho_ hb_ kk
  | 9, _ =>
    refine m_tableIn 601 dL_law_40 (by decide) (by decide) (by rfl) (by decide) ?_
    exact lw_c_9 l hl_ G hL hi hf hC_ hM_ ho_ hb_ kk
  | 10, _ =>
    refine m_tableIn 650 dL_law_40 (by decide) (by decide) (by rfl) (by decide) ?_
    exact lw_c_10 l hl_ G hL hi hf hC_ hM_ ho_ hb_ kk
  | 11, _ =>
    refine m_tableIn 699 dL_law_40 (by decide) (by decide) (by rfl) (by decide) ?_
    exact lw_c_11 l hl_ G hL hi hf hC_ hM_ ho_ hb_ kk
  | 12, _ =>
    refine m_tableIn 748 dL_law_40 (by decide) (by decide) (by rfl) (by decide) ?_
    exact lw_c_12 l hl_ G hL hi hf hC_ hM_ ho_ hb_ kk
  | 13, _ =>
    refine m_tableIn 785 dL_law_40 (by decide) (by decide) (by rfl) (by decide) ?_
    exact lw_c_13 l hl_ G hL hi hf hC_ hM_ ho_ hb_ kk
  | 14, _ =>
    refine m_tableIn 846 dL_law_40 (by decide) (by decide) (by rfl) (by decide) ?_
    exact lw_c_14 l hl_ G hL hi hf hC_ hM_ ho_ hb_ kk
  | 15, _ =>
    refine m_tableIn 919 dL_law_40 (by decide) (by decide) (by rfl) (by decide) ?_
    exact lw_c_15 l hl_ G hL hi hf hC_ hM_ ho_ hb_ kk
  | 16, _ =>
    refine m_tableIn 956 dL_law_40 (by decide) (by decide) (by rfl) (by decide) ?_
    exact lw_c_16 l hl_ G hL hi hf hC_ hM_ ho_ hb_ kk
  | 17, _ =>
    refine m_tableIn 1005 dL_law_40 (by decide) (by decide) (by rfl) (by decide) ?_
    exact lw_c_17 l hl_ G hL hi hf hC_ hM_ ho_ hb_ kk
  | 18, _ =>
    refine m_tableIn 1042 dL_law_40 (by decide) (by decide) (by rfl) (by decide) ?_
    exact lw_c_18 l hl_ G hL hi hf hC_ hM_ ho_ hb_ kk
  | 19, _ =>
    refine m_tableIn 1091 dL_law_40 (by decide) (by decide) (by rfl) (by decide) ?_
    exact lw_c_19 l hl_ G hL hi hf hC_ hM_ ho_ hb_ kk
  | 20, _ =>
    refine m_tableIn 1116 dL_law_40 (by decide) (by decide) (by rfl) (by decide) ?_
    exact lw_c_20 l hl_ G hL hi hf hC_ hM_ ho_ hb_ kk
  | 21, _ =>
    refine m_tableIn 1153 dL_law_40 (by decide) (by decide) (by rfl) (by decide) ?_
    exact lw_c_21 l hl_ G hL hi hf hC_ hM_ ho_ hb_ kk
  | 22, _ =>
    refine m_tableIn 1214 dL_law_40 (by decide) (by decide) (by rfl) (by decide) ?_
    exact lw_c_22 l hl_ G hL hi hf hC_ hM_ ho_ hb_ kk
  | 23, _ =>
    refine m_tableIn 1251 dL_law_40 (by decide) (by decide) (by rfl) (by decide) ?_
    exact lw_c_23 l hl_ G hL hi hf hC_ hM_ ho_ hb_ kk
  | 24, _ =>
    refine m_tableIn 1276 dL_law_40 (by decide) (by decide) (by rfl) (by decide) ?_
    exact lw_c_24 l hl_ G hL hi hf hC_ hM_ ho_ hb_ kk
  | 25, _ =>
    refine m_tableIn 1337 dL_law_40 (by decide) (by decide) (by rfl) (by decide) ?_
    exact lw_c_25 l hl_ G hL hi hf hC_ hM_ ho_ hb_ kk
  | 26, _ =>
    refine m_tableIn 1362 dL_law_40 (by decide) (by decide) (by rfl) (by decide) ?_
    exact lw_c_26 l hl_ G hL hi hf hC_ hM_ ho_ hb_ kk
  | 27, _ =>
    refine m_tableIn 1375 dL_law_40 (by decide) (by decide) (by rfl) (by decide) ?_
    exact lw_c_27 l hl_ G hL hi hf hC_ hM_ ho_ hb_ kk
  | 28, _ =>
    refine m_tableIn 1400 dL_law_40 (by decide) (by decide) (by rfl) (by decide) ?_
    exact lw_c_28 l hl_ G hL hi hf hC_ hM_ ho_ hb_ kk
  | 29, _ =>
    refine m_tableIn 1437 dL_law_40 (by decide) (by decide) (by rfl) (by decide) ?_
    exact lw_c_29 l hl_ G hL hi hf hC_ hM_ ho_ hb_ kk
  | 30, _ =>
    refine m_tableIn 1498 dL_law_40 (by decide) (by decide) (by rfl) (by decide) ?_
    exact lw_c_30 l hl_ G hL hi hf hC_ hM_ ho_ hb_ kk
  | 31, _ =>
    refine m_tableIn 1535 dL_law_40 (by decide) (by decide) (by rfl) (by decide) ?_
    exact lw_c_31 l hl_ G hL hi hf hC_ hM_ ho_ hb_ kk
  | 32, _ =>
    refine m_tableIn 1548 dL_law_40 (by decide) (by decide) (by rfl) (by decide) ?_
    exact lw_c_32 l hl_ G hL hi hf hC_ hM_ ho_ hb_ kk
  | 33, _ =>
    refine m_tableIn 1561 dL_law_40 (by decide) (by decide) (by rfl) (by decide) ?_
    exact lw_c_33 l hl_ G hL hi hf hC_ hM_ ho_ hb_ kk
  | 34, _ =>
    refine m_tableIn 1586 dL_law_40 (by decide) (by decide) (by rfl) (by decide) ?_
    exact lw_c_34 l hl_ G hL hi hf hC_ hM_ ho_ hb_ kk
  | 35, _ =>
    refine m_tableIn 1635 dL_law_40 (by decide) (by decide) (by rfl) (by decide) ?_
    exact lw_c_35 l hl_ G hL hi hf hC_ hM_ ho_ hb_ kk
  | 36, _ =>
    refine m_tableIn 1684 dL_law_40 (by decide) (by decide) (by rfl) (by decide) ?_
    exact lw_c_36 l hl_ G hL hi hf hC_ hM_ ho_ hb_ kk
  | 37, _ =>
    refine m_tableIn 1733 dL_law_40 (by decide) (by decide) (by rfl) (by decide) ?_
    exact lw_c_37 l hl_ G hL hi hf hC_ hM_ ho_ hb_ kk
  | 38, _ =>
    refine m_tableIn 1800 dL_law_40 (by decide) (by decide) (by rfl) (by decide) ?_
    exact lw_c_38 l hl_ G hL hi hf hC_ hM_ ho_ hb_ kk
  | 39, _ =>
    refine m_tableIn 1873 dL_law_40 (by decide) (by decide) (by rfl) (by decide) ?_
    exact lw_c_39 l hl_ G hL hi hf hC_ hM_ ho_ hb_ kk
  | 40, _ =>
    refine m_tableIn 1898 dL_law_40 (by decide) (by decide) (by rfl) (by decide) ?_
    exact lw_c_40 l hl_ G hL hi hf hC_ hM_ ho_ hb_ kk
  | k + 41, hk =>
    refine m_tableOut 1923 dL_law_40 (Or.inr (by rw [nI_toInt (by omega)]; omega)) (by decide) ?_
    exact kk _ _ _ (li_mk hC_ hM_ ho_ hb_) (by omega) (by omega)
set_option maxRecDepth 100000 in
set_option maxHeartbeats 4000000 in
/-- at the loop's head, with i ints read, class and model agree -/
theorem law_loop (l : Launch) (hl_ : l.stackTraces = false) (G : owG) {b L : Nat} {xs : Nat → Int32} (hL : L ≤ 3072) : ∀ (n i cells slots : Nat) (σ : owSt), i ≤ L → L + 1 ≤ i + n → LI σ → cells ≤ 100 + 25 * i → slots ≤ 5000 + 100 * i → WL l G lw_Z b L xs 23 (lvL G b i) [] σ cells slots := by
  intro n
  induction n with
  | zero =>
    intro i cells slots σ h1 h2
    exact absurd h2 (by omega)
  | succ n ih =>
    intro i cells slots σ hi hin hσ hc hs
    obtain ⟨A, S, Z, B, T, V, J, Y, P, a_, im_, h_, rfl, hC_, hM_, ho_, hb_⟩ := hσ
    refine m_iload 4 rfl dL_law_23 ?_
    refine m_aload_n 0 rfl rfl dL_law_25 ?_
    refine la_len dL_law_26 ?_
    refine m_bipush 6 dL_law_27 (by decide) ?_
    refine m_isub dL_law_29 ?_
    refine m_icmp_gt 1929 dL_law_30 (by decide) (fun _ => ?_) (fun hq => ?_)
    · refine m_iconst 1 dL_law_1929 (by decide) ?_
      exact la_ret ⟨by omega, by omega⟩
    · have h6 : i + 6 ≤ L := la_end hL hi hq
      refine m_aload_n 0 rfl rfl dL_law_33 ?_
      refine m_iload 4 rfl dL_law_34 ?_
      refine la_ld rfl (by omega) hL dL_law_36 ?_
      refine m_bipush 63 dL_law_37 (by decide) ?_
      refine m_iand dL_law_39 ?_
      obtain ⟨k, hk, ek⟩ := and63 (xs i)
      rw [ek]
      refine law_switch l hl_ G hL h6 ⟨by show _ ≤ 601024; omega, by show _ ≤ 7293034; omega⟩ hC_ hM_ ho_ hb_ (fun σ2 c2 s2 hσ2 hc2 hs2 => ?_) k hk
      refine m_iinc (n := 6) (nI (i + 6)) 4 [(4, .int (nI (i + 6))), (0, .ref b), (1, .ref (gK G 0 0)), (2, .ref (gK G 4 0)), (3, .ref (gK G 60 0))] rfl (by rw [show Int32.ofInt 6 = nI 6 from by decide]; exact nI_add i 6) (by decide) rfl dL_law_1923 ?_
      refine m_goto 23 dL_law_1926 (by decide) ?_
      refine m_lv (lvL G b (i + 6)) [1, 2, 3, 4, 0] rfl ?_
      exact ih (i + 6) c2 s2 σ2 h6 (by omega) hσ2 (by omega) (by omega)
