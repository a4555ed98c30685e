abbrev xT9 : String := "a way fails"
abbrev xT4 : String := "a patched way fails"
abbrev xT7 : String := "a topped way fails"
abbrev xT11 : String := "no such shelf"
abbrev xT12 : String := "no row, or no such place"
theorem m_retX {l : Launch} {G : owG} {cc : ByteArray} {nL : Nat} {own : String} {rt : Option FieldType} {R : Room} {Ex : State → Prop} {pc : Nat} {lv : List (Nat × Value)} {st : List Value} {σ : owSt} {cells slots mc ms : Nat} {Q : Option Value → owSt → Prop} {QX : String → owSt → Prop} (kk : Wm l G cc nL own rt R Ex (QfM G Q mc ms) pc lv st σ cells slots) : Wm l G cc nL own rt R Ex (QfX G Q QX mc ms) pc lv st σ cells slots :=
  fun p_ e_ s_ m_ args below meth c_ H locs ls X => vx_ret (kk p_ e_ s_ m_ args below meth c_ H locs ls X)
theorem wf_X9 : xThr "OwnWays$Way" 28 32 xS := ⟨owTB_of (by decide +kernel) rfl, owTB_of (by decide +kernel) rfl, by decide +kernel, by decide +kernel, by decide +kernel, by decide +kernel, by decide +kernel⟩
theorem k_fail_X9 (l : Launch) (G : owG) (hl_ : l.stackTraces = false) (σ : owSt) (ad : Nat) : CtX l G yX9_fail cX9_fail 1 none 6 1 6 [.ref ad] σ (fun _ _ => False) (fun E_ σ2 => E_ = xS ∧ σ2 = σ) :=
  ctx_of (by decide +kernel) (Nat.le_of_ble_eq_true rfl) (m_throwS (cls := xS) (text := xT9) hl_ wf_X9 (by decide) ⟨Nat.le_of_ble_eq_true rfl, Nat.le_of_ble_eq_true rfl, Nat.le_of_ble_eq_true rfl, Nat.le_of_ble_eq_true rfl⟩ ⟨Nat.le_of_ble_eq_true rfl, Nat.le_of_ble_eq_true rfl⟩ dX9_fail_0 dX9_fail_3 dX9_fail_4 dX9_fail_6 dX9_fail_9 ⟨rfl, rfl⟩)
theorem wf_X4 : xThr "OwnWays$Patched" 33 37 xA := ⟨owTB_of (by decide +kernel) rfl, owTB_of (by decide +kernel) rfl, by decide +kernel, by decide +kernel, by decide +kernel, by decide +kernel, by decide +kernel⟩
theorem k_fail_X4 (l : Launch) (G : owG) (hl_ : l.stackTraces = false) (σ : owSt) (ad : Nat) : CtX l G yX4_fail cX4_fail 1 none 6 1 6 [.ref ad] σ (fun _ _ => False) (fun E_ σ2 => E_ = xA ∧ σ2 = σ) :=
  ctx_of (by decide +kernel) (Nat.le_of_ble_eq_true rfl) (m_throwS (cls := xA) (text := xT4) hl_ wf_X4 (by decide) ⟨Nat.le_of_ble_eq_true rfl, Nat.le_of_ble_eq_true rfl, Nat.le_of_ble_eq_true rfl, Nat.le_of_ble_eq_true rfl⟩ ⟨Nat.le_of_ble_eq_true rfl, Nat.le_of_ble_eq_true rfl⟩ dX4_fail_0 dX4_fail_3 dX4_fail_4 dX4_fail_6 dX4_fail_9 ⟨rfl, rfl⟩)
theorem wf_X7 : xThr "OwnWays$Topped" 17 21 xU := ⟨owTB_of (by decide +kernel) rfl, owTB_of (by decide +kernel) rfl, by decide +kernel, by decide +kernel, by decide +kernel, by decide +kernel, by decide +kernel⟩
theorem k_fail_X7 (l : Launch) (G : owG) (hl_ : l.stackTraces = false) (σ : owSt) (ad : Nat) : CtX l G yX7_fail cX7_fail 1 none 6 1 6 [.ref ad] σ (fun _ _ => False) (fun E_ σ2 => E_ = xU ∧ σ2 = σ) :=
  ctx_of (by decide +kernel) (Nat.le_of_ble_eq_true rfl) (m_throwS (cls := xU) (text := xT7) hl_ wf_X7 (by decide) ⟨Nat.le_of_ble_eq_true rfl, Nat.le_of_ble_eq_true rfl, Nat.le_of_ble_eq_true rfl, Nat.le_of_ble_eq_true rfl⟩ ⟨Nat.le_of_ble_eq_true rfl, Nat.le_of_ble_eq_true rfl⟩ dX7_fail_0 dX7_fail_3 dX7_fail_4 dX7_fail_6 dX7_fail_9 ⟨rfl, rfl⟩)
theorem cu_X11_352_0 : cuOk RX11 352 RX9 yX9_fail yX9_fail cX9_fail 1 none 0 := ⟨⟨owTB_of (by decide +kernel) rfl, owTB_of (by decide +kernel) rfl, owTB_of (by decide +kernel) rfl, owTB_of (by decide +kernel) rfl, owTB_of (by decide +kernel) rfl, owTB_of (by decide +kernel) rfl, owTB_of (by decide +kernel) rfl⟩, ⟨cX9_fail, 1, none, owTB_of (by decide +kernel) rfl⟩, by decide +kernel⟩
theorem cu_X11_352_1 : cuOk RX11 352 RX8 yX9_fail yX9_fail cX9_fail 1 none 0 := ⟨⟨owTB_of (by decide +kernel) rfl, owTB_of (by decide +kernel) rfl, owTB_of (by decide +kernel) rfl, owTB_of (by decide +kernel) rfl, owTB_of (by decide +kernel) rfl, owTB_of (by decide +kernel) rfl, owTB_of (by decide +kernel) rfl⟩, ⟨cX9_fail, 1, none, owTB_of (by decide +kernel) rfl⟩, by decide +kernel⟩
theorem cu_X11_352_2 : cuOk RX11 352 RX2 yX9_fail yX9_fail cX9_fail 1 none 0 := ⟨⟨owTB_of (by decide +kernel) rfl, owTB_of (by decide +kernel) rfl, owTB_of (by decide +kernel) rfl, owTB_of (by decide +kernel) rfl, owTB_of (by decide +kernel) rfl, owTB_of (by decide +kernel) rfl, owTB_of (by decide +kernel) rfl⟩, ⟨cX9_fail, 1, none, owTB_of (by decide +kernel) rfl⟩, by decide +kernel⟩
theorem cu_X11_352_3 : cuOk RX11 352 RX1 yX9_fail yX9_fail cX9_fail 1 none 0 := ⟨⟨owTB_of (by decide +kernel) rfl, owTB_of (by decide +kernel) rfl, owTB_of (by decide +kernel) rfl, owTB_of (by decide +kernel) rfl, owTB_of (by decide +kernel) rfl, owTB_of (by decide +kernel) rfl, owTB_of (by decide +kernel) rfl⟩, ⟨cX9_fail, 1, none, owTB_of (by decide +kernel) rfl⟩, by decide +kernel⟩
theorem cu_X11_352_4 : cuOk RX11 352 RX0 yX9_fail yX9_fail cX9_fail 1 none 0 := ⟨⟨owTB_of (by decide +kernel) rfl, owTB_of (by decide +kernel) rfl, owTB_of (by decide +kernel) rfl, owTB_of (by decide +kernel) rfl, owTB_of (by decide +kernel) rfl, owTB_of (by decide +kernel) rfl, owTB_of (by decide +kernel) rfl⟩, ⟨cX9_fail, 1, none, owTB_of (by decide +kernel) rfl⟩, by decide +kernel⟩
theorem cu_X11_352_5 : cuOk RX11 352 RX10 yX9_fail yX9_fail cX9_fail 1 none 0 := ⟨⟨owTB_of (by decide +kernel) rfl, owTB_of (by decide +kernel) rfl, owTB_of (by decide +kernel) rfl, owTB_of (by decide +kernel) rfl, owTB_of (by decide +kernel) rfl, owTB_of (by decide +kernel) rfl, owTB_of (by decide +kernel) rfl⟩, ⟨cX9_fail, 1, none, owTB_of (by decide +kernel) rfl⟩, by decide +kernel⟩
theorem cu_X11_352_6 : cuOk RX11 352 RX4 yX9_fail yX4_fail cX4_fail 1 none 0 := ⟨⟨owTB_of (by decide +kernel) rfl, owTB_of (by decide +kernel) rfl, owTB_of (by decide +kernel) rfl, owTB_of (by decide +kernel) rfl, owTB_of (by decide +kernel) rfl, owTB_of (by decide +kernel) rfl, owTB_of (by decide +kernel) rfl⟩, ⟨cX9_fail, 1, none, owTB_of (by decide +kernel) rfl⟩, by decide +kernel⟩
theorem cu_X11_352_7 : cuOk RX11 352 RX7 yX9_fail yX7_fail cX7_fail 1 none 0 := ⟨⟨owTB_of (by decide +kernel) rfl, owTB_of (by decide +kernel) rfl, owTB_of (by decide +kernel) rfl, owTB_of (by decide +kernel) rfl, owTB_of (by decide +kernel) rfl, owTB_of (by decide +kernel) rfl, owTB_of (by decide +kernel) rfl⟩, ⟨cX9_fail, 1, none, owTB_of (by decide +kernel) rfl⟩, by decide +kernel⟩
def failE (kd_ : Nat) : String := if kd_ = 6 then xA else if kd_ = 7 then xU else xS
theorem m_fail {l : Launch} {G : owG} {cc : ByteArray} {nL : Nat} {rt : Option FieldType} {R : Room} {Ex : State → Prop} {Qf : List Frame → Array Value → State → State → Prop} {pc : Nat} {lv : List (Nat × Value)} {rest : List Value} {cells slots : Nat} {A S Z B T V : owF} {J : Nat → Nat → Int64} {Y : Nat → Nat → Nat → Option Nat} {P : Nat → Option owW} {ad kd_ : Nat} {wn wf ww : Int32} (hl_ : l.stackTraces = false) (hEx : ∀ s_, Ex s_ → XOk G s_) (hkd : kd_ < 8) (ha_ : P ad = some (kd_, wn, wf, ww)) (hR : 7 ≤ R.frames ∧ 260 ≤ R.locals) (hW : (rest.map fun v_ => v_.category).sum ≤ 8) (hf : cells + 1 ≤ R.cells ∧ slots + 6 ≤ R.slots) (hd_ : decode cc pc = .ok (.invokevirtual 352, 3)) (kx : Wt l G cc nL RX11 rt R Ex Qf pc lv rest (A, S, Z, B, T, V, J, Y, P) (cells + 1) (slots + 6) (failE kd_)) : Wm l G cc nL RX11 rt R Ex Qf pc lv (.ref ad :: rest) (A, S, Z, B, T, V, J, Y, P) cells slots := by
  match kd_, hkd with
  | 0, _ => exact m_callUX hEx cu_X11_352_0 [] rest (k_fail_X9 l G hl_ _ ad) ha_ rfl rfl rfl ⟨by omega, by show 8 + (1 + 11) + 40 * 6 ≤ _; omega⟩ hW hf hd_ (fun E_ σ2 hq => by obtain ⟨rfl, rfl⟩ := hq; exact kx) (fun _ _ hq => hq.elim)
  | 1, _ => exact m_callUX hEx cu_X11_352_1 [] rest (k_fail_X9 l G hl_ _ ad) ha_ rfl rfl rfl ⟨by omega, by show 8 + (1 + 11) + 40 * 6 ≤ _; omega⟩ hW hf hd_ (fun E_ σ2 hq => by obtain ⟨rfl, rfl⟩ := hq; exact kx) (fun _ _ hq => hq.elim)
  | 2, _ => exact m_callUX hEx cu_X11_352_2 [] rest (k_fail_X9 l G hl_ _ ad) ha_ rfl rfl rfl ⟨by omega, by show 8 + (1 + 11) + 40 * 6 ≤ _; omega⟩ hW hf hd_ (fun E_ σ2 hq => by obtain ⟨rfl, rfl⟩ := hq; exact kx) (fun _ _ hq => hq.elim)
  | 3, _ => exact m_callUX hEx cu_X11_352_3 [] rest (k_fail_X9 l G hl_ _ ad) ha_ rfl rfl rfl ⟨by omega, by show 8 + (1 + 11) + 40 * 6 ≤ _; omega⟩ hW hf hd_ (fun E_ σ2 hq => by obtain ⟨rfl, rfl⟩ := hq; exact kx) (fun _ _ hq => hq.elim)
  | 4, _ => exact m_callUX hEx cu_X11_352_4 [] rest (k_fail_X9 l G hl_ _ ad) ha_ rfl rfl rfl ⟨by omega, by show 8 + (1 + 11) + 40 * 6 ≤ _; omega⟩ hW hf hd_ (fun E_ σ2 hq => by obtain ⟨rfl, rfl⟩ := hq; exact kx) (fun _ _ hq => hq.elim)
  | 5, _ => exact m_callUX hEx cu_X11_352_5 [] rest (k_fail_X9 l G hl_ _ ad) ha_ rfl rfl rfl ⟨by omega, by show 8 + (1 + 11) + 40 * 6 ≤ _; omega⟩ hW hf hd_ (fun E_ σ2 hq => by obtain ⟨rfl, rfl⟩ := hq; exact kx) (fun _ _ hq => hq.elim)
  | 6, _ => exact m_callUX hEx cu_X11_352_6 [] rest (k_fail_X4 l G hl_ _ ad) ha_ rfl rfl rfl ⟨by omega, by show 8 + (1 + 11) + 40 * 6 ≤ _; omega⟩ hW hf hd_ (fun E_ σ2 hq => by obtain ⟨rfl, rfl⟩ := hq; exact kx) (fun _ _ hq => hq.elim)
  | 7, _ => exact m_callUX hEx cu_X11_352_7 [] rest (k_fail_X7 l G hl_ _ ad) ha_ rfl rfl rfl ⟨by omega, by show 8 + (1 + 11) + 40 * 6 ≤ _; omega⟩ hW hf hd_ (fun E_ σ2 hq => by obtain ⟨rfl, rfl⟩ := hq; exact kx) (fun _ _ hq => hq.elim)
def caughtI (kd_ n_ fg_ : Nat) : Int32 := if kd_ = 6 then nI (100 + n_) else if kd_ = 7 then nI (200 + costW kd_ fg_) else nI n_
theorem wl_355 : Cond.classLink "OwnWays" 355 xU ∈ owTB := owTB_of (by decide +kernel) rfl
theorem wl_282 : Cond.classLink "OwnWays" 282 xA ∈ owTB := owTB_of (by decide +kernel) rfl
theorem wl_289 : Cond.classLink "OwnWays" 289 xS ∈ owTB := owTB_of (by decide +kernel) rfl
set_option maxRecDepth 100000 in
set_option maxHeartbeats 4000000 in
theorem k_caught (l : Launch) (G : owG) {A S Z B T V : owF} {J : Nat → Nat → Int64} {Y : Nat → Nat → Nat → Option Nat} {P : Nat → Option owW} (hl_ : l.stackTraces = false) (ad kd_ n_ fg_ : Nat) (hkd : kd_ < 8) (hfg : fg_ ≤ 9) (hn : n_ < 10) (ww : Int32) (ha_ : P ad = some (kd_, nI n_, nI fg_, ww)) : CtW l G yX11_caughtFrom cX11_caughtFrom 2 ((some .int)) [(0, 4, 7, 355), (0, 4, 17, 282), (0, 4, 26, 289)] 7 1 6 [.ref ad] (A, S, Z, B, T, V, J, Y, P) (qI (fun r_ σ => r_ = caughtI kd_ n_ fg_ ∧ σ = (A, S, Z, B, T, V, J, Y, P))) := by
  refine ctw_of (by decide +kernel) (Nat.le_of_ble_eq_true rfl) ?_
  show Wm l G cX11_caughtFrom 2 RX11 ((some .int)) (rmk 7 1 6) (ExX G (tableOf [(0, 4, 7, 355), (0, 4, 17, 282), (0, 4, 26, 289)])) (QfM G (qI (fun r_ σ => r_ = caughtI kd_ n_ fg_ ∧ σ = (A, S, Z, B, T, V, J, Y, P))) 1 6) 0 [(0, .ref ad)] [] (A, S, Z, B, T, V, J, Y, P) 0 0
  refine m_aload_n 0 rfl rfl dX11_caughtFrom_0 ?_
  refine m_fail hl_ (fun _ h_ => h_.1) hkd ha_ ⟨Nat.le_of_ble_eq_true rfl, Nat.le_of_ble_eq_true rfl⟩ (Nat.le_of_ble_eq_true rfl) ⟨Nat.le_of_ble_eq_true rfl, Nat.le_of_ble_eq_true rfl⟩ dX11_caughtFrom_1 ?_
  rcases (show kd_ < 6 ∨ kd_ = 6 ∨ kd_ = 7 by omega) with h6_ | h6_ | h6_
  ·
    rw [show failE kd_ = xS from by unfold failE; rw [if_neg (by omega), if_neg (by omega)]]
    refine m_catch (tl := tableOf [(0, 4, 7, 355), (0, 4, 17, 282), (0, 4, 26, 289)]) (name := xS) [⟨0, 4, 7, 355⟩, ⟨0, 4, 17, 282⟩] ⟨0, 4, 26, 289⟩ [] (fun _ h_ => h_) rfl (fun z_ h_ => (List.mem_cons.mp h_).elim (fun e_ => by rw [e_]; exact Or.inr ⟨by decide, xU, wl_355, by decide⟩) (fun h_ => by rw [List.mem_singleton.mp h_]; exact Or.inr ⟨by decide, xA, wl_282, by decide⟩)) rfl (by decide) wl_289 (by decide) (fun qx => ?_)
    show Wm l G cX11_caughtFrom 2 RX11 ((some .int)) (rmk 7 1 6) (ExX G (tableOf [(0, 4, 7, 355), (0, 4, 17, 282), (0, 4, 26, 289)])) (QfM G (qI (fun r_ σ => r_ = caughtI kd_ n_ fg_ ∧ σ = (A, S, Z, B, T, V, J, Y, P))) 1 6) 26 [(0, .ref ad)] [.ref qx] (A, S, Z, B, T, V, J, Y, P) (0 + 1) (0 + 6)
    refine m_astore_n [(1, .ref qx), (0, .ref ad)] rfl (by decide) rfl dX11_caughtFrom_26 ?_
    refine m_aload_n 1 rfl rfl dX11_caughtFrom_27 ?_
    refine gwa_X11_357 hkd ha_ dX11_caughtFrom_28 ?_
    exact m_iret dX11_caughtFrom_31 (by omega) (by omega) (⟨by unfold caughtI; rw [if_neg (by omega), if_neg (by omega)], rfl⟩)
  ·
    rw [show failE kd_ = xA from by unfold failE; rw [if_pos h6_]]
    refine m_catch (tl := tableOf [(0, 4, 7, 355), (0, 4, 17, 282), (0, 4, 26, 289)]) (name := xA) [⟨0, 4, 7, 355⟩] ⟨0, 4, 17, 282⟩ [⟨0, 4, 26, 289⟩] (fun _ h_ => h_) rfl (fun z_ h_ => by obtain rfl := List.mem_singleton.mp h_; exact Or.inr ⟨by decide, xU, wl_355, by decide⟩) rfl (by decide) wl_282 (by decide) (fun qx => ?_)
    show Wm l G cX11_caughtFrom 2 RX11 ((some .int)) (rmk 7 1 6) (ExX G (tableOf [(0, 4, 7, 355), (0, 4, 17, 282), (0, 4, 26, 289)])) (QfM G (qI (fun r_ σ => r_ = caughtI kd_ n_ fg_ ∧ σ = (A, S, Z, B, T, V, J, Y, P))) 1 6) 17 [(0, .ref ad)] [.ref qx] (A, S, Z, B, T, V, J, Y, P) (0 + 1) (0 + 6)
    refine m_astore_n [(1, .ref qx), (0, .ref ad)] rfl (by decide) rfl dX11_caughtFrom_17 ?_
    refine m_bipush (100) dX11_caughtFrom_18 rfl ?_
    refine m_aload_n 1 rfl rfl dX11_caughtFrom_20 ?_
    refine gwa_X11_357 hkd ha_ dX11_caughtFrom_21 ?_
    refine m_iadd dX11_caughtFrom_24 ?_
    refine m_topi (show 100 + (nI (n_)) = nI (100 + n_) from nI_add _ _) ?_
    exact m_iret dX11_caughtFrom_25 (by omega) (by omega) (⟨by unfold caughtI; rw [if_pos h6_], rfl⟩)
  ·
    rw [show failE kd_ = xU from by unfold failE; rw [if_neg (by omega), if_pos h6_]]
    refine m_catch (tl := tableOf [(0, 4, 7, 355), (0, 4, 17, 282), (0, 4, 26, 289)]) (name := xU) [] ⟨0, 4, 7, 355⟩ [⟨0, 4, 17, 282⟩, ⟨0, 4, 26, 289⟩] (fun _ h_ => h_) rfl (fun _ h_ => nomatch h_) rfl (by decide) wl_355 (by decide) (fun qx => ?_)
    show Wm l G cX11_caughtFrom 2 RX11 ((some .int)) (rmk 7 1 6) (ExX G (tableOf [(0, 4, 7, 355), (0, 4, 17, 282), (0, 4, 26, 289)])) (QfM G (qI (fun r_ σ => r_ = caughtI kd_ n_ fg_ ∧ σ = (A, S, Z, B, T, V, J, Y, P))) 1 6) 7 [(0, .ref ad)] [.ref qx] (A, S, Z, B, T, V, J, Y, P) (0 + 1) (0 + 6)
    refine m_astore_n [(1, .ref qx), (0, .ref ad)] rfl (by decide) rfl dX11_caughtFrom_7 ?_
    refine m_sipush (200) dX11_caughtFrom_8 rfl ?_
    refine m_aload_n 1 rfl rfl dX11_caughtFrom_11 ?_
    refine m_cost hkd hfg ha_ ⟨Nat.le_of_ble_eq_true rfl, Nat.le_of_ble_eq_true rfl⟩ (Nat.le_of_ble_eq_true rfl) ⟨by show 0 + 1 ≤ 1; omega, by show 0 + 6 ≤ 6; omega⟩ dX11_caughtFrom_12 ?_
    have hcw : costW kd_ fg_ ≤ 30 := by rw [h6_]; unfold costW; simp; omega
    refine m_iadd dX11_caughtFrom_15 ?_
    refine m_topi (show 200 + (nI (costW kd_ fg_)) = nI (200 + (costW kd_ fg_)) from nI_add _ _) ?_
    exact m_iret dX11_caughtFrom_16 (by omega) (by omega) (⟨by unfold caughtI; rw [if_neg (by omega), if_pos h6_], rfl⟩)
