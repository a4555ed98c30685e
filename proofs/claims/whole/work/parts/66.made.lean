theorem tz_83 : (Jvm.Cond.initialized "OwnWays$Nought") ∈ owTB := owTB_of (List.mem_of_getElem? (i := 83) (by decide +kernel)) rfl
theorem tz_86 : (Jvm.Cond.initialized "OwnWays$Zero") ∈ owTB := owTB_of (List.mem_of_getElem? (i := 86) (by decide +kernel)) rfl
theorem tz_87 : (Jvm.Cond.initialized "OwnWays$Patched") ∈ owTB := owTB_of (List.mem_of_getElem? (i := 87) (by decide +kernel)) rfl
theorem tz_88 : (Jvm.Cond.initialized "OwnWays$Topped") ∈ owTB := owTB_of (List.mem_of_getElem? (i := 88) (by decide +kernel)) rfl
theorem tz_112 : (Jvm.Cond.classLink "OwnWays$SchoolClass" (9 : Nat) "OwnWays$Way") ∈ owTB := owTB_of (List.mem_of_getElem? (i := 112) (by decide +kernel)) rfl
theorem tz_315 : (Jvm.Cond.instantiable "OwnWays$Way" (4 : Nat)) ∈ owTB := owTB_of (List.mem_of_getElem? (i := 315) (by decide +kernel)) rfl
theorem tz_316 : (Jvm.Cond.methodLink "OwnWays$SchoolClass" (118 : Nat) ({ cls := "OwnWays$Way", name := "<init>", desc := "(IIII)V" } : Jvm.MethodName)) ∈ owTB := owTB_of (List.mem_of_getElem? (i := 316) (by decide +kernel)) rfl
theorem tz_343 : (Jvm.Cond.classLink "OwnWays$SchoolClass" (121 : Nat) "OwnWays$Turned") ∈ owTB := owTB_of (List.mem_of_getElem? (i := 343) (by decide +kernel)) rfl
theorem tz_344 : (Jvm.Cond.instantiable "OwnWays$Turned" (4 : Nat)) ∈ owTB := owTB_of (List.mem_of_getElem? (i := 344) (by decide +kernel)) rfl
theorem tz_345 : (Jvm.Cond.methodLink "OwnWays$SchoolClass" (123 : Nat) ({ cls := "OwnWays$Turned", name := "<init>", desc := "(IIII)V" } : Jvm.MethodName)) ∈ owTB := owTB_of (List.mem_of_getElem? (i := 345) (by decide +kernel)) rfl
theorem tz_354 : (Jvm.Cond.classLink "OwnWays$SchoolClass" (124 : Nat) "OwnWays$Nought") ∈ owTB := owTB_of (List.mem_of_getElem? (i := 354) (by decide +kernel)) rfl
theorem tz_355 : (Jvm.Cond.instantiable "OwnWays$Nought" (4 : Nat)) ∈ owTB := owTB_of (List.mem_of_getElem? (i := 355) (by decide +kernel)) rfl
theorem tz_356 : (Jvm.Cond.methodLink "OwnWays$SchoolClass" (126 : Nat) ({ cls := "OwnWays$Nought", name := "<init>", desc := "(IIII)V" } : Jvm.MethodName)) ∈ owTB := owTB_of (List.mem_of_getElem? (i := 356) (by decide +kernel)) rfl
theorem tz_357 : (Jvm.Cond.instanceMethod ({ cls := "OwnWays$Nought", name := "<init>", desc := "(IIII)V" } : Jvm.MethodName)) ∈ owTB := owTB_of (List.mem_of_getElem? (i := 357) (by decide +kernel)) rfl
theorem tz_358 : (Jvm.Cond.code ({ cls := "OwnWays$Nought", name := "<init>", desc := "(IIII)V" } : Jvm.MethodName) prog_4_method_1_code (5 : Nat) (Option.none : Option Jvm.ClassFile.FieldType)) ∈ owTB := owTB_of (List.mem_of_getElem? (i := 358) (by decide +kernel)) rfl
theorem tz_365 : (Jvm.Cond.classLink "OwnWays$SchoolClass" (127 : Nat) "OwnWays$Given") ∈ owTB := owTB_of (List.mem_of_getElem? (i := 365) (by decide +kernel)) rfl
theorem tz_366 : (Jvm.Cond.instantiable "OwnWays$Given" (4 : Nat)) ∈ owTB := owTB_of (List.mem_of_getElem? (i := 366) (by decide +kernel)) rfl
theorem tz_367 : (Jvm.Cond.methodLink "OwnWays$SchoolClass" (129 : Nat) ({ cls := "OwnWays$Given", name := "<init>", desc := "(IIII)V" } : Jvm.MethodName)) ∈ owTB := owTB_of (List.mem_of_getElem? (i := 367) (by decide +kernel)) rfl
theorem tz_376 : (Jvm.Cond.classLink "OwnWays$SchoolClass" (130 : Nat) "OwnWays$Across") ∈ owTB := owTB_of (List.mem_of_getElem? (i := 376) (by decide +kernel)) rfl
theorem tz_377 : (Jvm.Cond.instantiable "OwnWays$Across" (4 : Nat)) ∈ owTB := owTB_of (List.mem_of_getElem? (i := 377) (by decide +kernel)) rfl
theorem tz_378 : (Jvm.Cond.methodLink "OwnWays$SchoolClass" (132 : Nat) ({ cls := "OwnWays$Across", name := "<init>", desc := "(IIII)V" } : Jvm.MethodName)) ∈ owTB := owTB_of (List.mem_of_getElem? (i := 378) (by decide +kernel)) rfl
theorem tz_387 : (Jvm.Cond.classLink "OwnWays$SchoolClass" (133 : Nat) "OwnWays$Zero") ∈ owTB := owTB_of (List.mem_of_getElem? (i := 387) (by decide +kernel)) rfl
theorem tz_388 : (Jvm.Cond.instantiable "OwnWays$Zero" (4 : Nat)) ∈ owTB := owTB_of (List.mem_of_getElem? (i := 388) (by decide +kernel)) rfl
theorem tz_389 : (Jvm.Cond.methodLink "OwnWays$SchoolClass" (135 : Nat) ({ cls := "OwnWays$Zero", name := "<init>", desc := "(IIII)V" } : Jvm.MethodName)) ∈ owTB := owTB_of (List.mem_of_getElem? (i := 389) (by decide +kernel)) rfl
theorem tz_390 : (Jvm.Cond.instanceMethod ({ cls := "OwnWays$Zero", name := "<init>", desc := "(IIII)V" } : Jvm.MethodName)) ∈ owTB := owTB_of (List.mem_of_getElem? (i := 390) (by decide +kernel)) rfl
theorem tz_391 : (Jvm.Cond.code ({ cls := "OwnWays$Zero", name := "<init>", desc := "(IIII)V" } : Jvm.MethodName) prog_12_method_1_code (5 : Nat) (Option.none : Option Jvm.ClassFile.FieldType)) ∈ owTB := owTB_of (List.mem_of_getElem? (i := 391) (by decide +kernel)) rfl
theorem tz_398 : (Jvm.Cond.classLink "OwnWays$SchoolClass" (136 : Nat) "OwnWays$Patched") ∈ owTB := owTB_of (List.mem_of_getElem? (i := 398) (by decide +kernel)) rfl
theorem tz_399 : (Jvm.Cond.instantiable "OwnWays$Patched" (4 : Nat)) ∈ owTB := owTB_of (List.mem_of_getElem? (i := 399) (by decide +kernel)) rfl
theorem tz_400 : (Jvm.Cond.methodLink "OwnWays$SchoolClass" (138 : Nat) ({ cls := "OwnWays$Patched", name := "<init>", desc := "(IIII)V" } : Jvm.MethodName)) ∈ owTB := owTB_of (List.mem_of_getElem? (i := 400) (by decide +kernel)) rfl
theorem tz_401 : (Jvm.Cond.instanceMethod ({ cls := "OwnWays$Patched", name := "<init>", desc := "(IIII)V" } : Jvm.MethodName)) ∈ owTB := owTB_of (List.mem_of_getElem? (i := 401) (by decide +kernel)) rfl
theorem tz_402 : (Jvm.Cond.code ({ cls := "OwnWays$Patched", name := "<init>", desc := "(IIII)V" } : Jvm.MethodName) prog_6_method_1_code (5 : Nat) (Option.none : Option Jvm.ClassFile.FieldType)) ∈ owTB := owTB_of (List.mem_of_getElem? (i := 402) (by decide +kernel)) rfl
theorem tz_409 : (Jvm.Cond.classLink "OwnWays$SchoolClass" (139 : Nat) "OwnWays$Topped") ∈ owTB := owTB_of (List.mem_of_getElem? (i := 409) (by decide +kernel)) rfl
theorem tz_410 : (Jvm.Cond.instantiable "OwnWays$Topped" (4 : Nat)) ∈ owTB := owTB_of (List.mem_of_getElem? (i := 410) (by decide +kernel)) rfl
theorem tz_411 : (Jvm.Cond.methodLink "OwnWays$SchoolClass" (141 : Nat) ({ cls := "OwnWays$Topped", name := "<init>", desc := "(IIII)V" } : Jvm.MethodName)) ∈ owTB := owTB_of (List.mem_of_getElem? (i := 411) (by decide +kernel)) rfl
theorem tz_412 : (Jvm.Cond.instanceMethod ({ cls := "OwnWays$Topped", name := "<init>", desc := "(IIII)V" } : Jvm.MethodName)) ∈ owTB := owTB_of (List.mem_of_getElem? (i := 412) (by decide +kernel)) rfl
theorem tz_413 : (Jvm.Cond.code ({ cls := "OwnWays$Topped", name := "<init>", desc := "(IIII)V" } : Jvm.MethodName) prog_9_method_1_code (5 : Nat) (Option.none : Option Jvm.ClassFile.FieldType)) ∈ owTB := owTB_of (List.mem_of_getElem? (i := 413) (by decide +kernel)) rfl
theorem Holds.grow {G : owG} {σ : owSt} {H H2 : Heap} (h_ : Holds G σ H) (ho_ : ∀ q_ : Nat, q_ < H.size → H2[q_]? = H[q_]?) : Holds G σ H2 :=
  ⟨fun t_ i_ hi_ => (h_.1 t_ i_ hi_).kept (ho_ _ (h_.1 t_ i_ hi_).lt), fun a_ w_ hw_ => ⟨(h_.2.1 a_ w_ hw_).1.kept (ho_ _ (h_.2.1 a_ w_ hw_).1.lt), (h_.2.1 a_ w_ hw_).2⟩, h_.2.2.1, h_.2.2.2⟩
theorem Holds.newW {G : owG} {A S Z B T V : owF} {J : Nat → Nat → Int64} {Y : Nat → Nat → Nat → Option Nat} {P : Nat → Option owW} {H H2 : Heap} {q_ : Nat} {w_ : owW} (h_ : Holds G (A, S, Z, B, T, V, J, Y, P) H) (hq_ : H.size ≤ q_) (hb_ : gB G ≤ q_) (ha_ : va_at (gD G) vwCl (q_, owE w_) H2) (ho_ : ∀ x_ : Nat, x_ < H.size → H2[x_]? = H[x_]?) : Holds G (A, S, Z, B, T, V, J, Y, upP P q_ w_) H2 := by
  refine ⟨fun t_ i_ hi_ => ?_, fun a_ w2 hw_ => ?_, h_.2.2.1, h_.2.2.2⟩
  · rw [fr_P A S Z B T V J Y P (upP P q_ w_)]
    exact (h_.1 t_ i_ hi_).kept (ho_ _ (h_.1 t_ i_ hi_).lt)
  · change (if a_ = q_ then some w_ else P a_) = some w2 at hw_
    by_cases c_ : a_ = q_
    · rw [if_pos c_] at hw_
      obtain rfl := Option.some.inj hw_
      subst c_
      exact ⟨ha_, hb_, fun t_ i_ hi_ z_ => by have := (h_.1 t_ i_ hi_).lt; simp only at this; omega⟩
    · rw [if_neg c_] at hw_
      have z_ := h_.2.1 a_ w2 hw_
      exact ⟨z_.1.kept (ho_ _ z_.1.lt), z_.2⟩
set_option maxRecDepth 100000 in
set_option maxHeartbeats 4000000 in
theorem m_mk_0 {l : Launch} {G : owG} {rt : Option FieldType} {R : Room} {Ex : State → Prop} {Qf : List Frame → Array Value → State → State → Prop} {cells slots : Nat} {A S Z B T V : owF} {J : Nat → Nat → Int64} {Y : Nat → Nat → Nat → Option Nat} {P : Nat → Option owW} {v2 v3 v4 : Int32} (hR1 : 4 ≤ R.frames ∧ 200 ≤ R.locals) (hR2 : cells + 1 ≤ R.cells ∧ slots + 4 ≤ R.slots) (kk_ : ∀ q_ : Nat, P q_ = none → gB G ≤ q_ → Wm l G cX5_madeWay 4 RX5 rt R Ex Qf 59 [(0, .int (nI 0)), (1, .int v2), (2, .int v3), (3, .int v4)] [.ref q_] (A, S, Z, B, T, V, J, Y, upP P q_ (0, v2, v3, v4)) (cells + 1) (slots + 4)) : Wm l G cX5_madeWay 4 RX5 rt R Ex Qf 48 [(0, .int (nI 0)), (1, .int v2), (2, .int v3), (3, .int v4)] [] (A, S, Z, B, T, V, J, Y, P) cells slots := by
  intro p e s m args below meth c H locs ls X
  obtain ⟨hx, hb, hml, ho, hts, hr, hlk, hE, hK, hH, hS, hB, hl⟩ := id X
  have hKn := hK.1 9 _ rfl
  refine W.newcK hx hb ho (hts (.classLink RX5 9 RX9) tz_112) (hts (.instantiable RX9 4) tz_315) (hts (.initialized RX9) tw_81) rfl dX5_madeWay_48 hR2.1 hR2.2 hKn.2.1 rfl fun H1 kC hkC e1 z1 o1 => ?_
  have hat : va_at (gD G) vwCl (H.size, .inr (9, [.int 0, .int 0, .int 0, .int 0])) H1 := ⟨_, rfl, (u_born tyX9 hts inTX9 hKn hkC e1 tyX9_ok).to (fun j hj => by rcases (show j = 0 ∨ j = 1 ∨ j = 2 ∨ j = 3 by omega) with rfl | rfl | rfl | rfl <;> rfl)⟩
  have hP1 := owP1 hat
  have hgB : gB G ≤ H.size := Nat.le_trans hB.1 hS.1
  have hPn : P H.size = none := by
    cases hz : P H.size with
    | none => rfl
    | some w9 => have z9 := (hH.2.1 _ _ hz).1.lt; simp only at z9; omega
  have hS1 : va_S (gA G) s.heap H1 locs := ⟨Nat.le_trans hS.1 (by omega), fun x h1 h2 => (o1 x (Nat.lt_of_lt_of_le h1 hS.1)).trans (hS.2.1 x h1 h2), hS.2.2⟩
  refine lv_dup hx hb dX5_madeWay_51 rfl ?_
  refine lv_iload_n hx hb dX5_madeWay_52 rfl (lv_at hl 0 rfl) ?_
  refine lv_iload_n hx hb dX5_madeWay_53 rfl (lv_at hl 1 rfl) ?_
  refine lv_iload_n hx hb dX5_madeWay_54 rfl (lv_at hl 2 rfl) ?_
  refine lv_iload_n hx hb dX5_madeWay_55 rfl (lv_at hl 3 rfl) ?_
  refine va_callv (va_runI (As := [.int (nI 0), .int v2, .int v3, .int v4]) (rest := [.ref H.size]) ⟨hx, hb, hml, ho, hts⟩ (c_init_X9_0 l G H.size (nI 0) v2 v3 v4) ⟨⟨rfl, rfl, by show 1 + 1 ≤ R.frames; omega, by show 8 + (5 + 11) + 40 * 1 ≤ R.locals; omega, pay_in hts (owGood tz_318), List.mem_cons_self, hts _ tz_318, hts _ tw_81, ⟨by decide +kernel, by decide +kernel⟩, fun sig h => ?_, hts _ tz_316⟩, rfl, hts _ tz_317⟩ ⟨fun a U g mk q => by obtain ⟨q0, qP, qK⟩ := q; exact ⟨q0, qP, va_K.moved (u := U) (U := U.calling g mk a) (Vm.Alike.refl U.vm) qK⟩, fun U hU hW => ⟨rfl, by rw [hU]; exact hP1, va_K.moved hW.alike hK⟩⟩ rfl rfl hl.1 rfl (lv_room (Nat.le_of_ble_eq_true rfl)) dX5_madeWay_56 hR2) (A0 := gA G) hS1 (fun q_ _ h => by rw [h]; exact hgB) (fun q_ h => by rw [h]; exact hgB) (fun u t H2 locs2 ht hvm h5 hB2 hz1 hk1 hS2 => ?_)
  · have w8 : (parseMethodDescriptor yX9_init.desc).map (fun d => d.parameters.length) = some 4 := by decide +kernel
    rw [h] at w8
    exact (Option.some.inj w8).symm
  have hB2 : va_P (gD G) vwCl [(H.size, .inr (9, [.int (nI 0), .int v2, .int v3, .int v4]))] t.heap := hB2
  rw [ht] at hB2
  have hat2 : va_at (gD G) vwCl (H.size, owE (0, v2, v3, v4)) H2 := hB2 0 _ rfl
  exact kk_ H.size hPn hgB _ _ _ _ _ _ _ _ _ _ _ (X.hp (hH.newW (Nat.le_refl _) hgB hat2 (fun x hx9 => (hk1 x (by omega) (by omega)).trans (o1 x hx9))) hS2)
set_option maxRecDepth 100000 in
set_option maxHeartbeats 4000000 in
theorem m_mk_1 {l : Launch} {G : owG} {rt : Option FieldType} {R : Room} {Ex : State → Prop} {Qf : List Frame → Array Value → State → State → Prop} {cells slots : Nat} {A S Z B T V : owF} {J : Nat → Nat → Int64} {Y : Nat → Nat → Nat → Option Nat} {P : Nat → Option owW} {v2 v3 v4 : Int32} (hR1 : 4 ≤ R.frames ∧ 200 ≤ R.locals) (hR2 : cells + 1 ≤ R.cells ∧ slots + 4 ≤ R.slots) (kk_ : ∀ q_ : Nat, P q_ = none → gB G ≤ q_ → Wm l G cX5_madeWay 4 RX5 rt R Ex Qf 71 [(0, .int (nI 1)), (1, .int v2), (2, .int v3), (3, .int v4)] [.ref q_] (A, S, Z, B, T, V, J, Y, upP P q_ (1, v2, v3, v4)) (cells + 1) (slots + 4)) : Wm l G cX5_madeWay 4 RX5 rt R Ex Qf 60 [(0, .int (nI 1)), (1, .int v2), (2, .int v3), (3, .int v4)] [] (A, S, Z, B, T, V, J, Y, P) cells slots := by
  intro p e s m args below meth c H locs ls X
  obtain ⟨hx, hb, hml, ho, hts, hr, hlk, hE, hK, hH, hS, hB, hl⟩ := id X
  have hKn := hK.1 8 _ rfl
  refine W.newcK hx hb ho (hts (.classLink RX5 121 RX8) tz_343) (hts (.instantiable RX8 4) tz_344) (hts (.initialized RX8) tz_82) rfl dX5_madeWay_60 hR2.1 hR2.2 hKn.2.1 rfl fun H1 kC hkC e1 z1 o1 => ?_
  have hat : va_at (gD G) vwCl (H.size, .inr (8, [.int 0, .int 0, .int 0, .int 0])) H1 := ⟨_, rfl, (u_born tyX8 hts inTX8 hKn hkC e1 tyX8_ok).to (fun j hj => by rcases (show j = 0 ∨ j = 1 ∨ j = 2 ∨ j = 3 by omega) with rfl | rfl | rfl | rfl <;> rfl)⟩
  have hP1 := owP1 hat
  have hgB : gB G ≤ H.size := Nat.le_trans hB.1 hS.1
  have hPn : P H.size = none := by
    cases hz : P H.size with
    | none => rfl
    | some w9 => have z9 := (hH.2.1 _ _ hz).1.lt; simp only at z9; omega
  have hS1 : va_S (gA G) s.heap H1 locs := ⟨Nat.le_trans hS.1 (by omega), fun x h1 h2 => (o1 x (Nat.lt_of_lt_of_le h1 hS.1)).trans (hS.2.1 x h1 h2), hS.2.2⟩
  refine lv_dup hx hb dX5_madeWay_63 rfl ?_
  refine lv_iload_n hx hb dX5_madeWay_64 rfl (lv_at hl 0 rfl) ?_
  refine lv_iload_n hx hb dX5_madeWay_65 rfl (lv_at hl 1 rfl) ?_
  refine lv_iload_n hx hb dX5_madeWay_66 rfl (lv_at hl 2 rfl) ?_
  refine lv_iload_n hx hb dX5_madeWay_67 rfl (lv_at hl 3 rfl) ?_
  refine va_callv (va_runI (As := [.int (nI 1), .int v2, .int v3, .int v4]) (rest := [.ref H.size]) ⟨hx, hb, hml, ho, hts⟩ (c_init_X8_1 l G H.size (nI 1) v2 v3 v4) ⟨⟨rfl, rfl, by show 2 + 1 ≤ R.frames; omega, by show 8 + (5 + 11) + 40 * 2 ≤ R.locals; omega, pay_in hts (owGood tz_347), List.mem_cons_self, hts _ tz_347, hts _ tz_82, ⟨by decide +kernel, by decide +kernel⟩, fun sig h => ?_, hts _ tz_345⟩, rfl, hts _ tz_346⟩ ⟨fun a U g mk q => by obtain ⟨q0, qP, qK⟩ := q; exact ⟨q0, qP, va_K.moved (u := U) (U := U.calling g mk a) (Vm.Alike.refl U.vm) qK⟩, fun U hU hW => ⟨rfl, by rw [hU]; exact hP1, va_K.moved hW.alike hK⟩⟩ rfl rfl hl.1 rfl (lv_room (Nat.le_of_ble_eq_true rfl)) dX5_madeWay_68 hR2) (A0 := gA G) hS1 (fun q_ _ h => by rw [h]; exact hgB) (fun q_ h => by rw [h]; exact hgB) (fun u t H2 locs2 ht hvm h5 hB2 hz1 hk1 hS2 => ?_)
  · have w8 : (parseMethodDescriptor yX8_init.desc).map (fun d => d.parameters.length) = some 4 := by decide +kernel
    rw [h] at w8
    exact (Option.some.inj w8).symm
  have hB2 : va_P (gD G) vwCl [(H.size, .inr (8, [.int (nI 1), .int v2, .int v3, .int v4]))] t.heap := hB2
  rw [ht] at hB2
  have hat2 : va_at (gD G) vwCl (H.size, owE (1, v2, v3, v4)) H2 := hB2 0 _ rfl
  exact kk_ H.size hPn hgB _ _ _ _ _ _ _ _ _ _ _ (X.hp (hH.newW (Nat.le_refl _) hgB hat2 (fun x hx9 => (hk1 x (by omega) (by omega)).trans (o1 x hx9))) hS2)
set_option maxRecDepth 100000 in
set_option maxHeartbeats 4000000 in
theorem m_mk_2 {l : Launch} {G : owG} {rt : Option FieldType} {R : Room} {Ex : State → Prop} {Qf : List Frame → Array Value → State → State → Prop} {cells slots : Nat} {A S Z B T V : owF} {J : Nat → Nat → Int64} {Y : Nat → Nat → Nat → Option Nat} {P : Nat → Option owW} {v2 v3 v4 : Int32} (hR1 : 4 ≤ R.frames ∧ 200 ≤ R.locals) (hR2 : cells + 1 ≤ R.cells ∧ slots + 4 ≤ R.slots) (kk_ : ∀ q_ : Nat, P q_ = none → gB G ≤ q_ → Wm l G cX5_madeWay 4 RX5 rt R Ex Qf 83 [(0, .int (nI 2)), (1, .int v2), (2, .int v3), (3, .int v4)] [.ref q_] (A, S, Z, B, T, V, J, Y, upP P q_ (2, v2, v3, v4)) (cells + 1) (slots + 4)) : Wm l G cX5_madeWay 4 RX5 rt R Ex Qf 72 [(0, .int (nI 2)), (1, .int v2), (2, .int v3), (3, .int v4)] [] (A, S, Z, B, T, V, J, Y, P) cells slots := by
  intro p e s m args below meth c H locs ls X
  obtain ⟨hx, hb, hml, ho, hts, hr, hlk, hE, hK, hH, hS, hB, hl⟩ := id X
  have hKn := hK.1 2 _ rfl
  refine W.newcK hx hb ho (hts (.classLink RX5 124 RX2) tz_354) (hts (.instantiable RX2 4) tz_355) (hts (.initialized RX2) tz_83) rfl dX5_madeWay_72 hR2.1 hR2.2 hKn.2.1 rfl fun H1 kC hkC e1 z1 o1 => ?_
  have hat : va_at (gD G) vwCl (H.size, .inr (2, [.int 0, .int 0, .int 0, .int 0])) H1 := ⟨_, rfl, (u_born tyX2 hts inTX2 hKn hkC e1 tyX2_ok).to (fun j hj => by rcases (show j = 0 ∨ j = 1 ∨ j = 2 ∨ j = 3 by omega) with rfl | rfl | rfl | rfl <;> rfl)⟩
  have hP1 := owP1 hat
  have hgB : gB G ≤ H.size := Nat.le_trans hB.1 hS.1
  have hPn : P H.size = none := by
    cases hz : P H.size with
    | none => rfl
    | some w9 => have z9 := (hH.2.1 _ _ hz).1.lt; simp only at z9; omega
  have hS1 : va_S (gA G) s.heap H1 locs := ⟨Nat.le_trans hS.1 (by omega), fun x h1 h2 => (o1 x (Nat.lt_of_lt_of_le h1 hS.1)).trans (hS.2.1 x h1 h2), hS.2.2⟩
  refine lv_dup hx hb dX5_madeWay_75 rfl ?_
  refine lv_iload_n hx hb dX5_madeWay_76 rfl (lv_at hl 0 rfl) ?_
  refine lv_iload_n hx hb dX5_madeWay_77 rfl (lv_at hl 1 rfl) ?_
  refine lv_iload_n hx hb dX5_madeWay_78 rfl (lv_at hl 2 rfl) ?_
  refine lv_iload_n hx hb dX5_madeWay_79 rfl (lv_at hl 3 rfl) ?_
  refine va_callv (va_runI (As := [.int (nI 2), .int v2, .int v3, .int v4]) (rest := [.ref H.size]) ⟨hx, hb, hml, ho, hts⟩ (c_init_X2_2 l G H.size (nI 2) v2 v3 v4) ⟨⟨rfl, rfl, by show 2 + 1 ≤ R.frames; omega, by show 8 + (5 + 11) + 40 * 2 ≤ R.locals; omega, pay_in hts (owGood tz_358), List.mem_cons_self, hts _ tz_358, hts _ tz_83, ⟨by decide +kernel, by decide +kernel⟩, fun sig h => ?_, hts _ tz_356⟩, rfl, hts _ tz_357⟩ ⟨fun a U g mk q => by obtain ⟨q0, qP, qK⟩ := q; exact ⟨q0, qP, va_K.moved (u := U) (U := U.calling g mk a) (Vm.Alike.refl U.vm) qK⟩, fun U hU hW => ⟨rfl, by rw [hU]; exact hP1, va_K.moved hW.alike hK⟩⟩ rfl rfl hl.1 rfl (lv_room (Nat.le_of_ble_eq_true rfl)) dX5_madeWay_80 hR2) (A0 := gA G) hS1 (fun q_ _ h => by rw [h]; exact hgB) (fun q_ h => by rw [h]; exact hgB) (fun u t H2 locs2 ht hvm h5 hB2 hz1 hk1 hS2 => ?_)
  · have w8 : (parseMethodDescriptor yX2_init.desc).map (fun d => d.parameters.length) = some 4 := by decide +kernel
    rw [h] at w8
    exact (Option.some.inj w8).symm
  have hB2 : va_P (gD G) vwCl [(H.size, .inr (2, [.int (nI 2), .int v2, .int v3, .int v4]))] t.heap := hB2
  rw [ht] at hB2
  have hat2 : va_at (gD G) vwCl (H.size, owE (2, v2, v3, v4)) H2 := hB2 0 _ rfl
  exact kk_ H.size hPn hgB _ _ _ _ _ _ _ _ _ _ _ (X.hp (hH.newW (Nat.le_refl _) hgB hat2 (fun x hx9 => (hk1 x (by omega) (by omega)).trans (o1 x hx9))) hS2)
set_option maxRecDepth 100000 in
set_option maxHeartbeats 4000000 in
theorem m_mk_3 {l : Launch} {G : owG} {rt : Option FieldType} {R : Room} {Ex : State → Prop} {Qf : List Frame → Array Value → State → State → Prop} {cells slots : Nat} {A S Z B T V : owF} {J : Nat → Nat → Int64} {Y : Nat → Nat → Nat → Option Nat} {P : Nat → Option owW} {v2 v3 v4 : Int32} (hR1 : 4 ≤ R.frames ∧ 200 ≤ R.locals) (hR2 : cells + 1 ≤ R.cells ∧ slots + 4 ≤ R.slots) (kk_ : ∀ q_ : Nat, P q_ = none → gB G ≤ q_ → Wm l G cX5_madeWay 4 RX5 rt R Ex Qf 95 [(0, .int (nI 3)), (1, .int v2), (2, .int v3), (3, .int v4)] [.ref q_] (A, S, Z, B, T, V, J, Y, upP P q_ (3, v2, v3, v4)) (cells + 1) (slots + 4)) : Wm l G cX5_madeWay 4 RX5 rt R Ex Qf 84 [(0, .int (nI 3)), (1, .int v2), (2, .int v3), (3, .int v4)] [] (A, S, Z, B, T, V, J, Y, P) cells slots := by
  intro p e s m args below meth c H locs ls X
  obtain ⟨hx, hb, hml, ho, hts, hr, hlk, hE, hK, hH, hS, hB, hl⟩ := id X
  have hKn := hK.1 1 _ rfl
  refine W.newcK hx hb ho (hts (.classLink RX5 127 RX1) tz_365) (hts (.instantiable RX1 4) tz_366) (hts (.initialized RX1) tz_84) rfl dX5_madeWay_84 hR2.1 hR2.2 hKn.2.1 rfl fun H1 kC hkC e1 z1 o1 => ?_
  have hat : va_at (gD G) vwCl (H.size, .inr (1, [.int 0, .int 0, .int 0, .int 0])) H1 := ⟨_, rfl, (u_born tyX1 hts inTX1 hKn hkC e1 tyX1_ok).to (fun j hj => by rcases (show j = 0 ∨ j = 1 ∨ j = 2 ∨ j = 3 by omega) with rfl | rfl | rfl | rfl <;> rfl)⟩
  have hP1 := owP1 hat
  have hgB : gB G ≤ H.size := Nat.le_trans hB.1 hS.1
  have hPn : P H.size = none := by
    cases hz : P H.size with
    | none => rfl
    | some w9 => have z9 := (hH.2.1 _ _ hz).1.lt; simp only at z9; omega
  have hS1 : va_S (gA G) s.heap H1 locs := ⟨Nat.le_trans hS.1 (by omega), fun x h1 h2 => (o1 x (Nat.lt_of_lt_of_le h1 hS.1)).trans (hS.2.1 x h1 h2), hS.2.2⟩
  refine lv_dup hx hb dX5_madeWay_87 rfl ?_
  refine lv_iload_n hx hb dX5_madeWay_88 rfl (lv_at hl 0 rfl) ?_
  refine lv_iload_n hx hb dX5_madeWay_89 rfl (lv_at hl 1 rfl) ?_
  refine lv_iload_n hx hb dX5_madeWay_90 rfl (lv_at hl 2 rfl) ?_
  refine lv_iload_n hx hb dX5_madeWay_91 rfl (lv_at hl 3 rfl) ?_
  refine va_callv (va_runI (As := [.int (nI 3), .int v2, .int v3, .int v4]) (rest := [.ref H.size]) ⟨hx, hb, hml, ho, hts⟩ (c_init_X1_3 l G H.size (nI 3) v2 v3 v4) ⟨⟨rfl, rfl, by show 2 + 1 ≤ R.frames; omega, by show 8 + (5 + 11) + 40 * 2 ≤ R.locals; omega, pay_in hts (owGood tz_369), List.mem_cons_self, hts _ tz_369, hts _ tz_84, ⟨by decide +kernel, by decide +kernel⟩, fun sig h => ?_, hts _ tz_367⟩, rfl, hts _ tz_368⟩ ⟨fun a U g mk q => by obtain ⟨q0, qP, qK⟩ := q; exact ⟨q0, qP, va_K.moved (u := U) (U := U.calling g mk a) (Vm.Alike.refl U.vm) qK⟩, fun U hU hW => ⟨rfl, by rw [hU]; exact hP1, va_K.moved hW.alike hK⟩⟩ rfl rfl hl.1 rfl (lv_room (Nat.le_of_ble_eq_true rfl)) dX5_madeWay_92 hR2) (A0 := gA G) hS1 (fun q_ _ h => by rw [h]; exact hgB) (fun q_ h => by rw [h]; exact hgB) (fun u t H2 locs2 ht hvm h5 hB2 hz1 hk1 hS2 => ?_)
  · have w8 : (parseMethodDescriptor yX1_init.desc).map (fun d => d.parameters.length) = some 4 := by decide +kernel
    rw [h] at w8
    exact (Option.some.inj w8).symm
  have hB2 : va_P (gD G) vwCl [(H.size, .inr (1, [.int (nI 3), .int v2, .int v3, .int v4]))] t.heap := hB2
  rw [ht] at hB2
  have hat2 : va_at (gD G) vwCl (H.size, owE (3, v2, v3, v4)) H2 := hB2 0 _ rfl
  exact kk_ H.size hPn hgB _ _ _ _ _ _ _ _ _ _ _ (X.hp (hH.newW (Nat.le_refl _) hgB hat2 (fun x hx9 => (hk1 x (by omega) (by omega)).trans (o1 x hx9))) hS2)
set_option maxRecDepth 100000 in
set_option maxHeartbeats 4000000 in
theorem m_mk_4 {l : Launch} {G : owG} {rt : Option FieldType} {R : Room} {Ex : State → Prop} {Qf : List Frame → Array Value → State → State → Prop} {cells slots : Nat} {A S Z B T V : owF} {J : Nat → Nat → Int64} {Y : Nat → Nat → Nat → Option Nat} {P : Nat → Option owW} {v2 v3 v4 : Int32} (hR1 : 4 ≤ R.frames ∧ 200 ≤ R.locals) (hR2 : cells + 1 ≤ R.cells ∧ slots + 4 ≤ R.slots) (kk_ : ∀ q_ : Nat, P q_ = none → gB G ≤ q_ → Wm l G cX5_madeWay 4 RX5 rt R Ex Qf 107 [(0, .int (nI 4)), (1, .int v2), (2, .int v3), (3, .int v4)] [.ref q_] (A, S, Z, B, T, V, J, Y, upP P q_ (4, v2, v3, v4)) (cells + 1) (slots + 4)) : Wm l G cX5_madeWay 4 RX5 rt R Ex Qf 96 [(0, .int (nI 4)), (1, .int v2), (2, .int v3), (3, .int v4)] [] (A, S, Z, B, T, V, J, Y, P) cells slots := by
  intro p e s m args below meth c H locs ls X
  obtain ⟨hx, hb, hml, ho, hts, hr, hlk, hE, hK, hH, hS, hB, hl⟩ := id X
  have hKn := hK.1 0 _ rfl
  refine W.newcK hx hb ho (hts (.classLink RX5 130 RX0) tz_376) (hts (.instantiable RX0 4) tz_377) (hts (.initialized RX0) tz_85) rfl dX5_madeWay_96 hR2.1 hR2.2 hKn.2.1 rfl fun H1 kC hkC e1 z1 o1 => ?_
  have hat : va_at (gD G) vwCl (H.size, .inr (0, [.int 0, .int 0, .int 0, .int 0])) H1 := ⟨_, rfl, (u_born tyX0 hts inTX0 hKn hkC e1 tyX0_ok).to (fun j hj => by rcases (show j = 0 ∨ j = 1 ∨ j = 2 ∨ j = 3 by omega) with rfl | rfl | rfl | rfl <;> rfl)⟩
  have hP1 := owP1 hat
  have hgB : gB G ≤ H.size := Nat.le_trans hB.1 hS.1
  have hPn : P H.size = none := by
    cases hz : P H.size with
    | none => rfl
    | some w9 => have z9 := (hH.2.1 _ _ hz).1.lt; simp only at z9; omega
  have hS1 : va_S (gA G) s.heap H1 locs := ⟨Nat.le_trans hS.1 (by omega), fun x h1 h2 => (o1 x (Nat.lt_of_lt_of_le h1 hS.1)).trans (hS.2.1 x h1 h2), hS.2.2⟩
  refine lv_dup hx hb dX5_madeWay_99 rfl ?_
  refine lv_iload_n hx hb dX5_madeWay_100 rfl (lv_at hl 0 rfl) ?_
  refine lv_iload_n hx hb dX5_madeWay_101 rfl (lv_at hl 1 rfl) ?_
  refine lv_iload_n hx hb dX5_madeWay_102 rfl (lv_at hl 2 rfl) ?_
  refine lv_iload_n hx hb dX5_madeWay_103 rfl (lv_at hl 3 rfl) ?_
  refine va_callv (va_runI (As := [.int (nI 4), .int v2, .int v3, .int v4]) (rest := [.ref H.size]) ⟨hx, hb, hml, ho, hts⟩ (c_init_X0_4 l G H.size (nI 4) v2 v3 v4) ⟨⟨rfl, rfl, by show 2 + 1 ≤ R.frames; omega, by show 8 + (5 + 11) + 40 * 2 ≤ R.locals; omega, pay_in hts (owGood tz_380), List.mem_cons_self, hts _ tz_380, hts _ tz_85, ⟨by decide +kernel, by decide +kernel⟩, fun sig h => ?_, hts _ tz_378⟩, rfl, hts _ tz_379⟩ ⟨fun a U g mk q => by obtain ⟨q0, qP, qK⟩ := q; exact ⟨q0, qP, va_K.moved (u := U) (U := U.calling g mk a) (Vm.Alike.refl U.vm) qK⟩, fun U hU hW => ⟨rfl, by rw [hU]; exact hP1, va_K.moved hW.alike hK⟩⟩ rfl rfl hl.1 rfl (lv_room (Nat.le_of_ble_eq_true rfl)) dX5_madeWay_104 hR2) (A0 := gA G) hS1 (fun q_ _ h => by rw [h]; exact hgB) (fun q_ h => by rw [h]; exact hgB) (fun u t H2 locs2 ht hvm h5 hB2 hz1 hk1 hS2 => ?_)
  · have w8 : (parseMethodDescriptor yX0_init.desc).map (fun d => d.parameters.length) = some 4 := by decide +kernel
    rw [h] at w8
    exact (Option.some.inj w8).symm
  have hB2 : va_P (gD G) vwCl [(H.size, .inr (0, [.int (nI 4), .int v2, .int v3, .int v4]))] t.heap := hB2
  rw [ht] at hB2
  have hat2 : va_at (gD G) vwCl (H.size, owE (4, v2, v3, v4)) H2 := hB2 0 _ rfl
  exact kk_ H.size hPn hgB _ _ _ _ _ _ _ _ _ _ _ (X.hp (hH.newW (Nat.le_refl _) hgB hat2 (fun x hx9 => (hk1 x (by omega) (by omega)).trans (o1 x hx9))) hS2)
set_option maxRecDepth 100000 in
set_option maxHeartbeats 4000000 in
theorem m_mk_5 {l : Launch} {G : owG} {rt : Option FieldType} {R : Room} {Ex : State → Prop} {Qf : List Frame → Array Value → State → State → Prop} {cells slots : Nat} {A S Z B T V : owF} {J : Nat → Nat → Int64} {Y : Nat → Nat → Nat → Option Nat} {P : Nat → Option owW} {v2 v3 v4 : Int32} (hR1 : 4 ≤ R.frames ∧ 200 ≤ R.locals) (hR2 : cells + 1 ≤ R.cells ∧ slots + 4 ≤ R.slots) (kk_ : ∀ q_ : Nat, P q_ = none → gB G ≤ q_ → Wm l G cX5_madeWay 4 RX5 rt R Ex Qf 119 [(0, .int (nI 5)), (1, .int v2), (2, .int v3), (3, .int v4)] [.ref q_] (A, S, Z, B, T, V, J, Y, upP P q_ (5, v2, v3, v4)) (cells + 1) (slots + 4)) : Wm l G cX5_madeWay 4 RX5 rt R Ex Qf 108 [(0, .int (nI 5)), (1, .int v2), (2, .int v3), (3, .int v4)] [] (A, S, Z, B, T, V, J, Y, P) cells slots := by
  intro p e s m args below meth c H locs ls X
  obtain ⟨hx, hb, hml, ho, hts, hr, hlk, hE, hK, hH, hS, hB, hl⟩ := id X
  have hKn := hK.1 10 _ rfl
  refine W.newcK hx hb ho (hts (.classLink RX5 133 RX10) tz_387) (hts (.instantiable RX10 4) tz_388) (hts (.initialized RX10) tz_86) rfl dX5_madeWay_108 hR2.1 hR2.2 hKn.2.1 rfl fun H1 kC hkC e1 z1 o1 => ?_
  have hat : va_at (gD G) vwCl (H.size, .inr (10, [.int 0, .int 0, .int 0, .int 0])) H1 := ⟨_, rfl, (u_born tyX10 hts inTX10 hKn hkC e1 tyX10_ok).to (fun j hj => by rcases (show j = 0 ∨ j = 1 ∨ j = 2 ∨ j = 3 by omega) with rfl | rfl | rfl | rfl <;> rfl)⟩
  have hP1 := owP1 hat
  have hgB : gB G ≤ H.size := Nat.le_trans hB.1 hS.1
  have hPn : P H.size = none := by
    cases hz : P H.size with
    | none => rfl
    | some w9 => have z9 := (hH.2.1 _ _ hz).1.lt; simp only at z9; omega
  have hS1 : va_S (gA G) s.heap H1 locs := ⟨Nat.le_trans hS.1 (by omega), fun x h1 h2 => (o1 x (Nat.lt_of_lt_of_le h1 hS.1)).trans (hS.2.1 x h1 h2), hS.2.2⟩
  refine lv_dup hx hb dX5_madeWay_111 rfl ?_
  refine lv_iload_n hx hb dX5_madeWay_112 rfl (lv_at hl 0 rfl) ?_
  refine lv_iload_n hx hb dX5_madeWay_113 rfl (lv_at hl 1 rfl) ?_
  refine lv_iload_n hx hb dX5_madeWay_114 rfl (lv_at hl 2 rfl) ?_
  refine lv_iload_n hx hb dX5_madeWay_115 rfl (lv_at hl 3 rfl) ?_
  refine va_callv (va_runI (As := [.int (nI 5), .int v2, .int v3, .int v4]) (rest := [.ref H.size]) ⟨hx, hb, hml, ho, hts⟩ (c_init_X10_5 l G H.size (nI 5) v2 v3 v4) ⟨⟨rfl, rfl, by show 3 + 1 ≤ R.frames; omega, by show 8 + (5 + 11) + 40 * 3 ≤ R.locals; omega, pay_in hts (owGood tz_391), List.mem_cons_self, hts _ tz_391, hts _ tz_86, ⟨by decide +kernel, by decide +kernel⟩, fun sig h => ?_, hts _ tz_389⟩, rfl, hts _ tz_390⟩ ⟨fun a U g mk q => by obtain ⟨q0, qP, qK⟩ := q; exact ⟨q0, qP, va_K.moved (u := U) (U := U.calling g mk a) (Vm.Alike.refl U.vm) qK⟩, fun U hU hW => ⟨rfl, by rw [hU]; exact hP1, va_K.moved hW.alike hK⟩⟩ rfl rfl hl.1 rfl (lv_room (Nat.le_of_ble_eq_true rfl)) dX5_madeWay_116 hR2) (A0 := gA G) hS1 (fun q_ _ h => by rw [h]; exact hgB) (fun q_ h => by rw [h]; exact hgB) (fun u t H2 locs2 ht hvm h5 hB2 hz1 hk1 hS2 => ?_)
  · have w8 : (parseMethodDescriptor yX10_init.desc).map (fun d => d.parameters.length) = some 4 := by decide +kernel
    rw [h] at w8
    exact (Option.some.inj w8).symm
  have hB2 : va_P (gD G) vwCl [(H.size, .inr (10, [.int (nI 5), .int v2, .int v3, .int v4]))] t.heap := hB2
  rw [ht] at hB2
  have hat2 : va_at (gD G) vwCl (H.size, owE (5, v2, v3, v4)) H2 := hB2 0 _ rfl
  exact kk_ H.size hPn hgB _ _ _ _ _ _ _ _ _ _ _ (X.hp (hH.newW (Nat.le_refl _) hgB hat2 (fun x hx9 => (hk1 x (by omega) (by omega)).trans (o1 x hx9))) hS2)
set_option maxRecDepth 100000 in
set_option maxHeartbeats 4000000 in
theorem m_mk_6 {l : Launch} {G : owG} {rt : Option FieldType} {R : Room} {Ex : State → Prop} {Qf : List Frame → Array Value → State → State → Prop} {cells slots : Nat} {A S Z B T V : owF} {J : Nat → Nat → Int64} {Y : Nat → Nat → Nat → Option Nat} {P : Nat → Option owW} {v2 v3 v4 : Int32} (hR1 : 4 ≤ R.frames ∧ 200 ≤ R.locals) (hR2 : cells + 1 ≤ R.cells ∧ slots + 4 ≤ R.slots) (kk_ : ∀ q_ : Nat, P q_ = none → gB G ≤ q_ → Wm l G cX5_madeWay 4 RX5 rt R Ex Qf 131 [(0, .int (nI 6)), (1, .int v2), (2, .int v3), (3, .int v4)] [.ref q_] (A, S, Z, B, T, V, J, Y, upP P q_ (6, v2, v3, v4)) (cells + 1) (slots + 4)) : Wm l G cX5_madeWay 4 RX5 rt R Ex Qf 120 [(0, .int (nI 6)), (1, .int v2), (2, .int v3), (3, .int v4)] [] (A, S, Z, B, T, V, J, Y, P) cells slots := by
  intro p e s m args below meth c H locs ls X
  obtain ⟨hx, hb, hml, ho, hts, hr, hlk, hE, hK, hH, hS, hB, hl⟩ := id X
  have hKn := hK.1 4 _ rfl
  refine W.newcK hx hb ho (hts (.classLink RX5 136 RX4) tz_398) (hts (.instantiable RX4 4) tz_399) (hts (.initialized RX4) tz_87) rfl dX5_madeWay_120 hR2.1 hR2.2 hKn.2.1 rfl fun H1 kC hkC e1 z1 o1 => ?_
  have hat : va_at (gD G) vwCl (H.size, .inr (4, [.int 0, .int 0, .int 0, .int 0])) H1 := ⟨_, rfl, (u_born tyX4 hts inTX4 hKn hkC e1 tyX4_ok).to (fun j hj => by rcases (show j = 0 ∨ j = 1 ∨ j = 2 ∨ j = 3 by omega) with rfl | rfl | rfl | rfl <;> rfl)⟩
  have hP1 := owP1 hat
  have hgB : gB G ≤ H.size := Nat.le_trans hB.1 hS.1
  have hPn : P H.size = none := by
    cases hz : P H.size with
    | none => rfl
    | some w9 => have z9 := (hH.2.1 _ _ hz).1.lt; simp only at z9; omega
  have hS1 : va_S (gA G) s.heap H1 locs := ⟨Nat.le_trans hS.1 (by omega), fun x h1 h2 => (o1 x (Nat.lt_of_lt_of_le h1 hS.1)).trans (hS.2.1 x h1 h2), hS.2.2⟩
  refine lv_dup hx hb dX5_madeWay_123 rfl ?_
  refine lv_iload_n hx hb dX5_madeWay_124 rfl (lv_at hl 0 rfl) ?_
  refine lv_iload_n hx hb dX5_madeWay_125 rfl (lv_at hl 1 rfl) ?_
  refine lv_iload_n hx hb dX5_madeWay_126 rfl (lv_at hl 2 rfl) ?_
  refine lv_iload_n hx hb dX5_madeWay_127 rfl (lv_at hl 3 rfl) ?_
  refine va_callv (va_runI (As := [.int (nI 6), .int v2, .int v3, .int v4]) (rest := [.ref H.size]) ⟨hx, hb, hml, ho, hts⟩ (c_init_X4_6 l G H.size (nI 6) v2 v3 v4) ⟨⟨rfl, rfl, by show 3 + 1 ≤ R.frames; omega, by show 8 + (5 + 11) + 40 * 3 ≤ R.locals; omega, pay_in hts (owGood tz_402), List.mem_cons_self, hts _ tz_402, hts _ tz_87, ⟨by decide +kernel, by decide +kernel⟩, fun sig h => ?_, hts _ tz_400⟩, rfl, hts _ tz_401⟩ ⟨fun a U g mk q => by obtain ⟨q0, qP, qK⟩ := q; exact ⟨q0, qP, va_K.moved (u := U) (U := U.calling g mk a) (Vm.Alike.refl U.vm) qK⟩, fun U hU hW => ⟨rfl, by rw [hU]; exact hP1, va_K.moved hW.alike hK⟩⟩ rfl rfl hl.1 rfl (lv_room (Nat.le_of_ble_eq_true rfl)) dX5_madeWay_128 hR2) (A0 := gA G) hS1 (fun q_ _ h => by rw [h]; exact hgB) (fun q_ h => by rw [h]; exact hgB) (fun u t H2 locs2 ht hvm h5 hB2 hz1 hk1 hS2 => ?_)
  · have w8 : (parseMethodDescriptor yX4_init.desc).map (fun d => d.parameters.length) = some 4 := by decide +kernel
    rw [h] at w8
    exact (Option.some.inj w8).symm
  have hB2 : va_P (gD G) vwCl [(H.size, .inr (4, [.int (nI 6), .int v2, .int v3, .int v4]))] t.heap := hB2
  rw [ht] at hB2
  have hat2 : va_at (gD G) vwCl (H.size, owE (6, v2, v3, v4)) H2 := hB2 0 _ rfl
  exact kk_ H.size hPn hgB _ _ _ _ _ _ _ _ _ _ _ (X.hp (hH.newW (Nat.le_refl _) hgB hat2 (fun x hx9 => (hk1 x (by omega) (by omega)).trans (o1 x hx9))) hS2)
set_option maxRecDepth 100000 in
set_option maxHeartbeats 4000000 in
theorem m_mk_7 {l : Launch} {G : owG} {rt : Option FieldType} {R : Room} {Ex : State → Prop} {Qf : List Frame → Array Value → State → State → Prop} {cells slots : Nat} {A S Z B T V : owF} {J : Nat → Nat → Int64} {Y : Nat → Nat → Nat → Option Nat} {P : Nat → Option owW} {v2 v3 v4 : Int32} (hR1 : 4 ≤ R.frames ∧ 200 ≤ R.locals) (hR2 : cells + 1 ≤ R.cells ∧ slots + 4 ≤ R.slots) (kk_ : ∀ q_ : Nat, P q_ = none → gB G ≤ q_ → Wm l G cX5_madeWay 4 RX5 rt R Ex Qf 143 [(0, .int (nI 7)), (1, .int v2), (2, .int v3), (3, .int v4)] [.ref q_] (A, S, Z, B, T, V, J, Y, upP P q_ (7, v2, v3, v4)) (cells + 1) (slots + 4)) : Wm l G cX5_madeWay 4 RX5 rt R Ex Qf 132 [(0, .int (nI 7)), (1, .int v2), (2, .int v3), (3, .int v4)] [] (A, S, Z, B, T, V, J, Y, P) cells slots := by
  intro p e s m args below meth c H locs ls X
  obtain ⟨hx, hb, hml, ho, hts, hr, hlk, hE, hK, hH, hS, hB, hl⟩ := id X
  have hKn := hK.1 7 _ rfl
  refine W.newcK hx hb ho (hts (.classLink RX5 139 RX7) tz_409) (hts (.instantiable RX7 4) tz_410) (hts (.initialized RX7) tz_88) rfl dX5_madeWay_132 hR2.1 hR2.2 hKn.2.1 rfl fun H1 kC hkC e1 z1 o1 => ?_
  have hat : va_at (gD G) vwCl (H.size, .inr (7, [.int 0, .int 0, .int 0, .int 0])) H1 := ⟨_, rfl, (u_born tyX7 hts inTX7 hKn hkC e1 tyX7_ok).to (fun j hj => by rcases (show j = 0 ∨ j = 1 ∨ j = 2 ∨ j = 3 by omega) with rfl | rfl | rfl | rfl <;> rfl)⟩
  have hP1 := owP1 hat
  have hgB : gB G ≤ H.size := Nat.le_trans hB.1 hS.1
  have hPn : P H.size = none := by
    cases hz : P H.size with
    | none => rfl
    | some w9 => have z9 := (hH.2.1 _ _ hz).1.lt; simp only at z9; omega
  have hS1 : va_S (gA G) s.heap H1 locs := ⟨Nat.le_trans hS.1 (by omega), fun x h1 h2 => (o1 x (Nat.lt_of_lt_of_le h1 hS.1)).trans (hS.2.1 x h1 h2), hS.2.2⟩
  refine lv_dup hx hb dX5_madeWay_135 rfl ?_
  refine lv_iload_n hx hb dX5_madeWay_136 rfl (lv_at hl 0 rfl) ?_
  refine lv_iload_n hx hb dX5_madeWay_137 rfl (lv_at hl 1 rfl) ?_
  refine lv_iload_n hx hb dX5_madeWay_138 rfl (lv_at hl 2 rfl) ?_
  refine lv_iload_n hx hb dX5_madeWay_139 rfl (lv_at hl 3 rfl) ?_
  refine va_callv (va_runI (As := [.int (nI 7), .int v2, .int v3, .int v4]) (rest := [.ref H.size]) ⟨hx, hb, hml, ho, hts⟩ (c_init_X7_7 l G H.size (nI 7) v2 v3 v4) ⟨⟨rfl, rfl, by show 3 + 1 ≤ R.frames; omega, by show 8 + (5 + 11) + 40 * 3 ≤ R.locals; omega, pay_in hts (owGood tz_413), List.mem_cons_self, hts _ tz_413, hts _ tz_88, ⟨by decide +kernel, by decide +kernel⟩, fun sig h => ?_, hts _ tz_411⟩, rfl, hts _ tz_412⟩ ⟨fun a U g mk q => by obtain ⟨q0, qP, qK⟩ := q; exact ⟨q0, qP, va_K.moved (u := U) (U := U.calling g mk a) (Vm.Alike.refl U.vm) qK⟩, fun U hU hW => ⟨rfl, by rw [hU]; exact hP1, va_K.moved hW.alike hK⟩⟩ rfl rfl hl.1 rfl (lv_room (Nat.le_of_ble_eq_true rfl)) dX5_madeWay_140 hR2) (A0 := gA G) hS1 (fun q_ _ h => by rw [h]; exact hgB) (fun q_ h => by rw [h]; exact hgB) (fun u t H2 locs2 ht hvm h5 hB2 hz1 hk1 hS2 => ?_)
  · have w8 : (parseMethodDescriptor yX7_init.desc).map (fun d => d.parameters.length) = some 4 := by decide +kernel
    rw [h] at w8
    exact (Option.some.inj w8).symm
  have hB2 : va_P (gD G) vwCl [(H.size, .inr (7, [.int (nI 7), .int v2, .int v3, .int v4]))] t.heap := hB2
  rw [ht] at hB2
  have hat2 : va_at (gD G) vwCl (H.size, owE (7, v2, v3, v4)) H2 := hB2 0 _ rfl
  exact kk_ H.size hPn hgB _ _ _ _ _ _ _ _ _ _ _ (X.hp (hH.newW (Nat.le_refl _) hgB hat2 (fun x hx9 => (hk1 x (by omega) (by omega)).trans (o1 x hx9))) hS2)
theorem k_madeWay_0 (l : Launch) (G : owG) {A S Z B T V : owF} {J : Nat → Nat → Int64} {Y : Nat → Nat → Nat → Option Nat} {P : Nat → Option owW} (v2 v3 v4 : Int32) : Ct l G yX5_madeWay cX5_madeWay 4 ((some (.object "OwnWays$Way"))) 6 1 4 [.int (nI 0), .int v2, .int v3, .int v4] (A, S, Z, B, T, V, J, Y, P) (qR (fun r_ σ => ∃ q_ : Nat, r_ = some q_ ∧ P q_ = none ∧ σ = (A, S, Z, B, T, V, J, Y, upP P q_ (0, v2, v3, v4)))) := by
  refine ct_of (by decide +kernel) (Nat.le_of_ble_eq_true rfl) ?_
  show Wm l G cX5_madeWay 4 RX5 ((some (.object "OwnWays$Way"))) (rmk 6 1 4) (fun _ => True) (QfM G (qR (fun r_ σ => ∃ q_ : Nat, r_ = some q_ ∧ P q_ = none ∧ σ = (A, S, Z, B, T, V, J, Y, upP P q_ (0, v2, v3, v4)))) 1 4) 0 [(0, .int (nI 0)), (1, .int v2), (2, .int v3), (3, .int v4)] [] (A, S, Z, B, T, V, J, Y, P) 0 0
  refine m_iload_n 0 rfl rfl dX5_madeWay_0 ?_
  refine m_tableIn 48 dX5_madeWay_1 (by decide) (by decide) (by rfl) (by decide) ?_
  refine m_mk_0 ⟨Nat.le_of_ble_eq_true rfl, Nat.le_of_ble_eq_true rfl⟩ ⟨Nat.le_of_ble_eq_true rfl, Nat.le_of_ble_eq_true rfl⟩ (fun q_ hn_ hb_ => ?_)
  exact m_arefs dX5_madeWay_59 (Nat.le_refl _) (Nat.le_refl _) ⟨q_, rfl, hn_, rfl⟩
theorem k_madeWay_1 (l : Launch) (G : owG) {A S Z B T V : owF} {J : Nat → Nat → Int64} {Y : Nat → Nat → Nat → Option Nat} {P : Nat → Option owW} (v2 v3 v4 : Int32) : Ct l G yX5_madeWay cX5_madeWay 4 ((some (.object "OwnWays$Way"))) 6 1 4 [.int (nI 1), .int v2, .int v3, .int v4] (A, S, Z, B, T, V, J, Y, P) (qR (fun r_ σ => ∃ q_ : Nat, r_ = some q_ ∧ P q_ = none ∧ σ = (A, S, Z, B, T, V, J, Y, upP P q_ (1, v2, v3, v4)))) := by
  refine ct_of (by decide +kernel) (Nat.le_of_ble_eq_true rfl) ?_
  show Wm l G cX5_madeWay 4 RX5 ((some (.object "OwnWays$Way"))) (rmk 6 1 4) (fun _ => True) (QfM G (qR (fun r_ σ => ∃ q_ : Nat, r_ = some q_ ∧ P q_ = none ∧ σ = (A, S, Z, B, T, V, J, Y, upP P q_ (1, v2, v3, v4)))) 1 4) 0 [(0, .int (nI 1)), (1, .int v2), (2, .int v3), (3, .int v4)] [] (A, S, Z, B, T, V, J, Y, P) 0 0
  refine m_iload_n 0 rfl rfl dX5_madeWay_0 ?_
  refine m_tableIn 60 dX5_madeWay_1 (by decide) (by decide) (by rfl) (by decide) ?_
  refine m_mk_1 ⟨Nat.le_of_ble_eq_true rfl, Nat.le_of_ble_eq_true rfl⟩ ⟨Nat.le_of_ble_eq_true rfl, Nat.le_of_ble_eq_true rfl⟩ (fun q_ hn_ hb_ => ?_)
  exact m_arefs dX5_madeWay_71 (Nat.le_refl _) (Nat.le_refl _) ⟨q_, rfl, hn_, rfl⟩
theorem k_madeWay_2 (l : Launch) (G : owG) {A S Z B T V : owF} {J : Nat → Nat → Int64} {Y : Nat → Nat → Nat → Option Nat} {P : Nat → Option owW} (v2 v3 v4 : Int32) : Ct l G yX5_madeWay cX5_madeWay 4 ((some (.object "OwnWays$Way"))) 6 1 4 [.int (nI 2), .int v2, .int v3, .int v4] (A, S, Z, B, T, V, J, Y, P) (qR (fun r_ σ => ∃ q_ : Nat, r_ = some q_ ∧ P q_ = none ∧ σ = (A, S, Z, B, T, V, J, Y, upP P q_ (2, v2, v3, v4)))) := by
  refine ct_of (by decide +kernel) (Nat.le_of_ble_eq_true rfl) ?_
  show Wm l G cX5_madeWay 4 RX5 ((some (.object "OwnWays$Way"))) (rmk 6 1 4) (fun _ => True) (QfM G (qR (fun r_ σ => ∃ q_ : Nat, r_ = some q_ ∧ P q_ = none ∧ σ = (A, S, Z, B, T, V, J, Y, upP P q_ (2, v2, v3, v4)))) 1 4) 0 [(0, .int (nI 2)), (1, .int v2), (2, .int v3), (3, .int v4)] [] (A, S, Z, B, T, V, J, Y, P) 0 0
  refine m_iload_n 0 rfl rfl dX5_madeWay_0 ?_
  refine m_tableIn 72 dX5_madeWay_1 (by decide) (by decide) (by rfl) (by decide) ?_
  refine m_mk_2 ⟨Nat.le_of_ble_eq_true rfl, Nat.le_of_ble_eq_true rfl⟩ ⟨Nat.le_of_ble_eq_true rfl, Nat.le_of_ble_eq_true rfl⟩ (fun q_ hn_ hb_ => ?_)
  exact m_arefs dX5_madeWay_83 (Nat.le_refl _) (Nat.le_refl _) ⟨q_, rfl, hn_, rfl⟩
theorem k_madeWay_3 (l : Launch) (G : owG) {A S Z B T V : owF} {J : Nat → Nat → Int64} {Y : Nat → Nat → Nat → Option Nat} {P : Nat → Option owW} (v2 v3 v4 : Int32) : Ct l G yX5_madeWay cX5_madeWay 4 ((some (.object "OwnWays$Way"))) 6 1 4 [.int (nI 3), .int v2, .int v3, .int v4] (A, S, Z, B, T, V, J, Y, P) (qR (fun r_ σ => ∃ q_ : Nat, r_ = some q_ ∧ P q_ = none ∧ σ = (A, S, Z, B, T, V, J, Y, upP P q_ (3, v2, v3, v4)))) := by
  refine ct_of (by decide +kernel) (Nat.le_of_ble_eq_true rfl) ?_
  show Wm l G cX5_madeWay 4 RX5 ((some (.object "OwnWays$Way"))) (rmk 6 1 4) (fun _ => True) (QfM G (qR (fun r_ σ => ∃ q_ : Nat, r_ = some q_ ∧ P q_ = none ∧ σ = (A, S, Z, B, T, V, J, Y, upP P q_ (3, v2, v3, v4)))) 1 4) 0 [(0, .int (nI 3)), (1, .int v2), (2, .int v3), (3, .int v4)] [] (A, S, Z, B, T, V, J, Y, P) 0 0
  refine m_iload_n 0 rfl rfl dX5_madeWay_0 ?_
  refine m_tableIn 84 dX5_madeWay_1 (by decide) (by decide) (by rfl) (by decide) ?_
  refine m_mk_3 ⟨Nat.le_of_ble_eq_true rfl, Nat.le_of_ble_eq_true rfl⟩ ⟨Nat.le_of_ble_eq_true rfl, Nat.le_of_ble_eq_true rfl⟩ (fun q_ hn_ hb_ => ?_)
  exact m_arefs dX5_madeWay_95 (Nat.le_refl _) (Nat.le_refl _) ⟨q_, rfl, hn_, rfl⟩
theorem k_madeWay_4 (l : Launch) (G : owG) {A S Z B T V : owF} {J : Nat → Nat → Int64} {Y : Nat → Nat → Nat → Option Nat} {P : Nat → Option owW} (v2 v3 v4 : Int32) : Ct l G yX5_madeWay cX5_madeWay 4 ((some (.object "OwnWays$Way"))) 6 1 4 [.int (nI 4), .int v2, .int v3, .int v4] (A, S, Z, B, T, V, J, Y, P) (qR (fun r_ σ => ∃ q_ : Nat, r_ = some q_ ∧ P q_ = none ∧ σ = (A, S, Z, B, T, V, J, Y, upP P q_ (4, v2, v3, v4)))) := by
  refine ct_of (by decide +kernel) (Nat.le_of_ble_eq_true rfl) ?_
  show Wm l G cX5_madeWay 4 RX5 ((some (.object "OwnWays$Way"))) (rmk 6 1 4) (fun _ => True) (QfM G (qR (fun r_ σ => ∃ q_ : Nat, r_ = some q_ ∧ P q_ = none ∧ σ = (A, S, Z, B, T, V, J, Y, upP P q_ (4, v2, v3, v4)))) 1 4) 0 [(0, .int (nI 4)), (1, .int v2), (2, .int v3), (3, .int v4)] [] (A, S, Z, B, T, V, J, Y, P) 0 0
  refine m_iload_n 0 rfl rfl dX5_madeWay_0 ?_
  refine m_tableIn 96 dX5_madeWay_1 (by decide) (by decide) (by rfl) (by decide) ?_
  refine m_mk_4 ⟨Nat.le_of_ble_eq_true rfl, Nat.le_of_ble_eq_true rfl⟩ ⟨Nat.le_of_ble_eq_true rfl, Nat.le_of_ble_eq_true rfl⟩ (fun q_ hn_ hb_ => ?_)
  exact m_arefs dX5_madeWay_107 (Nat.le_refl _) (Nat.le_refl _) ⟨q_, rfl, hn_, rfl⟩
theorem k_madeWay_5 (l : Launch) (G : owG) {A S Z B T V : owF} {J : Nat → Nat → Int64} {Y : Nat → Nat → Nat → Option Nat} {P : Nat → Option owW} (v2 v3 v4 : Int32) : Ct l G yX5_madeWay cX5_madeWay 4 ((some (.object "OwnWays$Way"))) 6 1 4 [.int (nI 5), .int v2, .int v3, .int v4] (A, S, Z, B, T, V, J, Y, P) (qR (fun r_ σ => ∃ q_ : Nat, r_ = some q_ ∧ P q_ = none ∧ σ = (A, S, Z, B, T, V, J, Y, upP P q_ (5, v2, v3, v4)))) := by
  refine ct_of (by decide +kernel) (Nat.le_of_ble_eq_true rfl) ?_
  show Wm l G cX5_madeWay 4 RX5 ((some (.object "OwnWays$Way"))) (rmk 6 1 4) (fun _ => True) (QfM G (qR (fun r_ σ => ∃ q_ : Nat, r_ = some q_ ∧ P q_ = none ∧ σ = (A, S, Z, B, T, V, J, Y, upP P q_ (5, v2, v3, v4)))) 1 4) 0 [(0, .int (nI 5)), (1, .int v2), (2, .int v3), (3, .int v4)] [] (A, S, Z, B, T, V, J, Y, P) 0 0
  refine m_iload_n 0 rfl rfl dX5_madeWay_0 ?_
  refine m_tableIn 108 dX5_madeWay_1 (by decide) (by decide) (by rfl) (by decide) ?_
  refine m_mk_5 ⟨Nat.le_of_ble_eq_true rfl, Nat.le_of_ble_eq_true rfl⟩ ⟨Nat.le_of_ble_eq_true rfl, Nat.le_of_ble_eq_true rfl⟩ (fun q_ hn_ hb_ => ?_)
  exact m_arefs dX5_madeWay_119 (Nat.le_refl _) (Nat.le_refl _) ⟨q_, rfl, hn_, rfl⟩
theorem k_madeWay_6 (l : Launch) (G : owG) {A S Z B T V : owF} {J : Nat → Nat → Int64} {Y : Nat → Nat → Nat → Option Nat} {P : Nat → Option owW} (v2 v3 v4 : Int32) : Ct l G yX5_madeWay cX5_madeWay 4 ((some (.object "OwnWays$Way"))) 6 1 4 [.int (nI 6), .int v2, .int v3, .int v4] (A, S, Z, B, T, V, J, Y, P) (qR (fun r_ σ => ∃ q_ : Nat, r_ = some q_ ∧ P q_ = none ∧ σ = (A, S, Z, B, T, V, J, Y, upP P q_ (6, v2, v3, v4)))) := by
  refine ct_of (by decide +kernel) (Nat.le_of_ble_eq_true rfl) ?_
  show Wm l G cX5_madeWay 4 RX5 ((some (.object "OwnWays$Way"))) (rmk 6 1 4) (fun _ => True) (QfM G (qR (fun r_ σ => ∃ q_ : Nat, r_ = some q_ ∧ P q_ = none ∧ σ = (A, S, Z, B, T, V, J, Y, upP P q_ (6, v2, v3, v4)))) 1 4) 0 [(0, .int (nI 6)), (1, .int v2), (2, .int v3), (3, .int v4)] [] (A, S, Z, B, T, V, J, Y, P) 0 0
  refine m_iload_n 0 rfl rfl dX5_madeWay_0 ?_
  refine m_tableIn 120 dX5_madeWay_1 (by decide) (by decide) (by rfl) (by decide) ?_
  refine m_mk_6 ⟨Nat.le_of_ble_eq_true rfl, Nat.le_of_ble_eq_true rfl⟩ ⟨Nat.le_of_ble_eq_true rfl, Nat.le_of_ble_eq_true rfl⟩ (fun q_ hn_ hb_ => ?_)
  exact m_arefs dX5_madeWay_131 (Nat.le_refl _) (Nat.le_refl _) ⟨q_, rfl, hn_, rfl⟩
theorem k_madeWay_7 (l : Launch) (G : owG) {A S Z B T V : owF} {J : Nat → Nat → Int64} {Y : Nat → Nat → Nat → Option Nat} {P : Nat → Option owW} (v2 v3 v4 : Int32) : Ct l G yX5_madeWay cX5_madeWay 4 ((some (.object "OwnWays$Way"))) 6 1 4 [.int (nI 7), .int v2, .int v3, .int v4] (A, S, Z, B, T, V, J, Y, P) (qR (fun r_ σ => ∃ q_ : Nat, r_ = some q_ ∧ P q_ = none ∧ σ = (A, S, Z, B, T, V, J, Y, upP P q_ (7, v2, v3, v4)))) := by
  refine ct_of (by decide +kernel) (Nat.le_of_ble_eq_true rfl) ?_
  show Wm l G cX5_madeWay 4 RX5 ((some (.object "OwnWays$Way"))) (rmk 6 1 4) (fun _ => True) (QfM G (qR (fun r_ σ => ∃ q_ : Nat, r_ = some q_ ∧ P q_ = none ∧ σ = (A, S, Z, B, T, V, J, Y, upP P q_ (7, v2, v3, v4)))) 1 4) 0 [(0, .int (nI 7)), (1, .int v2), (2, .int v3), (3, .int v4)] [] (A, S, Z, B, T, V, J, Y, P) 0 0
  refine m_iload_n 0 rfl rfl dX5_madeWay_0 ?_
  refine m_tableIn 132 dX5_madeWay_1 (by decide) (by decide) (by rfl) (by decide) ?_
  refine m_mk_7 ⟨Nat.le_of_ble_eq_true rfl, Nat.le_of_ble_eq_true rfl⟩ ⟨Nat.le_of_ble_eq_true rfl, Nat.le_of_ble_eq_true rfl⟩ (fun q_ hn_ hb_ => ?_)
  exact m_arefs dX5_madeWay_143 (Nat.le_refl _) (Nat.le_refl _) ⟨q_, rfl, hn_, rfl⟩
theorem k_madeWay (l : Launch) (G : owG) {A S Z B T V : owF} {J : Nat → Nat → Int64} {Y : Nat → Nat → Nat → Option Nat} {P : Nat → Option owW} (kd_ : Nat) (hk_ : kd_ < 8) (v2 v3 v4 : Int32) : Ct l G yX5_madeWay cX5_madeWay 4 ((some (.object "OwnWays$Way"))) 6 1 4 [.int (nI kd_), .int v2, .int v3, .int v4] (A, S, Z, B, T, V, J, Y, P) (qR (fun r_ σ => ∃ q_ : Nat, r_ = some q_ ∧ P q_ = none ∧ σ = (A, S, Z, B, T, V, J, Y, upP P q_ (kd_, v2, v3, v4)))) := by
  match kd_, hk_ with
  | 0, _ => exact k_madeWay_0 l G v2 v3 v4
  | 1, _ => exact k_madeWay_1 l G v2 v3 v4
  | 2, _ => exact k_madeWay_2 l G v2 v3 v4
  | 3, _ => exact k_madeWay_3 l G v2 v3 v4
  | 4, _ => exact k_madeWay_4 l G v2 v3 v4
  | 5, _ => exact k_madeWay_5 l G v2 v3 v4
  | 6, _ => exact k_madeWay_6 l G v2 v3 v4
  | 7, _ => exact k_madeWay_7 l G v2 v3 v4
theorem k_madeWay_8 (l : Launch) (G : owG) {A S Z B T V : owF} {J : Nat → Nat → Int64} {Y : Nat → Nat → Nat → Option Nat} {P : Nat → Option owW} (v2 v3 v4 : Int32) : Ct l G yX5_madeWay cX5_madeWay 4 ((some (.object "OwnWays$Way"))) 6 1 4 [.int (nI 8), .int v2, .int v3, .int v4] (A, S, Z, B, T, V, J, Y, P) (qR (fun r_ σ => r_ = none ∧ σ = (A, S, Z, B, T, V, J, Y, P))) := by
  refine ct_of (by decide +kernel) (Nat.le_of_ble_eq_true rfl) ?_
  show Wm l G cX5_madeWay 4 RX5 ((some (.object "OwnWays$Way"))) (rmk 6 1 4) (fun _ => True) (QfM G (qR (fun r_ σ => r_ = none ∧ σ = (A, S, Z, B, T, V, J, Y, P))) 1 4) 0 [(0, .int (nI 8)), (1, .int v2), (2, .int v3), (3, .int v4)] [] (A, S, Z, B, T, V, J, Y, P) 0 0
  refine m_iload_n 0 rfl rfl dX5_madeWay_0 ?_
  refine m_tableOut 144 dX5_madeWay_1 (by decide) (by decide) ?_
  refine m_null dX5_madeWay_144 ?_
  exact m_arefn dX5_madeWay_145 (Nat.zero_le _) (Nat.zero_le _) ⟨rfl, rfl⟩
theorem k_madeWay_9 (l : Launch) (G : owG) {A S Z B T V : owF} {J : Nat → Nat → Int64} {Y : Nat → Nat → Nat → Option Nat} {P : Nat → Option owW} (v2 v3 v4 : Int32) : Ct l G yX5_madeWay cX5_madeWay 4 ((some (.object "OwnWays$Way"))) 6 1 4 [.int (nI 9), .int v2, .int v3, .int v4] (A, S, Z, B, T, V, J, Y, P) (qR (fun r_ σ => r_ = none ∧ σ = (A, S, Z, B, T, V, J, Y, P))) := by
  refine ct_of (by decide +kernel) (Nat.le_of_ble_eq_true rfl) ?_
  show Wm l G cX5_madeWay 4 RX5 ((some (.object "OwnWays$Way"))) (rmk 6 1 4) (fun _ => True) (QfM G (qR (fun r_ σ => r_ = none ∧ σ = (A, S, Z, B, T, V, J, Y, P))) 1 4) 0 [(0, .int (nI 9)), (1, .int v2), (2, .int v3), (3, .int v4)] [] (A, S, Z, B, T, V, J, Y, P) 0 0
  refine m_iload_n 0 rfl rfl dX5_madeWay_0 ?_
  refine m_tableOut 144 dX5_madeWay_1 (by decide) (by decide) ?_
  refine m_null dX5_madeWay_144 ?_
  exact m_arefn dX5_madeWay_145 (Nat.zero_le _) (Nat.zero_le _) ⟨rfl, rfl⟩
