theorem tz_82 : (Jvm.Cond.initialized "OwnWays$Turned") ∈ owTB := owTB_of (List.mem_of_getElem? (i := 82) (by decide +kernel)) rfl
theorem tz_84 : (Jvm.Cond.initialized "OwnWays$Given") ∈ owTB := owTB_of (List.mem_of_getElem? (i := 84) (by decide +kernel)) rfl
theorem tz_85 : (Jvm.Cond.initialized "OwnWays$Across") ∈ owTB := owTB_of (List.mem_of_getElem? (i := 85) (by decide +kernel)) rfl
theorem tz_104 : (Jvm.Cond.instanceMethod ({ cls := "java/lang/Object", name := "<init>", desc := "()V" } : Jvm.MethodName)) ∈ owTB := owTB_of (List.mem_of_getElem? (i := 104) (by decide +kernel)) rfl
theorem tz_105 : (Jvm.Cond.code ({ cls := "java/lang/Object", name := "<init>", desc := "()V" } : Jvm.MethodName) object_method_1_code (1 : Nat) (Option.none : Option Jvm.ClassFile.FieldType)) ∈ owTB := owTB_of (List.mem_of_getElem? (i := 105) (by decide +kernel)) rfl
theorem tz_317 : (Jvm.Cond.instanceMethod ({ cls := "OwnWays$Way", name := "<init>", desc := "(IIII)V" } : Jvm.MethodName)) ∈ owTB := owTB_of (List.mem_of_getElem? (i := 317) (by decide +kernel)) rfl
theorem tz_318 : (Jvm.Cond.code ({ cls := "OwnWays$Way", name := "<init>", desc := "(IIII)V" } : Jvm.MethodName) prog_11_method_1_code (5 : Nat) (Option.none : Option Jvm.ClassFile.FieldType)) ∈ owTB := owTB_of (List.mem_of_getElem? (i := 318) (by decide +kernel)) rfl
theorem tz_319 : (Jvm.Cond.methodLink "OwnWays$Way" (1 : Nat) ({ cls := "java/lang/Object", name := "<init>", desc := "()V" } : Jvm.MethodName)) ∈ owTB := owTB_of (List.mem_of_getElem? (i := 319) (by decide +kernel)) rfl
theorem tz_346 : (Jvm.Cond.instanceMethod ({ cls := "OwnWays$Turned", name := "<init>", desc := "(IIII)V" } : Jvm.MethodName)) ∈ owTB := owTB_of (List.mem_of_getElem? (i := 346) (by decide +kernel)) rfl
theorem tz_347 : (Jvm.Cond.code ({ cls := "OwnWays$Turned", name := "<init>", desc := "(IIII)V" } : Jvm.MethodName) prog_10_method_1_code (5 : Nat) (Option.none : Option Jvm.ClassFile.FieldType)) ∈ owTB := owTB_of (List.mem_of_getElem? (i := 347) (by decide +kernel)) rfl
theorem tz_348 : (Jvm.Cond.methodLink "OwnWays$Turned" (1 : Nat) ({ cls := "OwnWays$Way", name := "<init>", desc := "(IIII)V" } : Jvm.MethodName)) ∈ owTB := owTB_of (List.mem_of_getElem? (i := 348) (by decide +kernel)) rfl
theorem tz_359 : (Jvm.Cond.methodLink "OwnWays$Nought" (1 : Nat) ({ cls := "OwnWays$Way", name := "<init>", desc := "(IIII)V" } : Jvm.MethodName)) ∈ owTB := owTB_of (List.mem_of_getElem? (i := 359) (by decide +kernel)) rfl
theorem tz_368 : (Jvm.Cond.instanceMethod ({ cls := "OwnWays$Given", name := "<init>", desc := "(IIII)V" } : Jvm.MethodName)) ∈ owTB := owTB_of (List.mem_of_getElem? (i := 368) (by decide +kernel)) rfl
theorem tz_369 : (Jvm.Cond.code ({ cls := "OwnWays$Given", name := "<init>", desc := "(IIII)V" } : Jvm.MethodName) prog_3_method_1_code (5 : Nat) (Option.none : Option Jvm.ClassFile.FieldType)) ∈ owTB := owTB_of (List.mem_of_getElem? (i := 369) (by decide +kernel)) rfl
theorem tz_370 : (Jvm.Cond.methodLink "OwnWays$Given" (3 : Nat) ({ cls := "OwnWays$Way", name := "<init>", desc := "(IIII)V" } : Jvm.MethodName)) ∈ owTB := owTB_of (List.mem_of_getElem? (i := 370) (by decide +kernel)) rfl
theorem tz_379 : (Jvm.Cond.instanceMethod ({ cls := "OwnWays$Across", name := "<init>", desc := "(IIII)V" } : Jvm.MethodName)) ∈ owTB := owTB_of (List.mem_of_getElem? (i := 379) (by decide +kernel)) rfl
theorem tz_380 : (Jvm.Cond.code ({ cls := "OwnWays$Across", name := "<init>", desc := "(IIII)V" } : Jvm.MethodName) prog_2_method_1_code (5 : Nat) (Option.none : Option Jvm.ClassFile.FieldType)) ∈ owTB := owTB_of (List.mem_of_getElem? (i := 380) (by decide +kernel)) rfl
theorem tz_381 : (Jvm.Cond.methodLink "OwnWays$Across" (1 : Nat) ({ cls := "OwnWays$Way", name := "<init>", desc := "(IIII)V" } : Jvm.MethodName)) ∈ owTB := owTB_of (List.mem_of_getElem? (i := 381) (by decide +kernel)) rfl
theorem tz_392 : (Jvm.Cond.methodLink "OwnWays$Zero" (1 : Nat) ({ cls := "OwnWays$Turned", name := "<init>", desc := "(IIII)V" } : Jvm.MethodName)) ∈ owTB := owTB_of (List.mem_of_getElem? (i := 392) (by decide +kernel)) rfl
theorem tz_403 : (Jvm.Cond.methodLink "OwnWays$Patched" (3 : Nat) ({ cls := "OwnWays$Across", name := "<init>", desc := "(IIII)V" } : Jvm.MethodName)) ∈ owTB := owTB_of (List.mem_of_getElem? (i := 403) (by decide +kernel)) rfl
theorem tz_414 : (Jvm.Cond.methodLink "OwnWays$Topped" (3 : Nat) ({ cls := "OwnWays$Given", name := "<init>", desc := "(IIII)V" } : Jvm.MethodName)) ∈ owTB := owTB_of (List.mem_of_getElem? (i := 414) (by decide +kernel)) rfl
theorem va_D1 {A_ : Nat → Prop} {x_ : Nat × va_E} (h_ : A_ x_.1) : va_D A_ [x_] := ⟨fun i_ j_ p_ q_ h1_ h2_ _ => by
    have z1 := (List.getElem?_eq_some_iff.mp h1_).1
    have z2 := (List.getElem?_eq_some_iff.mp h2_).1
    simp only [List.length_singleton] at z1 z2
    omega, fun k_ q_ h1_ => by
    have z1 := (List.getElem?_eq_some_iff.mp h1_).1
    simp only [List.length_singleton] at z1
    rw [show k_ = 0 by omega] at h1_
    cases h1_
    exact h_⟩
set_option maxRecDepth 100000 in
set_option maxHeartbeats 4000000 in
theorem c_init_X9_0 (l : Launch) (G : owG) (q_ : Nat) (v1 v2 v3 v4 : Int32) : Met l yX9_init (owWs yX9_init cX9_init 5 none) (rmk 1 0 0) (va_Pc [.ref q_, .int v1, .int v2, .int v3, .int v4] (fun U => va_P (gD G) vwCl [(q_, .inr (9, [.int 0, .int 0, .int 0, .int 0]))] U.heap ∧ va_K (gD G) vwCl (gty G) U)) (va_Qv (fun _ : Unit => True) (fun _ t_ => va_P (gD G) vwCl [(q_, .inr (9, [.int v1, .int v2, .int v3, .int v4]))] t_.heap) (fun x_ => x_ = q_)) 0 0 (fun x_ => x_ = q_) := by
  refine Met.ofW (cc := cX9_init) (maxL := 5) (ret := none) (by decide +kernel) rfl ?_
  intro p e s m args below meth c s₁ B0 hml hv
  obtain ⟨rfl, hP, hK⟩ := hv
  have hx := B0.exec
  have hb := B0.bytes
  have hr := B0.returns
  have hts : ∀ w ∈ owTB, w.before _ s = true := fun w h => atoms_spec (ws := owWs yX9_init cX9_init 5 none) B0.pre w (List.mem_cons_of_mem _ h)
  have hown : s.vm.findClass RX9 = some m.cls := findClass_of_methodNamed B0.named
  have hin : meth.name = "<init>" := (name_of_methodNamed B0.named B0.method).1
  have hD : va_D (fun x_ => x_ = q_) [(q_, .inr (9, [.int 0, .int 0, .int 0, .int 0]))] := va_D1 rfl
  have hS : va_S (fun x_ => x_ = q_) s.heap s.heap [] := va_S.rf
  have hl := lv_entry [.ref q_, .int v1, .int v2, .int v3, .int v4] (n := 5) (Nat.le_of_ble_eq_true rfl)
  rw [lg_entry_eq]
  generalize (lg_sl ([.ref q_, .int v1, .int v2, .int v3, .int v4]) ++ List.replicate (5 - (lg_sl ([.ref q_, .int v1, .int v2, .int v3, .int v4])).length) Slot.unset).toArray = ls at hl ⊢
  have hl : lv_has ls 5 [(0, .ref q_), (1, .int v1), (2, .int v2), (3, .int v3), (4, .int v4)] := hl
  refine lv_aload_n hx hb dX9_init_0 rfl (lv_at hl 0 rfl) ?_
  refine W.objInit hx hb hown (hts (.methodLink RX9 1 Lib.objectInit) tz_319) (hts (.instanceMethod Lib.objectInit) tz_104) (hts (.code Lib.objectInit ⟨#[0xb1]⟩ 1 none) tz_105) rfl (by rw [hml]; exact hl.1) rfl dX9_init_1 (Nat.le_of_ble_eq_true rfl) (Nat.le_of_ble_eq_true rfl) ?_
  refine W.eq (g2 := F0 m 4 ls []) rfl ?_
  refine lv_aload_n hx hb dX9_init_4 rfl (lv_at hl 0 rfl) ?_
  refine lv_iload_n hx hb dX9_init_5 rfl (lv_at hl 1 rfl) ?_
  refine va_putF (D := gD G) (ci := 9) (v := .int v1) (ty := .int) (C := RX9) (T := TX9) (N := 4) hx hb hts inTX9 tyX9 tyX9_ok nmX9 hown hK hP hD hS 0 rfl rfl 0 (by decide) (hts _ tw_320) (fun _ h9 => h9) rfl hin rfl (by decide +kernel) rfl rfl (Nat.le_of_ble_eq_true rfl) dX9_init_6 (fun H locs hP hD hS => ?_)
  have hP : va_P (gD G) vwCl [(q_, .inr (9, [.int v1, .int 0, .int 0, .int 0]))] H := hP
  have hD : va_D (fun x_ => x_ = q_) [(q_, .inr (9, [.int v1, .int 0, .int 0, .int 0]))] := hD
  refine lv_aload_n hx hb dX9_init_9 rfl (lv_at hl 0 rfl) ?_
  refine lv_iload_n hx hb dX9_init_10 rfl (lv_at hl 2 rfl) ?_
  refine va_putF (D := gD G) (ci := 9) (v := .int v2) (ty := .int) (C := RX9) (T := TX9) (N := 4) hx hb hts inTX9 tyX9 tyX9_ok nmX9 hown hK hP hD hS 0 rfl rfl 1 (by decide) (hts _ tw_323) (fun _ h9 => h9) rfl hin rfl (by decide +kernel) rfl rfl (Nat.le_of_ble_eq_true rfl) dX9_init_11 (fun H locs hP hD hS => ?_)
  have hP : va_P (gD G) vwCl [(q_, .inr (9, [.int v1, .int v2, .int 0, .int 0]))] H := hP
  have hD : va_D (fun x_ => x_ = q_) [(q_, .inr (9, [.int v1, .int v2, .int 0, .int 0]))] := hD
  refine lv_aload_n hx hb dX9_init_14 rfl (lv_at hl 0 rfl) ?_
  refine lv_iload_n hx hb dX9_init_15 rfl (lv_at hl 3 rfl) ?_
  refine va_putF (D := gD G) (ci := 9) (v := .int v3) (ty := .int) (C := RX9) (T := TX9) (N := 4) hx hb hts inTX9 tyX9 tyX9_ok nmX9 hown hK hP hD hS 0 rfl rfl 2 (by decide) (hts _ tw_325) (fun _ h9 => h9) rfl hin rfl (by decide +kernel) rfl rfl (Nat.le_of_ble_eq_true rfl) dX9_init_16 (fun H locs hP hD hS => ?_)
  have hP : va_P (gD G) vwCl [(q_, .inr (9, [.int v1, .int v2, .int v3, .int 0]))] H := hP
  have hD : va_D (fun x_ => x_ = q_) [(q_, .inr (9, [.int v1, .int v2, .int v3, .int 0]))] := hD
  refine lv_aload_n hx hb dX9_init_19 rfl (lv_at hl 0 rfl) ?_
  refine lv_iload hx hb dX9_init_20 (lv_at hl 4 rfl) ?_
  refine va_putF (D := gD G) (ci := 9) (v := .int v4) (ty := .int) (C := RX9) (T := TX9) (N := 4) hx hb hts inTX9 tyX9 tyX9_ok nmX9 hown hK hP hD hS 0 rfl rfl 3 (by decide) (hts _ tw_331) (fun _ h9 => h9) rfl hin rfl (by decide +kernel) rfl rfl (Nat.le_of_ble_eq_true rfl) dX9_init_22 (fun H locs hP hD hS => ?_)
  have hP : va_P (gD G) vwCl [(q_, .inr (9, [.int v1, .int v2, .int v3, .int v4]))] H := hP
  have hD : va_D (fun x_ => x_ = q_) [(q_, .inr (9, [.int v1, .int v2, .int v3, .int v4]))] := hD
  exact W.vret hx hb hr (fun t ht hW => ⟨⟨(), rfl, trivial, by show va_P _ _ _ t.heap; rw [ht]; exact hP⟩, hS.F ht⟩) hS.2.2 dX9_init_25
set_option maxRecDepth 100000 in
set_option maxHeartbeats 4000000 in
theorem c_init_X9_1 (l : Launch) (G : owG) (q_ : Nat) (v1 v2 v3 v4 : Int32) : Met l yX9_init (owWs yX9_init cX9_init 5 none) (rmk 1 0 0) (va_Pc [.ref q_, .int v1, .int v2, .int v3, .int v4] (fun U => va_P (gD G) vwCl [(q_, .inr (8, [.int 0, .int 0, .int 0, .int 0]))] U.heap ∧ va_K (gD G) vwCl (gty G) U)) (va_Qv (fun _ : Unit => True) (fun _ t_ => va_P (gD G) vwCl [(q_, .inr (8, [.int v1, .int v2, .int v3, .int v4]))] t_.heap) (fun x_ => x_ = q_)) 0 0 (fun x_ => x_ = q_) := by
  refine Met.ofW (cc := cX9_init) (maxL := 5) (ret := none) (by decide +kernel) rfl ?_
  intro p e s m args below meth c s₁ B0 hml hv
  obtain ⟨rfl, hP, hK⟩ := hv
  have hx := B0.exec
  have hb := B0.bytes
  have hr := B0.returns
  have hts : ∀ w ∈ owTB, w.before _ s = true := fun w h => atoms_spec (ws := owWs yX9_init cX9_init 5 none) B0.pre w (List.mem_cons_of_mem _ h)
  have hown : s.vm.findClass RX9 = some m.cls := findClass_of_methodNamed B0.named
  have hin : meth.name = "<init>" := (name_of_methodNamed B0.named B0.method).1
  have hD : va_D (fun x_ => x_ = q_) [(q_, .inr (8, [.int 0, .int 0, .int 0, .int 0]))] := va_D1 rfl
  have hS : va_S (fun x_ => x_ = q_) s.heap s.heap [] := va_S.rf
  have hl := lv_entry [.ref q_, .int v1, .int v2, .int v3, .int v4] (n := 5) (Nat.le_of_ble_eq_true rfl)
  rw [lg_entry_eq]
  generalize (lg_sl ([.ref q_, .int v1, .int v2, .int v3, .int v4]) ++ List.replicate (5 - (lg_sl ([.ref q_, .int v1, .int v2, .int v3, .int v4])).length) Slot.unset).toArray = ls at hl ⊢
  have hl : lv_has ls 5 [(0, .ref q_), (1, .int v1), (2, .int v2), (3, .int v3), (4, .int v4)] := hl
  refine lv_aload_n hx hb dX9_init_0 rfl (lv_at hl 0 rfl) ?_
  refine W.objInit hx hb hown (hts (.methodLink RX9 1 Lib.objectInit) tz_319) (hts (.instanceMethod Lib.objectInit) tz_104) (hts (.code Lib.objectInit ⟨#[0xb1]⟩ 1 none) tz_105) rfl (by rw [hml]; exact hl.1) rfl dX9_init_1 (Nat.le_of_ble_eq_true rfl) (Nat.le_of_ble_eq_true rfl) ?_
  refine W.eq (g2 := F0 m 4 ls []) rfl ?_
  refine lv_aload_n hx hb dX9_init_4 rfl (lv_at hl 0 rfl) ?_
  refine lv_iload_n hx hb dX9_init_5 rfl (lv_at hl 1 rfl) ?_
  refine va_putF (D := gD G) (ci := 8) (v := .int v1) (ty := .int) (C := RX8) (T := TX8) (N := 4) hx hb hts inTX8 tyX8 tyX8_ok nmX8 hown hK hP hD hS 0 rfl rfl 0 (by decide) (hts _ tw_320) (fun _ h9 => h9) rfl hin rfl (by decide +kernel) rfl rfl (Nat.le_of_ble_eq_true rfl) dX9_init_6 (fun H locs hP hD hS => ?_)
  have hP : va_P (gD G) vwCl [(q_, .inr (8, [.int v1, .int 0, .int 0, .int 0]))] H := hP
  have hD : va_D (fun x_ => x_ = q_) [(q_, .inr (8, [.int v1, .int 0, .int 0, .int 0]))] := hD
  refine lv_aload_n hx hb dX9_init_9 rfl (lv_at hl 0 rfl) ?_
  refine lv_iload_n hx hb dX9_init_10 rfl (lv_at hl 2 rfl) ?_
  refine va_putF (D := gD G) (ci := 8) (v := .int v2) (ty := .int) (C := RX8) (T := TX8) (N := 4) hx hb hts inTX8 tyX8 tyX8_ok nmX8 hown hK hP hD hS 0 rfl rfl 1 (by decide) (hts _ tw_323) (fun _ h9 => h9) rfl hin rfl (by decide +kernel) rfl rfl (Nat.le_of_ble_eq_true rfl) dX9_init_11 (fun H locs hP hD hS => ?_)
  have hP : va_P (gD G) vwCl [(q_, .inr (8, [.int v1, .int v2, .int 0, .int 0]))] H := hP
  have hD : va_D (fun x_ => x_ = q_) [(q_, .inr (8, [.int v1, .int v2, .int 0, .int 0]))] := hD
  refine lv_aload_n hx hb dX9_init_14 rfl (lv_at hl 0 rfl) ?_
  refine lv_iload_n hx hb dX9_init_15 rfl (lv_at hl 3 rfl) ?_
  refine va_putF (D := gD G) (ci := 8) (v := .int v3) (ty := .int) (C := RX8) (T := TX8) (N := 4) hx hb hts inTX8 tyX8 tyX8_ok nmX8 hown hK hP hD hS 0 rfl rfl 2 (by decide) (hts _ tw_325) (fun _ h9 => h9) rfl hin rfl (by decide +kernel) rfl rfl (Nat.le_of_ble_eq_true rfl) dX9_init_16 (fun H locs hP hD hS => ?_)
  have hP : va_P (gD G) vwCl [(q_, .inr (8, [.int v1, .int v2, .int v3, .int 0]))] H := hP
  have hD : va_D (fun x_ => x_ = q_) [(q_, .inr (8, [.int v1, .int v2, .int v3, .int 0]))] := hD
  refine lv_aload_n hx hb dX9_init_19 rfl (lv_at hl 0 rfl) ?_
  refine lv_iload hx hb dX9_init_20 (lv_at hl 4 rfl) ?_
  refine va_putF (D := gD G) (ci := 8) (v := .int v4) (ty := .int) (C := RX8) (T := TX8) (N := 4) hx hb hts inTX8 tyX8 tyX8_ok nmX8 hown hK hP hD hS 0 rfl rfl 3 (by decide) (hts _ tw_331) (fun _ h9 => h9) rfl hin rfl (by decide +kernel) rfl rfl (Nat.le_of_ble_eq_true rfl) dX9_init_22 (fun H locs hP hD hS => ?_)
  have hP : va_P (gD G) vwCl [(q_, .inr (8, [.int v1, .int v2, .int v3, .int v4]))] H := hP
  have hD : va_D (fun x_ => x_ = q_) [(q_, .inr (8, [.int v1, .int v2, .int v3, .int v4]))] := hD
  exact W.vret hx hb hr (fun t ht hW => ⟨⟨(), rfl, trivial, by show va_P _ _ _ t.heap; rw [ht]; exact hP⟩, hS.F ht⟩) hS.2.2 dX9_init_25
set_option maxRecDepth 100000 in
set_option maxHeartbeats 4000000 in
theorem c_init_X9_2 (l : Launch) (G : owG) (q_ : Nat) (v1 v2 v3 v4 : Int32) : Met l yX9_init (owWs yX9_init cX9_init 5 none) (rmk 1 0 0) (va_Pc [.ref q_, .int v1, .int v2, .int v3, .int v4] (fun U => va_P (gD G) vwCl [(q_, .inr (2, [.int 0, .int 0, .int 0, .int 0]))] U.heap ∧ va_K (gD G) vwCl (gty G) U)) (va_Qv (fun _ : Unit => True) (fun _ t_ => va_P (gD G) vwCl [(q_, .inr (2, [.int v1, .int v2, .int v3, .int v4]))] t_.heap) (fun x_ => x_ = q_)) 0 0 (fun x_ => x_ = q_) := by
  refine Met.ofW (cc := cX9_init) (maxL := 5) (ret := none) (by decide +kernel) rfl ?_
  intro p e s m args below meth c s₁ B0 hml hv
  obtain ⟨rfl, hP, hK⟩ := hv
  have hx := B0.exec
  have hb := B0.bytes
  have hr := B0.returns
  have hts : ∀ w ∈ owTB, w.before _ s = true := fun w h => atoms_spec (ws := owWs yX9_init cX9_init 5 none) B0.pre w (List.mem_cons_of_mem _ h)
  have hown : s.vm.findClass RX9 = some m.cls := findClass_of_methodNamed B0.named
  have hin : meth.name = "<init>" := (name_of_methodNamed B0.named B0.method).1
  have hD : va_D (fun x_ => x_ = q_) [(q_, .inr (2, [.int 0, .int 0, .int 0, .int 0]))] := va_D1 rfl
  have hS : va_S (fun x_ => x_ = q_) s.heap s.heap [] := va_S.rf
  have hl := lv_entry [.ref q_, .int v1, .int v2, .int v3, .int v4] (n := 5) (Nat.le_of_ble_eq_true rfl)
  rw [lg_entry_eq]
  generalize (lg_sl ([.ref q_, .int v1, .int v2, .int v3, .int v4]) ++ List.replicate (5 - (lg_sl ([.ref q_, .int v1, .int v2, .int v3, .int v4])).length) Slot.unset).toArray = ls at hl ⊢
  have hl : lv_has ls 5 [(0, .ref q_), (1, .int v1), (2, .int v2), (3, .int v3), (4, .int v4)] := hl
  refine lv_aload_n hx hb dX9_init_0 rfl (lv_at hl 0 rfl) ?_
  refine W.objInit hx hb hown (hts (.methodLink RX9 1 Lib.objectInit) tz_319) (hts (.instanceMethod Lib.objectInit) tz_104) (hts (.code Lib.objectInit ⟨#[0xb1]⟩ 1 none) tz_105) rfl (by rw [hml]; exact hl.1) rfl dX9_init_1 (Nat.le_of_ble_eq_true rfl) (Nat.le_of_ble_eq_true rfl) ?_
  refine W.eq (g2 := F0 m 4 ls []) rfl ?_
  refine lv_aload_n hx hb dX9_init_4 rfl (lv_at hl 0 rfl) ?_
  refine lv_iload_n hx hb dX9_init_5 rfl (lv_at hl 1 rfl) ?_
  refine va_putF (D := gD G) (ci := 2) (v := .int v1) (ty := .int) (C := RX2) (T := TX2) (N := 4) hx hb hts inTX2 tyX2 tyX2_ok nmX2 hown hK hP hD hS 0 rfl rfl 0 (by decide) (hts _ tw_320) (fun _ h9 => h9) rfl hin rfl (by decide +kernel) rfl rfl (Nat.le_of_ble_eq_true rfl) dX9_init_6 (fun H locs hP hD hS => ?_)
  have hP : va_P (gD G) vwCl [(q_, .inr (2, [.int v1, .int 0, .int 0, .int 0]))] H := hP
  have hD : va_D (fun x_ => x_ = q_) [(q_, .inr (2, [.int v1, .int 0, .int 0, .int 0]))] := hD
  refine lv_aload_n hx hb dX9_init_9 rfl (lv_at hl 0 rfl) ?_
  refine lv_iload_n hx hb dX9_init_10 rfl (lv_at hl 2 rfl) ?_
  refine va_putF (D := gD G) (ci := 2) (v := .int v2) (ty := .int) (C := RX2) (T := TX2) (N := 4) hx hb hts inTX2 tyX2 tyX2_ok nmX2 hown hK hP hD hS 0 rfl rfl 1 (by decide) (hts _ tw_323) (fun _ h9 => h9) rfl hin rfl (by decide +kernel) rfl rfl (Nat.le_of_ble_eq_true rfl) dX9_init_11 (fun H locs hP hD hS => ?_)
  have hP : va_P (gD G) vwCl [(q_, .inr (2, [.int v1, .int v2, .int 0, .int 0]))] H := hP
  have hD : va_D (fun x_ => x_ = q_) [(q_, .inr (2, [.int v1, .int v2, .int 0, .int 0]))] := hD
  refine lv_aload_n hx hb dX9_init_14 rfl (lv_at hl 0 rfl) ?_
  refine lv_iload_n hx hb dX9_init_15 rfl (lv_at hl 3 rfl) ?_
  refine va_putF (D := gD G) (ci := 2) (v := .int v3) (ty := .int) (C := RX2) (T := TX2) (N := 4) hx hb hts inTX2 tyX2 tyX2_ok nmX2 hown hK hP hD hS 0 rfl rfl 2 (by decide) (hts _ tw_325) (fun _ h9 => h9) rfl hin rfl (by decide +kernel) rfl rfl (Nat.le_of_ble_eq_true rfl) dX9_init_16 (fun H locs hP hD hS => ?_)
  have hP : va_P (gD G) vwCl [(q_, .inr (2, [.int v1, .int v2, .int v3, .int 0]))] H := hP
  have hD : va_D (fun x_ => x_ = q_) [(q_, .inr (2, [.int v1, .int v2, .int v3, .int 0]))] := hD
  refine lv_aload_n hx hb dX9_init_19 rfl (lv_at hl 0 rfl) ?_
  refine lv_iload hx hb dX9_init_20 (lv_at hl 4 rfl) ?_
  refine va_putF (D := gD G) (ci := 2) (v := .int v4) (ty := .int) (C := RX2) (T := TX2) (N := 4) hx hb hts inTX2 tyX2 tyX2_ok nmX2 hown hK hP hD hS 0 rfl rfl 3 (by decide) (hts _ tw_331) (fun _ h9 => h9) rfl hin rfl (by decide +kernel) rfl rfl (Nat.le_of_ble_eq_true rfl) dX9_init_22 (fun H locs hP hD hS => ?_)
  have hP : va_P (gD G) vwCl [(q_, .inr (2, [.int v1, .int v2, .int v3, .int v4]))] H := hP
  have hD : va_D (fun x_ => x_ = q_) [(q_, .inr (2, [.int v1, .int v2, .int v3, .int v4]))] := hD
  exact W.vret hx hb hr (fun t ht hW => ⟨⟨(), rfl, trivial, by show va_P _ _ _ t.heap; rw [ht]; exact hP⟩, hS.F ht⟩) hS.2.2 dX9_init_25
set_option maxRecDepth 100000 in
set_option maxHeartbeats 4000000 in
theorem c_init_X9_3 (l : Launch) (G : owG) (q_ : Nat) (v1 v2 v3 v4 : Int32) : Met l yX9_init (owWs yX9_init cX9_init 5 none) (rmk 1 0 0) (va_Pc [.ref q_, .int v1, .int v2, .int v3, .int v4] (fun U => va_P (gD G) vwCl [(q_, .inr (1, [.int 0, .int 0, .int 0, .int 0]))] U.heap ∧ va_K (gD G) vwCl (gty G) U)) (va_Qv (fun _ : Unit => True) (fun _ t_ => va_P (gD G) vwCl [(q_, .inr (1, [.int v1, .int v2, .int v3, .int v4]))] t_.heap) (fun x_ => x_ = q_)) 0 0 (fun x_ => x_ = q_) := by
  refine Met.ofW (cc := cX9_init) (maxL := 5) (ret := none) (by decide +kernel) rfl ?_
  intro p e s m args below meth c s₁ B0 hml hv
  obtain ⟨rfl, hP, hK⟩ := hv
  have hx := B0.exec
  have hb := B0.bytes
  have hr := B0.returns
  have hts : ∀ w ∈ owTB, w.before _ s = true := fun w h => atoms_spec (ws := owWs yX9_init cX9_init 5 none) B0.pre w (List.mem_cons_of_mem _ h)
  have hown : s.vm.findClass RX9 = some m.cls := findClass_of_methodNamed B0.named
  have hin : meth.name = "<init>" := (name_of_methodNamed B0.named B0.method).1
  have hD : va_D (fun x_ => x_ = q_) [(q_, .inr (1, [.int 0, .int 0, .int 0, .int 0]))] := va_D1 rfl
  have hS : va_S (fun x_ => x_ = q_) s.heap s.heap [] := va_S.rf
  have hl := lv_entry [.ref q_, .int v1, .int v2, .int v3, .int v4] (n := 5) (Nat.le_of_ble_eq_true rfl)
  rw [lg_entry_eq]
  generalize (lg_sl ([.ref q_, .int v1, .int v2, .int v3, .int v4]) ++ List.replicate (5 - (lg_sl ([.ref q_, .int v1, .int v2, .int v3, .int v4])).length) Slot.unset).toArray = ls at hl ⊢
  have hl : lv_has ls 5 [(0, .ref q_), (1, .int v1), (2, .int v2), (3, .int v3), (4, .int v4)] := hl
  refine lv_aload_n hx hb dX9_init_0 rfl (lv_at hl 0 rfl) ?_
  refine W.objInit hx hb hown (hts (.methodLink RX9 1 Lib.objectInit) tz_319) (hts (.instanceMethod Lib.objectInit) tz_104) (hts (.code Lib.objectInit ⟨#[0xb1]⟩ 1 none) tz_105) rfl (by rw [hml]; exact hl.1) rfl dX9_init_1 (Nat.le_of_ble_eq_true rfl) (Nat.le_of_ble_eq_true rfl) ?_
  refine W.eq (g2 := F0 m 4 ls []) rfl ?_
  refine lv_aload_n hx hb dX9_init_4 rfl (lv_at hl 0 rfl) ?_
  refine lv_iload_n hx hb dX9_init_5 rfl (lv_at hl 1 rfl) ?_
  refine va_putF (D := gD G) (ci := 1) (v := .int v1) (ty := .int) (C := RX1) (T := TX1) (N := 4) hx hb hts inTX1 tyX1 tyX1_ok nmX1 hown hK hP hD hS 0 rfl rfl 0 (by decide) (hts _ tw_320) (fun _ h9 => h9) rfl hin rfl (by decide +kernel) rfl rfl (Nat.le_of_ble_eq_true rfl) dX9_init_6 (fun H locs hP hD hS => ?_)
  have hP : va_P (gD G) vwCl [(q_, .inr (1, [.int v1, .int 0, .int 0, .int 0]))] H := hP
  have hD : va_D (fun x_ => x_ = q_) [(q_, .inr (1, [.int v1, .int 0, .int 0, .int 0]))] := hD
  refine lv_aload_n hx hb dX9_init_9 rfl (lv_at hl 0 rfl) ?_
  refine lv_iload_n hx hb dX9_init_10 rfl (lv_at hl 2 rfl) ?_
  refine va_putF (D := gD G) (ci := 1) (v := .int v2) (ty := .int) (C := RX1) (T := TX1) (N := 4) hx hb hts inTX1 tyX1 tyX1_ok nmX1 hown hK hP hD hS 0 rfl rfl 1 (by decide) (hts _ tw_323) (fun _ h9 => h9) rfl hin rfl (by decide +kernel) rfl rfl (Nat.le_of_ble_eq_true rfl) dX9_init_11 (fun H locs hP hD hS => ?_)
  have hP : va_P (gD G) vwCl [(q_, .inr (1, [.int v1, .int v2, .int 0, .int 0]))] H := hP
  have hD : va_D (fun x_ => x_ = q_) [(q_, .inr (1, [.int v1, .int v2, .int 0, .int 0]))] := hD
  refine lv_aload_n hx hb dX9_init_14 rfl (lv_at hl 0 rfl) ?_
  refine lv_iload_n hx hb dX9_init_15 rfl (lv_at hl 3 rfl) ?_
  refine va_putF (D := gD G) (ci := 1) (v := .int v3) (ty := .int) (C := RX1) (T := TX1) (N := 4) hx hb hts inTX1 tyX1 tyX1_ok nmX1 hown hK hP hD hS 0 rfl rfl 2 (by decide) (hts _ tw_325) (fun _ h9 => h9) rfl hin rfl (by decide +kernel) rfl rfl (Nat.le_of_ble_eq_true rfl) dX9_init_16 (fun H locs hP hD hS => ?_)
  have hP : va_P (gD G) vwCl [(q_, .inr (1, [.int v1, .int v2, .int v3, .int 0]))] H := hP
  have hD : va_D (fun x_ => x_ = q_) [(q_, .inr (1, [.int v1, .int v2, .int v3, .int 0]))] := hD
  refine lv_aload_n hx hb dX9_init_19 rfl (lv_at hl 0 rfl) ?_
  refine lv_iload hx hb dX9_init_20 (lv_at hl 4 rfl) ?_
  refine va_putF (D := gD G) (ci := 1) (v := .int v4) (ty := .int) (C := RX1) (T := TX1) (N := 4) hx hb hts inTX1 tyX1 tyX1_ok nmX1 hown hK hP hD hS 0 rfl rfl 3 (by decide) (hts _ tw_331) (fun _ h9 => h9) rfl hin rfl (by decide +kernel) rfl rfl (Nat.le_of_ble_eq_true rfl) dX9_init_22 (fun H locs hP hD hS => ?_)
  have hP : va_P (gD G) vwCl [(q_, .inr (1, [.int v1, .int v2, .int v3, .int v4]))] H := hP
  have hD : va_D (fun x_ => x_ = q_) [(q_, .inr (1, [.int v1, .int v2, .int v3, .int v4]))] := hD
  exact W.vret hx hb hr (fun t ht hW => ⟨⟨(), rfl, trivial, by show va_P _ _ _ t.heap; rw [ht]; exact hP⟩, hS.F ht⟩) hS.2.2 dX9_init_25
set_option maxRecDepth 100000 in
set_option maxHeartbeats 4000000 in
theorem c_init_X9_4 (l : Launch) (G : owG) (q_ : Nat) (v1 v2 v3 v4 : Int32) : Met l yX9_init (owWs yX9_init cX9_init 5 none) (rmk 1 0 0) (va_Pc [.ref q_, .int v1, .int v2, .int v3, .int v4] (fun U => va_P (gD G) vwCl [(q_, .inr (0, [.int 0, .int 0, .int 0, .int 0]))] U.heap ∧ va_K (gD G) vwCl (gty G) U)) (va_Qv (fun _ : Unit => True) (fun _ t_ => va_P (gD G) vwCl [(q_, .inr (0, [.int v1, .int v2, .int v3, .int v4]))] t_.heap) (fun x_ => x_ = q_)) 0 0 (fun x_ => x_ = q_) := by
  refine Met.ofW (cc := cX9_init) (maxL := 5) (ret := none) (by decide +kernel) rfl ?_
  intro p e s m args below meth c s₁ B0 hml hv
  obtain ⟨rfl, hP, hK⟩ := hv
  have hx := B0.exec
  have hb := B0.bytes
  have hr := B0.returns
  have hts : ∀ w ∈ owTB, w.before _ s = true := fun w h => atoms_spec (ws := owWs yX9_init cX9_init 5 none) B0.pre w (List.mem_cons_of_mem _ h)
  have hown : s.vm.findClass RX9 = some m.cls := findClass_of_methodNamed B0.named
  have hin : meth.name = "<init>" := (name_of_methodNamed B0.named B0.method).1
  have hD : va_D (fun x_ => x_ = q_) [(q_, .inr (0, [.int 0, .int 0, .int 0, .int 0]))] := va_D1 rfl
  have hS : va_S (fun x_ => x_ = q_) s.heap s.heap [] := va_S.rf
  have hl := lv_entry [.ref q_, .int v1, .int v2, .int v3, .int v4] (n := 5) (Nat.le_of_ble_eq_true rfl)
  rw [lg_entry_eq]
  generalize (lg_sl ([.ref q_, .int v1, .int v2, .int v3, .int v4]) ++ List.replicate (5 - (lg_sl ([.ref q_, .int v1, .int v2, .int v3, .int v4])).length) Slot.unset).toArray = ls at hl ⊢
  have hl : lv_has ls 5 [(0, .ref q_), (1, .int v1), (2, .int v2), (3, .int v3), (4, .int v4)] := hl
  refine lv_aload_n hx hb dX9_init_0 rfl (lv_at hl 0 rfl) ?_
  refine W.objInit hx hb hown (hts (.methodLink RX9 1 Lib.objectInit) tz_319) (hts (.instanceMethod Lib.objectInit) tz_104) (hts (.code Lib.objectInit ⟨#[0xb1]⟩ 1 none) tz_105) rfl (by rw [hml]; exact hl.1) rfl dX9_init_1 (Nat.le_of_ble_eq_true rfl) (Nat.le_of_ble_eq_true rfl) ?_
  refine W.eq (g2 := F0 m 4 ls []) rfl ?_
  refine lv_aload_n hx hb dX9_init_4 rfl (lv_at hl 0 rfl) ?_
  refine lv_iload_n hx hb dX9_init_5 rfl (lv_at hl 1 rfl) ?_
  refine va_putF (D := gD G) (ci := 0) (v := .int v1) (ty := .int) (C := RX0) (T := TX0) (N := 4) hx hb hts inTX0 tyX0 tyX0_ok nmX0 hown hK hP hD hS 0 rfl rfl 0 (by decide) (hts _ tw_320) (fun _ h9 => h9) rfl hin rfl (by decide +kernel) rfl rfl (Nat.le_of_ble_eq_true rfl) dX9_init_6 (fun H locs hP hD hS => ?_)
  have hP : va_P (gD G) vwCl [(q_, .inr (0, [.int v1, .int 0, .int 0, .int 0]))] H := hP
  have hD : va_D (fun x_ => x_ = q_) [(q_, .inr (0, [.int v1, .int 0, .int 0, .int 0]))] := hD
  refine lv_aload_n hx hb dX9_init_9 rfl (lv_at hl 0 rfl) ?_
  refine lv_iload_n hx hb dX9_init_10 rfl (lv_at hl 2 rfl) ?_
  refine va_putF (D := gD G) (ci := 0) (v := .int v2) (ty := .int) (C := RX0) (T := TX0) (N := 4) hx hb hts inTX0 tyX0 tyX0_ok nmX0 hown hK hP hD hS 0 rfl rfl 1 (by decide) (hts _ tw_323) (fun _ h9 => h9) rfl hin rfl (by decide +kernel) rfl rfl (Nat.le_of_ble_eq_true rfl) dX9_init_11 (fun H locs hP hD hS => ?_)
  have hP : va_P (gD G) vwCl [(q_, .inr (0, [.int v1, .int v2, .int 0, .int 0]))] H := hP
  have hD : va_D (fun x_ => x_ = q_) [(q_, .inr (0, [.int v1, .int v2, .int 0, .int 0]))] := hD
  refine lv_aload_n hx hb dX9_init_14 rfl (lv_at hl 0 rfl) ?_
  refine lv_iload_n hx hb dX9_init_15 rfl (lv_at hl 3 rfl) ?_
  refine va_putF (D := gD G) (ci := 0) (v := .int v3) (ty := .int) (C := RX0) (T := TX0) (N := 4) hx hb hts inTX0 tyX0 tyX0_ok nmX0 hown hK hP hD hS 0 rfl rfl 2 (by decide) (hts _ tw_325) (fun _ h9 => h9) rfl hin rfl (by decide +kernel) rfl rfl (Nat.le_of_ble_eq_true rfl) dX9_init_16 (fun H locs hP hD hS => ?_)
  have hP : va_P (gD G) vwCl [(q_, .inr (0, [.int v1, .int v2, .int v3, .int 0]))] H := hP
  have hD : va_D (fun x_ => x_ = q_) [(q_, .inr (0, [.int v1, .int v2, .int v3, .int 0]))] := hD
  refine lv_aload_n hx hb dX9_init_19 rfl (lv_at hl 0 rfl) ?_
  refine lv_iload hx hb dX9_init_20 (lv_at hl 4 rfl) ?_
  refine va_putF (D := gD G) (ci := 0) (v := .int v4) (ty := .int) (C := RX0) (T := TX0) (N := 4) hx hb hts inTX0 tyX0 tyX0_ok nmX0 hown hK hP hD hS 0 rfl rfl 3 (by decide) (hts _ tw_331) (fun _ h9 => h9) rfl hin rfl (by decide +kernel) rfl rfl (Nat.le_of_ble_eq_true rfl) dX9_init_22 (fun H locs hP hD hS => ?_)
  have hP : va_P (gD G) vwCl [(q_, .inr (0, [.int v1, .int v2, .int v3, .int v4]))] H := hP
  have hD : va_D (fun x_ => x_ = q_) [(q_, .inr (0, [.int v1, .int v2, .int v3, .int v4]))] := hD
  exact W.vret hx hb hr (fun t ht hW => ⟨⟨(), rfl, trivial, by show va_P _ _ _ t.heap; rw [ht]; exact hP⟩, hS.F ht⟩) hS.2.2 dX9_init_25
set_option maxRecDepth 100000 in
set_option maxHeartbeats 4000000 in
theorem c_init_X9_5 (l : Launch) (G : owG) (q_ : Nat) (v1 v2 v3 v4 : Int32) : Met l yX9_init (owWs yX9_init cX9_init 5 none) (rmk 1 0 0) (va_Pc [.ref q_, .int v1, .int v2, .int v3, .int v4] (fun U => va_P (gD G) vwCl [(q_, .inr (10, [.int 0, .int 0, .int 0, .int 0]))] U.heap ∧ va_K (gD G) vwCl (gty G) U)) (va_Qv (fun _ : Unit => True) (fun _ t_ => va_P (gD G) vwCl [(q_, .inr (10, [.int v1, .int v2, .int v3, .int v4]))] t_.heap) (fun x_ => x_ = q_)) 0 0 (fun x_ => x_ = q_) := by
  refine Met.ofW (cc := cX9_init) (maxL := 5) (ret := none) (by decide +kernel) rfl ?_
  intro p e s m args below meth c s₁ B0 hml hv
  obtain ⟨rfl, hP, hK⟩ := hv
  have hx := B0.exec
  have hb := B0.bytes
  have hr := B0.returns
  have hts : ∀ w ∈ owTB, w.before _ s = true := fun w h => atoms_spec (ws := owWs yX9_init cX9_init 5 none) B0.pre w (List.mem_cons_of_mem _ h)
  have hown : s.vm.findClass RX9 = some m.cls := findClass_of_methodNamed B0.named
  have hin : meth.name = "<init>" := (name_of_methodNamed B0.named B0.method).1
  have hD : va_D (fun x_ => x_ = q_) [(q_, .inr (10, [.int 0, .int 0, .int 0, .int 0]))] := va_D1 rfl
  have hS : va_S (fun x_ => x_ = q_) s.heap s.heap [] := va_S.rf
  have hl := lv_entry [.ref q_, .int v1, .int v2, .int v3, .int v4] (n := 5) (Nat.le_of_ble_eq_true rfl)
  rw [lg_entry_eq]
  generalize (lg_sl ([.ref q_, .int v1, .int v2, .int v3, .int v4]) ++ List.replicate (5 - (lg_sl ([.ref q_, .int v1, .int v2, .int v3, .int v4])).length) Slot.unset).toArray = ls at hl ⊢
  have hl : lv_has ls 5 [(0, .ref q_), (1, .int v1), (2, .int v2), (3, .int v3), (4, .int v4)] := hl
  refine lv_aload_n hx hb dX9_init_0 rfl (lv_at hl 0 rfl) ?_
  refine W.objInit hx hb hown (hts (.methodLink RX9 1 Lib.objectInit) tz_319) (hts (.instanceMethod Lib.objectInit) tz_104) (hts (.code Lib.objectInit ⟨#[0xb1]⟩ 1 none) tz_105) rfl (by rw [hml]; exact hl.1) rfl dX9_init_1 (Nat.le_of_ble_eq_true rfl) (Nat.le_of_ble_eq_true rfl) ?_
  refine W.eq (g2 := F0 m 4 ls []) rfl ?_
  refine lv_aload_n hx hb dX9_init_4 rfl (lv_at hl 0 rfl) ?_
  refine lv_iload_n hx hb dX9_init_5 rfl (lv_at hl 1 rfl) ?_
  refine va_putF (D := gD G) (ci := 10) (v := .int v1) (ty := .int) (C := RX10) (T := TX10) (N := 4) hx hb hts inTX10 tyX10 tyX10_ok nmX10 hown hK hP hD hS 0 rfl rfl 0 (by decide) (hts _ tw_320) (fun _ h9 => h9) rfl hin rfl (by decide +kernel) rfl rfl (Nat.le_of_ble_eq_true rfl) dX9_init_6 (fun H locs hP hD hS => ?_)
  have hP : va_P (gD G) vwCl [(q_, .inr (10, [.int v1, .int 0, .int 0, .int 0]))] H := hP
  have hD : va_D (fun x_ => x_ = q_) [(q_, .inr (10, [.int v1, .int 0, .int 0, .int 0]))] := hD
  refine lv_aload_n hx hb dX9_init_9 rfl (lv_at hl 0 rfl) ?_
  refine lv_iload_n hx hb dX9_init_10 rfl (lv_at hl 2 rfl) ?_
  refine va_putF (D := gD G) (ci := 10) (v := .int v2) (ty := .int) (C := RX10) (T := TX10) (N := 4) hx hb hts inTX10 tyX10 tyX10_ok nmX10 hown hK hP hD hS 0 rfl rfl 1 (by decide) (hts _ tw_323) (fun _ h9 => h9) rfl hin rfl (by decide +kernel) rfl rfl (Nat.le_of_ble_eq_true rfl) dX9_init_11 (fun H locs hP hD hS => ?_)
  have hP : va_P (gD G) vwCl [(q_, .inr (10, [.int v1, .int v2, .int 0, .int 0]))] H := hP
  have hD : va_D (fun x_ => x_ = q_) [(q_, .inr (10, [.int v1, .int v2, .int 0, .int 0]))] := hD
  refine lv_aload_n hx hb dX9_init_14 rfl (lv_at hl 0 rfl) ?_
  refine lv_iload_n hx hb dX9_init_15 rfl (lv_at hl 3 rfl) ?_
  refine va_putF (D := gD G) (ci := 10) (v := .int v3) (ty := .int) (C := RX10) (T := TX10) (N := 4) hx hb hts inTX10 tyX10 tyX10_ok nmX10 hown hK hP hD hS 0 rfl rfl 2 (by decide) (hts _ tw_325) (fun _ h9 => h9) rfl hin rfl (by decide +kernel) rfl rfl (Nat.le_of_ble_eq_true rfl) dX9_init_16 (fun H locs hP hD hS => ?_)
  have hP : va_P (gD G) vwCl [(q_, .inr (10, [.int v1, .int v2, .int v3, .int 0]))] H := hP
  have hD : va_D (fun x_ => x_ = q_) [(q_, .inr (10, [.int v1, .int v2, .int v3, .int 0]))] := hD
  refine lv_aload_n hx hb dX9_init_19 rfl (lv_at hl 0 rfl) ?_
  refine lv_iload hx hb dX9_init_20 (lv_at hl 4 rfl) ?_
  refine va_putF (D := gD G) (ci := 10) (v := .int v4) (ty := .int) (C := RX10) (T := TX10) (N := 4) hx hb hts inTX10 tyX10 tyX10_ok nmX10 hown hK hP hD hS 0 rfl rfl 3 (by decide) (hts _ tw_331) (fun _ h9 => h9) rfl hin rfl (by decide +kernel) rfl rfl (Nat.le_of_ble_eq_true rfl) dX9_init_22 (fun H locs hP hD hS => ?_)
  have hP : va_P (gD G) vwCl [(q_, .inr (10, [.int v1, .int v2, .int v3, .int v4]))] H := hP
  have hD : va_D (fun x_ => x_ = q_) [(q_, .inr (10, [.int v1, .int v2, .int v3, .int v4]))] := hD
  exact W.vret hx hb hr (fun t ht hW => ⟨⟨(), rfl, trivial, by show va_P _ _ _ t.heap; rw [ht]; exact hP⟩, hS.F ht⟩) hS.2.2 dX9_init_25
set_option maxRecDepth 100000 in
set_option maxHeartbeats 4000000 in
theorem c_init_X9_6 (l : Launch) (G : owG) (q_ : Nat) (v1 v2 v3 v4 : Int32) : Met l yX9_init (owWs yX9_init cX9_init 5 none) (rmk 1 0 0) (va_Pc [.ref q_, .int v1, .int v2, .int v3, .int v4] (fun U => va_P (gD G) vwCl [(q_, .inr (4, [.int 0, .int 0, .int 0, .int 0]))] U.heap ∧ va_K (gD G) vwCl (gty G) U)) (va_Qv (fun _ : Unit => True) (fun _ t_ => va_P (gD G) vwCl [(q_, .inr (4, [.int v1, .int v2, .int v3, .int v4]))] t_.heap) (fun x_ => x_ = q_)) 0 0 (fun x_ => x_ = q_) := by
  refine Met.ofW (cc := cX9_init) (maxL := 5) (ret := none) (by decide +kernel) rfl ?_
  intro p e s m args below meth c s₁ B0 hml hv
  obtain ⟨rfl, hP, hK⟩ := hv
  have hx := B0.exec
  have hb := B0.bytes
  have hr := B0.returns
  have hts : ∀ w ∈ owTB, w.before _ s = true := fun w h => atoms_spec (ws := owWs yX9_init cX9_init 5 none) B0.pre w (List.mem_cons_of_mem _ h)
  have hown : s.vm.findClass RX9 = some m.cls := findClass_of_methodNamed B0.named
  have hin : meth.name = "<init>" := (name_of_methodNamed B0.named B0.method).1
  have hD : va_D (fun x_ => x_ = q_) [(q_, .inr (4, [.int 0, .int 0, .int 0, .int 0]))] := va_D1 rfl
  have hS : va_S (fun x_ => x_ = q_) s.heap s.heap [] := va_S.rf
  have hl := lv_entry [.ref q_, .int v1, .int v2, .int v3, .int v4] (n := 5) (Nat.le_of_ble_eq_true rfl)
  rw [lg_entry_eq]
  generalize (lg_sl ([.ref q_, .int v1, .int v2, .int v3, .int v4]) ++ List.replicate (5 - (lg_sl ([.ref q_, .int v1, .int v2, .int v3, .int v4])).length) Slot.unset).toArray = ls at hl ⊢
  have hl : lv_has ls 5 [(0, .ref q_), (1, .int v1), (2, .int v2), (3, .int v3), (4, .int v4)] := hl
  refine lv_aload_n hx hb dX9_init_0 rfl (lv_at hl 0 rfl) ?_
  refine W.objInit hx hb hown (hts (.methodLink RX9 1 Lib.objectInit) tz_319) (hts (.instanceMethod Lib.objectInit) tz_104) (hts (.code Lib.objectInit ⟨#[0xb1]⟩ 1 none) tz_105) rfl (by rw [hml]; exact hl.1) rfl dX9_init_1 (Nat.le_of_ble_eq_true rfl) (Nat.le_of_ble_eq_true rfl) ?_
  refine W.eq (g2 := F0 m 4 ls []) rfl ?_
  refine lv_aload_n hx hb dX9_init_4 rfl (lv_at hl 0 rfl) ?_
  refine lv_iload_n hx hb dX9_init_5 rfl (lv_at hl 1 rfl) ?_
  refine va_putF (D := gD G) (ci := 4) (v := .int v1) (ty := .int) (C := RX4) (T := TX4) (N := 4) hx hb hts inTX4 tyX4 tyX4_ok nmX4 hown hK hP hD hS 0 rfl rfl 0 (by decide) (hts _ tw_320) (fun _ h9 => h9) rfl hin rfl (by decide +kernel) rfl rfl (Nat.le_of_ble_eq_true rfl) dX9_init_6 (fun H locs hP hD hS => ?_)
  have hP : va_P (gD G) vwCl [(q_, .inr (4, [.int v1, .int 0, .int 0, .int 0]))] H := hP
  have hD : va_D (fun x_ => x_ = q_) [(q_, .inr (4, [.int v1, .int 0, .int 0, .int 0]))] := hD
  refine lv_aload_n hx hb dX9_init_9 rfl (lv_at hl 0 rfl) ?_
  refine lv_iload_n hx hb dX9_init_10 rfl (lv_at hl 2 rfl) ?_
  refine va_putF (D := gD G) (ci := 4) (v := .int v2) (ty := .int) (C := RX4) (T := TX4) (N := 4) hx hb hts inTX4 tyX4 tyX4_ok nmX4 hown hK hP hD hS 0 rfl rfl 1 (by decide) (hts _ tw_323) (fun _ h9 => h9) rfl hin rfl (by decide +kernel) rfl rfl (Nat.le_of_ble_eq_true rfl) dX9_init_11 (fun H locs hP hD hS => ?_)
  have hP : va_P (gD G) vwCl [(q_, .inr (4, [.int v1, .int v2, .int 0, .int 0]))] H := hP
  have hD : va_D (fun x_ => x_ = q_) [(q_, .inr (4, [.int v1, .int v2, .int 0, .int 0]))] := hD
  refine lv_aload_n hx hb dX9_init_14 rfl (lv_at hl 0 rfl) ?_
  refine lv_iload_n hx hb dX9_init_15 rfl (lv_at hl 3 rfl) ?_
  refine va_putF (D := gD G) (ci := 4) (v := .int v3) (ty := .int) (C := RX4) (T := TX4) (N := 4) hx hb hts inTX4 tyX4 tyX4_ok nmX4 hown hK hP hD hS 0 rfl rfl 2 (by decide) (hts _ tw_325) (fun _ h9 => h9) rfl hin rfl (by decide +kernel) rfl rfl (Nat.le_of_ble_eq_true rfl) dX9_init_16 (fun H locs hP hD hS => ?_)
  have hP : va_P (gD G) vwCl [(q_, .inr (4, [.int v1, .int v2, .int v3, .int 0]))] H := hP
  have hD : va_D (fun x_ => x_ = q_) [(q_, .inr (4, [.int v1, .int v2, .int v3, .int 0]))] := hD
  refine lv_aload_n hx hb dX9_init_19 rfl (lv_at hl 0 rfl) ?_
  refine lv_iload hx hb dX9_init_20 (lv_at hl 4 rfl) ?_
  refine va_putF (D := gD G) (ci := 4) (v := .int v4) (ty := .int) (C := RX4) (T := TX4) (N := 4) hx hb hts inTX4 tyX4 tyX4_ok nmX4 hown hK hP hD hS 0 rfl rfl 3 (by decide) (hts _ tw_331) (fun _ h9 => h9) rfl hin rfl (by decide +kernel) rfl rfl (Nat.le_of_ble_eq_true rfl) dX9_init_22 (fun H locs hP hD hS => ?_)
  have hP : va_P (gD G) vwCl [(q_, .inr (4, [.int v1, .int v2, .int v3, .int v4]))] H := hP
  have hD : va_D (fun x_ => x_ = q_) [(q_, .inr (4, [.int v1, .int v2, .int v3, .int v4]))] := hD
  exact W.vret hx hb hr (fun t ht hW => ⟨⟨(), rfl, trivial, by show va_P _ _ _ t.heap; rw [ht]; exact hP⟩, hS.F ht⟩) hS.2.2 dX9_init_25
set_option maxRecDepth 100000 in
set_option maxHeartbeats 4000000 in
theorem c_init_X9_7 (l : Launch) (G : owG) (q_ : Nat) (v1 v2 v3 v4 : Int32) : Met l yX9_init (owWs yX9_init cX9_init 5 none) (rmk 1 0 0) (va_Pc [.ref q_, .int v1, .int v2, .int v3, .int v4] (fun U => va_P (gD G) vwCl [(q_, .inr (7, [.int 0, .int 0, .int 0, .int 0]))] U.heap ∧ va_K (gD G) vwCl (gty G) U)) (va_Qv (fun _ : Unit => True) (fun _ t_ => va_P (gD G) vwCl [(q_, .inr (7, [.int v1, .int v2, .int v3, .int v4]))] t_.heap) (fun x_ => x_ = q_)) 0 0 (fun x_ => x_ = q_) := by
  refine Met.ofW (cc := cX9_init) (maxL := 5) (ret := none) (by decide +kernel) rfl ?_
  intro p e s m args below meth c s₁ B0 hml hv
  obtain ⟨rfl, hP, hK⟩ := hv
  have hx := B0.exec
  have hb := B0.bytes
  have hr := B0.returns
  have hts : ∀ w ∈ owTB, w.before _ s = true := fun w h => atoms_spec (ws := owWs yX9_init cX9_init 5 none) B0.pre w (List.mem_cons_of_mem _ h)
  have hown : s.vm.findClass RX9 = some m.cls := findClass_of_methodNamed B0.named
  have hin : meth.name = "<init>" := (name_of_methodNamed B0.named B0.method).1
  have hD : va_D (fun x_ => x_ = q_) [(q_, .inr (7, [.int 0, .int 0, .int 0, .int 0]))] := va_D1 rfl
  have hS : va_S (fun x_ => x_ = q_) s.heap s.heap [] := va_S.rf
  have hl := lv_entry [.ref q_, .int v1, .int v2, .int v3, .int v4] (n := 5) (Nat.le_of_ble_eq_true rfl)
  rw [lg_entry_eq]
  generalize (lg_sl ([.ref q_, .int v1, .int v2, .int v3, .int v4]) ++ List.replicate (5 - (lg_sl ([.ref q_, .int v1, .int v2, .int v3, .int v4])).length) Slot.unset).toArray = ls at hl ⊢
  have hl : lv_has ls 5 [(0, .ref q_), (1, .int v1), (2, .int v2), (3, .int v3), (4, .int v4)] := hl
  refine lv_aload_n hx hb dX9_init_0 rfl (lv_at hl 0 rfl) ?_
  refine W.objInit hx hb hown (hts (.methodLink RX9 1 Lib.objectInit) tz_319) (hts (.instanceMethod Lib.objectInit) tz_104) (hts (.code Lib.objectInit ⟨#[0xb1]⟩ 1 none) tz_105) rfl (by rw [hml]; exact hl.1) rfl dX9_init_1 (Nat.le_of_ble_eq_true rfl) (Nat.le_of_ble_eq_true rfl) ?_
  refine W.eq (g2 := F0 m 4 ls []) rfl ?_
  refine lv_aload_n hx hb dX9_init_4 rfl (lv_at hl 0 rfl) ?_
  refine lv_iload_n hx hb dX9_init_5 rfl (lv_at hl 1 rfl) ?_
  refine va_putF (D := gD G) (ci := 7) (v := .int v1) (ty := .int) (C := RX7) (T := TX7) (N := 4) hx hb hts inTX7 tyX7 tyX7_ok nmX7 hown hK hP hD hS 0 rfl rfl 0 (by decide) (hts _ tw_320) (fun _ h9 => h9) rfl hin rfl (by decide +kernel) rfl rfl (Nat.le_of_ble_eq_true rfl) dX9_init_6 (fun H locs hP hD hS => ?_)
  have hP : va_P (gD G) vwCl [(q_, .inr (7, [.int v1, .int 0, .int 0, .int 0]))] H := hP
  have hD : va_D (fun x_ => x_ = q_) [(q_, .inr (7, [.int v1, .int 0, .int 0, .int 0]))] := hD
  refine lv_aload_n hx hb dX9_init_9 rfl (lv_at hl 0 rfl) ?_
  refine lv_iload_n hx hb dX9_init_10 rfl (lv_at hl 2 rfl) ?_
  refine va_putF (D := gD G) (ci := 7) (v := .int v2) (ty := .int) (C := RX7) (T := TX7) (N := 4) hx hb hts inTX7 tyX7 tyX7_ok nmX7 hown hK hP hD hS 0 rfl rfl 1 (by decide) (hts _ tw_323) (fun _ h9 => h9) rfl hin rfl (by decide +kernel) rfl rfl (Nat.le_of_ble_eq_true rfl) dX9_init_11 (fun H locs hP hD hS => ?_)
  have hP : va_P (gD G) vwCl [(q_, .inr (7, [.int v1, .int v2, .int 0, .int 0]))] H := hP
  have hD : va_D (fun x_ => x_ = q_) [(q_, .inr (7, [.int v1, .int v2, .int 0, .int 0]))] := hD
  refine lv_aload_n hx hb dX9_init_14 rfl (lv_at hl 0 rfl) ?_
  refine lv_iload_n hx hb dX9_init_15 rfl (lv_at hl 3 rfl) ?_
  refine va_putF (D := gD G) (ci := 7) (v := .int v3) (ty := .int) (C := RX7) (T := TX7) (N := 4) hx hb hts inTX7 tyX7 tyX7_ok nmX7 hown hK hP hD hS 0 rfl rfl 2 (by decide) (hts _ tw_325) (fun _ h9 => h9) rfl hin rfl (by decide +kernel) rfl rfl (Nat.le_of_ble_eq_true rfl) dX9_init_16 (fun H locs hP hD hS => ?_)
  have hP : va_P (gD G) vwCl [(q_, .inr (7, [.int v1, .int v2, .int v3, .int 0]))] H := hP
  have hD : va_D (fun x_ => x_ = q_) [(q_, .inr (7, [.int v1, .int v2, .int v3, .int 0]))] := hD
  refine lv_aload_n hx hb dX9_init_19 rfl (lv_at hl 0 rfl) ?_
  refine lv_iload hx hb dX9_init_20 (lv_at hl 4 rfl) ?_
  refine va_putF (D := gD G) (ci := 7) (v := .int v4) (ty := .int) (C := RX7) (T := TX7) (N := 4) hx hb hts inTX7 tyX7 tyX7_ok nmX7 hown hK hP hD hS 0 rfl rfl 3 (by decide) (hts _ tw_331) (fun _ h9 => h9) rfl hin rfl (by decide +kernel) rfl rfl (Nat.le_of_ble_eq_true rfl) dX9_init_22 (fun H locs hP hD hS => ?_)
  have hP : va_P (gD G) vwCl [(q_, .inr (7, [.int v1, .int v2, .int v3, .int v4]))] H := hP
  have hD : va_D (fun x_ => x_ = q_) [(q_, .inr (7, [.int v1, .int v2, .int v3, .int v4]))] := hD
  exact W.vret hx hb hr (fun t ht hW => ⟨⟨(), rfl, trivial, by show va_P _ _ _ t.heap; rw [ht]; exact hP⟩, hS.F ht⟩) hS.2.2 dX9_init_25
set_option maxRecDepth 100000 in
set_option maxHeartbeats 4000000 in
theorem c_init_X8_1 (l : Launch) (G : owG) (q_ : Nat) (v1 v2 v3 v4 : Int32) : Met l yX8_init (owWs yX8_init cX8_init 5 none) (rmk 2 0 0) (va_Pc [.ref q_, .int v1, .int v2, .int v3, .int v4] (fun U => va_P (gD G) vwCl [(q_, .inr (8, [.int 0, .int 0, .int 0, .int 0]))] U.heap ∧ va_K (gD G) vwCl (gty G) U)) (va_Qv (fun _ : Unit => True) (fun _ t_ => va_P (gD G) vwCl [(q_, .inr (8, [.int v1, .int v2, .int v3, .int v4]))] t_.heap) (fun x_ => x_ = q_)) 0 0 (fun x_ => x_ = q_) := by
  refine Met.ofW (cc := cX8_init) (maxL := 5) (ret := none) (by decide +kernel) rfl ?_
  intro p e s m args below meth c s₁ B0 hml hv
  obtain ⟨rfl, hP, hK⟩ := hv
  have hx := B0.exec
  have hb := B0.bytes
  have hr := B0.returns
  have hts : ∀ w ∈ owTB, w.before _ s = true := fun w h => atoms_spec (ws := owWs yX8_init cX8_init 5 none) B0.pre w (List.mem_cons_of_mem _ h)
  have hown : s.vm.findClass RX8 = some m.cls := findClass_of_methodNamed B0.named
  have hin : meth.name = "<init>" := (name_of_methodNamed B0.named B0.method).1
  have hD : va_D (fun x_ => x_ = q_) [(q_, .inr (8, [.int 0, .int 0, .int 0, .int 0]))] := va_D1 rfl
  have hS : va_S (fun x_ => x_ = q_) s.heap s.heap [] := va_S.rf
  have hl := lv_entry [.ref q_, .int v1, .int v2, .int v3, .int v4] (n := 5) (Nat.le_of_ble_eq_true rfl)
  rw [lg_entry_eq]
  generalize (lg_sl ([.ref q_, .int v1, .int v2, .int v3, .int v4]) ++ List.replicate (5 - (lg_sl ([.ref q_, .int v1, .int v2, .int v3, .int v4])).length) Slot.unset).toArray = ls at hl ⊢
  have hl : lv_has ls 5 [(0, .ref q_), (1, .int v1), (2, .int v2), (3, .int v3), (4, .int v4)] := hl
  refine lv_aload_n hx hb dX8_init_0 rfl (lv_at hl 0 rfl) ?_
  refine lv_iload_n hx hb dX8_init_1 rfl (lv_at hl 1 rfl) ?_
  refine lv_iload_n hx hb dX8_init_2 rfl (lv_at hl 2 rfl) ?_
  refine lv_iload_n hx hb dX8_init_3 rfl (lv_at hl 3 rfl) ?_
  refine lv_iload hx hb dX8_init_4 (lv_at hl 4 rfl) ?_
  refine va_callv (va_runI (As := [.int v1, .int v2, .int v3, .int v4]) (rest := []) ⟨hx, hb, hml, hown, hts⟩ (c_init_X9_1 l G q_ v1 v2 v3 v4) ⟨⟨rfl, rfl, Nat.le_of_ble_eq_true rfl, Nat.le_of_ble_eq_true rfl, pay_in hts (owGood tz_318), List.mem_cons_self, hts _ tz_318, hts _ tw_81, ⟨by decide +kernel, by decide +kernel⟩, fun sig h => ?_, hts _ tz_348⟩, rfl, hts _ tz_317⟩ ⟨fun a U g mk q => by obtain ⟨q0, qP, qK⟩ := q; exact ⟨q0, qP, va_K.moved (u := U) (U := U.calling g mk a) (Vm.Alike.refl U.vm) qK⟩, fun U hU hW => ⟨rfl, by rw [hU]; exact hP, va_K.moved hW.alike hK⟩⟩ rfl rfl hl.1 rfl (lv_room (Nat.le_of_ble_eq_true rfl)) dX8_init_6 ⟨Nat.le_refl _, Nat.le_refl _⟩) hS (fun q_ _ h => h) (fun q_ h => h) (fun u t H1 locs1 ht hvm h5 hB hz1 hk1 hS => ?_)
  · have w8 : (parseMethodDescriptor yX9_init.desc).map (fun d => d.parameters.length) = some 4 := by decide +kernel
    rw [h] at w8
    exact (Option.some.inj w8).symm
  have hB : va_P (gD G) vwCl [(q_, .inr (8, [.int v1, .int v2, .int v3, .int v4]))] t.heap := hB
  rw [ht] at hB
  exact W.vret hx hb hr (fun t2 ht2 hW => ⟨⟨(), rfl, trivial, by show va_P _ _ _ t2.heap; rw [ht2]; exact hB⟩, hS.F ht2⟩) hS.2.2 dX8_init_9
set_option maxRecDepth 100000 in
set_option maxHeartbeats 4000000 in
theorem c_init_X8_5 (l : Launch) (G : owG) (q_ : Nat) (v1 v2 v3 v4 : Int32) : Met l yX8_init (owWs yX8_init cX8_init 5 none) (rmk 2 0 0) (va_Pc [.ref q_, .int v1, .int v2, .int v3, .int v4] (fun U => va_P (gD G) vwCl [(q_, .inr (10, [.int 0, .int 0, .int 0, .int 0]))] U.heap ∧ va_K (gD G) vwCl (gty G) U)) (va_Qv (fun _ : Unit => True) (fun _ t_ => va_P (gD G) vwCl [(q_, .inr (10, [.int v1, .int v2, .int v3, .int v4]))] t_.heap) (fun x_ => x_ = q_)) 0 0 (fun x_ => x_ = q_) := by
  refine Met.ofW (cc := cX8_init) (maxL := 5) (ret := none) (by decide +kernel) rfl ?_
  intro p e s m args below meth c s₁ B0 hml hv
  obtain ⟨rfl, hP, hK⟩ := hv
  have hx := B0.exec
  have hb := B0.bytes
  have hr := B0.returns
  have hts : ∀ w ∈ owTB, w.before _ s = true := fun w h => atoms_spec (ws := owWs yX8_init cX8_init 5 none) B0.pre w (List.mem_cons_of_mem _ h)
  have hown : s.vm.findClass RX8 = some m.cls := findClass_of_methodNamed B0.named
  have hin : meth.name = "<init>" := (name_of_methodNamed B0.named B0.method).1
  have hD : va_D (fun x_ => x_ = q_) [(q_, .inr (10, [.int 0, .int 0, .int 0, .int 0]))] := va_D1 rfl
  have hS : va_S (fun x_ => x_ = q_) s.heap s.heap [] := va_S.rf
  have hl := lv_entry [.ref q_, .int v1, .int v2, .int v3, .int v4] (n := 5) (Nat.le_of_ble_eq_true rfl)
  rw [lg_entry_eq]
  generalize (lg_sl ([.ref q_, .int v1, .int v2, .int v3, .int v4]) ++ List.replicate (5 - (lg_sl ([.ref q_, .int v1, .int v2, .int v3, .int v4])).length) Slot.unset).toArray = ls at hl ⊢
  have hl : lv_has ls 5 [(0, .ref q_), (1, .int v1), (2, .int v2), (3, .int v3), (4, .int v4)] := hl
  refine lv_aload_n hx hb dX8_init_0 rfl (lv_at hl 0 rfl) ?_
  refine lv_iload_n hx hb dX8_init_1 rfl (lv_at hl 1 rfl) ?_
  refine lv_iload_n hx hb dX8_init_2 rfl (lv_at hl 2 rfl) ?_
  refine lv_iload_n hx hb dX8_init_3 rfl (lv_at hl 3 rfl) ?_
  refine lv_iload hx hb dX8_init_4 (lv_at hl 4 rfl) ?_
  refine va_callv (va_runI (As := [.int v1, .int v2, .int v3, .int v4]) (rest := []) ⟨hx, hb, hml, hown, hts⟩ (c_init_X9_5 l G q_ v1 v2 v3 v4) ⟨⟨rfl, rfl, Nat.le_of_ble_eq_true rfl, Nat.le_of_ble_eq_true rfl, pay_in hts (owGood tz_318), List.mem_cons_self, hts _ tz_318, hts _ tw_81, ⟨by decide +kernel, by decide +kernel⟩, fun sig h => ?_, hts _ tz_348⟩, rfl, hts _ tz_317⟩ ⟨fun a U g mk q => by obtain ⟨q0, qP, qK⟩ := q; exact ⟨q0, qP, va_K.moved (u := U) (U := U.calling g mk a) (Vm.Alike.refl U.vm) qK⟩, fun U hU hW => ⟨rfl, by rw [hU]; exact hP, va_K.moved hW.alike hK⟩⟩ rfl rfl hl.1 rfl (lv_room (Nat.le_of_ble_eq_true rfl)) dX8_init_6 ⟨Nat.le_refl _, Nat.le_refl _⟩) hS (fun q_ _ h => h) (fun q_ h => h) (fun u t H1 locs1 ht hvm h5 hB hz1 hk1 hS => ?_)
  · have w8 : (parseMethodDescriptor yX9_init.desc).map (fun d => d.parameters.length) = some 4 := by decide +kernel
    rw [h] at w8
    exact (Option.some.inj w8).symm
  have hB : va_P (gD G) vwCl [(q_, .inr (10, [.int v1, .int v2, .int v3, .int v4]))] t.heap := hB
  rw [ht] at hB
  exact W.vret hx hb hr (fun t2 ht2 hW => ⟨⟨(), rfl, trivial, by show va_P _ _ _ t2.heap; rw [ht2]; exact hB⟩, hS.F ht2⟩) hS.2.2 dX8_init_9
set_option maxRecDepth 100000 in
set_option maxHeartbeats 4000000 in
theorem c_init_X2_2 (l : Launch) (G : owG) (q_ : Nat) (v1 v2 v3 v4 : Int32) : Met l yX2_init (owWs yX2_init cX2_init 5 none) (rmk 2 0 0) (va_Pc [.ref q_, .int v1, .int v2, .int v3, .int v4] (fun U => va_P (gD G) vwCl [(q_, .inr (2, [.int 0, .int 0, .int 0, .int 0]))] U.heap ∧ va_K (gD G) vwCl (gty G) U)) (va_Qv (fun _ : Unit => True) (fun _ t_ => va_P (gD G) vwCl [(q_, .inr (2, [.int v1, .int v2, .int v3, .int v4]))] t_.heap) (fun x_ => x_ = q_)) 0 0 (fun x_ => x_ = q_) := by
  refine Met.ofW (cc := cX2_init) (maxL := 5) (ret := none) (by decide +kernel) rfl ?_
  intro p e s m args below meth c s₁ B0 hml hv
  obtain ⟨rfl, hP, hK⟩ := hv
  have hx := B0.exec
  have hb := B0.bytes
  have hr := B0.returns
  have hts : ∀ w ∈ owTB, w.before _ s = true := fun w h => atoms_spec (ws := owWs yX2_init cX2_init 5 none) B0.pre w (List.mem_cons_of_mem _ h)
  have hown : s.vm.findClass RX2 = some m.cls := findClass_of_methodNamed B0.named
  have hin : meth.name = "<init>" := (name_of_methodNamed B0.named B0.method).1
  have hD : va_D (fun x_ => x_ = q_) [(q_, .inr (2, [.int 0, .int 0, .int 0, .int 0]))] := va_D1 rfl
  have hS : va_S (fun x_ => x_ = q_) s.heap s.heap [] := va_S.rf
  have hl := lv_entry [.ref q_, .int v1, .int v2, .int v3, .int v4] (n := 5) (Nat.le_of_ble_eq_true rfl)
  rw [lg_entry_eq]
  generalize (lg_sl ([.ref q_, .int v1, .int v2, .int v3, .int v4]) ++ List.replicate (5 - (lg_sl ([.ref q_, .int v1, .int v2, .int v3, .int v4])).length) Slot.unset).toArray = ls at hl ⊢
  have hl : lv_has ls 5 [(0, .ref q_), (1, .int v1), (2, .int v2), (3, .int v3), (4, .int v4)] := hl
  refine lv_aload_n hx hb dX2_init_0 rfl (lv_at hl 0 rfl) ?_
  refine lv_iload_n hx hb dX2_init_1 rfl (lv_at hl 1 rfl) ?_
  refine lv_iload_n hx hb dX2_init_2 rfl (lv_at hl 2 rfl) ?_
  refine lv_iload_n hx hb dX2_init_3 rfl (lv_at hl 3 rfl) ?_
  refine lv_iload hx hb dX2_init_4 (lv_at hl 4 rfl) ?_
  refine va_callv (va_runI (As := [.int v1, .int v2, .int v3, .int v4]) (rest := []) ⟨hx, hb, hml, hown, hts⟩ (c_init_X9_2 l G q_ v1 v2 v3 v4) ⟨⟨rfl, rfl, Nat.le_of_ble_eq_true rfl, Nat.le_of_ble_eq_true rfl, pay_in hts (owGood tz_318), List.mem_cons_self, hts _ tz_318, hts _ tw_81, ⟨by decide +kernel, by decide +kernel⟩, fun sig h => ?_, hts _ tz_359⟩, rfl, hts _ tz_317⟩ ⟨fun a U g mk q => by obtain ⟨q0, qP, qK⟩ := q; exact ⟨q0, qP, va_K.moved (u := U) (U := U.calling g mk a) (Vm.Alike.refl U.vm) qK⟩, fun U hU hW => ⟨rfl, by rw [hU]; exact hP, va_K.moved hW.alike hK⟩⟩ rfl rfl hl.1 rfl (lv_room (Nat.le_of_ble_eq_true rfl)) dX2_init_6 ⟨Nat.le_refl _, Nat.le_refl _⟩) hS (fun q_ _ h => h) (fun q_ h => h) (fun u t H1 locs1 ht hvm h5 hB hz1 hk1 hS => ?_)
  · have w8 : (parseMethodDescriptor yX9_init.desc).map (fun d => d.parameters.length) = some 4 := by decide +kernel
    rw [h] at w8
    exact (Option.some.inj w8).symm
  have hB : va_P (gD G) vwCl [(q_, .inr (2, [.int v1, .int v2, .int v3, .int v4]))] t.heap := hB
  rw [ht] at hB
  exact W.vret hx hb hr (fun t2 ht2 hW => ⟨⟨(), rfl, trivial, by show va_P _ _ _ t2.heap; rw [ht2]; exact hB⟩, hS.F ht2⟩) hS.2.2 dX2_init_9
set_option maxRecDepth 100000 in
set_option maxHeartbeats 4000000 in
theorem c_init_X1_3 (l : Launch) (G : owG) (q_ : Nat) (v1 v2 v3 v4 : Int32) : Met l yX1_init (owWs yX1_init cX1_init 5 none) (rmk 2 0 0) (va_Pc [.ref q_, .int v1, .int v2, .int v3, .int v4] (fun U => va_P (gD G) vwCl [(q_, .inr (1, [.int 0, .int 0, .int 0, .int 0]))] U.heap ∧ va_K (gD G) vwCl (gty G) U)) (va_Qv (fun _ : Unit => True) (fun _ t_ => va_P (gD G) vwCl [(q_, .inr (1, [.int v1, .int v2, .int v3, .int v4]))] t_.heap) (fun x_ => x_ = q_)) 0 0 (fun x_ => x_ = q_) := by
  refine Met.ofW (cc := cX1_init) (maxL := 5) (ret := none) (by decide +kernel) rfl ?_
  intro p e s m args below meth c s₁ B0 hml hv
  obtain ⟨rfl, hP, hK⟩ := hv
  have hx := B0.exec
  have hb := B0.bytes
  have hr := B0.returns
  have hts : ∀ w ∈ owTB, w.before _ s = true := fun w h => atoms_spec (ws := owWs yX1_init cX1_init 5 none) B0.pre w (List.mem_cons_of_mem _ h)
  have hown : s.vm.findClass RX1 = some m.cls := findClass_of_methodNamed B0.named
  have hin : meth.name = "<init>" := (name_of_methodNamed B0.named B0.method).1
  have hD : va_D (fun x_ => x_ = q_) [(q_, .inr (1, [.int 0, .int 0, .int 0, .int 0]))] := va_D1 rfl
  have hS : va_S (fun x_ => x_ = q_) s.heap s.heap [] := va_S.rf
  have hl := lv_entry [.ref q_, .int v1, .int v2, .int v3, .int v4] (n := 5) (Nat.le_of_ble_eq_true rfl)
  rw [lg_entry_eq]
  generalize (lg_sl ([.ref q_, .int v1, .int v2, .int v3, .int v4]) ++ List.replicate (5 - (lg_sl ([.ref q_, .int v1, .int v2, .int v3, .int v4])).length) Slot.unset).toArray = ls at hl ⊢
  have hl : lv_has ls 5 [(0, .ref q_), (1, .int v1), (2, .int v2), (3, .int v3), (4, .int v4)] := hl
  refine lv_aload_n hx hb dX1_init_0 rfl (lv_at hl 0 rfl) ?_
  refine lv_iload_n hx hb dX1_init_1 rfl (lv_at hl 1 rfl) ?_
  refine lv_iload_n hx hb dX1_init_2 rfl (lv_at hl 2 rfl) ?_
  refine lv_iload_n hx hb dX1_init_3 rfl (lv_at hl 3 rfl) ?_
  refine lv_iload hx hb dX1_init_4 (lv_at hl 4 rfl) ?_
  refine va_callv (va_runI (As := [.int v1, .int v2, .int v3, .int v4]) (rest := []) ⟨hx, hb, hml, hown, hts⟩ (c_init_X9_3 l G q_ v1 v2 v3 v4) ⟨⟨rfl, rfl, Nat.le_of_ble_eq_true rfl, Nat.le_of_ble_eq_true rfl, pay_in hts (owGood tz_318), List.mem_cons_self, hts _ tz_318, hts _ tw_81, ⟨by decide +kernel, by decide +kernel⟩, fun sig h => ?_, hts _ tz_370⟩, rfl, hts _ tz_317⟩ ⟨fun a U g mk q => by obtain ⟨q0, qP, qK⟩ := q; exact ⟨q0, qP, va_K.moved (u := U) (U := U.calling g mk a) (Vm.Alike.refl U.vm) qK⟩, fun U hU hW => ⟨rfl, by rw [hU]; exact hP, va_K.moved hW.alike hK⟩⟩ rfl rfl hl.1 rfl (lv_room (Nat.le_of_ble_eq_true rfl)) dX1_init_6 ⟨Nat.le_refl _, Nat.le_refl _⟩) hS (fun q_ _ h => h) (fun q_ h => h) (fun u t H1 locs1 ht hvm h5 hB hz1 hk1 hS => ?_)
  · have w8 : (parseMethodDescriptor yX9_init.desc).map (fun d => d.parameters.length) = some 4 := by decide +kernel
    rw [h] at w8
    exact (Option.some.inj w8).symm
  have hB : va_P (gD G) vwCl [(q_, .inr (1, [.int v1, .int v2, .int v3, .int v4]))] t.heap := hB
  rw [ht] at hB
  exact W.vret hx hb hr (fun t2 ht2 hW => ⟨⟨(), rfl, trivial, by show va_P _ _ _ t2.heap; rw [ht2]; exact hB⟩, hS.F ht2⟩) hS.2.2 dX1_init_9
set_option maxRecDepth 100000 in
set_option maxHeartbeats 4000000 in
theorem c_init_X1_7 (l : Launch) (G : owG) (q_ : Nat) (v1 v2 v3 v4 : Int32) : Met l yX1_init (owWs yX1_init cX1_init 5 none) (rmk 2 0 0) (va_Pc [.ref q_, .int v1, .int v2, .int v3, .int v4] (fun U => va_P (gD G) vwCl [(q_, .inr (7, [.int 0, .int 0, .int 0, .int 0]))] U.heap ∧ va_K (gD G) vwCl (gty G) U)) (va_Qv (fun _ : Unit => True) (fun _ t_ => va_P (gD G) vwCl [(q_, .inr (7, [.int v1, .int v2, .int v3, .int v4]))] t_.heap) (fun x_ => x_ = q_)) 0 0 (fun x_ => x_ = q_) := by
  refine Met.ofW (cc := cX1_init) (maxL := 5) (ret := none) (by decide +kernel) rfl ?_
  intro p e s m args below meth c s₁ B0 hml hv
  obtain ⟨rfl, hP, hK⟩ := hv
  have hx := B0.exec
  have hb := B0.bytes
  have hr := B0.returns
  have hts : ∀ w ∈ owTB, w.before _ s = true := fun w h => atoms_spec (ws := owWs yX1_init cX1_init 5 none) B0.pre w (List.mem_cons_of_mem _ h)
  have hown : s.vm.findClass RX1 = some m.cls := findClass_of_methodNamed B0.named
  have hin : meth.name = "<init>" := (name_of_methodNamed B0.named B0.method).1
  have hD : va_D (fun x_ => x_ = q_) [(q_, .inr (7, [.int 0, .int 0, .int 0, .int 0]))] := va_D1 rfl
  have hS : va_S (fun x_ => x_ = q_) s.heap s.heap [] := va_S.rf
  have hl := lv_entry [.ref q_, .int v1, .int v2, .int v3, .int v4] (n := 5) (Nat.le_of_ble_eq_true rfl)
  rw [lg_entry_eq]
  generalize (lg_sl ([.ref q_, .int v1, .int v2, .int v3, .int v4]) ++ List.replicate (5 - (lg_sl ([.ref q_, .int v1, .int v2, .int v3, .int v4])).length) Slot.unset).toArray = ls at hl ⊢
  have hl : lv_has ls 5 [(0, .ref q_), (1, .int v1), (2, .int v2), (3, .int v3), (4, .int v4)] := hl
  refine lv_aload_n hx hb dX1_init_0 rfl (lv_at hl 0 rfl) ?_
  refine lv_iload_n hx hb dX1_init_1 rfl (lv_at hl 1 rfl) ?_
  refine lv_iload_n hx hb dX1_init_2 rfl (lv_at hl 2 rfl) ?_
  refine lv_iload_n hx hb dX1_init_3 rfl (lv_at hl 3 rfl) ?_
  refine lv_iload hx hb dX1_init_4 (lv_at hl 4 rfl) ?_
  refine va_callv (va_runI (As := [.int v1, .int v2, .int v3, .int v4]) (rest := []) ⟨hx, hb, hml, hown, hts⟩ (c_init_X9_7 l G q_ v1 v2 v3 v4) ⟨⟨rfl, rfl, Nat.le_of_ble_eq_true rfl, Nat.le_of_ble_eq_true rfl, pay_in hts (owGood tz_318), List.mem_cons_self, hts _ tz_318, hts _ tw_81, ⟨by decide +kernel, by decide +kernel⟩, fun sig h => ?_, hts _ tz_370⟩, rfl, hts _ tz_317⟩ ⟨fun a U g mk q => by obtain ⟨q0, qP, qK⟩ := q; exact ⟨q0, qP, va_K.moved (u := U) (U := U.calling g mk a) (Vm.Alike.refl U.vm) qK⟩, fun U hU hW => ⟨rfl, by rw [hU]; exact hP, va_K.moved hW.alike hK⟩⟩ rfl rfl hl.1 rfl (lv_room (Nat.le_of_ble_eq_true rfl)) dX1_init_6 ⟨Nat.le_refl _, Nat.le_refl _⟩) hS (fun q_ _ h => h) (fun q_ h => h) (fun u t H1 locs1 ht hvm h5 hB hz1 hk1 hS => ?_)
  · have w8 : (parseMethodDescriptor yX9_init.desc).map (fun d => d.parameters.length) = some 4 := by decide +kernel
    rw [h] at w8
    exact (Option.some.inj w8).symm
  have hB : va_P (gD G) vwCl [(q_, .inr (7, [.int v1, .int v2, .int v3, .int v4]))] t.heap := hB
  rw [ht] at hB
  exact W.vret hx hb hr (fun t2 ht2 hW => ⟨⟨(), rfl, trivial, by show va_P _ _ _ t2.heap; rw [ht2]; exact hB⟩, hS.F ht2⟩) hS.2.2 dX1_init_9
set_option maxRecDepth 100000 in
set_option maxHeartbeats 4000000 in
theorem c_init_X0_4 (l : Launch) (G : owG) (q_ : Nat) (v1 v2 v3 v4 : Int32) : Met l yX0_init (owWs yX0_init cX0_init 5 none) (rmk 2 0 0) (va_Pc [.ref q_, .int v1, .int v2, .int v3, .int v4] (fun U => va_P (gD G) vwCl [(q_, .inr (0, [.int 0, .int 0, .int 0, .int 0]))] U.heap ∧ va_K (gD G) vwCl (gty G) U)) (va_Qv (fun _ : Unit => True) (fun _ t_ => va_P (gD G) vwCl [(q_, .inr (0, [.int v1, .int v2, .int v3, .int v4]))] t_.heap) (fun x_ => x_ = q_)) 0 0 (fun x_ => x_ = q_) := by
  refine Met.ofW (cc := cX0_init) (maxL := 5) (ret := none) (by decide +kernel) rfl ?_
  intro p e s m args below meth c s₁ B0 hml hv
  obtain ⟨rfl, hP, hK⟩ := hv
  have hx := B0.exec
  have hb := B0.bytes
  have hr := B0.returns
  have hts : ∀ w ∈ owTB, w.before _ s = true := fun w h => atoms_spec (ws := owWs yX0_init cX0_init 5 none) B0.pre w (List.mem_cons_of_mem _ h)
  have hown : s.vm.findClass RX0 = some m.cls := findClass_of_methodNamed B0.named
  have hin : meth.name = "<init>" := (name_of_methodNamed B0.named B0.method).1
  have hD : va_D (fun x_ => x_ = q_) [(q_, .inr (0, [.int 0, .int 0, .int 0, .int 0]))] := va_D1 rfl
  have hS : va_S (fun x_ => x_ = q_) s.heap s.heap [] := va_S.rf
  have hl := lv_entry [.ref q_, .int v1, .int v2, .int v3, .int v4] (n := 5) (Nat.le_of_ble_eq_true rfl)
  rw [lg_entry_eq]
  generalize (lg_sl ([.ref q_, .int v1, .int v2, .int v3, .int v4]) ++ List.replicate (5 - (lg_sl ([.ref q_, .int v1, .int v2, .int v3, .int v4])).length) Slot.unset).toArray = ls at hl ⊢
  have hl : lv_has ls 5 [(0, .ref q_), (1, .int v1), (2, .int v2), (3, .int v3), (4, .int v4)] := hl
  refine lv_aload_n hx hb dX0_init_0 rfl (lv_at hl 0 rfl) ?_
  refine lv_iload_n hx hb dX0_init_1 rfl (lv_at hl 1 rfl) ?_
  refine lv_iload_n hx hb dX0_init_2 rfl (lv_at hl 2 rfl) ?_
  refine lv_iload_n hx hb dX0_init_3 rfl (lv_at hl 3 rfl) ?_
  refine lv_iload hx hb dX0_init_4 (lv_at hl 4 rfl) ?_
  refine va_callv (va_runI (As := [.int v1, .int v2, .int v3, .int v4]) (rest := []) ⟨hx, hb, hml, hown, hts⟩ (c_init_X9_4 l G q_ v1 v2 v3 v4) ⟨⟨rfl, rfl, Nat.le_of_ble_eq_true rfl, Nat.le_of_ble_eq_true rfl, pay_in hts (owGood tz_318), List.mem_cons_self, hts _ tz_318, hts _ tw_81, ⟨by decide +kernel, by decide +kernel⟩, fun sig h => ?_, hts _ tz_381⟩, rfl, hts _ tz_317⟩ ⟨fun a U g mk q => by obtain ⟨q0, qP, qK⟩ := q; exact ⟨q0, qP, va_K.moved (u := U) (U := U.calling g mk a) (Vm.Alike.refl U.vm) qK⟩, fun U hU hW => ⟨rfl, by rw [hU]; exact hP, va_K.moved hW.alike hK⟩⟩ rfl rfl hl.1 rfl (lv_room (Nat.le_of_ble_eq_true rfl)) dX0_init_6 ⟨Nat.le_refl _, Nat.le_refl _⟩) hS (fun q_ _ h => h) (fun q_ h => h) (fun u t H1 locs1 ht hvm h5 hB hz1 hk1 hS => ?_)
  · have w8 : (parseMethodDescriptor yX9_init.desc).map (fun d => d.parameters.length) = some 4 := by decide +kernel
    rw [h] at w8
    exact (Option.some.inj w8).symm
  have hB : va_P (gD G) vwCl [(q_, .inr (0, [.int v1, .int v2, .int v3, .int v4]))] t.heap := hB
  rw [ht] at hB
  exact W.vret hx hb hr (fun t2 ht2 hW => ⟨⟨(), rfl, trivial, by show va_P _ _ _ t2.heap; rw [ht2]; exact hB⟩, hS.F ht2⟩) hS.2.2 dX0_init_9
set_option maxRecDepth 100000 in
set_option maxHeartbeats 4000000 in
theorem c_init_X0_6 (l : Launch) (G : owG) (q_ : Nat) (v1 v2 v3 v4 : Int32) : Met l yX0_init (owWs yX0_init cX0_init 5 none) (rmk 2 0 0) (va_Pc [.ref q_, .int v1, .int v2, .int v3, .int v4] (fun U => va_P (gD G) vwCl [(q_, .inr (4, [.int 0, .int 0, .int 0, .int 0]))] U.heap ∧ va_K (gD G) vwCl (gty G) U)) (va_Qv (fun _ : Unit => True) (fun _ t_ => va_P (gD G) vwCl [(q_, .inr (4, [.int v1, .int v2, .int v3, .int v4]))] t_.heap) (fun x_ => x_ = q_)) 0 0 (fun x_ => x_ = q_) := by
  refine Met.ofW (cc := cX0_init) (maxL := 5) (ret := none) (by decide +kernel) rfl ?_
  intro p e s m args below meth c s₁ B0 hml hv
  obtain ⟨rfl, hP, hK⟩ := hv
  have hx := B0.exec
  have hb := B0.bytes
  have hr := B0.returns
  have hts : ∀ w ∈ owTB, w.before _ s = true := fun w h => atoms_spec (ws := owWs yX0_init cX0_init 5 none) B0.pre w (List.mem_cons_of_mem _ h)
  have hown : s.vm.findClass RX0 = some m.cls := findClass_of_methodNamed B0.named
  have hin : meth.name = "<init>" := (name_of_methodNamed B0.named B0.method).1
  have hD : va_D (fun x_ => x_ = q_) [(q_, .inr (4, [.int 0, .int 0, .int 0, .int 0]))] := va_D1 rfl
  have hS : va_S (fun x_ => x_ = q_) s.heap s.heap [] := va_S.rf
  have hl := lv_entry [.ref q_, .int v1, .int v2, .int v3, .int v4] (n := 5) (Nat.le_of_ble_eq_true rfl)
  rw [lg_entry_eq]
  generalize (lg_sl ([.ref q_, .int v1, .int v2, .int v3, .int v4]) ++ List.replicate (5 - (lg_sl ([.ref q_, .int v1, .int v2, .int v3, .int v4])).length) Slot.unset).toArray = ls at hl ⊢
  have hl : lv_has ls 5 [(0, .ref q_), (1, .int v1), (2, .int v2), (3, .int v3), (4, .int v4)] := hl
  refine lv_aload_n hx hb dX0_init_0 rfl (lv_at hl 0 rfl) ?_
  refine lv_iload_n hx hb dX0_init_1 rfl (lv_at hl 1 rfl) ?_
  refine lv_iload_n hx hb dX0_init_2 rfl (lv_at hl 2 rfl) ?_
  refine lv_iload_n hx hb dX0_init_3 rfl (lv_at hl 3 rfl) ?_
  refine lv_iload hx hb dX0_init_4 (lv_at hl 4 rfl) ?_
  refine va_callv (va_runI (As := [.int v1, .int v2, .int v3, .int v4]) (rest := []) ⟨hx, hb, hml, hown, hts⟩ (c_init_X9_6 l G q_ v1 v2 v3 v4) ⟨⟨rfl, rfl, Nat.le_of_ble_eq_true rfl, Nat.le_of_ble_eq_true rfl, pay_in hts (owGood tz_318), List.mem_cons_self, hts _ tz_318, hts _ tw_81, ⟨by decide +kernel, by decide +kernel⟩, fun sig h => ?_, hts _ tz_381⟩, rfl, hts _ tz_317⟩ ⟨fun a U g mk q => by obtain ⟨q0, qP, qK⟩ := q; exact ⟨q0, qP, va_K.moved (u := U) (U := U.calling g mk a) (Vm.Alike.refl U.vm) qK⟩, fun U hU hW => ⟨rfl, by rw [hU]; exact hP, va_K.moved hW.alike hK⟩⟩ rfl rfl hl.1 rfl (lv_room (Nat.le_of_ble_eq_true rfl)) dX0_init_6 ⟨Nat.le_refl _, Nat.le_refl _⟩) hS (fun q_ _ h => h) (fun q_ h => h) (fun u t H1 locs1 ht hvm h5 hB hz1 hk1 hS => ?_)
  · have w8 : (parseMethodDescriptor yX9_init.desc).map (fun d => d.parameters.length) = some 4 := by decide +kernel
    rw [h] at w8
    exact (Option.some.inj w8).symm
  have hB : va_P (gD G) vwCl [(q_, .inr (4, [.int v1, .int v2, .int v3, .int v4]))] t.heap := hB
  rw [ht] at hB
  exact W.vret hx hb hr (fun t2 ht2 hW => ⟨⟨(), rfl, trivial, by show va_P _ _ _ t2.heap; rw [ht2]; exact hB⟩, hS.F ht2⟩) hS.2.2 dX0_init_9
set_option maxRecDepth 100000 in
set_option maxHeartbeats 4000000 in
theorem c_init_X10_5 (l : Launch) (G : owG) (q_ : Nat) (v1 v2 v3 v4 : Int32) : Met l yX10_init (owWs yX10_init cX10_init 5 none) (rmk 3 0 0) (va_Pc [.ref q_, .int v1, .int v2, .int v3, .int v4] (fun U => va_P (gD G) vwCl [(q_, .inr (10, [.int 0, .int 0, .int 0, .int 0]))] U.heap ∧ va_K (gD G) vwCl (gty G) U)) (va_Qv (fun _ : Unit => True) (fun _ t_ => va_P (gD G) vwCl [(q_, .inr (10, [.int v1, .int v2, .int v3, .int v4]))] t_.heap) (fun x_ => x_ = q_)) 0 0 (fun x_ => x_ = q_) := by
  refine Met.ofW (cc := cX10_init) (maxL := 5) (ret := none) (by decide +kernel) rfl ?_
  intro p e s m args below meth c s₁ B0 hml hv
  obtain ⟨rfl, hP, hK⟩ := hv
  have hx := B0.exec
  have hb := B0.bytes
  have hr := B0.returns
  have hts : ∀ w ∈ owTB, w.before _ s = true := fun w h => atoms_spec (ws := owWs yX10_init cX10_init 5 none) B0.pre w (List.mem_cons_of_mem _ h)
  have hown : s.vm.findClass RX10 = some m.cls := findClass_of_methodNamed B0.named
  have hin : meth.name = "<init>" := (name_of_methodNamed B0.named B0.method).1
  have hD : va_D (fun x_ => x_ = q_) [(q_, .inr (10, [.int 0, .int 0, .int 0, .int 0]))] := va_D1 rfl
  have hS : va_S (fun x_ => x_ = q_) s.heap s.heap [] := va_S.rf
  have hl := lv_entry [.ref q_, .int v1, .int v2, .int v3, .int v4] (n := 5) (Nat.le_of_ble_eq_true rfl)
  rw [lg_entry_eq]
  generalize (lg_sl ([.ref q_, .int v1, .int v2, .int v3, .int v4]) ++ List.replicate (5 - (lg_sl ([.ref q_, .int v1, .int v2, .int v3, .int v4])).length) Slot.unset).toArray = ls at hl ⊢
  have hl : lv_has ls 5 [(0, .ref q_), (1, .int v1), (2, .int v2), (3, .int v3), (4, .int v4)] := hl
  refine lv_aload_n hx hb dX10_init_0 rfl (lv_at hl 0 rfl) ?_
  refine lv_iload_n hx hb dX10_init_1 rfl (lv_at hl 1 rfl) ?_
  refine lv_iload_n hx hb dX10_init_2 rfl (lv_at hl 2 rfl) ?_
  refine lv_iload_n hx hb dX10_init_3 rfl (lv_at hl 3 rfl) ?_
  refine lv_iload hx hb dX10_init_4 (lv_at hl 4 rfl) ?_
  refine va_callv (va_runI (As := [.int v1, .int v2, .int v3, .int v4]) (rest := []) ⟨hx, hb, hml, hown, hts⟩ (c_init_X8_5 l G q_ v1 v2 v3 v4) ⟨⟨rfl, rfl, Nat.le_of_ble_eq_true rfl, Nat.le_of_ble_eq_true rfl, pay_in hts (owGood tz_347), List.mem_cons_self, hts _ tz_347, hts _ tz_82, ⟨by decide +kernel, by decide +kernel⟩, fun sig h => ?_, hts _ tz_392⟩, rfl, hts _ tz_346⟩ ⟨fun a U g mk q => by obtain ⟨q0, qP, qK⟩ := q; exact ⟨q0, qP, va_K.moved (u := U) (U := U.calling g mk a) (Vm.Alike.refl U.vm) qK⟩, fun U hU hW => ⟨rfl, by rw [hU]; exact hP, va_K.moved hW.alike hK⟩⟩ rfl rfl hl.1 rfl (lv_room (Nat.le_of_ble_eq_true rfl)) dX10_init_6 ⟨Nat.le_refl _, Nat.le_refl _⟩) hS (fun q_ _ h => h) (fun q_ h => h) (fun u t H1 locs1 ht hvm h5 hB hz1 hk1 hS => ?_)
  · have w8 : (parseMethodDescriptor yX8_init.desc).map (fun d => d.parameters.length) = some 4 := by decide +kernel
    rw [h] at w8
    exact (Option.some.inj w8).symm
  have hB : va_P (gD G) vwCl [(q_, .inr (10, [.int v1, .int v2, .int v3, .int v4]))] t.heap := hB
  rw [ht] at hB
  exact W.vret hx hb hr (fun t2 ht2 hW => ⟨⟨(), rfl, trivial, by show va_P _ _ _ t2.heap; rw [ht2]; exact hB⟩, hS.F ht2⟩) hS.2.2 dX10_init_9
set_option maxRecDepth 100000 in
set_option maxHeartbeats 4000000 in
theorem c_init_X4_6 (l : Launch) (G : owG) (q_ : Nat) (v1 v2 v3 v4 : Int32) : Met l yX4_init (owWs yX4_init cX4_init 5 none) (rmk 3 0 0) (va_Pc [.ref q_, .int v1, .int v2, .int v3, .int v4] (fun U => va_P (gD G) vwCl [(q_, .inr (4, [.int 0, .int 0, .int 0, .int 0]))] U.heap ∧ va_K (gD G) vwCl (gty G) U)) (va_Qv (fun _ : Unit => True) (fun _ t_ => va_P (gD G) vwCl [(q_, .inr (4, [.int v1, .int v2, .int v3, .int v4]))] t_.heap) (fun x_ => x_ = q_)) 0 0 (fun x_ => x_ = q_) := by
  refine Met.ofW (cc := cX4_init) (maxL := 5) (ret := none) (by decide +kernel) rfl ?_
  intro p e s m args below meth c s₁ B0 hml hv
  obtain ⟨rfl, hP, hK⟩ := hv
  have hx := B0.exec
  have hb := B0.bytes
  have hr := B0.returns
  have hts : ∀ w ∈ owTB, w.before _ s = true := fun w h => atoms_spec (ws := owWs yX4_init cX4_init 5 none) B0.pre w (List.mem_cons_of_mem _ h)
  have hown : s.vm.findClass RX4 = some m.cls := findClass_of_methodNamed B0.named
  have hin : meth.name = "<init>" := (name_of_methodNamed B0.named B0.method).1
  have hD : va_D (fun x_ => x_ = q_) [(q_, .inr (4, [.int 0, .int 0, .int 0, .int 0]))] := va_D1 rfl
  have hS : va_S (fun x_ => x_ = q_) s.heap s.heap [] := va_S.rf
  have hl := lv_entry [.ref q_, .int v1, .int v2, .int v3, .int v4] (n := 5) (Nat.le_of_ble_eq_true rfl)
  rw [lg_entry_eq]
  generalize (lg_sl ([.ref q_, .int v1, .int v2, .int v3, .int v4]) ++ List.replicate (5 - (lg_sl ([.ref q_, .int v1, .int v2, .int v3, .int v4])).length) Slot.unset).toArray = ls at hl ⊢
  have hl : lv_has ls 5 [(0, .ref q_), (1, .int v1), (2, .int v2), (3, .int v3), (4, .int v4)] := hl
  refine lv_aload_n hx hb dX4_init_0 rfl (lv_at hl 0 rfl) ?_
  refine lv_iload_n hx hb dX4_init_1 rfl (lv_at hl 1 rfl) ?_
  refine lv_iload_n hx hb dX4_init_2 rfl (lv_at hl 2 rfl) ?_
  refine lv_iload_n hx hb dX4_init_3 rfl (lv_at hl 3 rfl) ?_
  refine lv_iload hx hb dX4_init_4 (lv_at hl 4 rfl) ?_
  refine va_callv (va_runI (As := [.int v1, .int v2, .int v3, .int v4]) (rest := []) ⟨hx, hb, hml, hown, hts⟩ (c_init_X0_6 l G q_ v1 v2 v3 v4) ⟨⟨rfl, rfl, Nat.le_of_ble_eq_true rfl, Nat.le_of_ble_eq_true rfl, pay_in hts (owGood tz_380), List.mem_cons_self, hts _ tz_380, hts _ tz_85, ⟨by decide +kernel, by decide +kernel⟩, fun sig h => ?_, hts _ tz_403⟩, rfl, hts _ tz_379⟩ ⟨fun a U g mk q => by obtain ⟨q0, qP, qK⟩ := q; exact ⟨q0, qP, va_K.moved (u := U) (U := U.calling g mk a) (Vm.Alike.refl U.vm) qK⟩, fun U hU hW => ⟨rfl, by rw [hU]; exact hP, va_K.moved hW.alike hK⟩⟩ rfl rfl hl.1 rfl (lv_room (Nat.le_of_ble_eq_true rfl)) dX4_init_6 ⟨Nat.le_refl _, Nat.le_refl _⟩) hS (fun q_ _ h => h) (fun q_ h => h) (fun u t H1 locs1 ht hvm h5 hB hz1 hk1 hS => ?_)
  · have w8 : (parseMethodDescriptor yX0_init.desc).map (fun d => d.parameters.length) = some 4 := by decide +kernel
    rw [h] at w8
    exact (Option.some.inj w8).symm
  have hB : va_P (gD G) vwCl [(q_, .inr (4, [.int v1, .int v2, .int v3, .int v4]))] t.heap := hB
  rw [ht] at hB
  exact W.vret hx hb hr (fun t2 ht2 hW => ⟨⟨(), rfl, trivial, by show va_P _ _ _ t2.heap; rw [ht2]; exact hB⟩, hS.F ht2⟩) hS.2.2 dX4_init_9
set_option maxRecDepth 100000 in
set_option maxHeartbeats 4000000 in
theorem c_init_X7_7 (l : Launch) (G : owG) (q_ : Nat) (v1 v2 v3 v4 : Int32) : Met l yX7_init (owWs yX7_init cX7_init 5 none) (rmk 3 0 0) (va_Pc [.ref q_, .int v1, .int v2, .int v3, .int v4] (fun U => va_P (gD G) vwCl [(q_, .inr (7, [.int 0, .int 0, .int 0, .int 0]))] U.heap ∧ va_K (gD G) vwCl (gty G) U)) (va_Qv (fun _ : Unit => True) (fun _ t_ => va_P (gD G) vwCl [(q_, .inr (7, [.int v1, .int v2, .int v3, .int v4]))] t_.heap) (fun x_ => x_ = q_)) 0 0 (fun x_ => x_ = q_) := by
  refine Met.ofW (cc := cX7_init) (maxL := 5) (ret := none) (by decide +kernel) rfl ?_
  intro p e s m args below meth c s₁ B0 hml hv
  obtain ⟨rfl, hP, hK⟩ := hv
  have hx := B0.exec
  have hb := B0.bytes
  have hr := B0.returns
  have hts : ∀ w ∈ owTB, w.before _ s = true := fun w h => atoms_spec (ws := owWs yX7_init cX7_init 5 none) B0.pre w (List.mem_cons_of_mem _ h)
  have hown : s.vm.findClass RX7 = some m.cls := findClass_of_methodNamed B0.named
  have hin : meth.name = "<init>" := (name_of_methodNamed B0.named B0.method).1
  have hD : va_D (fun x_ => x_ = q_) [(q_, .inr (7, [.int 0, .int 0, .int 0, .int 0]))] := va_D1 rfl
  have hS : va_S (fun x_ => x_ = q_) s.heap s.heap [] := va_S.rf
  have hl := lv_entry [.ref q_, .int v1, .int v2, .int v3, .int v4] (n := 5) (Nat.le_of_ble_eq_true rfl)
  rw [lg_entry_eq]
  generalize (lg_sl ([.ref q_, .int v1, .int v2, .int v3, .int v4]) ++ List.replicate (5 - (lg_sl ([.ref q_, .int v1, .int v2, .int v3, .int v4])).length) Slot.unset).toArray = ls at hl ⊢
  have hl : lv_has ls 5 [(0, .ref q_), (1, .int v1), (2, .int v2), (3, .int v3), (4, .int v4)] := hl
  refine lv_aload_n hx hb dX7_init_0 rfl (lv_at hl 0 rfl) ?_
  refine lv_iload_n hx hb dX7_init_1 rfl (lv_at hl 1 rfl) ?_
  refine lv_iload_n hx hb dX7_init_2 rfl (lv_at hl 2 rfl) ?_
  refine lv_iload_n hx hb dX7_init_3 rfl (lv_at hl 3 rfl) ?_
  refine lv_iload hx hb dX7_init_4 (lv_at hl 4 rfl) ?_
  refine va_callv (va_runI (As := [.int v1, .int v2, .int v3, .int v4]) (rest := []) ⟨hx, hb, hml, hown, hts⟩ (c_init_X1_7 l G q_ v1 v2 v3 v4) ⟨⟨rfl, rfl, Nat.le_of_ble_eq_true rfl, Nat.le_of_ble_eq_true rfl, pay_in hts (owGood tz_369), List.mem_cons_self, hts _ tz_369, hts _ tz_84, ⟨by decide +kernel, by decide +kernel⟩, fun sig h => ?_, hts _ tz_414⟩, rfl, hts _ tz_368⟩ ⟨fun a U g mk q => by obtain ⟨q0, qP, qK⟩ := q; exact ⟨q0, qP, va_K.moved (u := U) (U := U.calling g mk a) (Vm.Alike.refl U.vm) qK⟩, fun U hU hW => ⟨rfl, by rw [hU]; exact hP, va_K.moved hW.alike hK⟩⟩ rfl rfl hl.1 rfl (lv_room (Nat.le_of_ble_eq_true rfl)) dX7_init_6 ⟨Nat.le_refl _, Nat.le_refl _⟩) hS (fun q_ _ h => h) (fun q_ h => h) (fun u t H1 locs1 ht hvm h5 hB hz1 hk1 hS => ?_)
  · have w8 : (parseMethodDescriptor yX1_init.desc).map (fun d => d.parameters.length) = some 4 := by decide +kernel
    rw [h] at w8
    exact (Option.some.inj w8).symm
  have hB : va_P (gD G) vwCl [(q_, .inr (7, [.int v1, .int v2, .int v3, .int v4]))] t.heap := hB
  rw [ht] at hB
  exact W.vret hx hb hr (fun t2 ht2 hW => ⟨⟨(), rfl, trivial, by show va_P _ _ _ t2.heap; rw [ht2]; exact hB⟩, hS.F ht2⟩) hS.2.2 dX7_init_9
