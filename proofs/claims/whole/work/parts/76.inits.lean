theorem tz_111 : (Jvm.Cond.methodLink "OwnWays$SchoolClass" (3 : Nat) ({ cls := "java/lang/Object", name := "<init>", desc := "()V" } : Jvm.MethodName)) ∈ owTB := owTB_of (List.mem_of_getElem? (i := 111) (by decide +kernel)) rfl
theorem tz_158 : (Jvm.Cond.methodLink "OwnWays$Paper" (3 : Nat) ({ cls := "java/lang/Object", name := "<init>", desc := "()V" } : Jvm.MethodName)) ∈ owTB := owTB_of (List.mem_of_getElem? (i := 158) (by decide +kernel)) rfl
theorem tz_179 : (Jvm.Cond.methodLink "OwnWays$Shelf" (3 : Nat) ({ cls := "java/lang/Object", name := "<init>", desc := "()V" } : Jvm.MethodName)) ∈ owTB := owTB_of (List.mem_of_getElem? (i := 179) (by decide +kernel)) rfl
set_option maxRecDepth 100000 in
set_option maxHeartbeats 4000000 in
theorem c_init_X6 (l : Launch) (G : owG) (q_ n_ : Nat) : Met l yX6_init (owWs yX6_init cX6_init 1 none) (rmk 1 1 100) (va_Pc [.ref q_] (fun U => va_P (gD G) vwCl [(q_, .inr (6, [.null, .int 0, .int 0, .null]))] U.heap ∧ va_K (gD G) vwCl (gty G) U ∧ U.heap.size = n_)) (va_Qv (fun u_ : Nat => va_D (fun x_ => x_ = q_ ∨ n_ ≤ x_) [(q_, .inr (6, [.null, .int (-1), .int 0, .ref u_])), (u_, .inl (gI G, 100, .inl (fun _ => 0)))]) (fun u_ t_ => va_P (gD G) vwCl [(q_, .inr (6, [.null, .int (-1), .int 0, .ref u_])), (u_, .inl (gI G, 100, .inl (fun _ => 0)))] t_.heap) (fun x_ => x_ = q_ ∨ n_ ≤ x_)) 1 100 (fun x_ => x_ = q_ ∨ n_ ≤ x_) := by
  refine Met.ofW (cc := cX6_init) (maxL := 1) (ret := none) (by decide +kernel) rfl ?_
  intro p e s m args below meth c s₁ B0 hml hv
  obtain ⟨rfl, hP, hK, hz⟩ := hv
  have hx := B0.exec
  have hb := B0.bytes
  have hr := B0.returns
  have hts : ∀ w ∈ owTB, w.before _ s = true := fun w h => atoms_spec (ws := owWs yX6_init cX6_init 1 none) B0.pre w (List.mem_cons_of_mem _ h)
  have hown : s.vm.findClass RX6 = some m.cls := findClass_of_methodNamed B0.named
  have hin : meth.name = "<init>" := (name_of_methodNamed B0.named B0.method).1
  have hD : va_D (fun x_ => x_ = q_ ∨ n_ ≤ x_) [(q_, .inr (6, [.null, .int 0, .int 0, .null]))] := va_D1 (Or.inl rfl)
  have hA : ∀ x_, s.heap.size ≤ x_ → (x_ = q_ ∨ n_ ≤ x_) := fun x_ h9 => Or.inr (by rw [← hz]; exact h9)
  have hS : va_S (fun x_ => x_ = q_ ∨ n_ ≤ x_) s.heap s.heap [] := va_S.rf
  have hl := lv_entry [.ref q_] (n := 1) (Nat.le_of_ble_eq_true rfl)
  rw [lg_entry_eq]
  generalize (lg_sl ([.ref q_]) ++ List.replicate (1 - (lg_sl ([.ref q_])).length) Slot.unset).toArray = ls at hl ⊢
  have hl : lv_has ls 1 [(0, .ref q_)] := hl
  refine lv_aload_n hx hb dX6_init_0 rfl (lv_at hl 0 rfl) ?_
  refine W.objInit hx hb hown (hts (.methodLink RX6 3 Lib.objectInit) tz_179) (hts (.instanceMethod Lib.objectInit) tz_104) (hts (.code Lib.objectInit ⟨#[0xb1]⟩ 1 none) tz_105) rfl (by rw [hml]; exact hl.1) rfl dX6_init_1 (Nat.le_of_ble_eq_true rfl) (Nat.le_of_ble_eq_true rfl) ?_
  refine W.eq (g2 := F0 m 4 ls []) rfl ?_
  refine lv_aload_n hx hb dX6_init_4 rfl (lv_at hl 0 rfl) ?_
  refine lv_iconst hx hb (v := (-1)) dX6_init_5 (by decide) ?_
  refine va_put (D := gD G) (ci := 6) (v := .int (-1)) (ty := .int) (C := RX6) (T := TX6) (N := 4) hx hb hts inTX6 tyX6 tyX6_ok nmX6 hown hK hP hD hS 0 rfl rfl 1 (by decide) (hts _ tw_182) (fun _ h9 => h9) rfl (by decide +kernel) rfl rfl (Nat.le_of_ble_eq_true rfl) dX6_init_6 (fun H locs hP hD hS => ?_)
  have hP : va_P (gD G) vwCl [(q_, .inr (6, [.null, .int (-1), .int 0, .null]))] H := hP
  have hD : va_D (fun x_ => x_ = q_ ∨ n_ ≤ x_) [(q_, .inr (6, [.null, .int (-1), .int 0, .null]))] := hD
  refine lv_aload_n hx hb dX6_init_9 rfl (lv_at hl 0 rfl) ?_
  refine lv_bipush hx hb (v := 100) dX6_init_10 (by decide) ?_
  refine zc_newI hx hb hts hK hP hD hS hA 100 (by decide) (by decide) (by show _ ≤ 1; omega) (by show _ ≤ 100; omega) dX6_init_12 (fun u1 H hP hD hS => ?_)
  have hP : va_P (gD G) vwCl [(q_, .inr (6, [.null, .int (-1), .int 0, .null])), (u1, .inl (gI G, 100, .inl (fun _ => 0)))] H := hP
  have hD : va_D (fun x_ => x_ = q_ ∨ n_ ≤ x_) [(q_, .inr (6, [.null, .int (-1), .int 0, .null])), (u1, .inl (gI G, 100, .inl (fun _ => 0)))] := hD
  refine va_putF (D := gD G) (ci := 6) (v := .ref u1) (ty := .array .int) (C := RX6) (T := TX6) (N := 4) hx hb hts inTX6 tyX6 tyX6_ok nmX6 hown hK hP hD hS 0 rfl rfl 3 (by decide) (hts _ tw_187) (fun _ h9 => h9) rfl hin rfl (by decide +kernel) rfl rfl (Nat.le_of_ble_eq_true rfl) dX6_init_14 (fun H locs hP hD hS => ?_)
  have hP : va_P (gD G) vwCl [(q_, .inr (6, [.null, .int (-1), .int 0, .ref u1])), (u1, .inl (gI G, 100, .inl (fun _ => 0)))] H := hP
  have hD : va_D (fun x_ => x_ = q_ ∨ n_ ≤ x_) [(q_, .inr (6, [.null, .int (-1), .int 0, .ref u1])), (u1, .inl (gI G, 100, .inl (fun _ => 0)))] := hD
  exact W.widen (by show _ ≤ 1; omega) (by show _ ≤ 100; omega) (W.vret hx hb hr (fun t ht hW => ⟨⟨(u1), rfl, hD, by show va_P _ _ _ t.heap; rw [ht]; exact hP⟩, hS.F ht⟩) hS.2.2 dX6_init_17)
set_option maxRecDepth 100000 in
set_option maxHeartbeats 4000000 in
theorem c_init_X3 (l : Launch) (G : owG) (q_ n_ : Nat) : Met l yX3_init (owWs yX3_init cX3_init 1 none) (rmk 1 3 12) (va_Pc [.ref q_] (fun U => va_P (gD G) vwCl [(q_, .inr (3, [.null, .null, .null, .int 0]))] U.heap ∧ va_K (gD G) vwCl (gty G) U ∧ U.heap.size = n_)) (va_Qv (fun u_ : Nat × Nat × Nat => va_D (fun x_ => x_ = q_ ∨ n_ ≤ x_) [(q_, .inr (3, [.ref u_.1, .ref u_.2.1, .ref u_.2.2, .int 0])), (u_.1, .inl (gI G, 4, .inl (fun _ => 0))), (u_.2.1, .inl (gI G, 4, .inl (fun _ => 0))), (u_.2.2, .inl (gI G, 4, .inl (fun _ => 0)))]) (fun u_ t_ => va_P (gD G) vwCl [(q_, .inr (3, [.ref u_.1, .ref u_.2.1, .ref u_.2.2, .int 0])), (u_.1, .inl (gI G, 4, .inl (fun _ => 0))), (u_.2.1, .inl (gI G, 4, .inl (fun _ => 0))), (u_.2.2, .inl (gI G, 4, .inl (fun _ => 0)))] t_.heap) (fun x_ => x_ = q_ ∨ n_ ≤ x_)) 3 12 (fun x_ => x_ = q_ ∨ n_ ≤ x_) := by
  refine Met.ofW (cc := cX3_init) (maxL := 1) (ret := none) (by decide +kernel) rfl ?_
  intro p e s m args below meth c s₁ B0 hml hv
  obtain ⟨rfl, hP, hK, hz⟩ := hv
  have hx := B0.exec
  have hb := B0.bytes
  have hr := B0.returns
  have hts : ∀ w ∈ owTB, w.before _ s = true := fun w h => atoms_spec (ws := owWs yX3_init cX3_init 1 none) B0.pre w (List.mem_cons_of_mem _ h)
  have hown : s.vm.findClass RX3 = some m.cls := findClass_of_methodNamed B0.named
  have hin : meth.name = "<init>" := (name_of_methodNamed B0.named B0.method).1
  have hD : va_D (fun x_ => x_ = q_ ∨ n_ ≤ x_) [(q_, .inr (3, [.null, .null, .null, .int 0]))] := va_D1 (Or.inl rfl)
  have hA : ∀ x_, s.heap.size ≤ x_ → (x_ = q_ ∨ n_ ≤ x_) := fun x_ h9 => Or.inr (by rw [← hz]; exact h9)
  have hS : va_S (fun x_ => x_ = q_ ∨ n_ ≤ x_) s.heap s.heap [] := va_S.rf
  have hl := lv_entry [.ref q_] (n := 1) (Nat.le_of_ble_eq_true rfl)
  rw [lg_entry_eq]
  generalize (lg_sl ([.ref q_]) ++ List.replicate (1 - (lg_sl ([.ref q_])).length) Slot.unset).toArray = ls at hl ⊢
  have hl : lv_has ls 1 [(0, .ref q_)] := hl
  refine lv_aload_n hx hb dX3_init_0 rfl (lv_at hl 0 rfl) ?_
  refine W.objInit hx hb hown (hts (.methodLink RX3 3 Lib.objectInit) tz_158) (hts (.instanceMethod Lib.objectInit) tz_104) (hts (.code Lib.objectInit ⟨#[0xb1]⟩ 1 none) tz_105) rfl (by rw [hml]; exact hl.1) rfl dX3_init_1 (Nat.le_of_ble_eq_true rfl) (Nat.le_of_ble_eq_true rfl) ?_
  refine W.eq (g2 := F0 m 4 ls []) rfl ?_
  refine lv_aload_n hx hb dX3_init_4 rfl (lv_at hl 0 rfl) ?_
  refine lv_iconst hx hb (v := 4) dX3_init_5 (by decide) ?_
  refine zc_newI hx hb hts hK hP hD hS hA 4 (by decide) (by decide) (by show _ ≤ 3; omega) (by show _ ≤ 12; omega) dX3_init_6 (fun u1 H hP hD hS => ?_)
  have hP : va_P (gD G) vwCl [(q_, .inr (3, [.null, .null, .null, .int 0])), (u1, .inl (gI G, 4, .inl (fun _ => 0)))] H := hP
  have hD : va_D (fun x_ => x_ = q_ ∨ n_ ≤ x_) [(q_, .inr (3, [.null, .null, .null, .int 0])), (u1, .inl (gI G, 4, .inl (fun _ => 0)))] := hD
  refine va_putF (D := gD G) (ci := 3) (v := .ref u1) (ty := .array .int) (C := RX3) (T := TX3) (N := 4) hx hb hts inTX3 tyX3 tyX3_ok nmX3 hown hK hP hD hS 0 rfl rfl 0 (by decide) (hts _ tw_159) (fun _ h9 => h9) rfl hin rfl (by decide +kernel) rfl rfl (Nat.le_of_ble_eq_true rfl) dX3_init_8 (fun H locs hP hD hS => ?_)
  have hP : va_P (gD G) vwCl [(q_, .inr (3, [.ref u1, .null, .null, .int 0])), (u1, .inl (gI G, 4, .inl (fun _ => 0)))] H := hP
  have hD : va_D (fun x_ => x_ = q_ ∨ n_ ≤ x_) [(q_, .inr (3, [.ref u1, .null, .null, .int 0])), (u1, .inl (gI G, 4, .inl (fun _ => 0)))] := hD
  refine lv_aload_n hx hb dX3_init_11 rfl (lv_at hl 0 rfl) ?_
  refine lv_iconst hx hb (v := 4) dX3_init_12 (by decide) ?_
  refine zc_newI hx hb hts hK hP hD hS hA 4 (by decide) (by decide) (by show _ ≤ 3; omega) (by show _ ≤ 12; omega) dX3_init_13 (fun u2 H hP hD hS => ?_)
  have hP : va_P (gD G) vwCl [(q_, .inr (3, [.ref u1, .null, .null, .int 0])), (u1, .inl (gI G, 4, .inl (fun _ => 0))), (u2, .inl (gI G, 4, .inl (fun _ => 0)))] H := hP
  have hD : va_D (fun x_ => x_ = q_ ∨ n_ ≤ x_) [(q_, .inr (3, [.ref u1, .null, .null, .int 0])), (u1, .inl (gI G, 4, .inl (fun _ => 0))), (u2, .inl (gI G, 4, .inl (fun _ => 0)))] := hD
  refine va_putF (D := gD G) (ci := 3) (v := .ref u2) (ty := .array .int) (C := RX3) (T := TX3) (N := 4) hx hb hts inTX3 tyX3 tyX3_ok nmX3 hown hK hP hD hS 0 rfl rfl 1 (by decide) (hts _ tw_161) (fun _ h9 => h9) rfl hin rfl (by decide +kernel) rfl rfl (Nat.le_of_ble_eq_true rfl) dX3_init_15 (fun H locs hP hD hS => ?_)
  have hP : va_P (gD G) vwCl [(q_, .inr (3, [.ref u1, .ref u2, .null, .int 0])), (u1, .inl (gI G, 4, .inl (fun _ => 0))), (u2, .inl (gI G, 4, .inl (fun _ => 0)))] H := hP
  have hD : va_D (fun x_ => x_ = q_ ∨ n_ ≤ x_) [(q_, .inr (3, [.ref u1, .ref u2, .null, .int 0])), (u1, .inl (gI G, 4, .inl (fun _ => 0))), (u2, .inl (gI G, 4, .inl (fun _ => 0)))] := hD
  refine lv_aload_n hx hb dX3_init_18 rfl (lv_at hl 0 rfl) ?_
  refine lv_iconst hx hb (v := 4) dX3_init_19 (by decide) ?_
  refine zc_newI hx hb hts hK hP hD hS hA 4 (by decide) (by decide) (by show _ ≤ 3; omega) (by show _ ≤ 12; omega) dX3_init_20 (fun u3 H hP hD hS => ?_)
  have hP : va_P (gD G) vwCl [(q_, .inr (3, [.ref u1, .ref u2, .null, .int 0])), (u1, .inl (gI G, 4, .inl (fun _ => 0))), (u2, .inl (gI G, 4, .inl (fun _ => 0))), (u3, .inl (gI G, 4, .inl (fun _ => 0)))] H := hP
  have hD : va_D (fun x_ => x_ = q_ ∨ n_ ≤ x_) [(q_, .inr (3, [.ref u1, .ref u2, .null, .int 0])), (u1, .inl (gI G, 4, .inl (fun _ => 0))), (u2, .inl (gI G, 4, .inl (fun _ => 0))), (u3, .inl (gI G, 4, .inl (fun _ => 0)))] := hD
  refine va_putF (D := gD G) (ci := 3) (v := .ref u3) (ty := .array .int) (C := RX3) (T := TX3) (N := 4) hx hb hts inTX3 tyX3 tyX3_ok nmX3 hown hK hP hD hS 0 rfl rfl 2 (by decide) (hts _ tw_162) (fun _ h9 => h9) rfl hin rfl (by decide +kernel) rfl rfl (Nat.le_of_ble_eq_true rfl) dX3_init_22 (fun H locs hP hD hS => ?_)
  have hP : va_P (gD G) vwCl [(q_, .inr (3, [.ref u1, .ref u2, .ref u3, .int 0])), (u1, .inl (gI G, 4, .inl (fun _ => 0))), (u2, .inl (gI G, 4, .inl (fun _ => 0))), (u3, .inl (gI G, 4, .inl (fun _ => 0)))] H := hP
  have hD : va_D (fun x_ => x_ = q_ ∨ n_ ≤ x_) [(q_, .inr (3, [.ref u1, .ref u2, .ref u3, .int 0])), (u1, .inl (gI G, 4, .inl (fun _ => 0))), (u2, .inl (gI G, 4, .inl (fun _ => 0))), (u3, .inl (gI G, 4, .inl (fun _ => 0)))] := hD
  exact W.widen (by show _ ≤ 3; omega) (by show _ ≤ 12; omega) (W.vret hx hb hr (fun t ht hW => ⟨⟨(u1, u2, u3), rfl, hD, by show va_P _ _ _ t.heap; rw [ht]; exact hP⟩, hS.F ht⟩) hS.2.2 dX3_init_25)
set_option maxRecDepth 100000 in
set_option maxHeartbeats 4000000 in
theorem c_init_X5 (l : Launch) (G : owG) (q_ n_ : Nat) : Met l yX5_init (owWs yX5_init cX5_init 1 none) (rmk 1 6 137) (va_Pc [.ref q_] (fun U => va_P (gD G) vwCl [(q_, .inr (5, [.null, .int 0, .null, .null, .null, .int 0, .null, .int 0, .int 0, .null]))] U.heap ∧ va_K (gD G) vwCl (gty G) U ∧ U.heap.size = n_ ∧ va_AO "OwnWays$Way" U)) (va_Qv (fun u_ : Nat × Nat × Nat × Nat × Nat × Nat => va_D (fun x_ => x_ = q_ ∨ n_ ≤ x_) [(q_, .inr (5, [.ref u_.1, .int 0, .ref u_.2.1, .ref u_.2.2.1, .ref u_.2.2.2.1, .int 0, .ref u_.2.2.2.2.1, .int 0, .int 0, .ref u_.2.2.2.2.2])), (u_.1, .inl (gW G, 10, .inr (.inr (.inr (.inr (fun _ => none)))))), (u_.2.1, .inl (gI G, 8, .inl (fun _ => 0))), (u_.2.2.1, .inl (gI G, 8, .inl (fun _ => 0))), (u_.2.2.2.1, .inl (gI G, 8, .inl (fun _ => 0))), (u_.2.2.2.2.1, .inl (gI G, 100, .inl (fun _ => 0))), (u_.2.2.2.2.2, .inl (gI G, 3, .inl (fun _ => 0)))]) (fun u_ t_ => va_P (gD G) vwCl [(q_, .inr (5, [.ref u_.1, .int 0, .ref u_.2.1, .ref u_.2.2.1, .ref u_.2.2.2.1, .int 0, .ref u_.2.2.2.2.1, .int 0, .int 0, .ref u_.2.2.2.2.2])), (u_.1, .inl (gW G, 10, .inr (.inr (.inr (.inr (fun _ => none)))))), (u_.2.1, .inl (gI G, 8, .inl (fun _ => 0))), (u_.2.2.1, .inl (gI G, 8, .inl (fun _ => 0))), (u_.2.2.2.1, .inl (gI G, 8, .inl (fun _ => 0))), (u_.2.2.2.2.1, .inl (gI G, 100, .inl (fun _ => 0))), (u_.2.2.2.2.2, .inl (gI G, 3, .inl (fun _ => 0)))] t_.heap) (fun x_ => x_ = q_ ∨ n_ ≤ x_)) 6 137 (fun x_ => x_ = q_ ∨ n_ ≤ x_) := by
  refine Met.ofW (cc := cX5_init) (maxL := 1) (ret := none) (by decide +kernel) rfl ?_
  intro p e s m args below meth c s₁ B0 hml hv
  obtain ⟨rfl, hP, hK, hz, hao⟩ := hv
  have hx := B0.exec
  have hb := B0.bytes
  have hr := B0.returns
  have hts : ∀ w ∈ owTB, w.before _ s = true := fun w h => atoms_spec (ws := owWs yX5_init cX5_init 1 none) B0.pre w (List.mem_cons_of_mem _ h)
  have hown : s.vm.findClass RX5 = some m.cls := findClass_of_methodNamed B0.named
  have hin : meth.name = "<init>" := (name_of_methodNamed B0.named B0.method).1
  have hD : va_D (fun x_ => x_ = q_ ∨ n_ ≤ x_) [(q_, .inr (5, [.null, .int 0, .null, .null, .null, .int 0, .null, .int 0, .int 0, .null]))] := va_D1 (Or.inl rfl)
  have hA : ∀ x_, s.heap.size ≤ x_ → (x_ = q_ ∨ n_ ≤ x_) := fun x_ h9 => Or.inr (by rw [← hz]; exact h9)
  have hS : va_S (fun x_ => x_ = q_ ∨ n_ ≤ x_) s.heap s.heap [] := va_S.rf
  have hl := lv_entry [.ref q_] (n := 1) (Nat.le_of_ble_eq_true rfl)
  rw [lg_entry_eq]
  generalize (lg_sl ([.ref q_]) ++ List.replicate (1 - (lg_sl ([.ref q_])).length) Slot.unset).toArray = ls at hl ⊢
  have hl : lv_has ls 1 [(0, .ref q_)] := hl
  refine lv_aload_n hx hb dX5_init_0 rfl (lv_at hl 0 rfl) ?_
  refine W.objInit hx hb hown (hts (.methodLink RX5 3 Lib.objectInit) tz_111) (hts (.instanceMethod Lib.objectInit) tz_104) (hts (.code Lib.objectInit ⟨#[0xb1]⟩ 1 none) tz_105) rfl (by rw [hml]; exact hl.1) rfl dX5_init_1 (Nat.le_of_ble_eq_true rfl) (Nat.le_of_ble_eq_true rfl) ?_
  refine W.eq (g2 := F0 m 4 ls []) rfl ?_
  refine lv_aload_n hx hb dX5_init_4 rfl (lv_at hl 0 rfl) ?_
  refine lv_bipush hx hb (v := 10) dX5_init_5 (by decide) ?_
  refine zc_newQ 3 hx hb hts hown (C := "OwnWays$Way") tz_112 hao rfl hK hP hD hS hA 10 (by decide) (by decide) (by show _ ≤ 6; omega) (by show _ ≤ 137; omega) dX5_init_7 (fun u1 H hP hD hS => ?_)
  have hP : va_P (gD G) vwCl [(q_, .inr (5, [.null, .int 0, .null, .null, .null, .int 0, .null, .int 0, .int 0, .null])), (u1, .inl (gW G, 10, .inr (.inr (.inr (.inr (fun _ => none))))))] H := hP
  have hD : va_D (fun x_ => x_ = q_ ∨ n_ ≤ x_) [(q_, .inr (5, [.null, .int 0, .null, .null, .null, .int 0, .null, .int 0, .int 0, .null])), (u1, .inl (gW G, 10, .inr (.inr (.inr (.inr (fun _ => none))))))] := hD
  refine va_putF (D := gD G) (ci := 5) (v := .ref u1) (ty := .array (.object "OwnWays$Way")) (C := RX5) (T := TX5) (N := 10) hx hb hts inTX5 tyX5 tyX5_ok nmX5 hown hK hP hD hS 0 rfl rfl 0 (by decide) (hts _ tw_114) (fun _ h9 => h9) rfl hin rfl (by decide +kernel) rfl rfl (Nat.le_of_ble_eq_true rfl) dX5_init_10 (fun H locs hP hD hS => ?_)
  have hP : va_P (gD G) vwCl [(q_, .inr (5, [.ref u1, .int 0, .null, .null, .null, .int 0, .null, .int 0, .int 0, .null])), (u1, .inl (gW G, 10, .inr (.inr (.inr (.inr (fun _ => none))))))] H := hP
  have hD : va_D (fun x_ => x_ = q_ ∨ n_ ≤ x_) [(q_, .inr (5, [.ref u1, .int 0, .null, .null, .null, .int 0, .null, .int 0, .int 0, .null])), (u1, .inl (gW G, 10, .inr (.inr (.inr (.inr (fun _ => none))))))] := hD
  refine lv_aload_n hx hb dX5_init_13 rfl (lv_at hl 0 rfl) ?_
  refine lv_bipush hx hb (v := 8) dX5_init_14 (by decide) ?_
  refine zc_newI hx hb hts hK hP hD hS hA 8 (by decide) (by decide) (by show _ ≤ 6; omega) (by show _ ≤ 137; omega) dX5_init_16 (fun u2 H hP hD hS => ?_)
  have hP : va_P (gD G) vwCl [(q_, .inr (5, [.ref u1, .int 0, .null, .null, .null, .int 0, .null, .int 0, .int 0, .null])), (u1, .inl (gW G, 10, .inr (.inr (.inr (.inr (fun _ => none)))))), (u2, .inl (gI G, 8, .inl (fun _ => 0)))] H := hP
  have hD : va_D (fun x_ => x_ = q_ ∨ n_ ≤ x_) [(q_, .inr (5, [.ref u1, .int 0, .null, .null, .null, .int 0, .null, .int 0, .int 0, .null])), (u1, .inl (gW G, 10, .inr (.inr (.inr (.inr (fun _ => none)))))), (u2, .inl (gI G, 8, .inl (fun _ => 0)))] := hD
  refine va_putF (D := gD G) (ci := 5) (v := .ref u2) (ty := .array .int) (C := RX5) (T := TX5) (N := 10) hx hb hts inTX5 tyX5 tyX5_ok nmX5 hown hK hP hD hS 0 rfl rfl 2 (by decide) (hts _ tw_117) (fun _ h9 => h9) rfl hin rfl (by decide +kernel) rfl rfl (Nat.le_of_ble_eq_true rfl) dX5_init_18 (fun H locs hP hD hS => ?_)
  have hP : va_P (gD G) vwCl [(q_, .inr (5, [.ref u1, .int 0, .ref u2, .null, .null, .int 0, .null, .int 0, .int 0, .null])), (u1, .inl (gW G, 10, .inr (.inr (.inr (.inr (fun _ => none)))))), (u2, .inl (gI G, 8, .inl (fun _ => 0)))] H := hP
  have hD : va_D (fun x_ => x_ = q_ ∨ n_ ≤ x_) [(q_, .inr (5, [.ref u1, .int 0, .ref u2, .null, .null, .int 0, .null, .int 0, .int 0, .null])), (u1, .inl (gW G, 10, .inr (.inr (.inr (.inr (fun _ => none)))))), (u2, .inl (gI G, 8, .inl (fun _ => 0)))] := hD
  refine lv_aload_n hx hb dX5_init_21 rfl (lv_at hl 0 rfl) ?_
  refine lv_bipush hx hb (v := 8) dX5_init_22 (by decide) ?_
  refine zc_newI hx hb hts hK hP hD hS hA 8 (by decide) (by decide) (by show _ ≤ 6; omega) (by show _ ≤ 137; omega) dX5_init_24 (fun u3 H hP hD hS => ?_)
  have hP : va_P (gD G) vwCl [(q_, .inr (5, [.ref u1, .int 0, .ref u2, .null, .null, .int 0, .null, .int 0, .int 0, .null])), (u1, .inl (gW G, 10, .inr (.inr (.inr (.inr (fun _ => none)))))), (u2, .inl (gI G, 8, .inl (fun _ => 0))), (u3, .inl (gI G, 8, .inl (fun _ => 0)))] H := hP
  have hD : va_D (fun x_ => x_ = q_ ∨ n_ ≤ x_) [(q_, .inr (5, [.ref u1, .int 0, .ref u2, .null, .null, .int 0, .null, .int 0, .int 0, .null])), (u1, .inl (gW G, 10, .inr (.inr (.inr (.inr (fun _ => none)))))), (u2, .inl (gI G, 8, .inl (fun _ => 0))), (u3, .inl (gI G, 8, .inl (fun _ => 0)))] := hD
  refine va_putF (D := gD G) (ci := 5) (v := .ref u3) (ty := .array .int) (C := RX5) (T := TX5) (N := 10) hx hb hts inTX5 tyX5 tyX5_ok nmX5 hown hK hP hD hS 0 rfl rfl 3 (by decide) (hts _ tw_119) (fun _ h9 => h9) rfl hin rfl (by decide +kernel) rfl rfl (Nat.le_of_ble_eq_true rfl) dX5_init_26 (fun H locs hP hD hS => ?_)
  have hP : va_P (gD G) vwCl [(q_, .inr (5, [.ref u1, .int 0, .ref u2, .ref u3, .null, .int 0, .null, .int 0, .int 0, .null])), (u1, .inl (gW G, 10, .inr (.inr (.inr (.inr (fun _ => none)))))), (u2, .inl (gI G, 8, .inl (fun _ => 0))), (u3, .inl (gI G, 8, .inl (fun _ => 0)))] H := hP
  have hD : va_D (fun x_ => x_ = q_ ∨ n_ ≤ x_) [(q_, .inr (5, [.ref u1, .int 0, .ref u2, .ref u3, .null, .int 0, .null, .int 0, .int 0, .null])), (u1, .inl (gW G, 10, .inr (.inr (.inr (.inr (fun _ => none)))))), (u2, .inl (gI G, 8, .inl (fun _ => 0))), (u3, .inl (gI G, 8, .inl (fun _ => 0)))] := hD
  refine lv_aload_n hx hb dX5_init_29 rfl (lv_at hl 0 rfl) ?_
  refine lv_bipush hx hb (v := 8) dX5_init_30 (by decide) ?_
  refine zc_newI hx hb hts hK hP hD hS hA 8 (by decide) (by decide) (by show _ ≤ 6; omega) (by show _ ≤ 137; omega) dX5_init_32 (fun u4 H hP hD hS => ?_)
  have hP : va_P (gD G) vwCl [(q_, .inr (5, [.ref u1, .int 0, .ref u2, .ref u3, .null, .int 0, .null, .int 0, .int 0, .null])), (u1, .inl (gW G, 10, .inr (.inr (.inr (.inr (fun _ => none)))))), (u2, .inl (gI G, 8, .inl (fun _ => 0))), (u3, .inl (gI G, 8, .inl (fun _ => 0))), (u4, .inl (gI G, 8, .inl (fun _ => 0)))] H := hP
  have hD : va_D (fun x_ => x_ = q_ ∨ n_ ≤ x_) [(q_, .inr (5, [.ref u1, .int 0, .ref u2, .ref u3, .null, .int 0, .null, .int 0, .int 0, .null])), (u1, .inl (gW G, 10, .inr (.inr (.inr (.inr (fun _ => none)))))), (u2, .inl (gI G, 8, .inl (fun _ => 0))), (u3, .inl (gI G, 8, .inl (fun _ => 0))), (u4, .inl (gI G, 8, .inl (fun _ => 0)))] := hD
  refine va_putF (D := gD G) (ci := 5) (v := .ref u4) (ty := .array .int) (C := RX5) (T := TX5) (N := 10) hx hb hts inTX5 tyX5 tyX5_ok nmX5 hown hK hP hD hS 0 rfl rfl 4 (by decide) (hts _ tw_121) (fun _ h9 => h9) rfl hin rfl (by decide +kernel) rfl rfl (Nat.le_of_ble_eq_true rfl) dX5_init_34 (fun H locs hP hD hS => ?_)
  have hP : va_P (gD G) vwCl [(q_, .inr (5, [.ref u1, .int 0, .ref u2, .ref u3, .ref u4, .int 0, .null, .int 0, .int 0, .null])), (u1, .inl (gW G, 10, .inr (.inr (.inr (.inr (fun _ => none)))))), (u2, .inl (gI G, 8, .inl (fun _ => 0))), (u3, .inl (gI G, 8, .inl (fun _ => 0))), (u4, .inl (gI G, 8, .inl (fun _ => 0)))] H := hP
  have hD : va_D (fun x_ => x_ = q_ ∨ n_ ≤ x_) [(q_, .inr (5, [.ref u1, .int 0, .ref u2, .ref u3, .ref u4, .int 0, .null, .int 0, .int 0, .null])), (u1, .inl (gW G, 10, .inr (.inr (.inr (.inr (fun _ => none)))))), (u2, .inl (gI G, 8, .inl (fun _ => 0))), (u3, .inl (gI G, 8, .inl (fun _ => 0))), (u4, .inl (gI G, 8, .inl (fun _ => 0)))] := hD
  refine lv_aload_n hx hb dX5_init_37 rfl (lv_at hl 0 rfl) ?_
  refine lv_bipush hx hb (v := 100) dX5_init_38 (by decide) ?_
  refine zc_newI hx hb hts hK hP hD hS hA 100 (by decide) (by decide) (by show _ ≤ 6; omega) (by show _ ≤ 137; omega) dX5_init_40 (fun u5 H hP hD hS => ?_)
  have hP : va_P (gD G) vwCl [(q_, .inr (5, [.ref u1, .int 0, .ref u2, .ref u3, .ref u4, .int 0, .null, .int 0, .int 0, .null])), (u1, .inl (gW G, 10, .inr (.inr (.inr (.inr (fun _ => none)))))), (u2, .inl (gI G, 8, .inl (fun _ => 0))), (u3, .inl (gI G, 8, .inl (fun _ => 0))), (u4, .inl (gI G, 8, .inl (fun _ => 0))), (u5, .inl (gI G, 100, .inl (fun _ => 0)))] H := hP
  have hD : va_D (fun x_ => x_ = q_ ∨ n_ ≤ x_) [(q_, .inr (5, [.ref u1, .int 0, .ref u2, .ref u3, .ref u4, .int 0, .null, .int 0, .int 0, .null])), (u1, .inl (gW G, 10, .inr (.inr (.inr (.inr (fun _ => none)))))), (u2, .inl (gI G, 8, .inl (fun _ => 0))), (u3, .inl (gI G, 8, .inl (fun _ => 0))), (u4, .inl (gI G, 8, .inl (fun _ => 0))), (u5, .inl (gI G, 100, .inl (fun _ => 0)))] := hD
  refine va_putF (D := gD G) (ci := 5) (v := .ref u5) (ty := .array .int) (C := RX5) (T := TX5) (N := 10) hx hb hts inTX5 tyX5 tyX5_ok nmX5 hown hK hP hD hS 0 rfl rfl 6 (by decide) (hts _ tw_125) (fun _ h9 => h9) rfl hin rfl (by decide +kernel) rfl rfl (Nat.le_of_ble_eq_true rfl) dX5_init_42 (fun H locs hP hD hS => ?_)
  have hP : va_P (gD G) vwCl [(q_, .inr (5, [.ref u1, .int 0, .ref u2, .ref u3, .ref u4, .int 0, .ref u5, .int 0, .int 0, .null])), (u1, .inl (gW G, 10, .inr (.inr (.inr (.inr (fun _ => none)))))), (u2, .inl (gI G, 8, .inl (fun _ => 0))), (u3, .inl (gI G, 8, .inl (fun _ => 0))), (u4, .inl (gI G, 8, .inl (fun _ => 0))), (u5, .inl (gI G, 100, .inl (fun _ => 0)))] H := hP
  have hD : va_D (fun x_ => x_ = q_ ∨ n_ ≤ x_) [(q_, .inr (5, [.ref u1, .int 0, .ref u2, .ref u3, .ref u4, .int 0, .ref u5, .int 0, .int 0, .null])), (u1, .inl (gW G, 10, .inr (.inr (.inr (.inr (fun _ => none)))))), (u2, .inl (gI G, 8, .inl (fun _ => 0))), (u3, .inl (gI G, 8, .inl (fun _ => 0))), (u4, .inl (gI G, 8, .inl (fun _ => 0))), (u5, .inl (gI G, 100, .inl (fun _ => 0)))] := hD
  refine lv_aload_n hx hb dX5_init_45 rfl (lv_at hl 0 rfl) ?_
  refine lv_iconst hx hb (v := 3) dX5_init_46 (by decide) ?_
  refine zc_newI hx hb hts hK hP hD hS hA 3 (by decide) (by decide) (by show _ ≤ 6; omega) (by show _ ≤ 137; omega) dX5_init_47 (fun u6 H hP hD hS => ?_)
  have hP : va_P (gD G) vwCl [(q_, .inr (5, [.ref u1, .int 0, .ref u2, .ref u3, .ref u4, .int 0, .ref u5, .int 0, .int 0, .null])), (u1, .inl (gW G, 10, .inr (.inr (.inr (.inr (fun _ => none)))))), (u2, .inl (gI G, 8, .inl (fun _ => 0))), (u3, .inl (gI G, 8, .inl (fun _ => 0))), (u4, .inl (gI G, 8, .inl (fun _ => 0))), (u5, .inl (gI G, 100, .inl (fun _ => 0))), (u6, .inl (gI G, 3, .inl (fun _ => 0)))] H := hP
  have hD : va_D (fun x_ => x_ = q_ ∨ n_ ≤ x_) [(q_, .inr (5, [.ref u1, .int 0, .ref u2, .ref u3, .ref u4, .int 0, .ref u5, .int 0, .int 0, .null])), (u1, .inl (gW G, 10, .inr (.inr (.inr (.inr (fun _ => none)))))), (u2, .inl (gI G, 8, .inl (fun _ => 0))), (u3, .inl (gI G, 8, .inl (fun _ => 0))), (u4, .inl (gI G, 8, .inl (fun _ => 0))), (u5, .inl (gI G, 100, .inl (fun _ => 0))), (u6, .inl (gI G, 3, .inl (fun _ => 0)))] := hD
  refine va_putF (D := gD G) (ci := 5) (v := .ref u6) (ty := .array .int) (C := RX5) (T := TX5) (N := 10) hx hb hts inTX5 tyX5 tyX5_ok nmX5 hown hK hP hD hS 0 rfl rfl 9 (by decide) (hts _ tw_128) (fun _ h9 => h9) rfl hin rfl (by decide +kernel) rfl rfl (Nat.le_of_ble_eq_true rfl) dX5_init_49 (fun H locs hP hD hS => ?_)
  have hP : va_P (gD G) vwCl [(q_, .inr (5, [.ref u1, .int 0, .ref u2, .ref u3, .ref u4, .int 0, .ref u5, .int 0, .int 0, .ref u6])), (u1, .inl (gW G, 10, .inr (.inr (.inr (.inr (fun _ => none)))))), (u2, .inl (gI G, 8, .inl (fun _ => 0))), (u3, .inl (gI G, 8, .inl (fun _ => 0))), (u4, .inl (gI G, 8, .inl (fun _ => 0))), (u5, .inl (gI G, 100, .inl (fun _ => 0))), (u6, .inl (gI G, 3, .inl (fun _ => 0)))] H := hP
  have hD : va_D (fun x_ => x_ = q_ ∨ n_ ≤ x_) [(q_, .inr (5, [.ref u1, .int 0, .ref u2, .ref u3, .ref u4, .int 0, .ref u5, .int 0, .int 0, .ref u6])), (u1, .inl (gW G, 10, .inr (.inr (.inr (.inr (fun _ => none)))))), (u2, .inl (gI G, 8, .inl (fun _ => 0))), (u3, .inl (gI G, 8, .inl (fun _ => 0))), (u4, .inl (gI G, 8, .inl (fun _ => 0))), (u5, .inl (gI G, 100, .inl (fun _ => 0))), (u6, .inl (gI G, 3, .inl (fun _ => 0)))] := hD
  exact W.widen (by show _ ≤ 6; omega) (by show _ ≤ 137; omega) (W.vret hx hb hr (fun t ht hW => ⟨⟨(u1, u2, u3, u4, u5, u6), rfl, hD, by show va_P _ _ _ t.heap; rw [ht]; exact hP⟩, hS.F ht⟩) hS.2.2 dX5_init_52)
