/-! the law from its entry, and the claim (begun from the kit's skeleton) -/
/-- what holds at the law's entry: the machine, the code, the tables' words (any of lw_tbl by 'hts w (by decide +kernel)'), the script of L ints xs at the cell b, what the Statement gives of the start (any of its parts by flat_of_before) -/
def lw_At (p : Program) (s : State) (m : MethodId) (meth : Method) (c : Code) (b L : Nat) (xs : Nat → Int32) : Prop :=
  p.tables.exec = Jvm.exec ∧ c.code = code ∧ meth.sig.returnType = ret ∧ c.maxLocals = 8 ∧ s.vm.findClass R_law = some m.cls ∧ (∀ w ∈ lw_tbl, w.before #[Value.ref b] s = true) ∧ va_X b L xs s s.heap ∧ b < s.heap.size ∧ meth.locks = false ∧ (Jvm.Cond.and given_1 narrow_1).before #[Value.ref b] s = true
theorem st_b11 {G : owG} {q n : Nat} : FrameBlind (va_Pc [.ref q] (fun U => va_P (gD G) vwCl [(q, .inr (11, [.null, .null, .null, .int 0, .null, .null, .null, .null, .int 0, .null, .null, .null, .null, .null, .int 0]))] U.heap ∧ va_K (gD G) vwCl (gty G) U ∧ U.heap.size = n ∧ va_AO "OwnWays$Way" U ∧ va_AO "OwnWays$Shelf" U ∧ NwOk U)) := fun a U g mk q9 => by
  obtain ⟨z0, zP, zK, zz, za, zs, zn⟩ := q9
  exact ⟨z0, zP, va_K.moved (u := U) (U := U.calling g mk a) (Vm.Alike.refl U.vm) zK, zz, va_AO.moved (u := U) (U := U.calling g mk a) (Vm.Alike.refl U.vm) za, va_AO.moved (u := U) (U := U.calling g mk a) (Vm.Alike.refl U.vm) zs, NwOk.same rfl zn⟩
theorem st_b12 {G : owG} {q n : Nat} : FrameBlind (va_Pc [.ref q] (fun U => va_P (gD G) vwCl [(q, .inr (12, [.null, .null, .null, .null, .null, .null, .null, .null, .null, .int 0, .int 0, .int 0, .int 0, .int 0, .int 0, .null, .null, .null, .null, .int 0, .null, .int 0, .null, .null]))] U.heap ∧ va_K (gD G) vwCl (gty G) U ∧ U.heap.size = n)) := fun a U g mk q9 => by
  obtain ⟨z0, zP, zK, zz⟩ := q9
  exact ⟨z0, zP, va_K.moved (u := U) (U := U.calling g mk a) (Vm.Alike.refl U.vm) zK, zz⟩
set_option maxRecDepth 100000 in
set_option maxHeartbeats 8000000 in
theorem whole_start {p : Program} {e : Env} {s : State} {m : MethodId} {below : List Frame} {meth : Method} {c : Code} (l : Launch) (hflags : l.flags = flags0) {b L : Nat} {xs : Nat → Int32} (hL : L ≤ 3072) (C0 : lw_At p s m meth c b L xs) : W p l e room_1 s m #[Value.ref b] below meth c s.heap [] 0 0 (lw_Z below #[Value.ref b] s) (entryFrame m ([Value.ref b] : List Value).toArray 8) := by
  obtain ⟨hx, hb, hr, hml, hown, hts0, hX, hbl, hlocks, hgv⟩ := C0
  have hts : ∀ w ∈ owTB, w.before #[Value.ref b] s = true := fun w h => hts0 w (List.mem_filter.mp h).1
  have hl_ : l.stackTraces = false := by
    unfold Launch.stackTraces
    rw [hflags]
    decide +kernel
  obtain ⟨D, cI, cJ, cS, cW, hK0⟩ := st_K hts0
  have hnw : NwOk s := st_nw hts0
  have haw : va_AO "OwnWays$Way" s := va_AO.of (hts0 _ (List.mem_of_getElem? (i := 113) (by decide +kernel)))
  have hash : va_AO "OwnWays$Shelf" s := va_AO.of (hts0 _ (List.mem_of_getElem? (i := 152) (by decide +kernel)))
  have hK : va_K (gD (stG s.heap.size (fun _ _ => 0) D cI cJ cS cW)) vwCl (gty (stG s.heap.size (fun _ _ => 0) D cI cJ cS cW)) s := hK0
  have hA : ∀ q : Nat, s.heap.size ≤ q → (fun q : Nat => s.heap.size ≤ q) q := fun _ h => h
  have hS : va_S (fun q : Nat => s.heap.size ≤ q) s.heap s.heap [] := va_S.rf
  have hP : va_P (gD (stG s.heap.size (fun _ _ => 0) D cI cJ cS cW)) vwCl [] s.heap := fun k q h => by simp at h
  have hD : va_D (fun q : Nat => s.heap.size ≤ q) [] := ⟨fun i j p q h => by simp at h, fun k q h => by simp at h⟩
  have hl := lv_entry ([.ref b]) (n := 8) (Nat.le_of_ble_eq_true rfl)
  rw [lg_entry_eq]
  generalize (lg_sl ([.ref b]) ++ List.replicate (8 - (lg_sl ([.ref b])).length) Slot.unset).toArray = ls at hl ⊢
  have hl : lv_has ls 8 [(0, .ref b)] := hl
  refine va_new (D := gD (stG s.heap.size (fun _ _ => 0) D cI cJ cS cW)) (T := TX11) (N := 15) (ci := 11) (fs := [.null, .null, .null, .int 0, .null, .null, .null, .null, .int 0, .null, .null, .null, .null, .null, .int 0]) hx hb hts inTX11 tyX11 tyX11_ok hown (hts (.classLink RL 8 RX11) (owTB_of (List.mem_of_getElem? (i := 98) (by decide +kernel)) rfl)) (hts (.instantiable RX11 15) (owTB_of (List.mem_of_getElem? (i := 99) (by decide +kernel)) rfl)) (hts (.initialized RX11) tw_76) hK hP hD hS hA rfl (fun j hj => by rcases (show j = 0 ∨ j = 1 ∨ j = 2 ∨ j = 3 ∨ j = 4 ∨ j = 5 ∨ j = 6 ∨ j = 7 ∨ j = 8 ∨ j = 9 ∨ j = 10 ∨ j = 11 ∨ j = 12 ∨ j = 13 ∨ j = 14 by omega) with rfl | rfl | rfl | rfl | rfl | rfl | rfl | rfl | rfl | rfl | rfl | rfl | rfl | rfl | rfl <;> rfl) (Nat.le_of_ble_eq_true rfl) (Nat.le_of_ble_eq_true rfl) dL_law_0 (fun q0 H hP hD hS => ?_)
  have hP : va_P (gD (stG s.heap.size (fun _ _ => 0) D cI cJ cS cW)) vwCl [(q0, .inr (11, [.null, .null, .null, .int 0, .null, .null, .null, .null, .int 0, .null, .null, .null, .null, .null, .int 0]))] H := hP
  have hD : va_D (fun q : Nat => s.heap.size ≤ q) [(q0, .inr (11, [.null, .null, .null, .int 0, .null, .null, .null, .null, .int 0, .null, .null, .null, .null, .null, .int 0]))] := hD
  refine lv_dup hx hb dL_law_3 rfl ?_
  refine zc_ctorL (idx := 17) (k := 0) (e1 := owE11) (us := owT11 (stG s.heap.size (fun _ _ => 0) D cI cJ cS cW)) hx hb hml hown hts hl.1 (c_init_X11 l (stG s.heap.size (fun _ _ => 0) D cI cJ cS cW) q0 H.size) st_b11 (fun U hU hW2 => ⟨by rw [hU]; exact hP, va_K.moved hW2.alike hK, by rw [hU], va_AO.moved hW2.alike haw, va_AO.moved hW2.alike hash, hnw.warm hW2⟩) (owTB_of (List.mem_of_getElem? (i := 100) (by decide +kernel)) rfl) (owTB_of (List.mem_of_getElem? (i := 102) (by decide +kernel)) rfl) tw_76 (owTB_of (List.mem_of_getElem? (i := 101) (by decide +kernel)) rfl) rfl ⟨by decide, by decide, by decide +kernel⟩ hP hD hS hA rfl ⟨Nat.le_of_ble_eq_true rfl, Nat.le_of_ble_eq_true rfl⟩ (Nat.le_of_ble_eq_true rfl) ⟨Nat.le_of_ble_eq_true rfl, Nat.le_of_ble_eq_true rfl⟩ dL_law_4 (fun u H locs hP hD hS => ?_)
  have hP : va_P (gD (stG s.heap.size (fun _ _ => 0) D cI cJ cS cW)) vwCl ((q0, owE11 u) :: owT11 (stG s.heap.size (fun _ _ => 0) D cI cJ cS cW) u) H := hP
  have hD : va_D (fun q : Nat => s.heap.size ≤ q) ((q0, owE11 u) :: owT11 (stG s.heap.size (fun _ _ => 0) D cI cJ cS cW) u) := hD
  refine lv_astore_n (lv' := [(1, .ref q0), (0, .ref b)]) hx hb dL_law_7 rfl hl (by decide) rfl (fun ls hl => ?_)
  refine va_new (D := gD (stG s.heap.size (fun _ _ => 0) D cI cJ cS cW)) (T := TX12) (N := 24) (ci := 12) (fs := [.null, .null, .null, .null, .null, .null, .null, .null, .null, .int 0, .int 0, .int 0, .int 0, .int 0, .int 0, .null, .null, .null, .null, .int 0, .null, .int 0, .null, .null]) hx hb hts inTX12 tyX12 tyX12_ok hown (hts (.classLink RL 18 RX12) (owTB_of (List.mem_of_getElem? (i := 1028) (by decide +kernel)) rfl)) (hts (.instantiable RX12 24) (owTB_of (List.mem_of_getElem? (i := 1029) (by decide +kernel)) rfl)) (hts (.initialized RX12) tw_80) hK hP hD hS hA rfl (fun j hj => by rcases (show j = 0 ∨ j = 1 ∨ j = 2 ∨ j = 3 ∨ j = 4 ∨ j = 5 ∨ j = 6 ∨ j = 7 ∨ j = 8 ∨ j = 9 ∨ j = 10 ∨ j = 11 ∨ j = 12 ∨ j = 13 ∨ j = 14 ∨ j = 15 ∨ j = 16 ∨ j = 17 ∨ j = 18 ∨ j = 19 ∨ j = 20 ∨ j = 21 ∨ j = 22 ∨ j = 23 by omega) with rfl | rfl | rfl | rfl | rfl | rfl | rfl | rfl | rfl | rfl | rfl | rfl | rfl | rfl | rfl | rfl | rfl | rfl | rfl | rfl | rfl | rfl | rfl | rfl <;> rfl) (Nat.le_of_ble_eq_true rfl) (Nat.le_of_ble_eq_true rfl) dL_law_8 (fun q1 H hP hD hS => ?_)
  refine lv_dup hx hb dL_law_11 rfl ?_
  refine zc_ctorL (idx := 20) (k := 50) (e1 := owE12) (us := owT12 (stG s.heap.size (fun _ _ => 0) D cI cJ cS cW)) hx hb hml hown hts hl.1 (c_init_X12 l (stG s.heap.size (fun _ _ => 0) D cI cJ cS cW) q1 H.size) st_b12 (fun U hU hW2 => ⟨by rw [hU]; exact hP.sub [50] rfl, va_K.moved hW2.alike hK, by rw [hU]⟩) (owTB_of (List.mem_of_getElem? (i := 1030) (by decide +kernel)) rfl) (owTB_of (List.mem_of_getElem? (i := 1032) (by decide +kernel)) rfl) tw_80 (owTB_of (List.mem_of_getElem? (i := 1031) (by decide +kernel)) rfl) rfl ⟨by decide, by decide, by decide +kernel⟩ hP hD hS hA rfl ⟨Nat.le_of_ble_eq_true rfl, Nat.le_of_ble_eq_true rfl⟩ (Nat.le_of_ble_eq_true rfl) ⟨Nat.le_of_ble_eq_true rfl, Nat.le_of_ble_eq_true rfl⟩ dL_law_12 (fun v H locs hP hD hS => ?_)
  refine lv_astore_n (lv' := [(2, .ref q1), (1, .ref q0), (0, .ref b)]) hx hb dL_law_15 rfl hl (by decide) rfl (fun ls hl => ?_)
  refine lv_iconst (v := nI 1) hx hb dL_law_16 (by decide) ?_
  refine zc_newJ hx hb hts hK hP hD hS hA 1 rfl (by decide) (Nat.le_of_ble_eq_true rfl) (Nat.le_of_ble_eq_true rfl) dL_law_17 (fun q2 H hP hD hS => ?_)
  have hP : va_P D vwCl (stW (stG s.heap.size (stKa q0 u q1 v q2) D cI cJ cS cW) q0 u q1 v q2) H := by
    rw [← stW_cg (G := (stG s.heap.size (fun _ _ => 0) D cI cJ cS cW)) (G2 := (stG s.heap.size (stKa q0 u q1 v q2) D cI cJ cS cW)) rfl rfl rfl rfl, ← stW_eq (.inr (12, [.null, .null, .null, .null, .null, .null, .null, .null, .null, .int 0, .int 0, .int 0, .int 0, .int 0, .int 0, .null, .null, .null, .null, .int 0, .null, .int 0, .null, .null]))]
    exact hP
  have hD : va_D (fun q : Nat => s.heap.size ≤ q) (stW (stG s.heap.size (stKa q0 u q1 v q2) D cI cJ cS cW) q0 u q1 v q2) := by
    rw [← stW_cg (G := (stG s.heap.size (fun _ _ => 0) D cI cJ cS cW)) (G2 := (stG s.heap.size (stKa q0 u q1 v q2) D cI cJ cS cW)) rfl rfl rfl rfl, ← stW_eq (.inr (12, [.null, .null, .null, .null, .null, .null, .null, .null, .null, .int 0, .int 0, .int 0, .int 0, .int 0, .int 0, .null, .null, .null, .null, .int 0, .null, .int 0, .null, .null]))]
    exact hD
  refine lv_astore_n (lv' := [(3, .ref q2), (2, .ref q1), (1, .ref q0), (0, .ref b)]) hx hb dL_law_19 rfl hl (by decide) rfl (fun ls hl => ?_)
  refine lv_iconst (v := nI 0) hx hb dL_law_20 (by decide) ?_
  refine lv_istore (lv' := [(4, .int (nI 0)), (3, .ref q2), (2, .ref q1), (1, .ref q0), (0, .ref b)]) hx hb dL_law_21 hl (by decide) rfl (fun ls hl => ?_)
  have hl : lv_has ls 8 (lvL (stG s.heap.size (stKa q0 u q1 v q2) D cI cJ cS cW) b 0) := lv_sub hl [4, 3, 2, 1, 0] rfl
  exact law_loop l hl_ (stG s.heap.size (stKa q0 u q1 v q2) D cI cJ cS cW) hL (L + 1) 0 68 2858 st0 (Nat.zero_le L) (by omega) st_LI (Nat.le_of_ble_eq_true rfl) (Nat.le_of_ble_eq_true rfl) p e s m #[Value.ref b] below meth c H locs ls ⟨hx, hb, hml, hown, hts, hr, hlocks, ⟨st_xok hts0 hgv rfl, hX, hbl, Nat.le_refl _⟩, hK0, st_holds hP hD, hS, ⟨Nat.le_refl _, hnw⟩, hl⟩
set_option maxHeartbeats 4000000 in
theorem lw_walk (l : Launch) (hflags : l.flags = flags0) (b : Addr) (xs : List Int32) : MetFree l x (headSpec (Jvm.Cond.code x code maxLocals ret :: tables_1) room_1) (lw_P b xs) (fun _ _ _ _ _ => True) lw_Q := by
  refine MetFree.of_bodyS (code := code) (maxLocals := maxLocals) (ret := ret) (by decide) ?_ ?_
  · intro args s m h hn
    obtain ⟨meth, c, h1, h2, h3, h4, h5, h6, -, -⟩ := Cond.code_spec hn (atoms_spec (ws := Jvm.Cond.code x code maxLocals ret :: tables_1) h _ List.mem_cons_self)
    exact ⟨meth, c, h1, h2, h3, h4, h5, h6⟩
  · intro p e s m args below meth c s₁ B hml0 hP _
    obtain ⟨rfl, hx, hbd, hgv⟩ := hP
    obtain ⟨scr, harrAt, hlist, hof, hsmall⟩ := hx
    obtain ⟨hcb, hkn, -, -⟩ := State.arrayAt?_spec harrAt
    have hown : s.vm.findClass R_law = some m.cls := findClass_of_methodNamed B.named
    have hts0 : ∀ c ∈ (Jvm.Cond.code x code maxLocals ret :: tables_1), c.before #[Value.ref b] s = true := atoms_spec (ws := Jvm.Cond.code x code maxLocals ret :: tables_1) B.pre
    have hts : ∀ w ∈ lw_tbl, w.before #[Value.ref b] s = true := k2_hts_sels lw_privs (fun w hw => hts0 w (List.mem_cons_of_mem _ hw)) lw_privs_ok
    have hml : c.maxLocals = 8 := B.maxLocals_eq (hts0 _ List.mem_cons_self)
    have X₀ : Stand p l e room_1 s m #[Value.ref b] below meth c s₁ [] 0 0 := Stand.of_body B
    have hh0 : s₁.heap = s.heap := by rw [B.state]; rfl
    have hsz : scr.slots.size = xs.length := by rw [← Array.length_toList, hlist, List.length_map]
    have hval : ∀ j : Nat, j < xs.length → scr.slots[j]? = some (.int (xs.getD j 0)) := fun j hj => by
      rw [← Array.getElem?_toList, hlist]
      simp [hj]
    have hbl : b < s.heap.size := (Array.getElem?_eq_some_iff.mp hcb).1
    have hX : va_X b xs.length (fun j => xs.getD j 0) s s.heap := ⟨scr, hcb, hof, hkn, hsz, hval⟩
    have K : W p l e room_1 s m #[Value.ref b] below meth c s₁.heap [] 0 0 (lw_Z below #[Value.ref b] s) (entryFrame m ([Value.ref b] : List Value).toArray 8) := by
      rw [hh0]
      exact whole_start l hflags hbd ⟨B.exec, B.bytes, B.returns, hml, hown, hts, hX, hbl, B.notSynchronized, hgv⟩
    obtain ⟨t, a1, o, b1, b2, b3⟩ := K s₁ rfl X₀
    exact ⟨t, o, a1, b1, b2, b3⟩
theorem lw_pre_spec {args : Array Value} {s : State} (h : (Jvm.Cond.and given_1 narrow_1).before args s = true) (hr : rest_1_c.before args s = true) : ∃ (b : Addr) (xs : List Int32), lw_P b xs args s := by
  have hs := flat_of_before _ h
  have hq := flat_of_before _ hr
  have hc : (Cond.count 1).before args s = true := hs _ (by decide +kernel)
  have harr : (Cond.arrayOf (.arg 0) .int).before args s = true := hs _ (by decide +kernel)
  have hle : (Cond.le (.length (.arg 0)) (.int 3072)).before args s = true := hs _ (by decide +kernel)
  have hlen : (Cond.isInt (.length (.arg 0))).before args s = true := hq _ (by decide +kernel)
  have hall : (Cond.all (.arg 0) (.isInt (.elem (.arg 0) (.index 0)))).before args s = true := hq _ (by decide +kernel)
  obtain ⟨b, xs, hb, hx⟩ := State.ints_of_pre rfl harr hlen hall
  have hsm : xs.length < 2 ^ 31 := hx.choose_spec.2.2.2
  have hev : (Term.length (.arg 0)).eval args s none [] s = some (.int xs.length.toInt32) := hx.length_eval hb
  have hv := Cond.le_ints hev (show (Term.int 3072).eval args s none [] s = some (.int 3072) from rfl)
  have hd : xs.length.toInt32 ≤ 3072 := by
    simpa [Cond.before, Cond.holds, hv] using hle
  have hN : xs.length ≤ 3072 := (Int32.ofNat_le_ofNat hsm (by decide)).mp (show Int32.ofNat xs.length ≤ Int32.ofNat 3072 from hd)
  exact ⟨b, xs, Cond.one_arg hc (show args[0]? = some (.ref b) from hb), hx, hN, h⟩
theorem lw_comes (l : Launch) (hflags : l.flags = flags0) : Comes l x (Jvm.Cond.code x code maxLocals ret :: tables_1) room_1 (fun tb e args s => Calls_1 tb e args s ∧ rest_1 tb e args s ∧ Pre_1 tb e args s)
    (fun _ _ args s o t => lw_Q args s o t) := by
  intro p e ha hc hk s m args below hf hfit hheap happ hpre
  obtain ⟨b, xs, hP⟩ := lw_pre_spec hpre.2.2 hpre.2.1
  obtain ⟨k, o, h1, h2, h3, hQ⟩ := lw_walk l hflags b xs p e ha hc hk s m args below hf ((Spec.applies_iff_loose hf).mp happ).1 hP trivial
  exact ⟨k, o, h1, h2, h3, hQ⟩
theorem lw_frame {s t : State} {o : Outcome} {args : Array Value} (h : Framed s o t [] 601024 7293034) :
    Framed s o t (fieldLocs frame_1_writes args s ++ arrayLocs frame_1_arrays args s ++ staticLocs frame_1_statics s) 601024 7293034 := h
theorem lw_limb (L : Cond) (hL : ∀ (args : Array Value) (s t : State), L.after args s (.returned (some (.int 1))) t = true) :
    ArmFor flags0 classFile x code maxLocals ret World_1 tables_1 room_1 Calls_1 rest_1 Pre_1
      (fun tb e a s o t => postC L tb e a s o t ∧ Framed s o t (fieldLocs frame_1_writes a s ++ arrayLocs frame_1_arrays a s ++ staticLocs frame_1_statics s) 601024 7293034) := by
  intro l hflags _ _ p e ha hc hk s m args below hf hfit hheap happ hpre
  obtain ⟨k, o, h1, h2, h3, rfl, hF⟩ := lw_comes l hflags p e ha hc hk s m args below hf hfit hheap happ hpre
  exact ⟨k, _, h1, h2, h3, hL args s _, lw_frame hF⟩
theorem i_vc : Claimed_1_1 ∧ Claimed_1_2 := ⟨lw_limb limb_1_1 (fun args s t => by simp [limb_1_1, Cond.after, Cond.holds, Cond.value]), lw_limb limb_1_2 (fun args s t => Cond.after_iff.mpr (by
  first | (rw [show limb_1_2 = Cond.eq .result (.int 1) from rfl, Cond.eq_ints (x := 1) (y := 1) rfl rfl]; simp; done) | (simp [limb_1_2, Cond.value, Term.eval]; done)))⟩
