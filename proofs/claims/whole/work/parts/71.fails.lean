/-! throwing and catching over the banks -/
def xA : String := "java/lang/IllegalArgumentException"
def xS : String := "java/lang/IllegalStateException"
def xU : String := "java/lang/UnsupportedOperationException"
def xNm : List String := ["java/lang/RuntimeException", "java/lang/Exception"]
def xSt : List (String × Nat × String) := [("OwnWays", 284, "no such shelf"), ("OwnWays", 291, "no row, or no such place"), ("OwnWays$Patched", 35, "a patched way fails"), ("OwnWays$Topped", 19, "a topped way fails"), ("OwnWays$Way", 30, "a way fails")]
def xDc : List MethodName := [⟨"java/lang/RuntimeException", "<init>", "()V"⟩, ⟨"java/lang/RuntimeException", "<init>", "(Ljava/lang/String;)V"⟩, ⟨"java/lang/Exception", "<init>", "()V"⟩, ⟨"java/lang/Exception", "<init>", "(Ljava/lang/String;)V"⟩, ⟨"java/lang/Throwable", "<init>", "()V"⟩, ⟨"java/lang/Throwable", "<init>", "(Ljava/lang/String;)V"⟩]
def xNc : List (String × String) := [("java/lang/IllegalArgumentException", "java/lang/UnsupportedOperationException"), ("java/lang/IllegalStateException", "java/lang/UnsupportedOperationException"), ("java/lang/IllegalStateException", "java/lang/IllegalArgumentException")]
def xBd : List Cond := (xDc.map fun q => Cond.declares q) ++ [.castable xA xA, .castable xS xS, .castable xU xU]
/-- what the heap and the tables say of exceptions -/
def XOk (G : owG) (U : State) : Prop := vx_Zq Bundle.tN "UNASSIGNED_STACK" Bundle.steD (gA G) U U.heap ∧ vx_Zq Bundle.tN "SUPPRESSED_SENTINEL" Bundle.listD (gA G) U U.heap ∧ (∀ q ∈ xDc, va_Nw (.declares q) U) ∧ (∀ q ∈ xNc, va_Nc q.1 q.2 U) ∧ ∀ q ∈ xSt, ∃ a, vk_R q.1 q.2.1 q.2.2 a U
theorem XOk.keep {G : owG} {s U : State} {H : Heap} {locs : List Loc} (h : XOk G s) (hW : s.WarmedH U.vm) (hU : U.heap = H) (hS : va_S (gA G) s.heap H locs) : XOk G U := by
  obtain ⟨h1, h2, h3, h4, h5⟩ := h
  refine ⟨?_, ?_, fun q hq => va_Nw.warmD hW (h3 q hq), fun q hq => va_Nc.moved hW.alike (h4 q hq), fun q hq => ?_⟩
  · rw [hU]; exact vx_Zq.moved hW.alike (h1.kept hS.2.1)
  · rw [hU]; exact vx_Zq.moved hW.alike (h2.kept hS.2.1)
  · obtain ⟨a, ha⟩ := h5 q hq; exact ⟨a, vk_R.warm hW ha⟩
theorem XOk.same {G : owG} {s U : State} (h : XOk G s) (hv : s.vm = U.vm) (hh : s.heap = U.heap) : XOk G U := by
  obtain ⟨h1, h2, h3, h4, h5⟩ := h
  have ha : s.vm.Alike U.vm := by rw [hv]; exact Vm.Alike.refl _
  refine ⟨?_, ?_, fun q hq => va_Nw.same rfl hv (h3 q hq), fun q hq => va_Nc.moved ha (h4 q hq), fun q hq => ?_⟩
  · rw [← hh]; exact vx_Zq.moved ha h1
  · rw [← hh]; exact vx_Zq.moved ha h2
  · obtain ⟨a, hq2⟩ := h5 q hq; exact ⟨a, vk_R.same hv.symm hq2⟩
def XX (G : owG) (QX : String → owSt → Prop) : String → State → State → Prop := fun E st t => (∃ σ, QX E σ ∧ Holds G σ t.heap) ∧ va_F (gA G) st t
def QfX (G : owG) (Q : Option Value → owSt → Prop) (QX : String → owSt → Prop) (mc ms : Nat) : List Frame → Array Value → State → State → Prop := fun below args s => vx_MQ below (QQ G Q) (XX G QX) args s mc ms (gA G)
def InvX (G : owG) (σ : owSt) (U : State) : Prop := Inv G σ U ∧ XOk G U
/-- a contract that returns or throws; one that needs what exceptions need; one of a method with a table -/
def CtX (l : Launch) (G : owG) (y : MethodName) (cc : ByteArray) (nL : Nat) (rt : Option FieldType) (lvl mc ms : Nat) (as : List Value) (σ : owSt) (Q : Option Value → owSt → Prop) (QX : String → owSt → Prop) : Prop := vx_Met l y (owWs y cc nL rt) (rmk lvl mc ms) (va_Pc as (InvX G σ)) (QQ G Q) (XX G QX) mc ms (gA G)
def CtE (l : Launch) (G : owG) (y : MethodName) (cc : ByteArray) (nL : Nat) (rt : Option FieldType) (lvl mc ms : Nat) (as : List Value) (σ : owSt) (Q : Option Value → owSt → Prop) : Prop := Met l y (owWs y cc nL rt) (rmk lvl mc ms) (va_Pc as (InvX G σ)) (QQ G Q) mc ms (gA G)
def CtW (l : Launch) (G : owG) (y : MethodName) (cc : ByteArray) (nL : Nat) (rt : Option FieldType) (hh : List (Nat × Nat × Nat × Nat)) (lvl mc ms : Nat) (as : List Value) (σ : owSt) (Q : Option Value → owSt → Prop) : Prop := Met l y (.codeWith y cc nL rt hh :: owTB) (rmk lvl mc ms) (va_Pc as (InvX G σ)) (QQ G Q) mc ms (gA G)
def TbOk (tl : List ExceptionTableEntry) (s : State) : Prop := ∀ m args below meth c, s.frames = .invoking m args :: below → s.vm.method? m = some meth → meth.code = some c → c.exceptionTable.toList = tl
def ExX (G : owG) (tl : List ExceptionTableEntry) : State → Prop := fun s => XOk G s ∧ TbOk tl s
theorem owBlindX {G : owG} {σ : owSt} {as : List Value} : FrameBlind (va_Pc as (InvX G σ)) := fun a U g mk q => by
  obtain ⟨q0, ⟨q1, q2, q3, q4⟩, q5⟩ := q
  exact ⟨q0, ⟨q1, va_K.moved (u := U) (U := U.calling g mk a) (Vm.Alike.refl U.vm) q2, q3, NwOk.same rfl q4⟩, XOk.same q5 rfl rfl⟩
section OWX
variable {l : Launch} {G : owG} {cc : ByteArray} {nL : Nat} {own : String} {rt : Option FieldType} {R : Room} {Ex : State → Prop} {Qf : List Frame → Array Value → State → State → Prop} {pc : Nat} {lv : List (Nat × Value)} {rest : List Value} {σ : owSt} {cells slots : Nat}
theorem owPreX {p : Program} {s : State} {m : MethodId} {args : Array Value} {meth : Method} {c : Code} {H : Heap} {locs : List Loc} {ls : Array Slot} (hEx : ∀ s, Ex s → XOk G s) (X : Cx G cc nL own rt Ex lv σ p s m args meth c H locs ls) (as : List Value) : ∀ U : State, U.heap = H → s.WarmedH U.vm → va_Pc as (InvX G σ) as.toArray U := fun U hU hW => by
  obtain ⟨hx, hb, hml, ho, hts, hr, hlk, hE, hK, hH, hS, hB, hl⟩ := X
  exact ⟨rfl, ⟨by rw [hU]; exact hH, va_K.moved hW.alike hK, by rw [hU]; exact Nat.le_trans hB.1 hS.1, hB.2.warm hW⟩, (hEx s hE).keep hW hU hS⟩
theorem ctx_of {y : MethodName} {lvl mc ms : Nat} {as : List Value} {Q : Option Value → owSt → Prop} {QX : String → owSt → Prop} (hy : plainName y.cls = true) (hn : (lg_sl as).length ≤ nL) (k : Wm l G cc nL y.cls rt (rmk lvl mc ms) (ExX G []) (QfX G Q QX mc ms) 0 (lv_args 0 as) [] σ 0 0) : CtX l G y cc nL rt lvl mc ms as σ Q QX := by
  refine vx_ofW (cc := cc) (maxL := nL) (ret := rt) hy rfl ?_
  intro p e s m args below meth c s₁ B hml ht hv
  obtain ⟨rfl, ⟨hH, hK, hb⟩, hx⟩ := hv
  have hl := lv_entry as (n := nL) hn
  rw [lg_entry_eq]
  have X0 := Stand.of_body B
  refine k p e s m _ below meth c s.heap [] _ ⟨B.exec, B.bytes, hml, findClass_of_methodNamed B.named, fun w h => atoms_spec (ws := owWs y cc nL rt) B.pre w (List.mem_cons_of_mem _ h), B.returns, B.notSynchronized, ⟨hx, fun m2 a2 b2 meth2 c2 hf hm hc => ?_⟩, hK, hH, va_S.rf, hb, hl⟩
  have hf2 := X0.frames.symm.trans hf
  injection hf2 with e1 e2
  injection e1 with e3 e4
  rw [← e3] at hm
  obtain rfl := Option.some.inj (hm.symm.trans X0.method)
  obtain rfl := Option.some.inj (hc.symm.trans X0.code)
  exact List.eq_nil_iff_forall_not_mem.mpr fun x hx => ht x hx
theorem cte_of {y : MethodName} {lvl mc ms : Nat} {as : List Value} {Q : Option Value → owSt → Prop} (hy : plainName y.cls = true) (hn : (lg_sl as).length ≤ nL) (k : Wm l G cc nL y.cls rt (rmk lvl mc ms) (XOk G) (QfM G Q mc ms) 0 (lv_args 0 as) [] σ 0 0) : CtE l G y cc nL rt lvl mc ms as σ Q := by
  refine Met.ofW (cc := cc) (maxL := nL) (ret := rt) hy rfl ?_
  intro p e s m args below meth c s₁ B hml hv
  obtain ⟨rfl, ⟨hH, hK, hb⟩, hx⟩ := hv
  have hl := lv_entry as (n := nL) hn
  rw [lg_entry_eq]
  exact k p e s m _ below meth c s.heap [] _ ⟨B.exec, B.bytes, hml, findClass_of_methodNamed B.named, fun w h => atoms_spec (ws := owWs y cc nL rt) B.pre w (List.mem_cons_of_mem _ h), B.returns, B.notSynchronized, hx, hK, hH, va_S.rf, hb, hl⟩
theorem ctw_of {y : MethodName} {hh : List (Nat × Nat × Nat × Nat)} {lvl mc ms : Nat} {as : List Value} {Q : Option Value → owSt → Prop} (hy : plainName y.cls = true) (hn : (lg_sl as).length ≤ nL) (k : Wm l G cc nL y.cls rt (rmk lvl mc ms) (ExX G (tableOf hh)) (QfM G Q mc ms) 0 (lv_args 0 as) [] σ 0 0) : CtW l G y cc nL rt hh lvl mc ms as σ Q := by
  unfold CtW
  refine MetFree.of_bodyS (code := cc) (maxLocals := nL) (ret := rt) hy ?_ ?_
  · intro args s m h hn2
    obtain ⟨m9, meth, c, hn9, h1, h2, h3, h4, -, h5, h6, -⟩ := Cond.codeWith_spec (atoms_spec (ws := .codeWith y cc nL rt hh :: owTB) h _ List.mem_cons_self)
    cases hn2.symm.trans hn9
    exact ⟨meth, c, h1, h2, h3, h4, h5, h6⟩
  · intro p e s m args below meth c s₁ B hml hv _
    have hh0 : s₁.heap = s.heap := by rw [B.state]; rfl
    have X0 := Stand.of_body B
    have htb := vx_table (x := y) B (atoms_spec (ws := .codeWith y cc nL rt hh :: owTB) B.pre _ List.mem_cons_self)
    obtain ⟨rfl, ⟨hH, hK, hb⟩, hx⟩ := hv
    have hl := lv_entry as (n := nL) hn
    have K := k p e s m _ below meth c s.heap [] _ ⟨B.exec, B.bytes, hml, findClass_of_methodNamed B.named, fun w h => atoms_spec (ws := .codeWith y cc nL rt hh :: owTB) B.pre w (List.mem_cons_of_mem _ h), B.returns, B.notSynchronized, ⟨hx, fun m2 a2 b2 meth2 c2 hf hm hc => by
      have hf2 := X0.frames.symm.trans hf
      injection hf2 with e1 e2
      injection e1 with e3 e4
      rw [← e3] at hm
      obtain rfl := Option.some.inj (hm.symm.trans X0.method)
      obtain rfl := Option.some.inj (hc.symm.trans X0.code)
      exact htb⟩, hK, hH, va_S.rf, hb, hl⟩
    rw [← lg_entry_eq] at K
    obtain ⟨t, a1, o, b1, b2, b3⟩ := K s₁ hh0 X0
    exact ⟨t, o, a1, b1, b2, ⟨b3.1, b3.2⟩⟩
end OWX
def xThr (own : String) (ik ic : Nat) (cls : String) : Prop := Cond.classLink own ik cls ∈ owTB ∧ Cond.initialized cls ∈ owTB ∧ (∀ w ∈ (vx_atS own ic cls xNm).filter goodWord, w ∈ lw_tbl) ∧ (∀ w ∈ (vx_atS own ic cls xNm).filter (fun w => !goodWord w), w ∈ xBd) ∧ (∀ w ∈ Cond.classLink own ik cls :: Cond.initialized cls :: vx_atS own ic cls xNm, vx_ot w = true) ∧ Bundle.fit cls = true ∧ ∀ n ∈ xNm, Bundle.fit n = true
theorem xBd_ok {G : owG} {s : State} {args : Array Value} (hx : XOk G s) (hn : NwOk s) : ∀ w ∈ xBd, w.before args s = true := by
  intro w hw
  rcases List.mem_append.mp hw with h | h
  · obtain ⟨q, hq, rfl⟩ := List.mem_map.mp h
    exact va_Nw.use rfl (hx.2.2.1 q hq)
  · simp only [List.mem_cons, List.not_mem_nil, or_false] at h
    rcases h with rfl | rfl | rfl
    · exact va_Nw.use rfl (hn.2 (xA, xA) (by decide))
    · exact va_Nw.use rfl (hn.2 (xS, xS) (by decide))
    · exact va_Nw.use rfl (hn.2 (xU, xU) (by decide))
section OWY
variable {l : Launch} {G : owG} {cc : ByteArray} {nL : Nat} {own : String} {rt : Option FieldType} {R : Room} {Ex : State → Prop} {Qf : List Frame → Array Value → State → State → Prop} {pc : Nat} {lv : List (Nat × Value)} {rest : List Value} {σ : owSt} {cells slots : Nat}
theorem xx_of {QX : String → owSt → Prop} {cls : String} {s : State} {H : Heap} {locs : List Loc} (hq : QX cls σ) (hH : Holds G σ H) (hS : va_S (gA G) s.heap H locs) : ∀ t : State, s.vm.Alike t.vm → H.size ≤ t.heap.size → (∀ q : Nat, q < H.size → t.heap[q]? = H[q]?) → XX G QX cls s t := fun t _ h1 h2 => ⟨⟨σ, hq, hH.grow h2⟩, Nat.le_trans hS.1 h1, fun q hq2 hn => (h2 q (Nat.lt_of_lt_of_le hq2 hS.1)).trans (hS.2.1 q hq2 hn)⟩
theorem m_throwS {cls text : String} {ik is ic mc ms : Nat} {Q : Option Value → owSt → Prop} {QX : String → owSt → Prop} (hl : l.stackTraces = false) (w : xThr own ik ic cls) (hst : (own, is, text) ∈ xSt) (hR : 5 < R.frames ∧ (rest.map fun v => v.category).sum + 82 ≤ R.locals ∧ cells + 1 ≤ R.cells ∧ slots + 6 ≤ R.slots) (hf : cells + 1 ≤ mc ∧ slots + 6 ≤ ms)
    (d0 : decode cc pc = .ok (.new ik, 3)) (d3 : decode cc (pc + 3) = .ok (.dup, 1)) (d4 : decode cc (pc + 4) = .ok (.ldc is, 2)) (d6 : decode cc (pc + 6) = .ok (.invokespecial ic, 3)) (d9 : decode cc (pc + 9) = .ok (.athrow, 1)) (hq : QX cls σ) : Wm l G cc nL own rt R (ExX G []) (QfX G Q QX mc ms) pc lv rest σ cells slots := by
  intro p e s m args below meth c H locs ls X
  obtain ⟨hx, hb, hml, ho, hts, hr, hlk, ⟨hE, hTb⟩, hK, hH, hS, hB, hlv⟩ := id X
  obtain ⟨w1, w2, w3, w4, w5, w6, w7⟩ := w
  obtain ⟨sa, hsa⟩ := hE.2.2.2.2 _ hst
  intro T hT XX0
  have htab := hTb m args below meth c XX0.frames XX0.method XX0.code
  exact vx_throwS (own := own) (cls := cls) (text := text) (names := xNm) (A := gA G) (Qc := QQ G Q) (XC := XX G QX) hx hb hl ho w6 w7 (hts _ w1) (hts _ w2) hsa (vx_hat (B := xBd) (fun v hv => hts v (owTB_of (w3 v hv) (List.mem_filter.mp hv).2)) w4 (xBd_ok hE hB.2)) w5 hE.1 hE.2.1 hS (hlv.1.trans hml.symm) d0 d3 d4 d6 d9 (fun x hx9 => by rw [htab] at hx9; cases hx9) hR.1 hR.2.1 hR.2.2.1 hR.2.2.2 hlk (xx_of hq hH hS) hS.2.2 hf.1 hf.2 T hT XX0
theorem m_throwSW {cls text : String} {ik is ic mc ms : Nat} {Q : Option Value → owSt → Prop} {QX : String → owSt → Prop} (hl : l.stackTraces = false) (w : xThr own ik ic cls) (hst : (own, is, text) ∈ xSt) (hR : 5 < R.frames ∧ (rest.map fun v => v.category).sum + 82 ≤ R.locals ∧ cells + 1 ≤ R.cells ∧ slots + 6 ≤ R.slots) (hf : cells + 1 ≤ mc ∧ slots + 6 ≤ ms)
    (d0 : decode cc pc = .ok (.new ik, 3)) (d3 : decode cc (pc + 3) = .ok (.dup, 1)) (d4 : decode cc (pc + 4) = .ok (.ldc_w is, 3)) (d7 : decode cc (pc + 7) = .ok (.invokespecial ic, 3)) (d10 : decode cc (pc + 10) = .ok (.athrow, 1)) (hq : QX cls σ) : Wm l G cc nL own rt R (ExX G []) (QfX G Q QX mc ms) pc lv rest σ cells slots := by
  intro p e s m args below meth c H locs ls X
  obtain ⟨hx, hb, hml, ho, hts, hr, hlk, ⟨hE, hTb⟩, hK, hH, hS, hB, hlv⟩ := id X
  obtain ⟨w1, w2, w3, w4, w5, w6, w7⟩ := w
  obtain ⟨sa, hsa⟩ := hE.2.2.2.2 _ hst
  intro T hT XX0
  have htab := hTb m args below meth c XX0.frames XX0.method XX0.code
  exact vx_throwSW (own := own) (cls := cls) (text := text) (names := xNm) (A := gA G) (Qc := QQ G Q) (XC := XX G QX) hx hb hl ho w6 w7 (hts _ w1) (hts _ w2) hsa (vx_hat (B := xBd) (fun v hv => hts v (owTB_of (w3 v hv) (List.mem_filter.mp hv).2)) w4 (xBd_ok hE hB.2)) w5 hE.1 hE.2.1 hS (hlv.1.trans hml.symm) d0 d3 d4 d7 d10 (fun x hx9 => by rw [htab] at hx9; cases hx9) hR.1 hR.2.1 hR.2.2.1 hR.2.2.2 hlk (xx_of hq hH hS) hS.2.2 hf.1 hf.2 T hT XX0
/-- thrown over this frame, not caught as yet -/
def Wt (l : Launch) (G : owG) (cc : ByteArray) (nL : Nat) (own : String) (rt : Option FieldType) (R : Room) (Ex : State → Prop) (Qf : List Frame → Array Value → State → State → Prop) (pc : Nat) (lv : List (Nat × Value)) (rest : List Value) (σ : owSt) (cells slots : Nat) (E : String) : Prop :=
  ∀ (p : Program) (e : Env) (s : State) (m : MethodId) (args : Array Value) (below : List Frame) (meth : Method) (c : Code) (H : Heap) (locs : List Loc) (ls : Array Slot) (q : Addr) (ce : Cell), Cx G cc nL own rt Ex lv σ p s m args meth c H locs ls → H[q]? = some ce → ce.vm = .none → s.vm.findClass E = some ce.cls → vx_W p l e R s m args below meth c H locs cells slots (Qf below args s) (F0 m pc ls rest) q
theorem QQ.runX {mc ms : Nat} {Q : Option Value → owSt → Prop} {QX : String → owSt → Prop} {a : Array Value} {s : State} {p : Program} {e : Env} {m : MethodId} {args : Array Value} {below : List Frame} {meth : Method} {c : Code} {H : Heap} {locs : List Loc} {ls : Array Slot} {st0 : List Value} {Qs : State → Prop} (hr : vx_Run p l e R s m args below meth c H locs cells slots mc ms (F0 m pc ls st0) rest (QQ G Q a) (XX G QX) (gA G)) (X : Cx G cc nL own rt Ex lv σ p s m args meth c H locs ls)
    (kx : ∀ (E : String) (σ2 : owSt) (q : Addr) (ce : Cell) (H1 : Heap) (locs1 : List Loc), QX E σ2 → Cx G cc nL own rt Ex lv σ2 p s m args meth c H1 locs1 ls → H1[q]? = some ce → ce.vm = .none → s.vm.findClass E = some ce.cls → vx_W p l e R s m args below meth c H1 locs1 (cells + mc) (slots + ms) Qs (F0 m pc ls rest) q)
    (kk : ∀ (r : Option Value) (σ2 : owSt) (H1 : Heap) (locs1 : List Loc), Q r σ2 → Cx G cc nL own rt Ex lv σ2 p s m args meth c H1 locs1 ls → W p l e R s m args below meth c H1 locs1 (cells + mc) (slots + ms) Qs (F0 m (pc + 3) ls (r.toList ++ rest))) : W p l e R s m args below meth c H locs cells slots Qs (F0 m pc ls st0) := by
  intro T hT XX0
  have hS := X.2.2.2.2.2.2.2.2.2.2.1
  have mk : ∀ (t T' : State) (L : List Loc), T'.heap = t.heap → H.size ≤ t.heap.size → (∀ q : Nat, q < H.size → ¬ gA G q → t.heap[q]? = H[q]?) → (∀ q ∈ L, gA G q.base) → va_S (gA G) s.heap T'.heap (locs ++ L) := fun t T' L e1 hz hk hL => ⟨Nat.le_trans hS.1 (by rw [e1]; exact hz), fun q h1 h2 => by rw [e1, hk q (Nat.lt_of_lt_of_le h1 hS.1) h2]; exact hS.2.1 q h1 h2, fun q hq => by
      rcases List.mem_append.mp hq with h | h
      · exact hS.2.2 q h
      · exact hL q h⟩
  rcases hr T hT XX0 with ⟨v, st₀, t, T', L, h0, X', hL, e1, e2, ⟨⟨r, σ2, hv, hp, hH2⟩, hz, hk⟩, st⟩ | ⟨q, st₀, t, T', L, E, ce, h0, X', hL, e1, e2, ⟨⟨σ2, hq, hH2⟩, hz, hk⟩, hce, hcv, hcl, st⟩
  · cases hv
    rw [h0] at hz hk
    obtain ⟨t2, a1, b1⟩ := kk v σ2 T'.heap (locs ++ L) hp (X.hp (by rw [e1]; exact hH2) (mk t T' L e1 hz hk hL)) T' rfl X'
    exact ⟨t2, st t2 a1, b1⟩
  · rw [h0] at hz hk
    obtain ⟨t2, a1, b1⟩ := kx E σ2 q ce T'.heap (locs ++ L) hq (X.hp (by rw [e1]; exact hH2) (mk t T' L e1 hz hk hL)) (by rw [e1]; exact hce) hcv hcl T' rfl X'
    exact ⟨t2, st.trans a1, b1⟩
theorem m_callVX {idx nb n lvl mc ms t i ci N : Nat} {y : MethodName} {cb : ByteArray} {rb : Option FieldType} {st : List Value} {Q1 : Option Value → owSt → Prop} {QX1 : String → owSt → Prop} {T : u_T} {fs : List Value} (hEx : ∀ s, Ex s → XOk G s) (cv : cvOk own idx y cb nb rb n) (As : List Value) (rest : List Value) (hC : CtX l G y cb nb rb lvl mc ms (.ref (gK G t i) :: As) σ Q1 QX1) (hi : i < owN t) (he : owC G σ t i = .inr (ci, fs)) (hc : vwCl[ci]? = some (y.cls, T, N)) (hst : st = As.reverse ++ .ref (gK G t i) :: rest) (hn : As.length = n) (hR : lvl + 1 ≤ R.frames ∧ 8 + (nb + 11) + 40 * lvl ≤ R.locals) (hW : (rest.map fun v => v.category).sum ≤ 8) (hf : cells + mc ≤ R.cells ∧ slots + ms ≤ R.slots) (hd : decode cc pc = .ok (.invokevirtual idx, 3))
    (kx : ∀ (E : String) (σ2 : owSt), QX1 E σ2 → Wt l G cc nL own rt R Ex Qf pc lv rest σ2 (cells + mc) (slots + ms) E)
    (kk : ∀ (r : Option Value) (σ2 : owSt), Q1 r σ2 → Wm l G cc nL own rt R Ex Qf (pc + 3) lv (r.toList ++ rest) σ2 (cells + mc) (slots + ms)) : Wm l G cc nL own rt R Ex Qf pc lv st σ cells slots := by
  intro p e s m args below meth c H locs ls X
  obtain ⟨hx, hb, hml, ho, hts, hr, hlk, hE, hK, hH, hS, hB, hl⟩ := id X
  obtain ⟨w1, w2, w3, w4, w5, w6, w7, w8⟩ := cv
  have hsz : ls.size = nL := hl.1
  refine QQ.runX (vx_runV (As := As) (rest := rest) (b := gK G t i) ⟨hx, hb, hml, ho, hts⟩ hC (C := y.cls) ⟨⟨rfl, rfl, hR.1, hR.2, pay_in hts (owGood w5), List.mem_cons_self, hts _ w5, hts _ w4, ⟨w6, w7⟩, fun sig h => ?_, hts _ w1⟩, hts _ w2, hts _ w3⟩ ⟨owBlindX, va_recv hK (owP1 (he ▸ hH.1 t i hi)) hc (q0 := 0) rfl, owPreX hEx X _⟩ rfl hn hsz hst (lv_room hW) hd hf) X (fun E σ2 q ce H1 locs1 hq X1 h1 h2 h3 => kx E σ2 hq _ _ _ _ _ _ _ _ _ _ _ _ _ X1 h1 h2 h3) (fun r σ2 H1 locs1 hq X1 => kk r σ2 hq _ _ _ _ _ _ _ _ _ _ _ X1)
  rw [h] at w8
  exact (Option.some.inj w8).symm
theorem m_callUX {idx nb n lvl mc ms a N : Nat} {w : owW} {C : String} {x y : MethodName} {cb : ByteArray} {rb : Option FieldType} {st : List Value} {Q1 : Option Value → owSt → Prop} {QX1 : String → owSt → Prop} {T : u_T} (hEx : ∀ s, Ex s → XOk G s) (cu : cuOk own idx C x y cb nb rb n) (As : List Value) (rest : List Value) (hC : CtX l G y cb nb rb lvl mc ms (.ref a :: As) σ Q1 QX1) (ha : σ.2.2.2.2.2.2.2.2 a = some w) (hc : vwCl[owCi w.1]? = some (C, T, N)) (hst : st = As.reverse ++ .ref a :: rest) (hn : As.length = n) (hR : lvl + 1 ≤ R.frames ∧ 8 + (nb + 11) + 40 * lvl ≤ R.locals) (hW : (rest.map fun v => v.category).sum ≤ 8) (hf : cells + mc ≤ R.cells ∧ slots + ms ≤ R.slots) (hd : decode cc pc = .ok (.invokevirtual idx, 3))
    (kx : ∀ (E : String) (σ2 : owSt), QX1 E σ2 → Wt l G cc nL own rt R Ex Qf pc lv rest σ2 (cells + mc) (slots + ms) E)
    (kk : ∀ (r : Option Value) (σ2 : owSt), Q1 r σ2 → Wm l G cc nL own rt R Ex Qf (pc + 3) lv (r.toList ++ rest) σ2 (cells + mc) (slots + ms)) : Wm l G cc nL own rt R Ex Qf pc lv st σ cells slots := by
  intro p e s m args below meth c H locs ls X
  obtain ⟨hx, hb, hml, ho, hts, hr, hlk, hE, hK, hH, hS, hB, hl⟩ := id X
  obtain ⟨⟨w1, w2, w3, w4, w5, w6, w7⟩, ⟨b0, m0, r0, w8⟩, w9⟩ := cu
  have hsz : ls.size = nL := hl.1
  have hG : GoodIn owTB (va_wsO own idx C "OwnWays$Way" x y (owWs y cb nb rb)) := fun w hw => by
    unfold va_wsO at hw
    rcases List.mem_append.mp hw with hw | hw
    · have hw2 : w ∈ owTB := by
        simp only [List.mem_cons, List.not_mem_nil, or_false] at hw
        rcases hw with rfl | rfl | rfl | rfl | rfl | rfl <;> assumption
      exact ⟨hw2, owTB_good hw2⟩
    · exact owGood w7 w hw
  exact QQ.runX (vx_runU (As := As) (rest := rest) (b := a) ⟨hx, hb, hml, ho, hts⟩ hC (va_cwO n hts hG rfl rfl rfl w8 ⟨by decide, by decide, w9⟩ hR) ⟨owBlindX, va_recv hK (owP1 (hH.2.1 a w ha).1) hc (q0 := 0) rfl, owPreX hEx X _⟩ rfl hn hsz hst (lv_room hW) hd hf) X (fun E σ2 q ce H1 locs1 hq X1 h1 h2 h3 => kx E σ2 hq _ _ _ _ _ _ _ _ _ _ _ _ _ X1 h1 h2 h3) (fun r σ2 H1 locs1 hq X1 => kk r σ2 hq _ _ _ _ _ _ _ _ _ _ _ X1)
/-- a call of a method that needs what exceptions need -/
theorem m_callVE {idx nb n lvl mc ms t i ci N : Nat} {y : MethodName} {cb : ByteArray} {rb : Option FieldType} {st : List Value} {Q1 : Option Value → owSt → Prop} {T : u_T} {fs : List Value} (hEx : ∀ s, Ex s → XOk G s) (cv : cvOk own idx y cb nb rb n) (As : List Value) (rest : List Value) (hC : CtE l G y cb nb rb lvl mc ms (.ref (gK G t i) :: As) σ Q1) (hi : i < owN t) (he : owC G σ t i = .inr (ci, fs)) (hc : vwCl[ci]? = some (y.cls, T, N)) (hst : st = As.reverse ++ .ref (gK G t i) :: rest) (hn : As.length = n) (hR : lvl + 1 ≤ R.frames ∧ 8 + (nb + 11) + 40 * lvl ≤ R.locals) (hW : (rest.map fun v => v.category).sum ≤ 8) (hf : cells + mc ≤ R.cells ∧ slots + ms ≤ R.slots) (hd : decode cc pc = .ok (.invokevirtual idx, 3))
    (kk : ∀ (r : Option Value) (σ2 : owSt), Q1 r σ2 → Wm l G cc nL own rt R Ex Qf (pc + 3) lv (r.toList ++ rest) σ2 (cells + mc) (slots + ms)) : Wm l G cc nL own rt R Ex Qf pc lv st σ cells slots := by
  intro p e s m args below meth c H locs ls X
  obtain ⟨hx, hb, hml, ho, hts, hr, hlk, hE, hK, hH, hS, hB, hl⟩ := id X
  obtain ⟨w1, w2, w3, w4, w5, w6, w7, w8⟩ := cv
  have hsz : ls.size = nL := hl.1
  refine QQ.run (va_runV (As := As) (rest := rest) (b := gK G t i) ⟨hx, hb, hml, ho, hts⟩ hC (C := y.cls) ⟨⟨rfl, rfl, hR.1, hR.2, pay_in hts (owGood w5), List.mem_cons_self, hts _ w5, hts _ w4, ⟨w6, w7⟩, fun sig h => ?_, hts _ w1⟩, hts _ w2, hts _ w3⟩ ⟨owBlindX, va_recv hK (owP1 (he ▸ hH.1 t i hi)) hc (q0 := 0) rfl, owPreX hEx X _⟩ rfl hn hsz hst (lv_room hW) hd hf) X (fun r σ2 H1 locs1 hq X1 => kk r σ2 hq _ _ _ _ _ _ _ _ _ _ _ X1)
  rw [h] at w8
  exact (Option.some.inj w8).symm
def cwOk (own : String) (idx : Nat) (y : MethodName) (cb : ByteArray) (nb : Nat) (rb : Option FieldType) (hh : List (Nat × Nat × Nat × Nat)) (n : Nat) : Prop := Cond.methodLink own idx y ∈ owTB ∧ Cond.static y ∈ owTB ∧ Cond.initialized y.cls ∈ owTB ∧ Cond.codeWith y cb nb rb hh ∈ owTB ∧ y.cls ≠ "java/lang/invoke/MethodHandle" ∧ y.cls ≠ "java/lang/invoke/VarHandle" ∧ (parseMethodDescriptor y.desc).map (fun d => d.parameters.length) = some n
theorem m_callSW {idx nb n lvl mc ms : Nat} {y : MethodName} {cb : ByteArray} {rb : Option FieldType} {hh : List (Nat × Nat × Nat × Nat)} {st : List Value} {Q1 : Option Value → owSt → Prop} (hEx : ∀ s, Ex s → XOk G s) (cv : cwOk own idx y cb nb rb hh n) (As : List Value) (rest : List Value) (hC : CtW l G y cb nb rb hh lvl mc ms As σ Q1) (hst : st = As.reverse ++ rest) (hn : As.length = n) (hR : lvl + 1 ≤ R.frames ∧ 8 + (nb + 11) + 40 * lvl ≤ R.locals) (hW : (rest.map fun v => v.category).sum ≤ 8) (hf : cells + mc ≤ R.cells ∧ slots + ms ≤ R.slots) (hd : decode cc pc = .ok (.invokestatic idx, 3))
    (kk : ∀ (r : Option Value) (σ2 : owSt), Q1 r σ2 → Wm l G cc nL own rt R Ex Qf (pc + 3) lv (r.toList ++ rest) σ2 (cells + mc) (slots + ms)) : Wm l G cc nL own rt R Ex Qf pc lv st σ cells slots := by
  intro p e s m args below meth c H locs ls X
  obtain ⟨hx, hb, hml, ho, hts, hr, hlk, hE, hK, hH, hS, hB, hl⟩ := id X
  obtain ⟨w1, w2, w4, w5, w6, w7, w8⟩ := cv
  have hsz : ls.size = nL := hl.1
  have hG : GoodIn owTB (.codeWith y cb nb rb hh :: owTB) := fun w hw => by
    rcases List.mem_cons.mp hw with rfl | hw
    · exact ⟨w5, owTB_good w5⟩
    · exact ⟨hw, owTB_good hw⟩
  refine QQ.run (vx_runSW (As := As) (rest := rest) ⟨hx, hb, hml, ho, hts⟩ hC ⟨⟨rfl, rfl, hR.1, hR.2, pay_in hts hG, List.mem_cons_self⟩, hts _ w5, hts _ w4, ⟨w6, w7⟩, fun sig h => ?_, hts _ w1, hts _ w2⟩ ⟨owBlindX, owPreX hEx X _⟩ rfl hn hsz hst (lv_room hW) hd hf) X (fun r σ2 H1 locs1 hq X1 => kk r σ2 hq _ _ _ _ _ _ _ _ _ _ _ X1)
  rw [h] at w8
  exact (Option.some.inj w8).symm
/-- caught: the rows ahead speak of other classes -/
theorem m_catch {tl : List ExceptionTableEntry} {E name : String} (pre : List ExceptionTableEntry) (x : ExceptionTableEntry) (suf : List ExceptionTableEntry) (hEx : ∀ s, Ex s → ExX G tl s) (hsplit : tl = pre ++ x :: suf) (hpass : ∀ z ∈ pre, covers z pc = false ∨ (z.catchType ≠ 0 ∧ ∃ nm : String, Cond.classLink own z.catchType nm ∈ owTB ∧ (E, nm) ∈ xNc)) (hcov : covers x pc = true) (h0 : x.catchType ≠ 0) (hlink : Cond.classLink own x.catchType name ∈ owTB) (hcast : (E, name) ∈ owNC)
    (kk : ∀ q : Addr, Wm l G cc nL own rt R Ex Qf x.handlerPc lv [.ref q] σ cells slots) : Wt l G cc nL own rt R Ex Qf pc lv rest σ cells slots E := by
  intro p e s m args below meth c H locs ls q ce X hce hcv hcl
  obtain ⟨hx, hb, hml, ho, hts, hr, hlk, hE, hK, hH, hS, hB, hl⟩ := id X
  obtain ⟨hX, hTb⟩ := hEx s hE
  intro T hT XX0
  have htab := hTb m args below meth c XX0.frames XX0.method XX0.code
  exact vx_catch ho pre x suf (htab.trans hsplit) (fun z hz => by
    rcases hpass z hz with h | ⟨h1, nm, h2, h3⟩
    · exact Or.inl h
    · exact Or.inr ⟨h1, nm, hts _ h2, hX.2.2.2.1 _ h3⟩) hcov h0 (hts _ hlink) (va_Nw.use rfl (hB.2.2 _ hcast)) hce hcv hcl (kk q _ _ _ _ _ _ _ _ _ _ _ X) T hT XX0
end OWY
