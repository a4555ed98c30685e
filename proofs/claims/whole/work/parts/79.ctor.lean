/-- a constructor of a nest mate, called on a fresh object: its cells beside the caller's -/
theorem zc_ctor {l : Launch} {G : owG} {p : Program} {e : Env} {R : Room} {s : State} {m : MethodId} {args : Array Value} {below : List Frame} {meth : Method} {c : Code} {H H0 : Heap} {locs : List Loc} {cells slots : Nat} {Q : State → Prop} {cc : ByteArray} {pc nL : Nat} {ls : Array Slot} {rest : List Value} {ws : va_W} {A : Nat → Prop} {own host : String} {idx nb lvl mc ms k q : Nat} {y : MethodName} {cb : ByteArray} {S : Type} {e0 : va_E} {e1 : S → va_E} {us : S → va_W} {Pc : State → Prop}
    (hx : p.tables.exec = Jvm.exec) (hb : c.code = cc) (hml : c.maxLocals = nL) (hown : s.vm.findClass own = some m.cls) (hts : ∀ w ∈ owTB, w.before args s = true) (hsz : ls.size = nL) (hn : NwOk s)
    (hC : Met l y (owWs y cb nb none) (rmk lvl mc ms) (va_Pc [.ref q] Pc) (va_Qv (fun u : S => va_D (fun x_ => x_ = q ∨ H.size ≤ x_) ((q, e1 u) :: us u)) (fun u t => va_P (gD G) vwCl ((q, e1 u) :: us u) t.heap) (fun x_ => x_ = q ∨ H.size ≤ x_)) mc ms (fun x_ => x_ = q ∨ H.size ≤ x_))
    (hbl : FrameBlind (va_Pc [.ref q] Pc)) (hpre : ∀ U : State, U.heap = H → s.WarmedH U.vm → Pc U) (w1 : (own, idx, y, host) ∈ owNM) (w2 : Cond.code y cb nb none ∈ owTB) (w3 : Cond.initialized y.cls ∈ owTB) (w4 : Cond.instanceMethod y ∈ owTB) (w5 : y.name = "<init>") (w6 : y.cls ≠ "java/lang/invoke/MethodHandle" ∧ y.cls ≠ "java/lang/invoke/VarHandle" ∧ (parseMethodDescriptor y.desc).map (fun d => d.parameters.length) = some 0)
    (hP : va_P (gD G) vwCl ws H) (hD : va_D A ws) (hS : va_S A H0 H locs) (hA : ∀ x, H0.size ≤ x → A x) (hq : ws[k]? = some (q, e0)) (hR : lvl + 1 ≤ R.frames ∧ 8 + (nb + 11) + 40 * lvl ≤ R.locals) (hW : (rest.map fun v => v.category).sum ≤ 8) (hf : cells + mc ≤ R.cells ∧ slots + ms ≤ R.slots) (hd : decode cc pc = .ok (.invokespecial idx, 3))
    (kk : ∀ (u : S) (H1 : Heap) (locs1 : List Loc), va_P (gD G) vwCl (ws.set k (q, e1 u) ++ us u) H1 → va_D A (ws.set k (q, e1 u) ++ us u) → va_S A H0 H1 locs1 → W p l e R s m args below meth c H1 locs1 (cells + mc) (slots + ms) Q (F0 m (pc + 3) ls rest)) : W p l e R s m args below meth c H locs cells slots Q (F0 m pc ls (.ref q :: rest)) := by
  have hAq : A q := hD.2 k _ hq
  refine va_callv (va_runIN (As := []) (rest := rest) ⟨hx, hb, hml, hown, hts⟩ hC ⟨va_cnB 0 hts (owGood w2) rfl rfl rfl (hn.1 _ w1) (hts _ w3) w6 hR, w5, hts _ w4⟩ ⟨hbl, fun U hU hW2 => ⟨rfl, hpre U hU hW2⟩⟩ rfl rfl hsz rfl (lv_room hW) hd hf) hS (fun x hx9 h => ?_) (fun x h => ?_) (fun u t H1 locs1 ht hvm h5 hB hz1 hk1 hS1 => ?_)
  · rcases h with h | h
    · rw [h]; exact hAq
    · exact absurd hx9 (by omega)
  · rcases h with h | h
    · rw [h]; exact hAq
    · exact hA x (Nat.le_trans hS.1 h)
  · rw [ht] at hB
    obtain ⟨j1, j2⟩ := zc_join hP hD hq hB h5 hk1 (fun x h => hA x (Nat.le_trans hS.1 h))
    exact kk u H1 locs1 j1 j2 hS1
