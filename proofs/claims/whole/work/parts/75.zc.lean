/-! constructors: arrays of the known classes, over a world of cells -/
section ZC
variable {l : Launch} {G : owG} {p : Program} {e : Env} {R : Room} {s : State} {m : MethodId} {args : Array Value} {below : List Frame} {meth : Method} {c : Code} {H H0 : Heap} {locs : List Loc} {cells slots : Nat} {Q : State → Prop} {cc : ByteArray} {pc : Nat} {ls : Array Slot} {rest : List Value} {ws : va_W} {A : Nat → Prop}
theorem tz_arI : Cond.arrayClass .int ∈ owTB := owTB_of (by decide +kernel) rfl
theorem tz_arJ : Cond.arrayClass .long ∈ owTB := owTB_of (by decide +kernel) rfl
theorem zc_newI (hx : p.tables.exec = Jvm.exec) (hb : c.code = cc) (hts : ∀ w ∈ owTB, w.before args s = true) (hK : va_K (gD G) vwCl (gty G) s) (hP : va_P (gD G) vwCl ws H) (hD : va_D A ws) (hS : va_S A H0 H locs) (hA : ∀ q, H0.size ≤ q → A q) {v : Int32} (N : Nat) (hv : v = nI N) (hN : N ≤ 1000) (hc : cells + 1 ≤ R.cells) (hs : slots + N ≤ R.slots) (hd : decode cc pc = .ok (.newarray .int, 2))
    (kk : ∀ (q : Nat) (H1 : Heap), va_P (gD G) vwCl (ws ++ [(q, .inl (gI G, N, .inl (fun _ => 0)))]) H1 → va_D A (ws ++ [(q, .inl (gI G, N, .inl (fun _ => 0)))]) → va_S A H0 H1 locs → W p l e R s m args below meth c H1 locs (cells + 1) (slots + N) Q (F0 m (pc + 2) ls (.ref q :: rest))) : W p l e R s m args below meth c H locs cells slots Q (F0 m pc ls (.int v :: rest)) := by
  subst hv
  refine va_newa (atype := .int) hx hb (hts _ tz_arI) (ty := .int) rfl hK hP hD hS hA (N' := N) (a0 := (N, .inl (fun _ => 0))) (fun _ => rfl) (nI_pos (by omega)) (nI_clamp (by omega)) (show N * 4 ≤ 536870912 by omega) hc hs hd (fun q cA H1 hK1 hP1 hD1 hS1 => ?_)
  have h1 : va_RA s cA .int := (hK1.2 4 (cA, .int) rfl).2
  have h2 : va_RA s (gI G) .int := (hK.2 0 _ rfl).2
  obtain rfl : cA = gI G := Option.some.inj (Eq.trans (Eq.symm h1) h2)
  exact kk q H1 hP1 hD1 hS1
theorem zc_newJ (hx : p.tables.exec = Jvm.exec) (hb : c.code = cc) (hts : ∀ w ∈ owTB, w.before args s = true) (hK : va_K (gD G) vwCl (gty G) s) (hP : va_P (gD G) vwCl ws H) (hD : va_D A ws) (hS : va_S A H0 H locs) (hA : ∀ q, H0.size ≤ q → A q) {v : Int32} (N : Nat) (hv : v = nI N) (hN : N ≤ 1000) (hc : cells + 1 ≤ R.cells) (hs : slots + N ≤ R.slots) (hd : decode cc pc = .ok (.newarray .long, 2))
    (kk : ∀ (q : Nat) (H1 : Heap), va_P (gD G) vwCl (ws ++ [(q, .inl (gJ G, N, .inr (.inl (fun _ => 0))))]) H1 → va_D A (ws ++ [(q, .inl (gJ G, N, .inr (.inl (fun _ => 0))))]) → va_S A H0 H1 locs → W p l e R s m args below meth c H1 locs (cells + 1) (slots + N) Q (F0 m (pc + 2) ls (.ref q :: rest))) : W p l e R s m args below meth c H locs cells slots Q (F0 m pc ls (.int v :: rest)) := by
  subst hv
  refine va_newa (atype := .long) hx hb (hts _ tz_arJ) (ty := .long) rfl hK hP hD hS hA (N' := N) (a0 := (N, .inr (.inl (fun _ => 0)))) (fun _ => rfl) (nI_pos (by omega)) (nI_clamp (by omega)) (show N * 8 ≤ 536870912 by omega) hc hs hd (fun q cA H1 hK1 hP1 hD1 hS1 => ?_)
  have h1 : va_RA s cA .long := (hK1.2 4 (cA, .long) rfl).2
  have h2 : va_RA s (gJ G) .long := (hK.2 1 _ rfl).2
  obtain rfl : cA = gJ G := Option.some.inj (Eq.trans (Eq.symm h1) h2)
  exact kk q H1 hP1 hD1 hS1
theorem zc_newQ {own C : String} {index : Nat} {cg : ClassId} (t0 : Nat) (hx : p.tables.exec = Jvm.exec) (hb : c.code = cc) (hts : ∀ w ∈ owTB, w.before args s = true) (hown : s.vm.findClass own = some m.cls) (w1 : Cond.classLink own index C ∈ owTB) (w2 : va_AO C s) (ht : (gty G)[t0]? = some (cg, .object C)) (hK : va_K (gD G) vwCl (gty G) s) (hP : va_P (gD G) vwCl ws H) (hD : va_D A ws) (hS : va_S A H0 H locs) (hA : ∀ q, H0.size ≤ q → A q) {v : Int32} (N : Nat) (hv : v = nI N) (hN : N ≤ 1000) (hc : cells + 1 ≤ R.cells) (hs : slots + N ≤ R.slots) (hd : decode cc pc = .ok (.anewarray index, 3))
    (kk : ∀ (q : Nat) (H1 : Heap), va_P (gD G) vwCl (ws ++ [(q, .inl (cg, N, .inr (.inr (.inr (.inr (fun _ => none))))))]) H1 → va_D A (ws ++ [(q, .inl (cg, N, .inr (.inr (.inr (.inr (fun _ => none))))))]) → va_S A H0 H1 locs → W p l e R s m args below meth c H1 locs (cells + 1) (slots + N) Q (F0 m (pc + 3) ls (.ref q :: rest))) : W p l e R s m args below meth c H locs cells slots Q (F0 m pc ls (.int v :: rest)) := by
  subst hv
  refine va_newq hx hb hown (hts _ w1) w2 hK hP hD hS hA (N' := N) (nI_pos (by omega)) (nI_clamp (by omega)) (by omega) hc hs hd (fun q cA H1 hK1 hP1 hD1 hS1 => ?_)
  have h1 : va_RA s cA (.object C) := (hK1.2 4 (cA, .object C) rfl).2
  have h2 : va_RA s cg (.object C) := (hK.2 t0 _ ht).2
  obtain ⟨-, -, -, -, -, h3⟩ := h1
  obtain ⟨-, -, -, -, -, h4⟩ := h2
  obtain rfl : cA = cg := Option.some.inj (Eq.trans (Eq.symm h3) h4)
  exact kk q H1 hP1 hD1 hS1
end ZC
