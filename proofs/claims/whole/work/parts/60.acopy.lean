/-! the class's copying of elements, and what is left of it -/
theorem tx_ac1 : Cond.methodLink "OwnWays" 307 arraycopyName ∈ owTB := owTB_of (List.mem_of_getElem? (i := 864) (by decide +kernel)) rfl
theorem tx_ac2 : Cond.static arraycopyName ∈ owTB := owTB_of (List.mem_of_getElem? (i := 865) (by decide +kernel)) rfl
theorem tx_ac3 : Cond.native arraycopyName ∈ owTB := owTB_of (List.mem_of_getElem? (i := 866) (by decide +kernel)) rfl
theorem tx_sys : Cond.initialized "java/lang/System" ∈ owTB := owTB_of (List.mem_of_getElem? (i := 96) (by decide +kernel)) rfl
def upR (A : owF) (e : Nat) (f : Nat → Int32) : owF := fun a b c => if a = 16 ∧ b = e then f c else A a b c
theorem m_acopy {l : Launch} {G : owG} {cc : ByteArray} {nL : Nat} {rt : Option FieldType} {R : Room} {Ex : State → Prop} {Qf : List Frame → Array Value → State → State → Prop} {pc : Nat} {lv : List (Nat × Value)} {rest : List Value} {cells slots : Nat} {A S Z B T V : owF} {J : Nat → Nat → Int64} {Y : Nat → Nat → Nat → Option Nat} {P : Nat → Option owW} {d e2 i j n : Nat} (hdd : d < owN 16) (hee : e2 < owN 16) (h1 : i + n ≤ 100) (h2 : j + n ≤ 100) (hfr : 1 ≤ R.frames) (hlo : (rest.map fun v => v.category).sum + (nativeFrameWords "java/lang/System" "arraycopy" 5 + 11) ≤ R.locals) (hd : decode cc pc = .ok (.invokestatic 307, 3))
    (kk : Wm l G cc nL "OwnWays" rt R Ex Qf (pc + 3) lv rest (upR A e2 (va_cpy (A 16 d) (A 16 e2) i j n), S, Z, B, T, V, J, Y, P) cells slots) : Wm l G cc nL "OwnWays" rt R Ex Qf pc lv (.int (nI n) :: .int (nI j) :: .ref (gK G 16 e2) :: .int (nI i) :: .ref (gK G 16 d) :: rest) (A, S, Z, B, T, V, J, Y, P) cells slots := by
  intro p e s m args below meth c H locs ls X
  obtain ⟨hx, hb, hml, ho, hts, hr, hlk, hE, hK, hH, hS, hB, hl⟩ := id X
  intro T0 hT X0
  have hc0 : H[gK G 16 d]? = some (vp_cell (gI G) (100, .inl (A 16 d))) := hH.1 16 d hdd
  have hc1 : H[gK G 16 e2]? = some (vp_cell (gI G) (100, .inl (A 16 e2))) := hH.1 16 e2 hee
  obtain ⟨-, k0, hk0, cm0, hkk0⟩ := (hK.2 0 _ rfl).1 100 (fun q => .int (A 16 d q))
  obtain ⟨-, k1, hk1, cm1, hkk1⟩ := (hK.2 0 _ rfl).1 100 (fun q => .int (A 16 e2 q))
  obtain ⟨vm', X', step⟩ := X0.arraycopy hx ho (hts _ tx_ac1) (hts _ tx_ac3) (hts _ tx_ac2) (hts _ tx_sys) (src := gK G 16 d) (dst := gK G 16 e2) (cs := vp_cell (gI G) (100, .inl (A 16 d))) (cd := vp_cell (gI G) (100, .inl (A 16 e2))) (srcPos := nI i) (destPos := nI j) (n := nI n) (by rw [hT]; exact hc0) (by rw [hT]; exact hc1)
    (fun _ h => by cases h) (fun _ h => by cases h) (fun h => by cases h) (fun h => by cases h) hk0 hk1 hkk0 hkk1 (by simp [refKind]) (nI_pos (by omega)) (nI_pos (by omega)) (nI_pos (by omega))
    (by rw [nI_toInt (by omega), nI_toInt (by omega)]; show ¬ _ > ((arrV (gI G) 100 (fun q => .int (A 16 d q))).slots.size : Int); rw [arrV_size]; omega)
    (by rw [nI_toInt (by omega), nI_toInt (by omega)]; show ¬ _ > ((arrV (gI G) 100 (fun q => .int (A 16 e2 q))).slots.size : Int); rw [arrV_size]; omega)
    (fun vm₁ _ q hq => by
      rw [nI_clamp (by omega)] at hq
      have e0 : (vp_cell (gI G) (100, .inl (A 16 d))).slots.getD ((nI i).toNatClampNeg + q) .null = .int (A 16 d ((nI i).toNatClampNeg + q)) := by
        show (arrV (gI G) 100 (fun q => .int (A 16 d q))).slots.getD _ _ = _
        rw [nI_clamp (by omega), Array.getD_eq_getD_getElem?, arrV_read _ _ (by omega)]
        rfl
      refine ⟨?_, ?_⟩
      · rw [e0]; rfl
      · rw [e0]; exact trivial)
    (g := F0 m pc ls (.int (nI n) :: .int (nI j) :: .ref (gK G 16 e2) :: .int (nI i) :: .ref (gK G 16 d) :: rest)) rfl (by rw [hml]; exact hl.1) (rest := rest) rfl (by rw [hb]; exact hd) hfr (by show 2 * 0 + _ + _ ≤ _; omega)
  have e1 : copied (vp_cell (gI G) (100, .inl (A 16 d))) (vp_cell (gI G) (100, .inl (A 16 e2))) (nI i) (nI j) (nI n) = vp_cell (gI G) (100, .inl (va_cpy (A 16 d) (A 16 e2) (nI i).toNatClampNeg (nI j).toNatClampNeg (nI n).toNatClampNeg)) := va_copied (fun z => .int z) (gI G) (gI G) (A 16 d) (A 16 e2) (by rw [nI_clamp (by omega), nI_clamp (by omega)]; exact h1)
  rw [nI_clamp (by omega), nI_clamp (by omega), nI_clamp (by omega)] at e1
  rw [e1] at X' step
  have hlt : gK G 16 e2 < H.size := (Array.getElem?_eq_some_iff.mp hc1).1
  have hheap : ((T0.setVm vm').setCell (gK G 16 e2) (vp_cell (gI G) (100, .inl (va_cpy (A 16 d) (A 16 e2) i j n)))).heap = H.setIfInBounds (gK G 16 e2) (vp_cell (gI G) (100, .inl (va_cpy (A 16 d) (A 16 e2) i j n))) := by rw [← hT]; rfl
  have oq : ∀ q : Nat, q ≠ gK G 16 e2 → (H.setIfInBounds (gK G 16 e2) (vp_cell (gI G) (100, .inl (va_cpy (A 16 d) (A 16 e2) i j n))))[q]? = H[q]? := fun q hq => by simp [Array.getElem?_setIfInBounds, Ne.symm hq]
  have hH2 : Holds G (upR A e2 (va_cpy (A 16 d) (A 16 e2) i j n), S, Z, B, T, V, J, Y, P) (H.setIfInBounds (gK G 16 e2) (vp_cell (gI G) (100, .inl (va_cpy (A 16 d) (A 16 e2) i j n)))) := by
    refine hH.set (t := 16) (i := e2) hee ?_ oq (fun t2 i2 ht2 hne => ?_) rfl
    · show (H.setIfInBounds (gK G 16 e2) _)[gK G 16 e2]? = some (vp_cell (gI G) (100, .inl (upR A e2 (va_cpy (A 16 d) (A 16 e2) i j n) 16 e2)))
      have e3 : upR A e2 (va_cpy (A 16 d) (A 16 e2) i j n) 16 e2 = va_cpy (A 16 d) (A 16 e2) i j n := funext fun q => if_pos ⟨rfl, rfl⟩
      rw [e3]
      simp [Array.getElem?_setIfInBounds, hlt]
    · exact owC_cong (funext fun q => if_neg hne) rfl rfl rfl rfl rfl rfl rfl
  obtain ⟨t, a1, b1⟩ := kk _ _ _ _ _ _ _ _ _ _ _ (X.hp hH2 (locs2 := _) ⟨by simp; exact hS.1, fun q g1 g2 => by
      rw [oq q (fun e4 => g2 (by rw [e4]; exact hH.2.2.2 16 e2 hee))]
      exact hS.2.1 q g1 g2, fun q hq => by
      rcases List.mem_append.mp hq with h | h
      · exact hS.2.2 q h
      · obtain ⟨z, -, hz⟩ := List.mem_map.mp h
        rw [← hz]
        exact hH.2.2.2 16 e2 hee⟩) _ hheap X'
  exact ⟨t, step t a1, b1⟩
