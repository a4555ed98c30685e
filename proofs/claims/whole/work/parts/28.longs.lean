section LongRows
variable {l : Launch} {G : owG} {cc : ByteArray} {nL : Nat} {own : String} {rt : Option FieldType} {R : Room} {Ex : State → Prop} {Qf : List Frame → Array Value → State → State → Prop} {pc : Nat} {lv : List (Nat × Value)} {rest : List Value} {σ : owSt} {cells slots : Nat}
theorem m_lsub {x y : Int64} (hd : decode cc pc = .ok (.lsub, 1)) (kk : Wm l G cc nL own rt R Ex Qf (pc + 1) lv (.long (x - y) :: rest) σ cells slots) : Wm l G cc nL own rt R Ex Qf pc lv (.long y :: .long x :: rest) σ cells slots := by
  intro p e s m args below meth c H locs ls X
  obtain ⟨hx, hb, hml, ho, hts, hr, hk, hE, hK, hH, hS, hB, hl⟩ := id X
  exact lv_lsub hx hb hd (kk _ _ _ _ _ _ _ _ _ _ _ X)
theorem m_l2i {x : Int64} {v : Int32} (hv : x.toInt32 = v) (hd : decode cc pc = .ok (.l2i, 1)) (kk : Wm l G cc nL own rt R Ex Qf (pc + 1) lv (.int v :: rest) σ cells slots) : Wm l G cc nL own rt R Ex Qf pc lv (.long x :: rest) σ cells slots := by
  intro p e s m args below meth c H locs ls X
  obtain ⟨hx, hb, hml, ho, hts, hr, hk, hE, hK, hH, hS, hB, hl⟩ := id X
  exact lv_l2i hx hb hd hv (kk _ _ _ _ _ _ _ _ _ _ _ X)
theorem m_iushr {x y v : Int32} (hv : (x.toUInt32 >>> (y.toUInt32 &&& Int32.toUInt32 31)).toInt32 = v) (hd : decode cc pc = .ok (.iushr, 1)) (kk : Wm l G cc nL own rt R Ex Qf (pc + 1) lv (.int v :: rest) σ cells slots) : Wm l G cc nL own rt R Ex Qf pc lv (.int y :: .int x :: rest) σ cells slots := by
  intro p e s m args below meth c H locs ls X
  obtain ⟨hx, hb, hml, ho, hts, hr, hk, hE, hK, hH, hS, hB, hl⟩ := id X
  exact lv_iushr hx hb hd hv (kk _ _ _ _ _ _ _ _ _ _ _ X)
theorem m_lushr {x v : Int64} {y : Int32} (hv : (x.toUInt64 >>> (y.toInt64.toUInt64 &&& Int64.toUInt64 63)).toInt64 = v) (hd : decode cc pc = .ok (.lushr, 1)) (kk : Wm l G cc nL own rt R Ex Qf (pc + 1) lv (.long v :: rest) σ cells slots) : Wm l G cc nL own rt R Ex Qf pc lv (.int y :: .long x :: rest) σ cells slots := by
  intro p e s m args below meth c H locs ls X
  obtain ⟨hx, hb, hml, ho, hts, hr, hk, hE, hK, hH, hS, hB, hl⟩ := id X
  exact lv_lushr hx hb hd hv (kk _ _ _ _ _ _ _ _ _ _ _ X)
end LongRows
theorem lN_and (a b : Nat) : lN a &&& lN b = lN (a &&& b) := by
  apply Int64.toBitVec_inj.mp
  show BitVec.ofNat 64 a &&& BitVec.ofNat 64 b = BitVec.ofNat 64 (a &&& b)
  apply BitVec.eq_of_toNat_eq
  rw [BitVec.toNat_and, BitVec.toNat_ofNat, BitVec.toNat_ofNat, BitVec.toNat_ofNat, Nat.and_mod_two_pow]
theorem lN_shr {a : Nat} (h : a < 2 ^ 63) {y : Int32} {k : Nat} (hy : (y.toInt64.toUInt64 &&& Int64.toUInt64 63).toBitVec.toNat % 64 = k) : ((lN a).toUInt64 >>> (y.toInt64.toUInt64 &&& Int64.toUInt64 63)).toInt64 = lN (a / 2 ^ k) := by
  apply Int64.toBitVec_inj.mp
  apply BitVec.eq_of_toNat_eq
  show ((lN a).toUInt64 >>> (y.toInt64.toUInt64 &&& Int64.toUInt64 63)).toNat = (BitVec.ofNat 64 (a / 2 ^ k)).toNat
  rw [UInt64.toNat_shiftRight, BitVec.toNat_ofNat]
  have h1 : (lN a).toUInt64.toNat = a := by
    show (BitVec.ofNat 64 a).toNat = a
    rw [BitVec.toNat_ofNat, Nat.mod_eq_of_lt (by omega)]
  have h2 : (y.toInt64.toUInt64 &&& Int64.toUInt64 63).toNat % 64 = k := hy
  have h3 : a / 2 ^ k ≤ a := Nat.div_le_self _ _
  rw [h1, h2, Nat.shiftRight_eq_div_pow, Nat.mod_eq_of_lt (a := a / 2 ^ k) (by omega)]
