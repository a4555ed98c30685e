/-! The system's two objects as banks of numbers: a heap that holds them, a judgement over it, a contract. -/
def owTB : List Cond := lw_tbl.filter goodWord
theorem owTB_of {w : Cond} (h : w ∈ lw_tbl) (g : goodWord w = true) : w ∈ owTB := List.mem_filter.mpr ⟨h, g⟩
theorem owTB_good {w : Cond} (h : w ∈ owTB) : (w.onTables && w.keeps) = true ∨ ∃ ty, w = .arrayClass ty := good_of_word (List.mem_filter.mp h).2
def owWs (y : MethodName) (cc : ByteArray) (nL : Nat) (rt : Option FieldType) : List Cond := .code y cc nL rt :: owTB
theorem owGood {y : MethodName} {cc : ByteArray} {nL : Nat} {rt : Option FieldType} (h : Cond.code y cc nL rt ∈ owTB) : GoodIn owTB (owWs y cc nL rt) := fun w hw => by
  rcases List.mem_cons.mp hw with rfl | hw
  · exact ⟨h, owTB_good h⟩
  · exact ⟨hw, owTB_good hw⟩
/-- a way: kind, number, figure, weight -/
abbrev owW : Type := Nat × Int32 × Int32 × Int32
abbrev owF : Type := Nat → Nat → Nat → Int32
/-- A what the class keeps, S its sheet and its reading, Z its paper, B what the model keeps, T its paper, V its columns, J longs, Y references to ways, P the ways that there are -/
abbrev owSt : Type := owF × owF × owF × owF × owF × owF × (Nat → Nat → Int64) × (Nat → Nat → Nat → Option Nat) × (Nat → Option owW)
def up3 {α : Type} (f : Nat → Nat → Nat → α) (t i j : Nat) (v : α) : Nat → Nat → Nat → α := fun a b c => if a = t ∧ b = i ∧ c = j then v else f a b c
def up2 {α : Type} (f : Nat → Nat → α) (t j : Nat) (v : α) : Nat → Nat → α := fun a c => if a = t ∧ c = j then v else f a c
def upP (f : Nat → Option owW) (a : Nat) (v : owW) : Nat → Option owW := fun b => if b = a then some v else f b
/-- base, the addresses by tag and number, the classes' numbers and slots, the arrays' classes -/
abbrev owG : Type := Nat × (Nat → Nat → Nat) × va_G × ClassId × ClassId × ClassId × ClassId
def gB (G : owG) : Nat := G.1
def gK (G : owG) : Nat → Nat → Nat := G.2.1
def gD (G : owG) : va_G := G.2.2.1
def gI (G : owG) : ClassId := G.2.2.2.1
def gJ (G : owG) : ClassId := G.2.2.2.2.1
def gS (G : owG) : ClassId := G.2.2.2.2.2.1
def gW (G : owG) : ClassId := G.2.2.2.2.2.2
def gty (G : owG) : List (ClassId × FieldType) := [(gI G, .int), (gJ G, .long), (gS G, .object "OwnWays$Shelf"), (gW G, .object "OwnWays$Way")]
def gA (G : owG) : Nat → Prop := fun q => gB G ≤ q
def owCi (k : Nat) : Nat := if k = 0 then 9 else if k = 1 then 8 else if k = 2 then 2 else if k = 3 then 1 else if k = 4 then 0 else if k = 5 then 10 else if k = 6 then 4 else 7
def owE (w : owW) : va_E := .inr (owCi w.1, [.int (nI w.1), .int w.2.1, .int w.2.2.1, .int w.2.2.2])
def owN (t : Nat) : Nat := if t = 1 then 3 else if t = 3 then 8 else if t = 16 then 8 else if 10 ≤ t ∧ t ≤ 15 then 3 else if t = 0 ∨ t = 2 ∨ t = 4 ∨ (20 ≤ t ∧ t ≤ 22) ∨ (30 ≤ t ∧ t ≤ 37) ∨ (40 ≤ t ∧ t ≤ 55) ∨ t = 60 then 1 else 0
/-- what stands at the cell of tag t, number i -/
def owC (G : owG) (σ : owSt) (t i : Nat) : va_E :=
  if t = 0 then .inr (11, [.ref (gK G 1 0), .ref (gK G 1 1), .ref (gK G 1 2), .int (σ.1 0 i 3), .ref (gK G 37 0), .ref (gK G 2 0), .ref (gK G 30 0), .ref (gK G 31 0), .int (σ.2.1 0 i 8), .ref (gK G 32 0), .ref (gK G 33 0), .ref (gK G 34 0), .ref (gK G 36 0), .ref (gK G 35 0), .int (σ.2.1 0 i 14)]) else
  if t = 1 then .inr (5, [.ref (gK G 15 i), .int (σ.1 1 i 1), .ref (gK G 10 i), .ref (gK G 11 i), .ref (gK G 12 i), .int (σ.1 1 i 5), .ref (gK G 13 i), .int (σ.2.1 1 i 7), .int (σ.2.1 1 i 8), .ref (gK G 14 i)]) else
  if t = 2 then .inr (3, [.ref (gK G 20 0), .ref (gK G 21 0), .ref (gK G 22 0), .int (σ.2.2.1 2 i 3)]) else
  if t = 3 then .inr (6, [va_rf (σ.2.2.2.2.2.2.2.1 3 i 0), .int (σ.1 3 i 1), .int (σ.1 3 i 2), .ref (gK G 16 i)]) else
  if t = 4 then .inr (12, [.ref (gK G 40 0), .ref (gK G 41 0), .ref (gK G 42 0), .ref (gK G 43 0), .ref (gK G 44 0), .ref (gK G 45 0), .ref (gK G 46 0), .ref (gK G 47 0), .ref (gK G 48 0), .int (σ.2.2.2.1 4 i 9), .int (σ.2.2.2.2.1 4 i 10), .int (σ.2.2.2.2.1 4 i 11), .int (σ.2.2.2.2.1 4 i 12), .int (σ.2.2.2.2.1 4 i 13), .int (σ.2.2.2.2.1 4 i 14), .ref (gK G 49 0), .ref (gK G 50 0), .ref (gK G 51 0), .ref (gK G 52 0), .int (σ.2.2.2.2.2.1 4 i 19), .ref (gK G 53 0), .int (σ.2.2.2.2.1 4 i 21), .ref (gK G 54 0), .ref (gK G 55 0)]) else
  if t = 10 then .inl (gI G, 8, .inl (σ.1 10 i)) else
  if t = 11 then .inl (gI G, 8, .inl (σ.1 11 i)) else
  if t = 12 then .inl (gI G, 8, .inl (σ.1 12 i)) else
  if t = 13 then .inl (gI G, 100, .inl (σ.1 13 i)) else
  if t = 14 then .inl (gI G, 3, .inl (σ.2.1 14 i)) else
  if t = 15 then .inl (gW G, 10, .inr (.inr (.inr (.inr (σ.2.2.2.2.2.2.2.1 15 i))))) else
  if t = 16 then .inl (gI G, 100, .inl (σ.1 16 i)) else
  if t = 20 then .inl (gI G, 4, .inl (σ.2.2.1 20 i)) else
  if t = 21 then .inl (gI G, 4, .inl (σ.2.2.1 21 i)) else
  if t = 22 then .inl (gI G, 4, .inl (σ.2.2.1 22 i)) else
  if t = 30 then .inl (gI G, 12, .inl (σ.2.1 30 i)) else
  if t = 31 then .inl (gI G, 12, .inl (σ.2.1 31 i)) else
  if t = 32 then .inl (gI G, 12, .inl (σ.2.1 32 i)) else
  if t = 33 then .inl (gI G, 12, .inl (σ.2.1 33 i)) else
  if t = 34 then .inl (gI G, 10, .inl (σ.2.1 34 i)) else
  if t = 35 then .inl (gI G, 8, .inl (σ.2.1 35 i)) else
  if t = 36 then .inl (gJ G, 12, .inr (.inl (σ.2.2.2.2.2.2.1 36))) else
  if t = 37 then .inl (gS G, 8, .inr (.inr (.inr (.inr (fun d => some (gK G 3 d)))))) else
  if t = 40 then .inl (gI G, 156, .inl (σ.2.2.2.1 40 i)) else
  if t = 41 then .inl (gI G, 156, .inl (σ.2.2.2.1 41 i)) else
  if t = 42 then .inl (gI G, 156, .inl (σ.2.2.2.2.1 42 i)) else
  if t = 43 then .inl (gI G, 8, .inl (σ.2.2.2.1 43 i)) else
  if t = 44 then .inl (gI G, 8, .inl (σ.2.2.2.1 44 i)) else
  if t = 45 then .inl (gI G, 8, .inl (σ.2.2.2.1 45 i)) else
  if t = 46 then .inl (gI G, 800, .inl (σ.2.2.2.1 46 i)) else
  if t = 47 then .inl (gI G, 8, .inl (σ.2.2.2.1 47 i)) else
  if t = 48 then .inl (gI G, 8, .inl (σ.2.2.2.1 48 i)) else
  if t = 49 then .inl (gI G, 3, .inl (σ.2.2.2.2.1 49 i)) else
  if t = 50 then .inl (gI G, 4, .inl (σ.2.2.2.2.2.1 50 i)) else
  if t = 51 then .inl (gI G, 4, .inl (σ.2.2.2.2.2.1 51 i)) else
  if t = 52 then .inl (gI G, 4, .inl (σ.2.2.2.2.2.1 52 i)) else
  if t = 53 then .inl (gI G, 100, .inl (σ.2.2.2.2.1 53 i)) else
  if t = 54 then .inl (gI G, 12, .inl (σ.2.2.2.2.1 54 i)) else
  if t = 55 then .inl (gI G, 8, .inl (σ.2.2.2.2.1 55 i)) else
  if t = 60 then .inl (gJ G, 1, .inr (.inl (σ.2.2.2.2.2.2.1 60))) else .inl (gJ G, 0, .inr (.inl (fun _ => 0)))
theorem ce_0 (G : owG) (A S Z B T V : owF) (J : Nat → Nat → Int64) (Y : Nat → Nat → Nat → Option Nat) (P : Nat → Option owW) (i : Nat) : owC G (A, S, Z, B, T, V, J, Y, P) 0 i = .inr (11, [.ref (gK G 1 0), .ref (gK G 1 1), .ref (gK G 1 2), .int (A 0 i 3), .ref (gK G 37 0), .ref (gK G 2 0), .ref (gK G 30 0), .ref (gK G 31 0), .int (S 0 i 8), .ref (gK G 32 0), .ref (gK G 33 0), .ref (gK G 34 0), .ref (gK G 36 0), .ref (gK G 35 0), .int (S 0 i 14)]) := rfl
theorem ce_1 (G : owG) (A S Z B T V : owF) (J : Nat → Nat → Int64) (Y : Nat → Nat → Nat → Option Nat) (P : Nat → Option owW) (i : Nat) : owC G (A, S, Z, B, T, V, J, Y, P) 1 i = .inr (5, [.ref (gK G 15 i), .int (A 1 i 1), .ref (gK G 10 i), .ref (gK G 11 i), .ref (gK G 12 i), .int (A 1 i 5), .ref (gK G 13 i), .int (S 1 i 7), .int (S 1 i 8), .ref (gK G 14 i)]) := rfl
theorem ce_2 (G : owG) (A S Z B T V : owF) (J : Nat → Nat → Int64) (Y : Nat → Nat → Nat → Option Nat) (P : Nat → Option owW) (i : Nat) : owC G (A, S, Z, B, T, V, J, Y, P) 2 i = .inr (3, [.ref (gK G 20 0), .ref (gK G 21 0), .ref (gK G 22 0), .int (Z 2 i 3)]) := rfl
theorem ce_3 (G : owG) (A S Z B T V : owF) (J : Nat → Nat → Int64) (Y : Nat → Nat → Nat → Option Nat) (P : Nat → Option owW) (i : Nat) : owC G (A, S, Z, B, T, V, J, Y, P) 3 i = .inr (6, [va_rf (Y 3 i 0), .int (A 3 i 1), .int (A 3 i 2), .ref (gK G 16 i)]) := rfl
theorem ce_4 (G : owG) (A S Z B T V : owF) (J : Nat → Nat → Int64) (Y : Nat → Nat → Nat → Option Nat) (P : Nat → Option owW) (i : Nat) : owC G (A, S, Z, B, T, V, J, Y, P) 4 i = .inr (12, [.ref (gK G 40 0), .ref (gK G 41 0), .ref (gK G 42 0), .ref (gK G 43 0), .ref (gK G 44 0), .ref (gK G 45 0), .ref (gK G 46 0), .ref (gK G 47 0), .ref (gK G 48 0), .int (B 4 i 9), .int (T 4 i 10), .int (T 4 i 11), .int (T 4 i 12), .int (T 4 i 13), .int (T 4 i 14), .ref (gK G 49 0), .ref (gK G 50 0), .ref (gK G 51 0), .ref (gK G 52 0), .int (V 4 i 19), .ref (gK G 53 0), .int (T 4 i 21), .ref (gK G 54 0), .ref (gK G 55 0)]) := rfl
theorem ce_10 (G : owG) (A S Z B T V : owF) (J : Nat → Nat → Int64) (Y : Nat → Nat → Nat → Option Nat) (P : Nat → Option owW) (i : Nat) : owC G (A, S, Z, B, T, V, J, Y, P) 10 i = .inl (gI G, 8, .inl (A 10 i)) := rfl
theorem ce_11 (G : owG) (A S Z B T V : owF) (J : Nat → Nat → Int64) (Y : Nat → Nat → Nat → Option Nat) (P : Nat → Option owW) (i : Nat) : owC G (A, S, Z, B, T, V, J, Y, P) 11 i = .inl (gI G, 8, .inl (A 11 i)) := rfl
theorem ce_12 (G : owG) (A S Z B T V : owF) (J : Nat → Nat → Int64) (Y : Nat → Nat → Nat → Option Nat) (P : Nat → Option owW) (i : Nat) : owC G (A, S, Z, B, T, V, J, Y, P) 12 i = .inl (gI G, 8, .inl (A 12 i)) := rfl
theorem ce_13 (G : owG) (A S Z B T V : owF) (J : Nat → Nat → Int64) (Y : Nat → Nat → Nat → Option Nat) (P : Nat → Option owW) (i : Nat) : owC G (A, S, Z, B, T, V, J, Y, P) 13 i = .inl (gI G, 100, .inl (A 13 i)) := rfl
theorem ce_14 (G : owG) (A S Z B T V : owF) (J : Nat → Nat → Int64) (Y : Nat → Nat → Nat → Option Nat) (P : Nat → Option owW) (i : Nat) : owC G (A, S, Z, B, T, V, J, Y, P) 14 i = .inl (gI G, 3, .inl (S 14 i)) := rfl
theorem ce_15 (G : owG) (A S Z B T V : owF) (J : Nat → Nat → Int64) (Y : Nat → Nat → Nat → Option Nat) (P : Nat → Option owW) (i : Nat) : owC G (A, S, Z, B, T, V, J, Y, P) 15 i = .inl (gW G, 10, .inr (.inr (.inr (.inr (Y 15 i))))) := rfl
theorem ce_16 (G : owG) (A S Z B T V : owF) (J : Nat → Nat → Int64) (Y : Nat → Nat → Nat → Option Nat) (P : Nat → Option owW) (i : Nat) : owC G (A, S, Z, B, T, V, J, Y, P) 16 i = .inl (gI G, 100, .inl (A 16 i)) := rfl
theorem ce_20 (G : owG) (A S Z B T V : owF) (J : Nat → Nat → Int64) (Y : Nat → Nat → Nat → Option Nat) (P : Nat → Option owW) (i : Nat) : owC G (A, S, Z, B, T, V, J, Y, P) 20 i = .inl (gI G, 4, .inl (Z 20 i)) := rfl
theorem ce_21 (G : owG) (A S Z B T V : owF) (J : Nat → Nat → Int64) (Y : Nat → Nat → Nat → Option Nat) (P : Nat → Option owW) (i : Nat) : owC G (A, S, Z, B, T, V, J, Y, P) 21 i = .inl (gI G, 4, .inl (Z 21 i)) := rfl
theorem ce_22 (G : owG) (A S Z B T V : owF) (J : Nat → Nat → Int64) (Y : Nat → Nat → Nat → Option Nat) (P : Nat → Option owW) (i : Nat) : owC G (A, S, Z, B, T, V, J, Y, P) 22 i = .inl (gI G, 4, .inl (Z 22 i)) := rfl
theorem ce_30 (G : owG) (A S Z B T V : owF) (J : Nat → Nat → Int64) (Y : Nat → Nat → Nat → Option Nat) (P : Nat → Option owW) (i : Nat) : owC G (A, S, Z, B, T, V, J, Y, P) 30 i = .inl (gI G, 12, .inl (S 30 i)) := rfl
theorem ce_31 (G : owG) (A S Z B T V : owF) (J : Nat → Nat → Int64) (Y : Nat → Nat → Nat → Option Nat) (P : Nat → Option owW) (i : Nat) : owC G (A, S, Z, B, T, V, J, Y, P) 31 i = .inl (gI G, 12, .inl (S 31 i)) := rfl
theorem ce_32 (G : owG) (A S Z B T V : owF) (J : Nat → Nat → Int64) (Y : Nat → Nat → Nat → Option Nat) (P : Nat → Option owW) (i : Nat) : owC G (A, S, Z, B, T, V, J, Y, P) 32 i = .inl (gI G, 12, .inl (S 32 i)) := rfl
theorem ce_33 (G : owG) (A S Z B T V : owF) (J : Nat → Nat → Int64) (Y : Nat → Nat → Nat → Option Nat) (P : Nat → Option owW) (i : Nat) : owC G (A, S, Z, B, T, V, J, Y, P) 33 i = .inl (gI G, 12, .inl (S 33 i)) := rfl
theorem ce_34 (G : owG) (A S Z B T V : owF) (J : Nat → Nat → Int64) (Y : Nat → Nat → Nat → Option Nat) (P : Nat → Option owW) (i : Nat) : owC G (A, S, Z, B, T, V, J, Y, P) 34 i = .inl (gI G, 10, .inl (S 34 i)) := rfl
theorem ce_35 (G : owG) (A S Z B T V : owF) (J : Nat → Nat → Int64) (Y : Nat → Nat → Nat → Option Nat) (P : Nat → Option owW) (i : Nat) : owC G (A, S, Z, B, T, V, J, Y, P) 35 i = .inl (gI G, 8, .inl (S 35 i)) := rfl
theorem ce_36 (G : owG) (A S Z B T V : owF) (J : Nat → Nat → Int64) (Y : Nat → Nat → Nat → Option Nat) (P : Nat → Option owW) (i : Nat) : owC G (A, S, Z, B, T, V, J, Y, P) 36 i = .inl (gJ G, 12, .inr (.inl (J 36))) := rfl
theorem ce_37 (G : owG) (A S Z B T V : owF) (J : Nat → Nat → Int64) (Y : Nat → Nat → Nat → Option Nat) (P : Nat → Option owW) (i : Nat) : owC G (A, S, Z, B, T, V, J, Y, P) 37 i = .inl (gS G, 8, .inr (.inr (.inr (.inr (fun d => some (gK G 3 d)))))) := rfl
theorem ce_40 (G : owG) (A S Z B T V : owF) (J : Nat → Nat → Int64) (Y : Nat → Nat → Nat → Option Nat) (P : Nat → Option owW) (i : Nat) : owC G (A, S, Z, B, T, V, J, Y, P) 40 i = .inl (gI G, 156, .inl (B 40 i)) := rfl
theorem ce_41 (G : owG) (A S Z B T V : owF) (J : Nat → Nat → Int64) (Y : Nat → Nat → Nat → Option Nat) (P : Nat → Option owW) (i : Nat) : owC G (A, S, Z, B, T, V, J, Y, P) 41 i = .inl (gI G, 156, .inl (B 41 i)) := rfl
theorem ce_42 (G : owG) (A S Z B T V : owF) (J : Nat → Nat → Int64) (Y : Nat → Nat → Nat → Option Nat) (P : Nat → Option owW) (i : Nat) : owC G (A, S, Z, B, T, V, J, Y, P) 42 i = .inl (gI G, 156, .inl (T 42 i)) := rfl
theorem ce_43 (G : owG) (A S Z B T V : owF) (J : Nat → Nat → Int64) (Y : Nat → Nat → Nat → Option Nat) (P : Nat → Option owW) (i : Nat) : owC G (A, S, Z, B, T, V, J, Y, P) 43 i = .inl (gI G, 8, .inl (B 43 i)) := rfl
theorem ce_44 (G : owG) (A S Z B T V : owF) (J : Nat → Nat → Int64) (Y : Nat → Nat → Nat → Option Nat) (P : Nat → Option owW) (i : Nat) : owC G (A, S, Z, B, T, V, J, Y, P) 44 i = .inl (gI G, 8, .inl (B 44 i)) := rfl
theorem ce_45 (G : owG) (A S Z B T V : owF) (J : Nat → Nat → Int64) (Y : Nat → Nat → Nat → Option Nat) (P : Nat → Option owW) (i : Nat) : owC G (A, S, Z, B, T, V, J, Y, P) 45 i = .inl (gI G, 8, .inl (B 45 i)) := rfl
theorem ce_46 (G : owG) (A S Z B T V : owF) (J : Nat → Nat → Int64) (Y : Nat → Nat → Nat → Option Nat) (P : Nat → Option owW) (i : Nat) : owC G (A, S, Z, B, T, V, J, Y, P) 46 i = .inl (gI G, 800, .inl (B 46 i)) := rfl
theorem ce_47 (G : owG) (A S Z B T V : owF) (J : Nat → Nat → Int64) (Y : Nat → Nat → Nat → Option Nat) (P : Nat → Option owW) (i : Nat) : owC G (A, S, Z, B, T, V, J, Y, P) 47 i = .inl (gI G, 8, .inl (B 47 i)) := rfl
theorem ce_48 (G : owG) (A S Z B T V : owF) (J : Nat → Nat → Int64) (Y : Nat → Nat → Nat → Option Nat) (P : Nat → Option owW) (i : Nat) : owC G (A, S, Z, B, T, V, J, Y, P) 48 i = .inl (gI G, 8, .inl (B 48 i)) := rfl
theorem ce_49 (G : owG) (A S Z B T V : owF) (J : Nat → Nat → Int64) (Y : Nat → Nat → Nat → Option Nat) (P : Nat → Option owW) (i : Nat) : owC G (A, S, Z, B, T, V, J, Y, P) 49 i = .inl (gI G, 3, .inl (T 49 i)) := rfl
theorem ce_50 (G : owG) (A S Z B T V : owF) (J : Nat → Nat → Int64) (Y : Nat → Nat → Nat → Option Nat) (P : Nat → Option owW) (i : Nat) : owC G (A, S, Z, B, T, V, J, Y, P) 50 i = .inl (gI G, 4, .inl (V 50 i)) := rfl
theorem ce_51 (G : owG) (A S Z B T V : owF) (J : Nat → Nat → Int64) (Y : Nat → Nat → Nat → Option Nat) (P : Nat → Option owW) (i : Nat) : owC G (A, S, Z, B, T, V, J, Y, P) 51 i = .inl (gI G, 4, .inl (V 51 i)) := rfl
theorem ce_52 (G : owG) (A S Z B T V : owF) (J : Nat → Nat → Int64) (Y : Nat → Nat → Nat → Option Nat) (P : Nat → Option owW) (i : Nat) : owC G (A, S, Z, B, T, V, J, Y, P) 52 i = .inl (gI G, 4, .inl (V 52 i)) := rfl
theorem ce_53 (G : owG) (A S Z B T V : owF) (J : Nat → Nat → Int64) (Y : Nat → Nat → Nat → Option Nat) (P : Nat → Option owW) (i : Nat) : owC G (A, S, Z, B, T, V, J, Y, P) 53 i = .inl (gI G, 100, .inl (T 53 i)) := rfl
theorem ce_54 (G : owG) (A S Z B T V : owF) (J : Nat → Nat → Int64) (Y : Nat → Nat → Nat → Option Nat) (P : Nat → Option owW) (i : Nat) : owC G (A, S, Z, B, T, V, J, Y, P) 54 i = .inl (gI G, 12, .inl (T 54 i)) := rfl
theorem ce_55 (G : owG) (A S Z B T V : owF) (J : Nat → Nat → Int64) (Y : Nat → Nat → Nat → Option Nat) (P : Nat → Option owW) (i : Nat) : owC G (A, S, Z, B, T, V, J, Y, P) 55 i = .inl (gI G, 8, .inl (T 55 i)) := rfl
theorem ce_60 (G : owG) (A S Z B T V : owF) (J : Nat → Nat → Int64) (Y : Nat → Nat → Nat → Option Nat) (P : Nat → Option owW) (i : Nat) : owC G (A, S, Z, B, T, V, J, Y, P) 60 i = .inl (gJ G, 1, .inr (.inl (J 60))) := rfl
theorem owC_cong {G : owG} {σ σ2 : owSt} {t i : Nat} (hA : σ.1 t i = σ2.1 t i) (hS : σ.2.1 t i = σ2.2.1 t i) (hZ : σ.2.2.1 t i = σ2.2.2.1 t i) (hB : σ.2.2.2.1 t i = σ2.2.2.2.1 t i) (hT : σ.2.2.2.2.1 t i = σ2.2.2.2.2.1 t i) (hV : σ.2.2.2.2.2.1 t i = σ2.2.2.2.2.2.1 t i) (hJ : σ.2.2.2.2.2.2.1 t = σ2.2.2.2.2.2.2.1 t) (hY : σ.2.2.2.2.2.2.2.1 t i = σ2.2.2.2.2.2.2.2.1 t i) : owC G σ t i = owC G σ2 t i := by
  unfold owC
  refine ite_congr rfl (fun h => by subst h; simp only [hA, hS, hZ, hB, hT, hV, hJ, hY]) (fun _ => ?_)
  refine ite_congr rfl (fun h => by subst h; simp only [hA, hS, hZ, hB, hT, hV, hJ, hY]) (fun _ => ?_)
  refine ite_congr rfl (fun h => by subst h; simp only [hA, hS, hZ, hB, hT, hV, hJ, hY]) (fun _ => ?_)
  refine ite_congr rfl (fun h => by subst h; simp only [hA, hS, hZ, hB, hT, hV, hJ, hY]) (fun _ => ?_)
  refine ite_congr rfl (fun h => by subst h; simp only [hA, hS, hZ, hB, hT, hV, hJ, hY]) (fun _ => ?_)
  refine ite_congr rfl (fun h => by subst h; simp only [hA, hS, hZ, hB, hT, hV, hJ, hY]) (fun _ => ?_)
  refine ite_congr rfl (fun h => by subst h; simp only [hA, hS, hZ, hB, hT, hV, hJ, hY]) (fun _ => ?_)
  refine ite_congr rfl (fun h => by subst h; simp only [hA, hS, hZ, hB, hT, hV, hJ, hY]) (fun _ => ?_)
  refine ite_congr rfl (fun h => by subst h; simp only [hA, hS, hZ, hB, hT, hV, hJ, hY]) (fun _ => ?_)
  refine ite_congr rfl (fun h => by subst h; simp only [hA, hS, hZ, hB, hT, hV, hJ, hY]) (fun _ => ?_)
  refine ite_congr rfl (fun h => by subst h; simp only [hA, hS, hZ, hB, hT, hV, hJ, hY]) (fun _ => ?_)
  refine ite_congr rfl (fun h => by subst h; simp only [hA, hS, hZ, hB, hT, hV, hJ, hY]) (fun _ => ?_)
  refine ite_congr rfl (fun h => by subst h; simp only [hA, hS, hZ, hB, hT, hV, hJ, hY]) (fun _ => ?_)
  refine ite_congr rfl (fun h => by subst h; simp only [hA, hS, hZ, hB, hT, hV, hJ, hY]) (fun _ => ?_)
  refine ite_congr rfl (fun h => by subst h; simp only [hA, hS, hZ, hB, hT, hV, hJ, hY]) (fun _ => ?_)
  refine ite_congr rfl (fun h => by subst h; simp only [hA, hS, hZ, hB, hT, hV, hJ, hY]) (fun _ => ?_)
  refine ite_congr rfl (fun h => by subst h; simp only [hA, hS, hZ, hB, hT, hV, hJ, hY]) (fun _ => ?_)
  refine ite_congr rfl (fun h => by subst h; simp only [hA, hS, hZ, hB, hT, hV, hJ, hY]) (fun _ => ?_)
  refine ite_congr rfl (fun h => by subst h; simp only [hA, hS, hZ, hB, hT, hV, hJ, hY]) (fun _ => ?_)
  refine ite_congr rfl (fun h => by subst h; simp only [hA, hS, hZ, hB, hT, hV, hJ, hY]) (fun _ => ?_)
  refine ite_congr rfl (fun h => by subst h; simp only [hA, hS, hZ, hB, hT, hV, hJ, hY]) (fun _ => ?_)
  refine ite_congr rfl (fun h => by subst h; simp only [hA, hS, hZ, hB, hT, hV, hJ, hY]) (fun _ => ?_)
  refine ite_congr rfl (fun h => by subst h; simp only [hA, hS, hZ, hB, hT, hV, hJ, hY]) (fun _ => ?_)
  refine ite_congr rfl (fun h => by subst h; simp only [hA, hS, hZ, hB, hT, hV, hJ, hY]) (fun _ => ?_)
  refine ite_congr rfl (fun h => by subst h; simp only [hA, hS, hZ, hB, hT, hV, hJ, hY]) (fun _ => ?_)
  refine ite_congr rfl (fun h => by subst h; simp only [hA, hS, hZ, hB, hT, hV, hJ, hY]) (fun _ => ?_)
  refine ite_congr rfl (fun h => by subst h; simp only [hA, hS, hZ, hB, hT, hV, hJ, hY]) (fun _ => ?_)
  refine ite_congr rfl (fun h => by subst h; simp only [hA, hS, hZ, hB, hT, hV, hJ, hY]) (fun _ => ?_)
  refine ite_congr rfl (fun h => by subst h; simp only [hA, hS, hZ, hB, hT, hV, hJ, hY]) (fun _ => ?_)
  refine ite_congr rfl (fun h => by subst h; simp only [hA, hS, hZ, hB, hT, hV, hJ, hY]) (fun _ => ?_)
  refine ite_congr rfl (fun h => by subst h; simp only [hA, hS, hZ, hB, hT, hV, hJ, hY]) (fun _ => ?_)
  refine ite_congr rfl (fun h => by subst h; simp only [hA, hS, hZ, hB, hT, hV, hJ, hY]) (fun _ => ?_)
  refine ite_congr rfl (fun h => by subst h; simp only [hA, hS, hZ, hB, hT, hV, hJ, hY]) (fun _ => ?_)
  refine ite_congr rfl (fun h => by subst h; simp only [hA, hS, hZ, hB, hT, hV, hJ, hY]) (fun _ => ?_)
  refine ite_congr rfl (fun h => by subst h; simp only [hA, hS, hZ, hB, hT, hV, hJ, hY]) (fun _ => ?_)
  refine ite_congr rfl (fun h => by subst h; simp only [hA, hS, hZ, hB, hT, hV, hJ, hY]) (fun _ => ?_)
  refine ite_congr rfl (fun h => by subst h; simp only [hA, hS, hZ, hB, hT, hV, hJ, hY]) (fun _ => ?_)
  refine ite_congr rfl (fun h => by subst h; simp only [hA, hS, hZ, hB, hT, hV, hJ, hY]) (fun _ => ?_)
  refine ite_congr rfl (fun h => by subst h; simp only [hA, hS, hZ, hB, hT, hV, hJ, hY]) (fun _ => ?_)
  refine ite_congr rfl (fun h => by subst h; simp only [hA, hS, hZ, hB, hT, hV, hJ, hY]) (fun _ => rfl)
theorem up3_ne {α : Type} {f : Nat → Nat → Nat → α} {t i j : Nat} {v : α} {t2 i2 : Nat} (h : ¬ (t2 = t ∧ i2 = i)) : up3 f t i j v t2 i2 = f t2 i2 := by
  funext a
  exact if_neg (fun q => h ⟨q.1, q.2.1⟩)
theorem fr_A {G : owG} (A S Z B T V : owF) (J : Nat → Nat → Int64) (Y : Nat → Nat → Nat → Option Nat) (P : Nat → Option owW) {t i : Nat} (j : Nat) (v : Int32) {t2 i2 : Nat} (h : ¬ (t2 = t ∧ i2 = i)) : owC G (up3 A t i j v, S, Z, B, T, V, J, Y, P) t2 i2 = owC G (A, S, Z, B, T, V, J, Y, P) t2 i2 := owC_cong (up3_ne h) rfl rfl rfl rfl rfl rfl rfl
theorem fr_S {G : owG} (A S Z B T V : owF) (J : Nat → Nat → Int64) (Y : Nat → Nat → Nat → Option Nat) (P : Nat → Option owW) {t i : Nat} (j : Nat) (v : Int32) {t2 i2 : Nat} (h : ¬ (t2 = t ∧ i2 = i)) : owC G (A, up3 S t i j v, Z, B, T, V, J, Y, P) t2 i2 = owC G (A, S, Z, B, T, V, J, Y, P) t2 i2 := owC_cong rfl (up3_ne h) rfl rfl rfl rfl rfl rfl
theorem fr_Z {G : owG} (A S Z B T V : owF) (J : Nat → Nat → Int64) (Y : Nat → Nat → Nat → Option Nat) (P : Nat → Option owW) {t i : Nat} (j : Nat) (v : Int32) {t2 i2 : Nat} (h : ¬ (t2 = t ∧ i2 = i)) : owC G (A, S, up3 Z t i j v, B, T, V, J, Y, P) t2 i2 = owC G (A, S, Z, B, T, V, J, Y, P) t2 i2 := owC_cong rfl rfl (up3_ne h) rfl rfl rfl rfl rfl
theorem fr_B {G : owG} (A S Z B T V : owF) (J : Nat → Nat → Int64) (Y : Nat → Nat → Nat → Option Nat) (P : Nat → Option owW) {t i : Nat} (j : Nat) (v : Int32) {t2 i2 : Nat} (h : ¬ (t2 = t ∧ i2 = i)) : owC G (A, S, Z, up3 B t i j v, T, V, J, Y, P) t2 i2 = owC G (A, S, Z, B, T, V, J, Y, P) t2 i2 := owC_cong rfl rfl rfl (up3_ne h) rfl rfl rfl rfl
theorem fr_T {G : owG} (A S Z B T V : owF) (J : Nat → Nat → Int64) (Y : Nat → Nat → Nat → Option Nat) (P : Nat → Option owW) {t i : Nat} (j : Nat) (v : Int32) {t2 i2 : Nat} (h : ¬ (t2 = t ∧ i2 = i)) : owC G (A, S, Z, B, up3 T t i j v, V, J, Y, P) t2 i2 = owC G (A, S, Z, B, T, V, J, Y, P) t2 i2 := owC_cong rfl rfl rfl rfl (up3_ne h) rfl rfl rfl
theorem fr_V {G : owG} (A S Z B T V : owF) (J : Nat → Nat → Int64) (Y : Nat → Nat → Nat → Option Nat) (P : Nat → Option owW) {t i : Nat} (j : Nat) (v : Int32) {t2 i2 : Nat} (h : ¬ (t2 = t ∧ i2 = i)) : owC G (A, S, Z, B, T, up3 V t i j v, J, Y, P) t2 i2 = owC G (A, S, Z, B, T, V, J, Y, P) t2 i2 := owC_cong rfl rfl rfl rfl rfl (up3_ne h) rfl rfl
theorem fr_J {G : owG} (A S Z B T V : owF) (J : Nat → Nat → Int64) (Y : Nat → Nat → Nat → Option Nat) (P : Nat → Option owW) {t : Nat} (j : Nat) (v : Int64) (ht : owN t = 1) {t2 i2 : Nat} (hv : i2 < owN t2) (h : ¬ (t2 = t ∧ i2 = 0)) : owC G (A, S, Z, B, T, V, up2 J t j v, Y, P) t2 i2 = owC G (A, S, Z, B, T, V, J, Y, P) t2 i2 := by
  have hne : t2 ≠ t := fun q => h ⟨q, by subst q; omega⟩
  refine owC_cong rfl rfl rfl rfl rfl rfl ?_ rfl
  funext a
  exact if_neg (fun q => hne q.1)
theorem fr_Y {G : owG} (A S Z B T V : owF) (J : Nat → Nat → Int64) (Y : Nat → Nat → Nat → Option Nat) (P : Nat → Option owW) {t i : Nat} (j : Nat) (v : Option Nat) {t2 i2 : Nat} (h : ¬ (t2 = t ∧ i2 = i)) : owC G (A, S, Z, B, T, V, J, up3 Y t i j v, P) t2 i2 = owC G (A, S, Z, B, T, V, J, Y, P) t2 i2 := owC_cong rfl rfl rfl rfl rfl rfl rfl (up3_ne h)
theorem fr_P {G : owG} (A S Z B T V : owF) (J : Nat → Nat → Int64) (Y : Nat → Nat → Nat → Option Nat) (P P2 : Nat → Option owW) {t2 i2 : Nat} : owC G (A, S, Z, B, T, V, J, Y, P2) t2 i2 = owC G (A, S, Z, B, T, V, J, Y, P) t2 i2 := owC_cong rfl rfl rfl rfl rfl rfl rfl rfl
/-- the heap holds the banks: every cell of the skeleton, every way; the addresses apart, and none of them old -/
def Holds (G : owG) (σ : owSt) (H : Heap) : Prop :=
  (∀ t i, i < owN t → va_at (gD G) vwCl (gK G t i, owC G σ t i) H) ∧
  (∀ a w, σ.2.2.2.2.2.2.2.2 a = some w → va_at (gD G) vwCl (a, owE w) H ∧ gB G ≤ a ∧ ∀ t i, i < owN t → a ≠ gK G t i) ∧
  (∀ t i t2 i2, i < owN t → i2 < owN t2 → gK G t i = gK G t2 i2 → t = t2 ∧ i = i2) ∧ (∀ t i, i < owN t → gB G ≤ gK G t i)
def owNM : List (String × Nat × MethodName × String) := [("OwnWays", 9, ⟨"OwnWays$SchoolClass", "<init>", "()V"⟩, "OwnWays"), ("OwnWays", 30, ⟨"OwnWays$Paper", "<init>", "()V"⟩, "OwnWays"), ("OwnWays", 58, ⟨"OwnWays$Shelf", "<init>", "()V"⟩, "OwnWays"), ("OwnWays$Shelf", 38, ⟨"OwnWays", "at", "([II)I"⟩, "OwnWays"), ("OwnWays$SchoolClass", 98, ⟨"OwnWays", "set", "([III)V"⟩, "OwnWays"), ("OwnWays$SchoolClass", 58, ⟨"OwnWays", "at", "([II)I"⟩, "OwnWays"), ("OwnWays$Patched", 25, ⟨"OwnWays", "at", "([II)I"⟩, "OwnWays"), ("OwnWays$Shelf", 42, ⟨"OwnWays", "set", "([III)V"⟩, "OwnWays")]
def owNC : List (String × String) := [("java/lang/IllegalArgumentException", "java/lang/IllegalArgumentException"), ("java/lang/UnsupportedOperationException", "java/lang/UnsupportedOperationException"), ("java/lang/IllegalStateException", "java/lang/IllegalStateException"), ("OwnWays$Turned", "OwnWays$Way"), ("OwnWays$Nought", "OwnWays$Way"), ("OwnWays$Given", "OwnWays$Way"), ("OwnWays$Across", "OwnWays$Way"), ("OwnWays$Zero", "OwnWays$Way"), ("OwnWays$Patched", "OwnWays$Way"), ("OwnWays$Topped", "OwnWays$Way")]
/-- what the tables say of nest mates and of casts: it isn't a word of the tables' own kind, it moves with the state -/
def NwOk (s : State) : Prop := (∀ q ∈ owNM, va_Nw (.methodLinkNest q.1 q.2.1 q.2.2.1 q.2.2.2) s) ∧ ∀ q ∈ owNC, va_Nw (.castable q.1 q.2) s
theorem NwOk.warm {s U : State} (hW : s.WarmedH U.vm) (h : NwOk s) : NwOk U := ⟨fun q hq => va_Nw.warmM hW (h.1 q hq), fun q hq => va_Nw.warmC hW (h.2 q hq)⟩
theorem NwOk.same {s U : State} (hv : s.vm = U.vm) (h : NwOk s) : NwOk U := ⟨fun q hq => va_Nw.same rfl hv (h.1 q hq), fun q hq => va_Nw.same rfl hv (h.2 q hq)⟩
def Inv (G : owG) (σ : owSt) (U : State) : Prop := Holds G σ U.heap ∧ va_K (gD G) vwCl (gty G) U ∧ gB G ≤ U.heap.size ∧ NwOk U
def QQ (G : owG) (Q : Option Value → owSt → Prop) : Array Value → State → Outcome → State → Prop := fun _ st o t => (∃ (r : Option Value) (σ : owSt), o = .returned r ∧ Q r σ ∧ Holds G σ t.heap) ∧ va_F (gA G) st t
def rmk (lvl mc ms : Nat) : Room := { frames := lvl, cells := mc, slots := ms, locals := 40 * lvl }
def QfM (G : owG) (Q : Option Value → owSt → Prop) (mc ms : Nat) : List Frame → Array Value → State → State → Prop := fun below args s => MQ below (QQ G Q) args s mc ms (gA G)
/-- what is known inside a method -/
def Cx (G : owG) (cc : ByteArray) (nL : Nat) (own : String) (rt : Option FieldType) (Ex : State → Prop) (lv : List (Nat × Value)) (σ : owSt) (p : Program) (s : State) (m : MethodId) (args : Array Value) (meth : Method) (c : Code) (H : Heap) (locs : List Loc) (ls : Array Slot) : Prop :=
  p.tables.exec = Jvm.exec ∧ c.code = cc ∧ c.maxLocals = nL ∧ s.vm.findClass own = some m.cls ∧ (∀ w ∈ owTB, w.before args s = true) ∧ meth.sig.returnType = rt ∧ meth.locks = false ∧ Ex s ∧ va_K (gD G) vwCl (gty G) s ∧ Holds G σ H ∧ va_S (gA G) s.heap H locs ∧ (gB G ≤ s.heap.size ∧ NwOk s) ∧ lv_has ls nL lv
/-- the judgement: from this place the method comes to its end as told -/
def Wm (l : Launch) (G : owG) (cc : ByteArray) (nL : Nat) (own : String) (rt : Option FieldType) (R : Room) (Ex : State → Prop) (Qf : List Frame → Array Value → State → State → Prop) (pc : Nat) (lv : List (Nat × Value)) (st : List Value) (σ : owSt) (cells slots : Nat) : Prop :=
  ∀ (p : Program) (e : Env) (s : State) (m : MethodId) (args : Array Value) (below : List Frame) (meth : Method) (c : Code) (H : Heap) (locs : List Loc) (ls : Array Slot), Cx G cc nL own rt Ex lv σ p s m args meth c H locs ls → W p l e R s m args below meth c H locs cells slots (Qf below args s) (F0 m pc ls st)
/-- a method's contract at these arguments and these banks -/
def Ct (l : Launch) (G : owG) (y : MethodName) (cc : ByteArray) (nL : Nat) (rt : Option FieldType) (lvl mc ms : Nat) (as : List Value) (σ : owSt) (Q : Option Value → owSt → Prop) : Prop :=
  Met l y (owWs y cc nL rt) (rmk lvl mc ms) (va_Pc as (Inv G σ)) (QQ G Q) mc ms (gA G)
def qI (P : Int32 → owSt → Prop) : Option Value → owSt → Prop := fun r σ => ∃ x : Int32, r = some (.int x) ∧ P x σ
def qL (P : Int64 → owSt → Prop) : Option Value → owSt → Prop := fun r σ => ∃ x : Int64, r = some (.long x) ∧ P x σ
def qV (P : owSt → Prop) : Option Value → owSt → Prop := fun r σ => r = none ∧ P σ
def qR (P : Option Nat → owSt → Prop) : Option Value → owSt → Prop := fun r σ => ∃ x : Option Nat, r = some (va_rf x) ∧ P x σ
theorem Cx.lv' {G : owG} {cc : ByteArray} {nL : Nat} {own : String} {rt : Option FieldType} {Ex : State → Prop} {lv lv2 : List (Nat × Value)} {σ : owSt} {p : Program} {s : State} {m : MethodId} {args : Array Value} {meth : Method} {c : Code} {H : Heap} {locs : List Loc} {ls ls2 : Array Slot} (h : Cx G cc nL own rt Ex lv σ p s m args meth c H locs ls) (h2 : lv_has ls2 nL lv2) : Cx G cc nL own rt Ex lv2 σ p s m args meth c H locs ls2 := by
  obtain ⟨h1, h2', h3, h4, h5, h6, h7, h8, h9, h10, h11, h12, -⟩ := h
  exact ⟨h1, h2', h3, h4, h5, h6, h7, h8, h9, h10, h11, h12, h2⟩
theorem Cx.hp {G : owG} {cc : ByteArray} {nL : Nat} {own : String} {rt : Option FieldType} {Ex : State → Prop} {lv : List (Nat × Value)} {σ σ2 : owSt} {p : Program} {s : State} {m : MethodId} {args : Array Value} {meth : Method} {c : Code} {H H2 : Heap} {locs locs2 : List Loc} {ls : Array Slot} (h : Cx G cc nL own rt Ex lv σ p s m args meth c H locs ls) (g1 : Holds G σ2 H2) (g2 : va_S (gA G) s.heap H2 locs2) : Cx G cc nL own rt Ex lv σ2 p s m args meth c H2 locs2 ls := by
  obtain ⟨h1, h2', h3, h4, h5, h6, h7, h8, h9, h10, h11, h12, h13⟩ := h
  exact ⟨h1, h2', h3, h4, h5, h6, h7, h8, h9, g1, g2, h12, h13⟩
section OWN
variable {l : Launch} {G : owG} {cc : ByteArray} {nL : Nat} {own : String} {rt : Option FieldType} {R : Room} {Ex : State → Prop} {Qf : List Frame → Array Value → State → State → Prop} {pc : Nat} {lv : List (Nat × Value)} {rest : List Value} {σ : owSt} {cells slots : Nat}
theorem ct_of {y : MethodName} {lvl mc ms : Nat} {as : List Value} {Q : Option Value → owSt → Prop} (hy : plainName y.cls = true) (hn : (lg_sl as).length ≤ nL) (k : Wm l G cc nL y.cls rt (rmk lvl mc ms) (fun _ => True) (QfM G Q mc ms) 0 (lv_args 0 as) [] σ 0 0) : Ct l G y cc nL rt lvl mc ms as σ Q := by
  refine Met.ofW (cc := cc) (maxL := nL) (ret := rt) hy rfl ?_
  intro p e s m args below meth c s₁ B hml hv
  obtain ⟨rfl, hH, hK, hb⟩ := hv
  have hl := lv_entry as (n := nL) hn
  rw [lg_entry_eq]
  exact k p e s m _ below meth c s.heap [] _ ⟨B.exec, B.bytes, hml, findClass_of_methodNamed B.named, fun w h => atoms_spec (ws := owWs y cc nL rt) B.pre w (List.mem_cons_of_mem _ h), B.returns, B.notSynchronized, trivial, hK, hH, va_S.rf, hb, hl⟩
theorem m_widen {k n : Nat} (h1 : cells ≤ k) (h2 : slots ≤ n) {st : List Value} (kk : Wm l G cc nL own rt R Ex Qf pc lv st σ k n) : Wm l G cc nL own rt R Ex Qf pc lv st σ cells slots :=
  fun p e s m args below meth c H locs ls X => W.widen h1 h2 (kk p e s m args below meth c H locs ls X)
theorem m_lv {st : List Value} (lv2 : List (Nat × Value)) (ks : List Nat) (hl : lv_pick lv ks = lv2) (kk : Wm l G cc nL own rt R Ex Qf pc lv2 st σ cells slots) : Wm l G cc nL own rt R Ex Qf pc lv st σ cells slots :=
  fun p e s m args below meth c H locs ls X => kk p e s m args below meth c H locs ls (X.lv' (lv_sub X.2.2.2.2.2.2.2.2.2.2.2.2 ks hl))
theorem m_iret {pc : Nat} {P : Int32 → owSt → Prop} {mc ms : Nat} {v : Int32} (hd : decode cc pc = .ok (.ireturn, 1)) (h1 : cells ≤ mc) (h2 : slots ≤ ms) (hq : P v σ) : Wm l G cc nL own (some .int) R Ex (QfM G (qI P) mc ms) pc lv [.int v] σ cells slots := by
  intro p e s m args below meth c H locs ls X
  obtain ⟨hx, hb, hml, ho, hts, hr, hk, hE, hK, hH, hS, hB, hl⟩ := X
  exact W.widen h1 h2 (W.iret hx hb hr (fun t ht _ => ⟨⟨_, σ, rfl, ⟨v, rfl, hq⟩, by rw [ht]; exact hH⟩, hS.F ht⟩) hS.2.2 hd hk)
theorem m_zret {pc : Nat} {P : Int32 → owSt → Prop} {mc ms : Nat} {v : Int32} (hd : decode cc pc = .ok (.ireturn, 1)) (h1 : cells ≤ mc) (h2 : slots ≤ ms) (hn : narrow .boolean (.int v) = .int v) (hq : P v σ) : Wm l G cc nL own (some .boolean) R Ex (QfM G (qI P) mc ms) pc lv [.int v] σ cells slots := by
  intro p e s m args below meth c H locs ls X
  obtain ⟨hx, hb, hml, ho, hts, hr, hk, hE, hK, hH, hS, hB, hl⟩ := X
  exact W.widen h1 h2 (W.zret hx hb hr hn (fun t ht _ => ⟨⟨_, σ, rfl, ⟨v, rfl, hq⟩, by rw [ht]; exact hH⟩, hS.F ht⟩) hS.2.2 hd hk)
theorem m_lret {pc : Nat} {P : Int64 → owSt → Prop} {mc ms : Nat} {v : Int64} (hd : decode cc pc = .ok (.lreturn, 1)) (h1 : cells ≤ mc) (h2 : slots ≤ ms) (hq : P v σ) : Wm l G cc nL own (some .long) R Ex (QfM G (qL P) mc ms) pc lv [.long v] σ cells slots := by
  intro p e s m args below meth c H locs ls X
  obtain ⟨hx, hb, hml, ho, hts, hr, hk, hE, hK, hH, hS, hB, hl⟩ := X
  exact W.widen h1 h2 (W.lret hx hb hr (fun t ht _ => ⟨⟨_, σ, rfl, ⟨v, rfl, hq⟩, by rw [ht]; exact hH⟩, hS.F ht⟩) hS.2.2 hd hk)
theorem m_vret {pc : Nat} {P : owSt → Prop} {mc ms : Nat} (hd : decode cc pc = .ok (.return_, 1)) (h1 : cells ≤ mc) (h2 : slots ≤ ms) (hq : P σ) : Wm l G cc nL own none R Ex (QfM G (qV P) mc ms) pc lv [] σ cells slots := by
  intro p e s m args below meth c H locs ls X
  obtain ⟨hx, hb, hml, ho, hts, hr, hk, hE, hK, hH, hS, hB, hl⟩ := X
  exact W.widen h1 h2 (W.vret hx hb hr (fun t ht _ => ⟨⟨_, σ, rfl, ⟨rfl, hq⟩, by rw [ht]; exact hH⟩, hS.F ht⟩) hS.2.2 hd hk)
theorem m_aret {pc : Nat} {P : Option Nat → owSt → Prop} {mc ms : Nat} {x : Option Nat} {cn : String} (hd : decode cc pc = .ok (.areturn, 1)) (h1 : cells ≤ mc) (h2 : slots ≤ ms) (hq : P x σ) : Wm l G cc nL own (some (.object cn)) R Ex (QfM G (qR P) mc ms) pc lv [va_rf x] σ cells slots := by
  intro p e s m args below meth c H locs ls X
  obtain ⟨hx, hb, hml, ho, hts, hr, hk, hE, hK, hH, hS, hB, hl⟩ := X
  exact W.widen h1 h2 (W.aret hx hb hr (Or.inl ⟨_, rfl⟩) (by cases x with
    | none => exact Or.inl rfl
    | some a => exact Or.inr ⟨_, rfl⟩) (fun t ht _ => ⟨⟨_, σ, rfl, ⟨x, rfl, hq⟩, by rw [ht]; exact hH⟩, hS.F ht⟩) hS.2.2 hd hk)
theorem m_arefn {pc : Nat} {P : Option Nat → owSt → Prop} {mc ms : Nat} {cn : String} (hd : decode cc pc = .ok (.areturn, 1)) (h1 : cells ≤ mc) (h2 : slots ≤ ms) (hq : P none σ) : Wm l G cc nL own (some (.object cn)) R Ex (QfM G (qR P) mc ms) pc lv [.null] σ cells slots := m_aret (x := none) hd h1 h2 hq
theorem m_arefs {pc a : Nat} {P : Option Nat → owSt → Prop} {mc ms : Nat} {cn : String} (hd : decode cc pc = .ok (.areturn, 1)) (h1 : cells ≤ mc) (h2 : slots ≤ ms) (hq : P (some a) σ) : Wm l G cc nL own (some (.object cn)) R Ex (QfM G (qR P) mc ms) pc lv [.ref a] σ cells slots := m_aret (x := some a) hd h1 h2 hq
theorem m_iconst {n : Int} (v : Int32) (hd : decode cc pc = .ok (.iconst n, 1)) (hv : Int32.ofInt n = v) (kk : Wm l G cc nL own rt R Ex Qf (pc + 1) lv (.int v :: rest) σ cells slots) : Wm l G cc nL own rt R Ex Qf pc lv rest σ cells slots := by
  intro p e s m args below meth c H locs ls X
  obtain ⟨hx, hb, hml, ho, hts, hr, hk, hE, hK, hH, hS, hB, hl⟩ := id X
  exact lv_iconst hx hb hd hv (kk _ _ _ _ _ _ _ _ _ _ _ X)
theorem m_bipush {n : Int} (v : Int32) (hd : decode cc pc = .ok (.bipush n, 2)) (hv : (Int8.ofInt n).toInt32 = v) (kk : Wm l G cc nL own rt R Ex Qf (pc + 2) lv (.int v :: rest) σ cells slots) : Wm l G cc nL own rt R Ex Qf pc lv rest σ cells slots := by
  intro p e s m args below meth c H locs ls X
  obtain ⟨hx, hb, hml, ho, hts, hr, hk, hE, hK, hH, hS, hB, hl⟩ := id X
  exact lv_bipush hx hb hd hv (kk _ _ _ _ _ _ _ _ _ _ _ X)
theorem m_sipush {n : Int} (v : Int32) (hd : decode cc pc = .ok (.sipush n, 3)) (hv : (Int16.ofInt n).toInt32 = v) (kk : Wm l G cc nL own rt R Ex Qf (pc + 3) lv (.int v :: rest) σ cells slots) : Wm l G cc nL own rt R Ex Qf pc lv rest σ cells slots := by
  intro p e s m args below meth c H locs ls X
  obtain ⟨hx, hb, hml, ho, hts, hr, hk, hE, hK, hH, hS, hB, hl⟩ := id X
  exact lv_sipush hx hb hd hv (kk _ _ _ _ _ _ _ _ _ _ _ X)
theorem m_lconst {n : Fin 2} (v : Int64) (hd : decode cc pc = .ok (.lconst n, 1)) (hv : Int64.ofNat (n : Nat) = v) (kk : Wm l G cc nL own rt R Ex Qf (pc + 1) lv (.long v :: rest) σ cells slots) : Wm l G cc nL own rt R Ex Qf pc lv rest σ cells slots := by
  intro p e s m args below meth c H locs ls X
  obtain ⟨hx, hb, hml, ho, hts, hr, hk, hE, hK, hH, hS, hB, hl⟩ := id X
  exact lv_lconst hx hb hd hv (kk _ _ _ _ _ _ _ _ _ _ _ X)
theorem m_ldc {i : Nat} (v : Int32) (hc : Jvm.Cond.constant own i v ∈ owTB) (hd : decode cc pc = .ok (.ldc i, 2)) (kk : Wm l G cc nL own rt R Ex Qf (pc + 2) lv (.int v :: rest) σ cells slots) : Wm l G cc nL own rt R Ex Qf pc lv rest σ cells slots := by
  intro p e s m args below meth c H locs ls X
  obtain ⟨hx, hb, hml, ho, hts, hr, hk, hE, hK, hH, hS, hB, hl⟩ := id X
  exact lv_ldc hx hb ho (hts _ hc) hd (kk _ _ _ _ _ _ _ _ _ _ _ X)
theorem m_ldc2 {i : Nat} (v : Int64) (hc : Jvm.Cond.constantLong own i v ∈ owTB) (hd : decode cc pc = .ok (.ldc2_w i, 3)) (kk : Wm l G cc nL own rt R Ex Qf (pc + 3) lv (.long v :: rest) σ cells slots) : Wm l G cc nL own rt R Ex Qf pc lv rest σ cells slots := by
  intro p e s m args below meth c H locs ls X
  obtain ⟨hx, hb, hml, ho, hts, hr, hk, hE, hK, hH, hS, hB, hl⟩ := id X
  exact lv_ldc2 hx hb ho (hts _ hc) hd (kk _ _ _ _ _ _ _ _ _ _ _ X)
theorem m_iload_n {k : Fin 4} {i : Nat} {x : Int32} (q : Nat) (hq : lv[q]? = some (i, .int x)) (hi : (k : Nat) = i) (hd : decode cc pc = .ok (.iload_n k, 1)) (kk : Wm l G cc nL own rt R Ex Qf (pc + 1) lv (.int x :: rest) σ cells slots) : Wm l G cc nL own rt R Ex Qf pc lv rest σ cells slots := by
  intro p e s m args below meth c H locs ls X
  obtain ⟨hx, hb, hml, ho, hts, hr, hk, hE, hK, hH, hS, hB, hl⟩ := id X
  exact lv_iload_n hx hb hd hi (lv_at hl q hq) (kk _ _ _ _ _ _ _ _ _ _ _ X)
theorem m_iload {i : Nat} {x : Int32} (q : Nat) (hq : lv[q]? = some (i, .int x)) (hd : decode cc pc = .ok (.iload i, 2)) (kk : Wm l G cc nL own rt R Ex Qf (pc + 2) lv (.int x :: rest) σ cells slots) : Wm l G cc nL own rt R Ex Qf pc lv rest σ cells slots := by
  intro p e s m args below meth c H locs ls X
  obtain ⟨hx, hb, hml, ho, hts, hr, hk, hE, hK, hH, hS, hB, hl⟩ := id X
  exact lv_iload hx hb hd (lv_at hl q hq) (kk _ _ _ _ _ _ _ _ _ _ _ X)
theorem m_lload_n {k : Fin 4} {i : Nat} {x : Int64} (q : Nat) (hq : lv[q]? = some (i, .long x)) (hi : (k : Nat) = i) (hd : decode cc pc = .ok (.lload_n k, 1)) (kk : Wm l G cc nL own rt R Ex Qf (pc + 1) lv (.long x :: rest) σ cells slots) : Wm l G cc nL own rt R Ex Qf pc lv rest σ cells slots := by
  intro p e s m args below meth c H locs ls X
  obtain ⟨hx, hb, hml, ho, hts, hr, hk, hE, hK, hH, hS, hB, hl⟩ := id X
  exact lv_lload_n hx hb hd hi (lv_at hl q hq) (kk _ _ _ _ _ _ _ _ _ _ _ X)
theorem m_lload {i : Nat} {x : Int64} (q : Nat) (hq : lv[q]? = some (i, .long x)) (hd : decode cc pc = .ok (.lload i, 2)) (kk : Wm l G cc nL own rt R Ex Qf (pc + 2) lv (.long x :: rest) σ cells slots) : Wm l G cc nL own rt R Ex Qf pc lv rest σ cells slots := by
  intro p e s m args below meth c H locs ls X
  obtain ⟨hx, hb, hml, ho, hts, hr, hk, hE, hK, hH, hS, hB, hl⟩ := id X
  exact lv_lload hx hb hd (lv_at hl q hq) (kk _ _ _ _ _ _ _ _ _ _ _ X)
theorem m_aload_n {k : Fin 4} {i : Nat} {x : Nat} (q : Nat) (hq : lv[q]? = some (i, .ref x)) (hi : (k : Nat) = i) (hd : decode cc pc = .ok (.aload_n k, 1)) (kk : Wm l G cc nL own rt R Ex Qf (pc + 1) lv (.ref x :: rest) σ cells slots) : Wm l G cc nL own rt R Ex Qf pc lv rest σ cells slots := by
  intro p e s m args below meth c H locs ls X
  obtain ⟨hx, hb, hml, ho, hts, hr, hk, hE, hK, hH, hS, hB, hl⟩ := id X
  exact lv_aload_n hx hb hd hi (lv_at hl q hq) (kk _ _ _ _ _ _ _ _ _ _ _ X)
theorem m_aload {i : Nat} {x : Nat} (q : Nat) (hq : lv[q]? = some (i, .ref x)) (hd : decode cc pc = .ok (.aload i, 2)) (kk : Wm l G cc nL own rt R Ex Qf (pc + 2) lv (.ref x :: rest) σ cells slots) : Wm l G cc nL own rt R Ex Qf pc lv rest σ cells slots := by
  intro p e s m args below meth c H locs ls X
  obtain ⟨hx, hb, hml, ho, hts, hr, hk, hE, hK, hH, hS, hB, hl⟩ := id X
  exact lv_aload hx hb hd (lv_at hl q hq) (kk _ _ _ _ _ _ _ _ _ _ _ X)
theorem m_istore_n {k : Fin 4} {i : Nat} {x : Int32} (lv2 : List (Nat × Value)) (hi : (k : Nat) = i) (hn : i < nL) (hf : (i, Value.int x) :: lv.filter (fun q => !(q.1 == i) && !(q.1 + 1 == i && q.2.category == 2)) = lv2) (hd : decode cc pc = .ok (.istore_n k, 1)) (kk : Wm l G cc nL own rt R Ex Qf (pc + 1) lv2 rest σ cells slots) : Wm l G cc nL own rt R Ex Qf pc lv (.int x :: rest) σ cells slots := by
  intro p e s m args below meth c H locs ls X
  obtain ⟨hx, hb, hml, ho, hts, hr, hk, hE, hK, hH, hS, hB, hl⟩ := id X
  exact lv_istore_n hx hb hd hi hl hn hf (fun ls2 h2 => kk _ _ _ _ _ _ _ _ _ _ _ (X.lv' h2))
theorem m_istore {i : Nat} {x : Int32} (lv2 : List (Nat × Value)) (hn : i < nL) (hf : (i, Value.int x) :: lv.filter (fun q => !(q.1 == i) && !(q.1 + 1 == i && q.2.category == 2)) = lv2) (hd : decode cc pc = .ok (.istore i, 2)) (kk : Wm l G cc nL own rt R Ex Qf (pc + 2) lv2 rest σ cells slots) : Wm l G cc nL own rt R Ex Qf pc lv (.int x :: rest) σ cells slots := by
  intro p e s m args below meth c H locs ls X
  obtain ⟨hx, hb, hml, ho, hts, hr, hk, hE, hK, hH, hS, hB, hl⟩ := id X
  exact lv_istore hx hb hd hl hn hf (fun ls2 h2 => kk _ _ _ _ _ _ _ _ _ _ _ (X.lv' h2))
theorem m_lstore_n {k : Fin 4} {i : Nat} {x : Int64} (lv2 : List (Nat × Value)) (hi : (k : Nat) = i) (hn : i + 1 < nL) (hf : (i, Value.long x) :: lv.filter (fun q => !(q.1 == i) && (!(q.1 == i + 1) && !(q.1 + 1 == i && q.2.category == 2))) = lv2) (hd : decode cc pc = .ok (.lstore_n k, 1)) (kk : Wm l G cc nL own rt R Ex Qf (pc + 1) lv2 rest σ cells slots) : Wm l G cc nL own rt R Ex Qf pc lv (.long x :: rest) σ cells slots := by
  intro p e s m args below meth c H locs ls X
  obtain ⟨hx, hb, hml, ho, hts, hr, hk, hE, hK, hH, hS, hB, hl⟩ := id X
  exact lv_lstore_n hx hb hd hi hl hn hf (fun ls2 h2 => kk _ _ _ _ _ _ _ _ _ _ _ (X.lv' h2))
theorem m_lstore {i : Nat} {x : Int64} (lv2 : List (Nat × Value)) (hn : i + 1 < nL) (hf : (i, Value.long x) :: lv.filter (fun q => !(q.1 == i) && (!(q.1 == i + 1) && !(q.1 + 1 == i && q.2.category == 2))) = lv2) (hd : decode cc pc = .ok (.lstore i, 2)) (kk : Wm l G cc nL own rt R Ex Qf (pc + 2) lv2 rest σ cells slots) : Wm l G cc nL own rt R Ex Qf pc lv (.long x :: rest) σ cells slots := by
  intro p e s m args below meth c H locs ls X
  obtain ⟨hx, hb, hml, ho, hts, hr, hk, hE, hK, hH, hS, hB, hl⟩ := id X
  exact lv_lstore hx hb hd hl hn hf (fun ls2 h2 => kk _ _ _ _ _ _ _ _ _ _ _ (X.lv' h2))
theorem m_astore_n {k : Fin 4} {i : Nat} {x : Nat} (lv2 : List (Nat × Value)) (hi : (k : Nat) = i) (hn : i < nL) (hf : (i, Value.ref x) :: lv.filter (fun q => !(q.1 == i) && !(q.1 + 1 == i && q.2.category == 2)) = lv2) (hd : decode cc pc = .ok (.astore_n k, 1)) (kk : Wm l G cc nL own rt R Ex Qf (pc + 1) lv2 rest σ cells slots) : Wm l G cc nL own rt R Ex Qf pc lv (.ref x :: rest) σ cells slots := by
  intro p e s m args below meth c H locs ls X
  obtain ⟨hx, hb, hml, ho, hts, hr, hk, hE, hK, hH, hS, hB, hl⟩ := id X
  exact lv_astore_n hx hb hd hi hl hn hf (fun ls2 h2 => kk _ _ _ _ _ _ _ _ _ _ _ (X.lv' h2))
theorem m_astore {i : Nat} {x : Nat} (lv2 : List (Nat × Value)) (hn : i < nL) (hf : (i, Value.ref x) :: lv.filter (fun q => !(q.1 == i) && !(q.1 + 1 == i && q.2.category == 2)) = lv2) (hd : decode cc pc = .ok (.astore i, 2)) (kk : Wm l G cc nL own rt R Ex Qf (pc + 2) lv2 rest σ cells slots) : Wm l G cc nL own rt R Ex Qf pc lv (.ref x :: rest) σ cells slots := by
  intro p e s m args below meth c H locs ls X
  obtain ⟨hx, hb, hml, ho, hts, hr, hk, hE, hK, hH, hS, hB, hl⟩ := id X
  exact lv_astore hx hb hd hl hn hf (fun ls2 h2 => kk _ _ _ _ _ _ _ _ _ _ _ (X.lv' h2))
theorem m_iinc {i : Nat} {n : Int} {x : Int32} (v : Int32) (q : Nat) (lv2 : List (Nat × Value)) (hq : lv[q]? = some (i, .int x)) (hv : x + Int32.ofInt n = v) (hn : i < nL) (hf : (i, Value.int v) :: lv.filter (fun q => !(q.1 == i) && !(q.1 + 1 == i && q.2.category == 2)) = lv2) (hd : decode cc pc = .ok (.iinc i n, 3)) (kk : Wm l G cc nL own rt R Ex Qf (pc + 3) lv2 rest σ cells slots) : Wm l G cc nL own rt R Ex Qf pc lv rest σ cells slots := by
  intro p e s m args below meth c H locs ls X
  obtain ⟨hx, hb, hml, ho, hts, hr, hk, hE, hK, hH, hS, hB, hl⟩ := id X
  exact lv_iinc hx hb hd hl hq hv hn hf (fun ls2 h2 => kk _ _ _ _ _ _ _ _ _ _ _ (X.lv' h2))
theorem m_iadd {x y : Int32} (hd : decode cc pc = .ok (.iadd, 1)) (kk : Wm l G cc nL own rt R Ex Qf (pc + 1) lv (.int (x + y) :: rest) σ cells slots) : Wm l G cc nL own rt R Ex Qf pc lv (.int y :: .int x :: rest) σ cells slots := by
  intro p e s m args below meth c H locs ls X
  obtain ⟨hx, hb, hml, ho, hts, hr, hk, hE, hK, hH, hS, hB, hl⟩ := id X
  exact lv_iadd hx hb hd (kk _ _ _ _ _ _ _ _ _ _ _ X)
theorem m_isub {x y : Int32} (hd : decode cc pc = .ok (.isub, 1)) (kk : Wm l G cc nL own rt R Ex Qf (pc + 1) lv (.int (x - y) :: rest) σ cells slots) : Wm l G cc nL own rt R Ex Qf pc lv (.int y :: .int x :: rest) σ cells slots := by
  intro p e s m args below meth c H locs ls X
  obtain ⟨hx, hb, hml, ho, hts, hr, hk, hE, hK, hH, hS, hB, hl⟩ := id X
  exact lv_isub hx hb hd (kk _ _ _ _ _ _ _ _ _ _ _ X)
theorem m_imul {x y : Int32} (hd : decode cc pc = .ok (.imul, 1)) (kk : Wm l G cc nL own rt R Ex Qf (pc + 1) lv (.int (x * y) :: rest) σ cells slots) : Wm l G cc nL own rt R Ex Qf pc lv (.int y :: .int x :: rest) σ cells slots := by
  intro p e s m args below meth c H locs ls X
  obtain ⟨hx, hb, hml, ho, hts, hr, hk, hE, hK, hH, hS, hB, hl⟩ := id X
  exact lv_imul hx hb hd (kk _ _ _ _ _ _ _ _ _ _ _ X)
theorem m_iand {x y : Int32} (hd : decode cc pc = .ok (.iand, 1)) (kk : Wm l G cc nL own rt R Ex Qf (pc + 1) lv (.int (x &&& y) :: rest) σ cells slots) : Wm l G cc nL own rt R Ex Qf pc lv (.int y :: .int x :: rest) σ cells slots := by
  intro p e s m args below meth c H locs ls X
  obtain ⟨hx, hb, hml, ho, hts, hr, hk, hE, hK, hH, hS, hB, hl⟩ := id X
  exact lv_iand hx hb hd (kk _ _ _ _ _ _ _ _ _ _ _ X)
theorem m_ior {x y : Int32} (hd : decode cc pc = .ok (.ior, 1)) (kk : Wm l G cc nL own rt R Ex Qf (pc + 1) lv (.int (x ||| y) :: rest) σ cells slots) : Wm l G cc nL own rt R Ex Qf pc lv (.int y :: .int x :: rest) σ cells slots := by
  intro p e s m args below meth c H locs ls X
  obtain ⟨hx, hb, hml, ho, hts, hr, hk, hE, hK, hH, hS, hB, hl⟩ := id X
  exact lv_ior hx hb hd (kk _ _ _ _ _ _ _ _ _ _ _ X)
theorem m_ixor {x y : Int32} (hd : decode cc pc = .ok (.ixor, 1)) (kk : Wm l G cc nL own rt R Ex Qf (pc + 1) lv (.int (x ^^^ y) :: rest) σ cells slots) : Wm l G cc nL own rt R Ex Qf pc lv (.int y :: .int x :: rest) σ cells slots := by
  intro p e s m args below meth c H locs ls X
  obtain ⟨hx, hb, hml, ho, hts, hr, hk, hE, hK, hH, hS, hB, hl⟩ := id X
  exact lv_ixor hx hb hd (kk _ _ _ _ _ _ _ _ _ _ _ X)
theorem m_ishl {x y : Int32} (hd : decode cc pc = .ok (.ishl, 1)) (kk : Wm l G cc nL own rt R Ex Qf (pc + 1) lv (.int (x <<< (y &&& 31)) :: rest) σ cells slots) : Wm l G cc nL own rt R Ex Qf pc lv (.int y :: .int x :: rest) σ cells slots := by
  intro p e s m args below meth c H locs ls X
  obtain ⟨hx, hb, hml, ho, hts, hr, hk, hE, hK, hH, hS, hB, hl⟩ := id X
  exact lv_ishl hx hb hd (kk _ _ _ _ _ _ _ _ _ _ _ X)
theorem m_ishr {x y : Int32} (hd : decode cc pc = .ok (.ishr, 1)) (kk : Wm l G cc nL own rt R Ex Qf (pc + 1) lv (.int (x >>> (y &&& 31)) :: rest) σ cells slots) : Wm l G cc nL own rt R Ex Qf pc lv (.int y :: .int x :: rest) σ cells slots := by
  intro p e s m args below meth c H locs ls X
  obtain ⟨hx, hb, hml, ho, hts, hr, hk, hE, hK, hH, hS, hB, hl⟩ := id X
  exact lv_ishr hx hb hd (kk _ _ _ _ _ _ _ _ _ _ _ X)
theorem m_idiv {x y : Int32} (hne : ¬ y = 0) (hd : decode cc pc = .ok (.idiv, 1)) (kk : Wm l G cc nL own rt R Ex Qf (pc + 1) lv (.int (x / y) :: rest) σ cells slots) : Wm l G cc nL own rt R Ex Qf pc lv (.int y :: .int x :: rest) σ cells slots := by
  intro p e s m args below meth c H locs ls X
  obtain ⟨hx, hb, hml, ho, hts, hr, hk, hE, hK, hH, hS, hB, hl⟩ := id X
  exact lv_idiv hx hb hd hne (kk _ _ _ _ _ _ _ _ _ _ _ X)
theorem m_irem {x y : Int32} (hne : ¬ y = 0) (hd : decode cc pc = .ok (.irem, 1)) (kk : Wm l G cc nL own rt R Ex Qf (pc + 1) lv (.int (x - x / y * y) :: rest) σ cells slots) : Wm l G cc nL own rt R Ex Qf pc lv (.int y :: .int x :: rest) σ cells slots := by
  intro p e s m args below meth c H locs ls X
  obtain ⟨hx, hb, hml, ho, hts, hr, hk, hE, hK, hH, hS, hB, hl⟩ := id X
  exact lv_irem hx hb hd hne (kk _ _ _ _ _ _ _ _ _ _ _ X)
theorem m_ladd {x y : Int64} (hd : decode cc pc = .ok (.ladd, 1)) (kk : Wm l G cc nL own rt R Ex Qf (pc + 1) lv (.long (x + y) :: rest) σ cells slots) : Wm l G cc nL own rt R Ex Qf pc lv (.long y :: .long x :: rest) σ cells slots := by
  intro p e s m args below meth c H locs ls X
  obtain ⟨hx, hb, hml, ho, hts, hr, hk, hE, hK, hH, hS, hB, hl⟩ := id X
  exact lv_ladd hx hb hd (kk _ _ _ _ _ _ _ _ _ _ _ X)
theorem m_lor {x y : Int64} (hd : decode cc pc = .ok (.lor, 1)) (kk : Wm l G cc nL own rt R Ex Qf (pc + 1) lv (.long (x ||| y) :: rest) σ cells slots) : Wm l G cc nL own rt R Ex Qf pc lv (.long y :: .long x :: rest) σ cells slots := by
  intro p e s m args below meth c H locs ls X
  obtain ⟨hx, hb, hml, ho, hts, hr, hk, hE, hK, hH, hS, hB, hl⟩ := id X
  exact lv_lor hx hb hd (kk _ _ _ _ _ _ _ _ _ _ _ X)
theorem m_lxor {x y : Int64} (hd : decode cc pc = .ok (.lxor, 1)) (kk : Wm l G cc nL own rt R Ex Qf (pc + 1) lv (.long (x ^^^ y) :: rest) σ cells slots) : Wm l G cc nL own rt R Ex Qf pc lv (.long y :: .long x :: rest) σ cells slots := by
  intro p e s m args below meth c H locs ls X
  obtain ⟨hx, hb, hml, ho, hts, hr, hk, hE, hK, hH, hS, hB, hl⟩ := id X
  exact lv_lxor hx hb hd (kk _ _ _ _ _ _ _ _ _ _ _ X)
theorem m_land {x y : Int64} (hd : decode cc pc = .ok (.land, 1)) (kk : Wm l G cc nL own rt R Ex Qf (pc + 1) lv (.long (x &&& y) :: rest) σ cells slots) : Wm l G cc nL own rt R Ex Qf pc lv (.long y :: .long x :: rest) σ cells slots := by
  intro p e s m args below meth c H locs ls X
  obtain ⟨hx, hb, hml, ho, hts, hr, hk, hE, hK, hH, hS, hB, hl⟩ := id X
  exact lv_land hx hb hd (kk _ _ _ _ _ _ _ _ _ _ _ X)
theorem m_lshl {x : Int64} {y : Int32} (hd : decode cc pc = .ok (.lshl, 1)) (kk : Wm l G cc nL own rt R Ex Qf (pc + 1) lv (.long (x <<< (y.toInt64 &&& 63)) :: rest) σ cells slots) : Wm l G cc nL own rt R Ex Qf pc lv (.int y :: .long x :: rest) σ cells slots := by
  intro p e s m args below meth c H locs ls X
  obtain ⟨hx, hb, hml, ho, hts, hr, hk, hE, hK, hH, hS, hB, hl⟩ := id X
  exact lv_lshl hx hb hd rfl (kk _ _ _ _ _ _ _ _ _ _ _ X)
theorem m_i2l {x : Int32} (hd : decode cc pc = .ok (.i2l, 1)) (kk : Wm l G cc nL own rt R Ex Qf (pc + 1) lv (.long x.toInt64 :: rest) σ cells slots) : Wm l G cc nL own rt R Ex Qf pc lv (.int x :: rest) σ cells slots := by
  intro p e s m args below meth c H locs ls X
  obtain ⟨hx, hb, hml, ho, hts, hr, hk, hE, hK, hH, hS, hB, hl⟩ := id X
  exact lv_i2l hx hb hd rfl (kk _ _ _ _ _ _ _ _ _ _ _ X)
theorem m_i2b {x : Int32} (hd : decode cc pc = .ok (.i2b, 1)) (kk : Wm l G cc nL own rt R Ex Qf (pc + 1) lv (.int x.toInt8.toInt32 :: rest) σ cells slots) : Wm l G cc nL own rt R Ex Qf pc lv (.int x :: rest) σ cells slots := by
  intro p e s m args below meth c H locs ls X
  obtain ⟨hx, hb, hml, ho, hts, hr, hk, hE, hK, hH, hS, hB, hl⟩ := id X
  exact lv_i2b hx hb hd rfl (kk _ _ _ _ _ _ _ _ _ _ _ X)
theorem m_i2s {x : Int32} (hd : decode cc pc = .ok (.i2s, 1)) (kk : Wm l G cc nL own rt R Ex Qf (pc + 1) lv (.int x.toInt16.toInt32 :: rest) σ cells slots) : Wm l G cc nL own rt R Ex Qf pc lv (.int x :: rest) σ cells slots := by
  intro p e s m args below meth c H locs ls X
  obtain ⟨hx, hb, hml, ho, hts, hr, hk, hE, hK, hH, hS, hB, hl⟩ := id X
  exact lv_i2s hx hb hd rfl (kk _ _ _ _ _ _ _ _ _ _ _ X)
theorem m_lcmp {x y : Int64} (hd : decode cc pc = .ok (.lcmp, 1)) (kk : Wm l G cc nL own rt R Ex Qf (pc + 1) lv (.int (lg_cmp x y) :: rest) σ cells slots) : Wm l G cc nL own rt R Ex Qf pc lv (.long y :: .long x :: rest) σ cells slots := by
  intro p e s m args below meth c H locs ls X
  obtain ⟨hx, hb, hml, ho, hts, hr, hk, hE, hK, hH, hS, hB, hl⟩ := id X
  exact W.lcmp hx hb hd (kk _ _ _ _ _ _ _ _ _ _ _ X)
theorem m_dup {v : Value} (hv : v.category = 1) (hd : decode cc pc = .ok (.dup, 1)) (kk : Wm l G cc nL own rt R Ex Qf (pc + 1) lv (v :: v :: rest) σ cells slots) : Wm l G cc nL own rt R Ex Qf pc lv (v :: rest) σ cells slots := by
  intro p e s m args below meth c H locs ls X
  obtain ⟨hx, hb, hml, ho, hts, hr, hk, hE, hK, hH, hS, hB, hl⟩ := id X
  exact lv_dup hx hb hd hv (kk _ _ _ _ _ _ _ _ _ _ _ X)
theorem m_dup2 {va vb : Value} (hva : va.category = 1) (hvb : vb.category = 1) (hd : decode cc pc = .ok (.dup2, 1)) (kk : Wm l G cc nL own rt R Ex Qf (pc + 1) lv (va :: vb :: va :: vb :: rest) σ cells slots) : Wm l G cc nL own rt R Ex Qf pc lv (va :: vb :: rest) σ cells slots := by
  intro p e s m args below meth c H locs ls X
  obtain ⟨hx, hb, hml, ho, hts, hr, hk, hE, hK, hH, hS, hB, hl⟩ := id X
  exact lv_dup2_11 hx hb hd hva hvb (kk _ _ _ _ _ _ _ _ _ _ _ X)
theorem m_pop {v : Value} (hv : v.category = 1) (hd : decode cc pc = .ok (.pop, 1)) (kk : Wm l G cc nL own rt R Ex Qf (pc + 1) lv rest σ cells slots) : Wm l G cc nL own rt R Ex Qf pc lv (v :: rest) σ cells slots := by
  intro p e s m args below meth c H locs ls X
  obtain ⟨hx, hb, hml, ho, hts, hr, hk, hE, hK, hH, hS, hB, hl⟩ := id X
  exact lv_pop hx hb hd hv (kk _ _ _ _ _ _ _ _ _ _ _ X)
theorem m_icmp_eq {x y : Int32} {off : Int} (tgt : Nat) (hd : decode cc pc = .ok (.if_icmp .eq off, 3)) (ht : (pc : Int) + off = (tgt : Int)) (kt : x = y → Wm l G cc nL own rt R Ex Qf tgt lv rest σ cells slots) (kf : ¬ x = y → Wm l G cc nL own rt R Ex Qf (pc + 3) lv rest σ cells slots) : Wm l G cc nL own rt R Ex Qf pc lv (.int y :: .int x :: rest) σ cells slots := by
  intro p e s m args below meth c H locs ls X
  obtain ⟨hx, hb, hml, ho, hts, hr, hk, hE, hK, hH, hS, hB, hl⟩ := id X
  exact lv_icmp_eq hx hb hd ht (fun q => kt q _ _ _ _ _ _ _ _ _ _ _ X) (fun q => kf q _ _ _ _ _ _ _ _ _ _ _ X)
theorem m_if_eq {x : Int32} {off : Int} (tgt : Nat) (hd : decode cc pc = .ok (.ifCond .eq off, 3)) (ht : (pc : Int) + off = (tgt : Int)) (kt : x = 0 → Wm l G cc nL own rt R Ex Qf tgt lv rest σ cells slots) (kf : ¬ x = 0 → Wm l G cc nL own rt R Ex Qf (pc + 3) lv rest σ cells slots) : Wm l G cc nL own rt R Ex Qf pc lv (.int x :: rest) σ cells slots := by
  intro p e s m args below meth c H locs ls X
  obtain ⟨hx, hb, hml, ho, hts, hr, hk, hE, hK, hH, hS, hB, hl⟩ := id X
  exact lv_if_eq hx hb hd ht (fun q => kt q _ _ _ _ _ _ _ _ _ _ _ X) (fun q => kf q _ _ _ _ _ _ _ _ _ _ _ X)
theorem m_icmp_ne {x y : Int32} {off : Int} (tgt : Nat) (hd : decode cc pc = .ok (.if_icmp .ne off, 3)) (ht : (pc : Int) + off = (tgt : Int)) (kt : ¬ x = y → Wm l G cc nL own rt R Ex Qf tgt lv rest σ cells slots) (kf : x = y → Wm l G cc nL own rt R Ex Qf (pc + 3) lv rest σ cells slots) : Wm l G cc nL own rt R Ex Qf pc lv (.int y :: .int x :: rest) σ cells slots := by
  intro p e s m args below meth c H locs ls X
  obtain ⟨hx, hb, hml, ho, hts, hr, hk, hE, hK, hH, hS, hB, hl⟩ := id X
  exact lv_icmp_ne hx hb hd ht (fun q => kt q _ _ _ _ _ _ _ _ _ _ _ X) (fun q => kf q _ _ _ _ _ _ _ _ _ _ _ X)
theorem m_if_ne {x : Int32} {off : Int} (tgt : Nat) (hd : decode cc pc = .ok (.ifCond .ne off, 3)) (ht : (pc : Int) + off = (tgt : Int)) (kt : ¬ x = 0 → Wm l G cc nL own rt R Ex Qf tgt lv rest σ cells slots) (kf : x = 0 → Wm l G cc nL own rt R Ex Qf (pc + 3) lv rest σ cells slots) : Wm l G cc nL own rt R Ex Qf pc lv (.int x :: rest) σ cells slots := by
  intro p e s m args below meth c H locs ls X
  obtain ⟨hx, hb, hml, ho, hts, hr, hk, hE, hK, hH, hS, hB, hl⟩ := id X
  exact lv_if_ne hx hb hd ht (fun q => kt q _ _ _ _ _ _ _ _ _ _ _ X) (fun q => kf q _ _ _ _ _ _ _ _ _ _ _ X)
theorem m_icmp_lt {x y : Int32} {off : Int} (tgt : Nat) (hd : decode cc pc = .ok (.if_icmp .lt off, 3)) (ht : (pc : Int) + off = (tgt : Int)) (kt : x < y → Wm l G cc nL own rt R Ex Qf tgt lv rest σ cells slots) (kf : ¬ x < y → Wm l G cc nL own rt R Ex Qf (pc + 3) lv rest σ cells slots) : Wm l G cc nL own rt R Ex Qf pc lv (.int y :: .int x :: rest) σ cells slots := by
  intro p e s m args below meth c H locs ls X
  obtain ⟨hx, hb, hml, ho, hts, hr, hk, hE, hK, hH, hS, hB, hl⟩ := id X
  exact lv_icmp_lt hx hb hd ht (fun q => kt q _ _ _ _ _ _ _ _ _ _ _ X) (fun q => kf q _ _ _ _ _ _ _ _ _ _ _ X)
theorem m_if_lt {x : Int32} {off : Int} (tgt : Nat) (hd : decode cc pc = .ok (.ifCond .lt off, 3)) (ht : (pc : Int) + off = (tgt : Int)) (kt : x < 0 → Wm l G cc nL own rt R Ex Qf tgt lv rest σ cells slots) (kf : ¬ x < 0 → Wm l G cc nL own rt R Ex Qf (pc + 3) lv rest σ cells slots) : Wm l G cc nL own rt R Ex Qf pc lv (.int x :: rest) σ cells slots := by
  intro p e s m args below meth c H locs ls X
  obtain ⟨hx, hb, hml, ho, hts, hr, hk, hE, hK, hH, hS, hB, hl⟩ := id X
  exact lv_if_lt hx hb hd ht (fun q => kt q _ _ _ _ _ _ _ _ _ _ _ X) (fun q => kf q _ _ _ _ _ _ _ _ _ _ _ X)
theorem m_icmp_ge {x y : Int32} {off : Int} (tgt : Nat) (hd : decode cc pc = .ok (.if_icmp .ge off, 3)) (ht : (pc : Int) + off = (tgt : Int)) (kt : y ≤ x → Wm l G cc nL own rt R Ex Qf tgt lv rest σ cells slots) (kf : ¬ y ≤ x → Wm l G cc nL own rt R Ex Qf (pc + 3) lv rest σ cells slots) : Wm l G cc nL own rt R Ex Qf pc lv (.int y :: .int x :: rest) σ cells slots := by
  intro p e s m args below meth c H locs ls X
  obtain ⟨hx, hb, hml, ho, hts, hr, hk, hE, hK, hH, hS, hB, hl⟩ := id X
  exact lv_icmp_ge hx hb hd ht (fun q => kt q _ _ _ _ _ _ _ _ _ _ _ X) (fun q => kf q _ _ _ _ _ _ _ _ _ _ _ X)
theorem m_if_ge {x : Int32} {off : Int} (tgt : Nat) (hd : decode cc pc = .ok (.ifCond .ge off, 3)) (ht : (pc : Int) + off = (tgt : Int)) (kt : 0 ≤ x → Wm l G cc nL own rt R Ex Qf tgt lv rest σ cells slots) (kf : ¬ 0 ≤ x → Wm l G cc nL own rt R Ex Qf (pc + 3) lv rest σ cells slots) : Wm l G cc nL own rt R Ex Qf pc lv (.int x :: rest) σ cells slots := by
  intro p e s m args below meth c H locs ls X
  obtain ⟨hx, hb, hml, ho, hts, hr, hk, hE, hK, hH, hS, hB, hl⟩ := id X
  exact lv_if_ge hx hb hd ht (fun q => kt q _ _ _ _ _ _ _ _ _ _ _ X) (fun q => kf q _ _ _ _ _ _ _ _ _ _ _ X)
theorem m_icmp_gt {x y : Int32} {off : Int} (tgt : Nat) (hd : decode cc pc = .ok (.if_icmp .gt off, 3)) (ht : (pc : Int) + off = (tgt : Int)) (kt : y < x → Wm l G cc nL own rt R Ex Qf tgt lv rest σ cells slots) (kf : ¬ y < x → Wm l G cc nL own rt R Ex Qf (pc + 3) lv rest σ cells slots) : Wm l G cc nL own rt R Ex Qf pc lv (.int y :: .int x :: rest) σ cells slots := by
  intro p e s m args below meth c H locs ls X
  obtain ⟨hx, hb, hml, ho, hts, hr, hk, hE, hK, hH, hS, hB, hl⟩ := id X
  exact lv_icmp_gt hx hb hd ht (fun q => kt q _ _ _ _ _ _ _ _ _ _ _ X) (fun q => kf q _ _ _ _ _ _ _ _ _ _ _ X)
theorem m_if_gt {x : Int32} {off : Int} (tgt : Nat) (hd : decode cc pc = .ok (.ifCond .gt off, 3)) (ht : (pc : Int) + off = (tgt : Int)) (kt : 0 < x → Wm l G cc nL own rt R Ex Qf tgt lv rest σ cells slots) (kf : ¬ 0 < x → Wm l G cc nL own rt R Ex Qf (pc + 3) lv rest σ cells slots) : Wm l G cc nL own rt R Ex Qf pc lv (.int x :: rest) σ cells slots := by
  intro p e s m args below meth c H locs ls X
  obtain ⟨hx, hb, hml, ho, hts, hr, hk, hE, hK, hH, hS, hB, hl⟩ := id X
  exact lv_if_gt hx hb hd ht (fun q => kt q _ _ _ _ _ _ _ _ _ _ _ X) (fun q => kf q _ _ _ _ _ _ _ _ _ _ _ X)
theorem m_icmp_le {x y : Int32} {off : Int} (tgt : Nat) (hd : decode cc pc = .ok (.if_icmp .le off, 3)) (ht : (pc : Int) + off = (tgt : Int)) (kt : x ≤ y → Wm l G cc nL own rt R Ex Qf tgt lv rest σ cells slots) (kf : ¬ x ≤ y → Wm l G cc nL own rt R Ex Qf (pc + 3) lv rest σ cells slots) : Wm l G cc nL own rt R Ex Qf pc lv (.int y :: .int x :: rest) σ cells slots := by
  intro p e s m args below meth c H locs ls X
  obtain ⟨hx, hb, hml, ho, hts, hr, hk, hE, hK, hH, hS, hB, hl⟩ := id X
  exact lv_icmp_le hx hb hd ht (fun q => kt q _ _ _ _ _ _ _ _ _ _ _ X) (fun q => kf q _ _ _ _ _ _ _ _ _ _ _ X)
theorem m_if_le {x : Int32} {off : Int} (tgt : Nat) (hd : decode cc pc = .ok (.ifCond .le off, 3)) (ht : (pc : Int) + off = (tgt : Int)) (kt : x ≤ 0 → Wm l G cc nL own rt R Ex Qf tgt lv rest σ cells slots) (kf : ¬ x ≤ 0 → Wm l G cc nL own rt R Ex Qf (pc + 3) lv rest σ cells slots) : Wm l G cc nL own rt R Ex Qf pc lv (.int x :: rest) σ cells slots := by
  intro p e s m args below meth c H locs ls X
  obtain ⟨hx, hb, hml, ho, hts, hr, hk, hE, hK, hH, hS, hB, hl⟩ := id X
  exact lv_if_le hx hb hd ht (fun q => kt q _ _ _ _ _ _ _ _ _ _ _ X) (fun q => kf q _ _ _ _ _ _ _ _ _ _ _ X)
theorem m_goto {off : Int} (tgt : Nat) (hd : decode cc pc = .ok (.goto off, 3)) (ht : (pc : Int) + off = (tgt : Int)) (kk : Wm l G cc nL own rt R Ex Qf tgt lv rest σ cells slots) : Wm l G cc nL own rt R Ex Qf pc lv rest σ cells slots := by
  intro p e s m args below meth c H locs ls X
  obtain ⟨hx, hb, hml, ho, hts, hr, hk, hE, hK, hH, hS, hB, hl⟩ := id X
  exact lv_goto hx hb hd ht (kk _ _ _ _ _ _ _ _ _ _ _ X)
theorem m_ifnonnull {x : Nat} {off : Int} (tgt : Nat) (hd : decode cc pc = .ok (.ifnonnull off, 3)) (ht : (pc : Int) + off = (tgt : Int)) (kk : Wm l G cc nL own rt R Ex Qf tgt lv rest σ cells slots) : Wm l G cc nL own rt R Ex Qf pc lv (.ref x :: rest) σ cells slots := by
  intro p e s m args below meth c H locs ls X
  obtain ⟨hx, hb, hml, ho, hts, hr, hk, hE, hK, hH, hS, hB, hl⟩ := id X
  exact lv_ifnonnull hx hb hd ht (kk _ _ _ _ _ _ _ _ _ _ _ X)
theorem m_ifnonnullN {off : Int} (hd : decode cc pc = .ok (.ifnonnull off, 3)) (kk : Wm l G cc nL own rt R Ex Qf (pc + 3) lv rest σ cells slots) : Wm l G cc nL own rt R Ex Qf pc lv (.null :: rest) σ cells slots := by
  intro p e s m args below meth c H locs ls X
  obtain ⟨hx, hb, hml, ho, hts, hr, hk, hE, hK, hH, hS, hB, hl⟩ := id X
  exact lv_ifnonnullN hx hb hd (kk _ _ _ _ _ _ _ _ _ _ _ X)
theorem m_ifnull {x : Nat} {off : Int} (hd : decode cc pc = .ok (.ifnull off, 3)) (kk : Wm l G cc nL own rt R Ex Qf (pc + 3) lv rest σ cells slots) : Wm l G cc nL own rt R Ex Qf pc lv (.ref x :: rest) σ cells slots := by
  intro p e s m args below meth c H locs ls X
  obtain ⟨hx, hb, hml, ho, hts, hr, hk, hE, hK, hH, hS, hB, hl⟩ := id X
  exact lv_ifnull hx hb hd (kk _ _ _ _ _ _ _ _ _ _ _ X)
theorem m_ifnullN {off : Int} (tgt : Nat) (hd : decode cc pc = .ok (.ifnull off, 3)) (ht : (pc : Int) + off = (tgt : Int)) (kk : Wm l G cc nL own rt R Ex Qf tgt lv rest σ cells slots) : Wm l G cc nL own rt R Ex Qf pc lv (.null :: rest) σ cells slots := by
  intro p e s m args below meth c H locs ls X
  obtain ⟨hx, hb, hml, ho, hts, hr, hk, hE, hK, hH, hS, hB, hl⟩ := id X
  exact lv_ifnullN hx hb hd ht (kk _ _ _ _ _ _ _ _ _ _ _ X)
theorem m_null (hd : decode cc pc = .ok (.aconst_null, 1)) (kk : Wm l G cc nL own rt R Ex Qf (pc + 1) lv (.null :: rest) σ cells slots) : Wm l G cc nL own rt R Ex Qf pc lv rest σ cells slots := by
  intro p e s m args below meth c H locs ls X
  obtain ⟨hx, hb, hml, ho, hts, hr, hk, hE, hK, hH, hS, hB, hl⟩ := id X
  exact lv_null hx hb hd (kk _ _ _ _ _ _ _ _ _ _ _ X)
theorem m_tableIn {dflt lo hi : Int} {offs : Array Int} {len : Nat} {x : Int32} {off : Int} (tgt : Nat) (hd : decode cc pc = .ok (.tableswitch dflt lo hi offs, len)) (h1 : ¬ x.toInt < lo) (h2 : ¬ hi < x.toInt) (hf : offs[(x.toInt - lo).toNat]? = some off) (ht : (pc : Int) + off = (tgt : Int)) (kk : Wm l G cc nL own rt R Ex Qf tgt lv rest σ cells slots) : Wm l G cc nL own rt R Ex Qf pc lv (.int x :: rest) σ cells slots := by
  intro p e s m args below meth c H locs ls X
  obtain ⟨hx, hb, hml, ho, hts, hr, hk, hE, hK, hH, hS, hB, hl⟩ := id X
  exact lv_tableIn hx hb hd h1 h2 hf ht (kk _ _ _ _ _ _ _ _ _ _ _ X)
theorem m_tableOut {dflt lo hi : Int} {offs : Array Int} {len : Nat} {x : Int32} (tgt : Nat) (hd : decode cc pc = .ok (.tableswitch dflt lo hi offs, len)) (h : x.toInt < lo ∨ hi < x.toInt) (ht : (pc : Int) + dflt = (tgt : Int)) (kk : Wm l G cc nL own rt R Ex Qf tgt lv rest σ cells slots) : Wm l G cc nL own rt R Ex Qf pc lv (.int x :: rest) σ cells slots := by
  intro p e s m args below meth c H locs ls X
  obtain ⟨hx, hb, hml, ho, hts, hr, hk, hE, hK, hH, hS, hB, hl⟩ := id X
  exact lv_tableOut hx hb hd h ht (kk _ _ _ _ _ _ _ _ _ _ _ X)
theorem m_lookup {dflt : Int} {ps : Array (Int × Int)} {len : Nat} {x : Int32} {off : Int} (tgt : Nat) (hd : decode cc pc = .ok (.lookupswitch dflt ps, len)) (hp : (ps.toList.zip (ps.toList.drop 1)).all (fun (a, next) => a.1 < next.1) = true) (hf : Op.lookupswitch.offset ps.toList dflt x.toInt = off) (ht : (pc : Int) + off = (tgt : Int)) (kk : Wm l G cc nL own rt R Ex Qf tgt lv rest σ cells slots) : Wm l G cc nL own rt R Ex Qf pc lv (.int x :: rest) σ cells slots := by
  intro p e s m args below meth c H locs ls X
  obtain ⟨hx, hb, hml, ho, hts, hr, hk, hE, hK, hH, hS, hB, hl⟩ := id X
  exact lv_lookup hx hb hd hp hf ht (kk _ _ _ _ _ _ _ _ _ _ _ X)
end OWN
theorem Holds.set {G : owG} {σ σ2 : owSt} {H H2 : Heap} {t i : Nat} (h : Holds G σ H) (hi : i < owN t) (ha : va_at (gD G) vwCl (gK G t i, owC G σ2 t i) H2) (ho : ∀ q : Nat, q ≠ gK G t i → H2[q]? = H[q]?) (hfr : ∀ t2 i2, i2 < owN t2 → ¬ (t2 = t ∧ i2 = i) → owC G σ2 t2 i2 = owC G σ t2 i2) (hP : σ2.2.2.2.2.2.2.2.2 = σ.2.2.2.2.2.2.2.2) : Holds G σ2 H2 := by
  refine ⟨fun t2 i2 h2 => ?_, fun a w hw => ?_, h.2.2.1, h.2.2.2⟩
  · by_cases q : t2 = t ∧ i2 = i
    · obtain ⟨rfl, rfl⟩ := q
      exact ha
    · rw [hfr t2 i2 h2 q]
      exact (h.1 t2 i2 h2).kept (ho _ (fun e => q (h.2.2.1 _ _ _ _ h2 hi e)))
  · rw [hP] at hw
    obtain ⟨h1, h2, h3⟩ := h.2.1 a w hw
    exact ⟨h1.kept (ho _ (h3 t i hi)), h2, h3⟩
theorem owP1 {G : owG} {q : Nat × va_E} {H : Heap} (h : va_at (gD G) vwCl q H) : va_P (gD G) vwCl [q] H := fun j x hx => by
  match j, hx with
  | 0, hx => cases hx; exact h
  | j + 1, hx => simp at hx
section OWH
variable {l : Launch} {G : owG} {cc : ByteArray} {nL : Nat} {own : String} {rt : Option FieldType} {R : Room} {Ex : State → Prop} {Qf : List Frame → Array Value → State → State → Prop} {pc : Nat} {lv : List (Nat × Value)} {rest : List Value} {σ : owSt} {cells slots : Nat}
theorem m_getf {t i ci N idx : Nat} {C ref : String} {T : u_T} {fs : List Value} {v : Value} (k : Nat) (hi : i < owN t) (he : owC G σ t i = .inr (ci, fs)) (hc : vwCl[ci]? = some (C, T, N)) (hin : ∀ w ∈ u_ws C T N, w ∈ owTB) (hk : k < N) (hlink : Cond.fieldLink own idx ref (T k).2.1 (T k).2.2.1 ∈ owTB) (href : (T k).1 = ref) (hv : fs[k]? = some v) (hd : decode cc pc = .ok (.getfield idx, 3)) (kk : Wm l G cc nL own rt R Ex Qf (pc + 3) lv (v :: rest) σ cells slots) : Wm l G cc nL own rt R Ex Qf pc lv (.ref (gK G t i) :: rest) σ cells slots := by
  intro p e s m args below meth c H locs ls X
  obtain ⟨hx, hb, hml, ho, hts, hr, hlk, hE, hK, hH, hS, hB, hl⟩ := id X
  have hP := owP1 (he ▸ hH.1 t i hi)
  exact va_get hx hb hts hin ho hK hP 0 rfl hc k hk (hts _ hlink) (fun x h => by rw [← href]; exact h) hv hd (kk _ _ _ _ _ _ _ _ _ _ _ X)
theorem m_getW {a idx N : Nat} {w : owW} {C ref : String} {T : u_T} {v : Value} (k : Nat) (ha : σ.2.2.2.2.2.2.2.2 a = some w) (hc : vwCl[owCi w.1]? = some (C, T, N)) (hin : ∀ w ∈ u_ws C T N, w ∈ owTB) (hk : k < N) (hlink : Cond.fieldLink own idx ref (T k).2.1 (T k).2.2.1 ∈ owTB) (hsame : (T k).1 = ref ∨ Cond.sameField ref (T k).1 (T k).2.1 (T k).2.2.1 ∈ owTB) (hv : [.int (nI w.1), .int w.2.1, .int w.2.2.1, .int w.2.2.2][k]? = some v) (hd : decode cc pc = .ok (.getfield idx, 3)) (kk : Wm l G cc nL own rt R Ex Qf (pc + 3) lv (v :: rest) σ cells slots) : Wm l G cc nL own rt R Ex Qf pc lv (.ref a :: rest) σ cells slots := by
  intro p e s m args below meth c H locs ls X
  obtain ⟨hx, hb, hml, ho, hts, hr, hlk, hE, hK, hH, hS, hB, hl⟩ := id X
  have hP := owP1 (hH.2.1 a w ha).1
  refine va_get hx hb hts hin ho hK hP 0 rfl hc k hk (hts _ hlink) (fun x h => ?_) hv hd (kk _ _ _ _ _ _ _ _ _ _ _ X)
  rcases hsame with q | q
  · rw [← q]; exact h
  · exact u_same (hts _ q) x h
theorem m_putf {t i ci N idx : Nat} {C ref : String} {T : u_T} {fs : List Value} {v : Value} {ty : FieldType} {ty0 : Nat → FieldType} (σ2 : owSt) (k : Nat) (hi : i < owN t) (he : owC G σ t i = .inr (ci, fs)) (hc : vwCl[ci]? = some (C, T, N)) (hin : ∀ w ∈ u_ws C T N, w ∈ owTB) (hty : ∀ k, k < N → parseFieldDescriptor (T k).2.2.1 = some (ty0 k)) (hnm : ∀ a, a < N → ∀ b, b < N → a ≠ b → (T a).2.1 ≠ (T b).2.1) (hk : k < N) (hlink : Cond.fieldLink own idx ref (T k).2.1 (T k).2.2.1 ∈ owTB) (href : (T k).1 = ref) (hfin : (T k).2.2.2 = false) (hdp : parseFieldDescriptor (T k).2.2.1 = some ty) (hn : narrow ty v = v) (hfit : fits ty v = true) (hlen : k < fs.length) (he2 : owC G σ2 t i = .inr (ci, fs.set k v)) (hfr : ∀ t2 i2, i2 < owN t2 → ¬ (t2 = t ∧ i2 = i) → owC G σ2 t2 i2 = owC G σ t2 i2) (hP2 : σ2.2.2.2.2.2.2.2.2 = σ.2.2.2.2.2.2.2.2) (hd : decode cc pc = .ok (.putfield idx, 3)) (kk : Wm l G cc nL own rt R Ex Qf (pc + 3) lv rest σ2 cells slots) : Wm l G cc nL own rt R Ex Qf pc lv (v :: .ref (gK G t i) :: rest) σ cells slots := by
  intro p e s m args below meth c H locs ls X
  obtain ⟨hx, hb, hml, ho, hts, hr, hlk, hE, hK, hH, hS0, hB, hl⟩ := id X
  have hap := va_apart (own := own) hts hin ty0 hty hnm hK hc
  have hat := hH.1 t i hi
  rw [he] at hat
  obtain ⟨r, h1, cell, q1, q2, q3, q4⟩ := hat
  have hr : r = (C, T, N) := Option.some.inj (h1.symm.trans hc)
  subst hr
  obtain ⟨hS, hfc, kC, hkC, hkind⟩ := hK.1 ci _ hc
  obtain ⟨cf, kf, fi, f, hif, hsl⟩ := hS k hk
  have hlay := hts _ (hin _ (u_in_lay hk))
  unfold u_lay at hlay
  rw [if_neg (by rw [hfin]; decide)] at hlay
  have hst := (u_facts hfc hkC (u_lays hts hin hk) hif).1
  have h6 := u_store hfc hkC hkind hlay hif hdp hn hfit
  refine W.putK hx hb (f := f) ⟨ho, hts _ hlink, ⟨_, _, _, (by rw [← href]; exact hif)⟩, hst⟩ (by rw [q2]; exact h6) q1 q3 (by rw [hsl]; exact k2_hasslot (q4 k hk)) rfl rfl hd fun H' e1 e2 e3 => ?_
  rw [hsl] at e1 ⊢
  refine kk _ _ _ _ _ _ _ _ _ _ _ (X.hp (hH.set hi ?_ e3 hfr hP2) (hS0.put e2 e3 (hH.2.2.2 t i hi)))
  rw [he2]
  exact ⟨_, hc, t_OB.to (V := updV (vp_V fs) k v) ⟨_, e1, q2, q3, t_set q4 hap hk v⟩ (fun j _ => vp_updV_set hlen v j)⟩
theorem m_iald {t i n : Nat} {f : Nat → Int32} {j : Int32} (hi : i < owN t) (he : owC G σ t i = .inl (gI G, n, .inl f)) (hin : vp_in j n) (hd : decode cc pc = .ok (.iaload, 1)) (kk : Wm l G cc nL own rt R Ex Qf (pc + 1) lv (.int (f j.toNatClampNeg) :: rest) σ cells slots) : Wm l G cc nL own rt R Ex Qf pc lv (.int j :: .ref (gK G t i) :: rest) σ cells slots := by
  intro p e s m args below meth c H locs ls X
  obtain ⟨hx, hb, hml, ho, hts, hr, hlk, hE, hK, hH, hS, hB, hl⟩ := id X
  exact va_iald hx hb hK (owP1 (he ▸ hH.1 t i hi)) 0 0 rfl rfl hin hd (kk _ _ _ _ _ _ _ _ _ _ _ X)
theorem m_lald {t i n : Nat} {f : Nat → Int64} {j : Int32} (hi : i < owN t) (he : owC G σ t i = .inl (gJ G, n, .inr (.inl f))) (hin : vp_in j n) (hd : decode cc pc = .ok (.laload, 1)) (kk : Wm l G cc nL own rt R Ex Qf (pc + 1) lv (.long (f j.toNatClampNeg) :: rest) σ cells slots) : Wm l G cc nL own rt R Ex Qf pc lv (.int j :: .ref (gK G t i) :: rest) σ cells slots := by
  intro p e s m args below meth c H locs ls X
  obtain ⟨hx, hb, hml, ho, hts, hr, hlk, hE, hK, hH, hS, hB, hl⟩ := id X
  exact va_lald hx hb hK (owP1 (he ▸ hH.1 t i hi)) 0 1 rfl rfl hin hd (kk _ _ _ _ _ _ _ _ _ _ _ X)
theorem m_aaldS {t i n : Nat} {f : Nat → Option Nat} {j : Int32} (hi : i < owN t) (he : owC G σ t i = .inl (gS G, n, .inr (.inr (.inr (.inr f))))) (hin : vp_in j n) (hd : decode cc pc = .ok (.aaload, 1)) (kk : Wm l G cc nL own rt R Ex Qf (pc + 1) lv (va_rf (f j.toNatClampNeg) :: rest) σ cells slots) : Wm l G cc nL own rt R Ex Qf pc lv (.int j :: .ref (gK G t i) :: rest) σ cells slots := by
  intro p e s m args below meth c H locs ls X
  obtain ⟨hx, hb, hml, ho, hts, hr, hlk, hE, hK, hH, hS, hB, hl⟩ := id X
  exact va_aldq hx hb hK (owP1 (he ▸ hH.1 t i hi)) 0 2 rfl rfl hin hd (kk _ _ _ _ _ _ _ _ _ _ _ X)
theorem m_aaldW {t i n : Nat} {f : Nat → Option Nat} {j : Int32} (hi : i < owN t) (he : owC G σ t i = .inl (gW G, n, .inr (.inr (.inr (.inr f))))) (hin : vp_in j n) (hd : decode cc pc = .ok (.aaload, 1)) (kk : Wm l G cc nL own rt R Ex Qf (pc + 1) lv (va_rf (f j.toNatClampNeg) :: rest) σ cells slots) : Wm l G cc nL own rt R Ex Qf pc lv (.int j :: .ref (gK G t i) :: rest) σ cells slots := by
  intro p e s m args below meth c H locs ls X
  obtain ⟨hx, hb, hml, ho, hts, hr, hlk, hE, hK, hH, hS, hB, hl⟩ := id X
  exact va_aldq hx hb hK (owP1 (he ▸ hH.1 t i hi)) 0 3 rfl rfl hin hd (kk _ _ _ _ _ _ _ _ _ _ _ X)
theorem m_alenI {t i n : Nat} {f : Nat → Int32} (hi : i < owN t) (he : owC G σ t i = .inl (gI G, n, .inl f)) (hd : decode cc pc = .ok (.arraylength, 1)) (kk : Wm l G cc nL own rt R Ex Qf (pc + 1) lv (.int (nI n) :: rest) σ cells slots) : Wm l G cc nL own rt R Ex Qf pc lv (.ref (gK G t i) :: rest) σ cells slots := by
  intro p e s m args below meth c H locs ls X
  obtain ⟨hx, hb, hml, ho, hts, hr, hlk, hE, hK, hH, hS, hB, hl⟩ := id X
  exact va_alen hx hb hK (owP1 (he ▸ hH.1 t i hi)) 0 0 rfl rfl rfl hd (kk _ _ _ _ _ _ _ _ _ _ _ X)
theorem m_iast {t i n : Nat} {f : Nat → Int32} {j x : Int32} (σ2 : owSt) (hi : i < owN t) (he : owC G σ t i = .inl (gI G, n, .inl f)) (hin : vp_in j n) (he2 : owC G σ2 t i = .inl (gI G, n, .inl (upd f j.toNatClampNeg x))) (hfr : ∀ t2 i2, i2 < owN t2 → ¬ (t2 = t ∧ i2 = i) → owC G σ2 t2 i2 = owC G σ t2 i2) (hP2 : σ2.2.2.2.2.2.2.2.2 = σ.2.2.2.2.2.2.2.2) (hd : decode cc pc = .ok (.iastore, 1)) (kk : Wm l G cc nL own rt R Ex Qf (pc + 1) lv rest σ2 cells slots) : Wm l G cc nL own rt R Ex Qf pc lv (.int x :: .int j :: .ref (gK G t i) :: rest) σ cells slots := by
  intro p e s m args below meth c H locs ls X
  obtain ⟨hx, hb, hml, ho, hts, hr, hlk, hE, hK, hH, hS, hB, hl⟩ := id X
  have hat : H[gK G t i]? = some (vp_cell (gI G) (n, .inl f)) := (he ▸ hH.1 t i hi : va_at (gD G) vwCl (gK G t i, .inl (gI G, n, .inl f)) H)
  refine W.iast hx hb hat ((hK.2 0 _ rfl).1 n (fun j => .int (f j))) (fun q => by cases q) (by show ¬ (j < 0 ∨ (arrV _ _ _).slots.size ≤ _); rw [arrV_size]; exact hin) rfl rfl hd fun H1 e z oq => ?_
  refine kk _ _ _ _ _ _ _ _ _ _ _ (X.hp (hH.set hi ?_ oq hfr hP2) (hS.put z oq (hH.2.2.2 t i hi)))
  rw [he2]
  show H1[gK G t i]? = some (vp_cell _ _)
  rw [e]
  rw [vp_cell_i, vp_cell_i, arrV_store]
  congr 2
  funext q
  by_cases hq : q = j.toNatClampNeg
  · subst hq
    simp [updV, upd]
  · simp [updV, upd, hq]
theorem m_last {t i n : Nat} {f : Nat → Int64} {j : Int32} {x : Int64} (σ2 : owSt) (hi : i < owN t) (he : owC G σ t i = .inl (gJ G, n, .inr (.inl f))) (hin : vp_in j n) (he2 : owC G σ2 t i = .inl (gJ G, n, .inr (.inl (vp_updL f j.toNatClampNeg x)))) (hfr : ∀ t2 i2, i2 < owN t2 → ¬ (t2 = t ∧ i2 = i) → owC G σ2 t2 i2 = owC G σ t2 i2) (hP2 : σ2.2.2.2.2.2.2.2.2 = σ.2.2.2.2.2.2.2.2) (hd : decode cc pc = .ok (.lastore, 1)) (kk : Wm l G cc nL own rt R Ex Qf (pc + 1) lv rest σ2 cells slots) : Wm l G cc nL own rt R Ex Qf pc lv (.long x :: .int j :: .ref (gK G t i) :: rest) σ cells slots := by
  intro p e s m args below meth c H locs ls X
  obtain ⟨hx, hb, hml, ho, hts, hr, hlk, hE, hK, hH, hS, hB, hl⟩ := id X
  have hat : H[gK G t i]? = some (vp_cell (gJ G) (n, .inr (.inl f))) := (he ▸ hH.1 t i hi : va_at (gD G) vwCl (gK G t i, .inl (gJ G, n, .inr (.inl f))) H)
  refine W.last hx hb hat ((hK.2 1 _ rfl).1 n (fun j => .long (f j))) (fun q => by cases q) (by show ¬ (j < 0 ∨ (arrV _ _ _).slots.size ≤ _); rw [arrV_size]; exact hin) rfl rfl hd fun H1 e z oq => ?_
  refine kk _ _ _ _ _ _ _ _ _ _ _ (X.hp (hH.set hi ?_ oq hfr hP2) (hS.put z oq (hH.2.2.2 t i hi)))
  rw [he2]
  show H1[gK G t i]? = some (vp_cell _ _)
  rw [e]
  rw [vp_cell_l, vp_cell_l, arrV_store]
  congr 2
  funext q
  by_cases hq : q = j.toNatClampNeg
  · subst hq
    simp [updV, vp_updL]
  · simp [updV, vp_updL, hq]
end OWH
section OWC
variable {l : Launch} {G : owG} {cc : ByteArray} {nL : Nat} {own : String} {rt : Option FieldType} {R : Room} {Ex : State → Prop} {Qf : List Frame → Array Value → State → State → Prop} {pc : Nat} {lv : List (Nat × Value)} {rest : List Value} {σ : owSt} {cells slots : Nat}
theorem QQ.run {mc ms : Nat} {Q : Option Value → owSt → Prop} {a : Array Value} {s : State} {p : Program} {e : Env} {m : MethodId} {args : Array Value} {below : List Frame} {meth : Method} {c : Code} {H : Heap} {locs : List Loc} {ls : Array Slot} {st0 : List Value} {Qs : State → Prop} (hr : va_Run p l e R s m args below meth c H locs cells slots mc ms (F0 m pc ls st0) rest (QQ G Q a) (gA G)) (X : Cx G cc nL own rt Ex lv σ p s m args meth c H locs ls)
    (kk : ∀ (r : Option Value) (σ2 : owSt) (H1 : Heap) (locs1 : List Loc), Q r σ2 → Cx G cc nL own rt Ex lv σ2 p s m args meth c H1 locs1 ls → W p l e R s m args below meth c H1 locs1 (cells + mc) (slots + ms) Qs (F0 m (pc + 3) ls (r.toList ++ rest))) : W p l e R s m args below meth c H locs cells slots Qs (F0 m pc ls st0) := by
  intro T hT XX
  obtain ⟨v, st₀, t, T', L, h0, X', hL, e1, e2, ⟨⟨r, σ2, hv, hp, hH2⟩, hz, hk⟩, st⟩ := hr T hT XX
  cases hv
  rw [h0] at hz hk
  have hS := X.2.2.2.2.2.2.2.2.2.2.1
  obtain ⟨t2, a1, b1⟩ := kk v σ2 T'.heap (locs ++ L) hp (X.hp (by rw [e1]; exact hH2) ⟨Nat.le_trans hS.1 (by rw [e1]; exact hz), fun q h1 h2 => by rw [e1, hk q (Nat.lt_of_lt_of_le h1 hS.1) h2]; exact hS.2.1 q h1 h2, fun q hq => by
      rcases List.mem_append.mp hq with h | h
      · exact hS.2.2 q h
      · exact hL q h⟩) T' rfl X'
  exact ⟨t2, st t2 a1, b1⟩
theorem owBlind {as : List Value} : FrameBlind (va_Pc as (Inv G σ)) := fun a U g mk q => by
  obtain ⟨q0, q1, q2, q3, q4⟩ := q
  exact ⟨q0, q1, va_K.moved (u := U) (U := U.calling g mk a) (Vm.Alike.refl U.vm) q2, q3, NwOk.same rfl q4⟩
theorem owPre {p : Program} {s : State} {m : MethodId} {args : Array Value} {meth : Method} {c : Code} {H : Heap} {locs : List Loc} {ls : Array Slot} (X : Cx G cc nL own rt Ex lv σ p s m args meth c H locs ls) (as : List Value) : ∀ U : State, U.heap = H → s.WarmedH U.vm → va_Pc as (Inv G σ) as.toArray U := fun U hU hW => by
  obtain ⟨hx, hb, hml, ho, hts, hr, hlk, hE, hK, hH, hS, hB, hl⟩ := X
  exact ⟨rfl, by rw [hU]; exact hH, va_K.moved hW.alike hK, by rw [hU]; exact Nat.le_trans hB.1 hS.1, hB.2.warm hW⟩
/-- what a call's place says: a method of an object, of a class -/
def cvOk (own : String) (idx : Nat) (y : MethodName) (cb : ByteArray) (nb : Nat) (rb : Option FieldType) (n : Nat) : Prop := Cond.methodLink own idx y ∈ owTB ∧ Cond.instanceMethod y ∈ owTB ∧ Cond.selects y.cls y y ∈ owTB ∧ Cond.initialized y.cls ∈ owTB ∧ Cond.code y cb nb rb ∈ owTB ∧ y.cls ≠ "java/lang/invoke/MethodHandle" ∧ y.cls ≠ "java/lang/invoke/VarHandle" ∧ (parseMethodDescriptor y.desc).map (fun d => d.parameters.length) = some n
def csOk (own : String) (idx : Nat) (y : MethodName) (cb : ByteArray) (nb : Nat) (rb : Option FieldType) (n : Nat) : Prop := Cond.methodLink own idx y ∈ owTB ∧ Cond.static y ∈ owTB ∧ Cond.initialized y.cls ∈ owTB ∧ Cond.code y cb nb rb ∈ owTB ∧ y.cls ≠ "java/lang/invoke/MethodHandle" ∧ y.cls ≠ "java/lang/invoke/VarHandle" ∧ (parseMethodDescriptor y.desc).map (fun d => d.parameters.length) = some n
def cnOk (own : String) (idx : Nat) (host : String) (y : MethodName) (cb : ByteArray) (nb : Nat) (rb : Option FieldType) (n : Nat) : Prop := (own, idx, y, host) ∈ owNM ∧ Cond.static y ∈ owTB ∧ Cond.initialized y.cls ∈ owTB ∧ Cond.code y cb nb rb ∈ owTB ∧ y.cls ≠ "java/lang/invoke/MethodHandle" ∧ y.cls ≠ "java/lang/invoke/VarHandle" ∧ (parseMethodDescriptor y.desc).map (fun d => d.parameters.length) = some n
theorem m_callV {idx nb n lvl mc ms t i ci N : Nat} {y : MethodName} {cb : ByteArray} {rb : Option FieldType} {st : List Value} {Q1 : Option Value → owSt → Prop} {T : u_T} {fs : List Value} (cv : cvOk own idx y cb nb rb n) (As : List Value) (rest : List Value) (hC : Ct l G y cb nb rb lvl mc ms (.ref (gK G t i) :: As) σ Q1) (hi : i < owN t) (he : owC G σ t i = .inr (ci, fs)) (hc : vwCl[ci]? = some (y.cls, T, N)) (hst : st = As.reverse ++ .ref (gK G t i) :: rest) (hn : As.length = n) (hR : lvl + 1 ≤ R.frames ∧ 8 + (nb + 11) + 40 * lvl ≤ R.locals) (hW : (rest.map fun v => v.category).sum ≤ 8) (hf : cells + mc ≤ R.cells ∧ slots + ms ≤ R.slots) (hd : decode cc pc = .ok (.invokevirtual idx, 3))
    (kk : ∀ (r : Option Value) (σ2 : owSt), Q1 r σ2 → Wm l G cc nL own rt R Ex Qf (pc + 3) lv (r.toList ++ rest) σ2 (cells + mc) (slots + ms)) : Wm l G cc nL own rt R Ex Qf pc lv st σ cells slots := by
  intro p e s m args below meth c H locs ls X
  obtain ⟨hx, hb, hml, ho, hts, hr, hlk, hE, hK, hH, hS, hB, hl⟩ := id X
  obtain ⟨w1, w2, w3, w4, w5, w6, w7, w8⟩ := cv
  have hsz : ls.size = nL := hl.1
  refine QQ.run (va_runV (As := As) (rest := rest) (b := gK G t i) ⟨hx, hb, hml, ho, hts⟩ hC (C := y.cls) ⟨⟨rfl, rfl, hR.1, hR.2, pay_in hts (owGood w5), List.mem_cons_self, hts _ w5, hts _ w4, ⟨w6, w7⟩, fun sig h => ?_, hts _ w1⟩, hts _ w2, hts _ w3⟩ ⟨owBlind, va_recv hK (owP1 (he ▸ hH.1 t i hi)) hc (q0 := 0) rfl, owPre X _⟩ rfl hn hsz hst (lv_room hW) hd hf) X (fun r σ2 H1 locs1 hq X1 => kk r σ2 hq _ _ _ _ _ _ _ _ _ _ _ X1)
  rw [h] at w8
  exact (Option.some.inj w8).symm
theorem m_callS {idx nb n lvl mc ms : Nat} {y : MethodName} {cb : ByteArray} {rb : Option FieldType} {st : List Value} {Q1 : Option Value → owSt → Prop} (cv : csOk own idx y cb nb rb n) (As : List Value) (rest : List Value) (hC : Ct l G y cb nb rb lvl mc ms As σ Q1) (hst : st = As.reverse ++ rest) (hn : As.length = n) (hR : lvl + 1 ≤ R.frames ∧ 8 + (nb + 11) + 40 * lvl ≤ R.locals) (hW : (rest.map fun v => v.category).sum ≤ 8) (hf : cells + mc ≤ R.cells ∧ slots + ms ≤ R.slots) (hd : decode cc pc = .ok (.invokestatic idx, 3))
    (kk : ∀ (r : Option Value) (σ2 : owSt), Q1 r σ2 → Wm l G cc nL own rt R Ex Qf (pc + 3) lv (r.toList ++ rest) σ2 (cells + mc) (slots + ms)) : Wm l G cc nL own rt R Ex Qf pc lv st σ cells slots := by
  intro p e s m args below meth c H locs ls X
  obtain ⟨hx, hb, hml, ho, hts, hr, hlk, hE, hK, hH, hS, hB, hl⟩ := id X
  obtain ⟨w1, w2, w4, w5, w6, w7, w8⟩ := cv
  have hsz : ls.size = nL := hl.1
  refine QQ.run (va_runS (As := As) (rest := rest) ⟨hx, hb, hml, ho, hts⟩ hC ⟨⟨rfl, rfl, hR.1, hR.2, pay_in hts (owGood w5), List.mem_cons_self, hts _ w5, hts _ w4, ⟨w6, w7⟩, fun sig h => ?_, hts _ w1⟩, hts _ w2⟩ ⟨owBlind, owPre X _⟩ rfl hn hsz hst (lv_room hW) hd hf) X (fun r σ2 H1 locs1 hq X1 => kk r σ2 hq _ _ _ _ _ _ _ _ _ _ _ X1)
  rw [h] at w8
  exact (Option.some.inj w8).symm
theorem m_callN {idx nb n lvl mc ms : Nat} {host : String} {y : MethodName} {cb : ByteArray} {rb : Option FieldType} {st : List Value} {Q1 : Option Value → owSt → Prop} (cv : cnOk own idx host y cb nb rb n) (As : List Value) (rest : List Value) (hC : Ct l G y cb nb rb lvl mc ms As σ Q1) (hst : st = As.reverse ++ rest) (hn : As.length = n) (hR : lvl + 1 ≤ R.frames ∧ 8 + (nb + 11) + 40 * lvl ≤ R.locals) (hW : (rest.map fun v => v.category).sum ≤ 8) (hf : cells + mc ≤ R.cells ∧ slots + ms ≤ R.slots) (hd : decode cc pc = .ok (.invokestatic idx, 3))
    (kk : ∀ (r : Option Value) (σ2 : owSt), Q1 r σ2 → Wm l G cc nL own rt R Ex Qf (pc + 3) lv (r.toList ++ rest) σ2 (cells + mc) (slots + ms)) : Wm l G cc nL own rt R Ex Qf pc lv st σ cells slots := by
  intro p e s m args below meth c H locs ls X
  obtain ⟨hx, hb, hml, ho, hts, hr, hlk, hE, hK, hH, hS, hB, hl⟩ := id X
  obtain ⟨w1, w2, w4, w5, w6, w7, w8⟩ := cv
  have hsz : ls.size = nL := hl.1
  exact QQ.run (va_runSN (As := As) (rest := rest) ⟨hx, hb, hml, ho, hts⟩ hC ⟨va_cnB n hts (owGood w5) rfl rfl rfl (hB.2.1 _ w1) (hts _ w4) ⟨w6, w7, w8⟩ hR, hts _ w2, trivial⟩ ⟨owBlind, owPre X _⟩ rfl hn hsz hst (lv_room hW) hd hf) X (fun r σ2 H1 locs1 hq X1 => kk r σ2 hq _ _ _ _ _ _ _ _ _ _ _ X1)
end OWC
