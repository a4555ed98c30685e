/-- what a constructor made, beside what there was -/
theorem zc_join {G : owG} {A : Nat → Prop} {ws us : va_W} {H H1 : Heap} {k q : Nat} {e0 e1 : va_E} (hP : va_P (gD G) vwCl ws H) (hD : va_D A ws) (hq : ws[k]? = some (q, e0)) (hB : va_P (gD G) vwCl ((q, e1) :: us) H1) (hDu : va_D (fun x_ => x_ = q ∨ H.size ≤ x_) ((q, e1) :: us)) (hk : ∀ x : Nat, x < H.size → ¬ (x = q ∨ H.size ≤ x) → H1[x]? = H[x]?) (hA : ∀ x, H.size ≤ x → A x) : va_P (gD G) vwCl (ws.set k (q, e1) ++ us) H1 ∧ va_D A (ws.set k (q, e1) ++ us) := by
  have hkl : k < ws.length := (List.getElem?_eq_some_iff.mp hq).1
  have hset : ∀ (j : Nat) (x : Nat × va_E), (ws.set k (q, e1))[j]? = some x → x.1 < H.size ∧ va_at (gD G) vwCl x H1 := fun j x hx => by
    rcases Nat.lt_or_ge j ws.length with hj | hj
    · by_cases c : k = j
      · subst c
        rw [List.getElem?_set_self hkl] at hx
        cases hx
        exact ⟨(hP k _ hq).lt, hB 0 _ rfl⟩
      · rw [List.getElem?_set_ne c] at hx
        have hlt := (hP j x hx).lt
        refine ⟨hlt, (hP j x hx).kept (hk x.1 hlt (fun z => ?_))⟩
        rcases z with z | z
        · exact c (hD.1 k j _ _ hq hx z.symm)
        · omega
    · rw [List.getElem?_eq_none (by rw [List.length_set]; exact hj)] at hx
      cases hx
  have hus : ∀ (j : Nat) (x : Nat × va_E), us[j]? = some x → H.size ≤ x.1 := fun j x hx => by
    rcases hDu.2 (j + 1) x (by simpa using hx) with z | z
    · exact absurd (hDu.1 (j + 1) 0 x (q, e1) (by simpa using hx) rfl z) (by omega)
    · exact z
  refine ⟨va_P.app (fun j x hx => (hset j x hx).2) (fun j x hx => hB (j + 1) x (by simpa using hx)), va_D.app (hD.set hq) ⟨fun i j x y h1 h2 h3 => ?_, fun j x hx => hA _ (hus j x hx)⟩ (fun i j x y h1 h2 h3 => ?_)⟩
  · have := hDu.1 (i + 1) (j + 1) x y (by simpa using h1) (by simpa using h2) h3
    omega
  · have h4 := (hset i x h1).1
    have h5 := hus j y h2
    omega
