/-! sheets -/
def ansA (a : owK) (w x y : Nat) : Nat := ansW (aK a w) (aF a w) x y
def shN (h : owH) (d : Nat) : Nat := hN h d / 2
def shX (h : owH) (d s : Nat) : Nat := (hE h d (2 * s)).toNatClampNeg
def shY (h : owH) (d s : Nat) : Nat := (hE h d (2 * s + 1)).toNatClampNeg
def sumB (h : owH) (d s : Nat) : Bool := isSumB (hE h d (2 * s)) (hE h d (2 * s + 1))
def shRef (h : owH) (d : Nat) : Int32 := if hK h d = 0 then -11 else if hK h d = 2 ∧ hSo h d = 2 then (if hN h d % 2 = 0 ∧ hN h d ≤ 24 then (if allB (sumB h d) (shN h d) then 0 else -13) else -13) else -12
def shRefI (h : owH) (x : Int32) : Int32 := if isD x then shRef h x.toNatClampNeg else -1
def anRef (h : owH) (e n : Nat) : Int32 := if hK h e = 0 then -11 else if hK h e = 2 ∧ hSo h e = 2 then (if hN h e = n then 0 else -13) else -12
def anRefI (h : owH) (x : Int32) (n : Nat) : Int32 := if isD x then anRef h x.toNatClampNeg n else -1
def boRefI (h : owH) (x z : Int32) : Int32 := if shRefI h x = 0 then anRefI h z (shN h x.toNatClampNeg) else shRefI h x
/-- the sheet is laid out -/
def shS (S : owF) (n : Nat) (X Q : Nat → Nat) : Prop := S 0 0 8 = nI n ∧ n ≤ 12 ∧ ∀ s, s < n → S 30 0 s = nI (X s) ∧ S 31 0 s = nI (Q s) ∧ Q s ≤ X s ∧ X s ≤ 9999
def anS (S : owF) (t n : Nat) (V : Nat → Int32) : Prop := ∀ s, s < n → S t 0 s = V s
def sfrT (t : Nat) (S S2 : owF) : Prop := ∀ a b c, a ≠ t → S2 a b c = S a b c
theorem sfrT_rf {t : Nat} {S : owF} : sfrT t S S := fun _ _ _ _ => rfl
theorem sfrT_up {t j : Nat} {v : Int32} {S S2 S3 : owF} (h : sfrT t S S2) (e : S3 = up3 S2 t 0 j v) : sfrT t S S3 := fun a b c ha => by
  rw [← h a b c ha, e]
  exact if_neg (fun q => ha q.1)
theorem shS.keep {S S2 : owF} {n t : Nat} {X Q : Nat → Nat} (h : shS S n X Q) (hs : sfrT t S S2) (ht : t ≠ 0 ∧ t ≠ 30 ∧ t ≠ 31) : shS S2 n X Q :=
  ⟨(hs 0 0 8 (Ne.symm ht.1)).trans h.1, h.2.1, fun s hs2 => ⟨(hs 30 0 s (Ne.symm ht.2.1)).trans (h.2.2 s hs2).1, (hs 31 0 s (Ne.symm ht.2.2)).trans (h.2.2 s hs2).2.1, (h.2.2 s hs2).2.2⟩⟩
theorem anS.keep {S S2 : owF} {n t u : Nat} {V : Nat → Int32} (h : anS S u n V) (hs : sfrT t S S2) (ht : u ≠ t) : anS S2 u n V := fun s q => (hs u 0 s ht).trans (h s q)
theorem isD_clamp {d : Nat} (h : d < 8) : (nI d).toNatClampNeg = d := nI_clamp (by omega)
theorem shRefI_nat {h : owH} {d : Nat} (hd : d < 8) : shRefI h (nI d) = shRef h d := by
  unfold shRefI
  rw [if_pos (isD_of hd), isD_clamp hd]
theorem anRefI_nat {h : owH} {d n : Nat} (hd : d < 8) : anRefI h (nI d) n = anRef h d n := by
  unfold anRefI
  rw [if_pos (isD_of hd), isD_clamp hd]
theorem shRefI_n {h : owH} {x : Int32} (hd : isD x = false) : shRefI h x = -1 := by
  unfold shRefI
  rw [if_neg (by rw [hd]; decide)]
theorem anRefI_n {h : owH} {x : Int32} {n : Nat} (hd : isD x = false) : anRefI h x n = -1 := by
  unfold anRefI
  rw [if_neg (by rw [hd]; decide)]
def allRS (A : owF) (Y : Nat → Nat → Nat → Option Nat) (P : Nat → Option owW) (h : owH) : Prop := ∀ d, d < 8 → RS A Y P d h
theorem RS.row {A : owF} {Y : Nat → Nat → Nat → Option Nat} {P : Nat → Option owW} {d : Nat} {h : owH} (hr : RS A Y P d h) (hk : hK h d = 2) : hK h d = 2 ∧ Y 3 d 0 = none ∧ A 3 d 1 = nI (hSo h d) ∧ hSo h d ≤ 2 ∧ A 3 d 2 = nI (hN h d) ∧ hN h d ≤ 100 ∧ ∀ j, j < 100 → A 16 d j = hE h d j := by
  rcases hr with q | q | q
  · exact absurd (hk.symm.trans q.1) (by decide)
  · exact absurd (hk.symm.trans q.1) (by decide)
  · exact q
theorem sumB_nat {h : owH} {d s : Nat} (q : sumB h d s = true) : hE h d (2 * s) = nI (shX h d s) ∧ hE h d (2 * s + 1) = nI (shY h d s) ∧ shY h d s ≤ shX h d s ∧ shX h d s ≤ 9999 := by
  obtain ⟨x, y, h1, h2, h3, h4⟩ := sumNat q
  have e1 : shX h d s = x := by unfold shX; rw [h1, nI_clamp (by omega)]
  have e2 : shY h d s = y := by unfold shY; rw [h2, nI_clamp (by omega)]
  exact ⟨by rw [h1, e1], by rw [h2, e2], by omega, by omega⟩
def orI (p : Nat → Bool) : Nat → Int32
  | 0 => 0
  | n + 1 => if p n then orI p n ||| ((1 : Int32) <<< (nI n &&& 31)) else orI p n
theorem orI_t {p : Nat → Bool} {n : Nat} (h : p n = true) : orI p n ||| ((1 : Int32) <<< (nI n &&& 31)) = orI p (n + 1) := by
  show _ = if p n then _ else _
  rw [if_pos h]
theorem orI_f {p : Nat → Bool} {n : Nat} (h : p n = false) : orI p n = orI p (n + 1) := by
  show _ = if p n then _ else _
  rw [if_neg (by rw [h]; decide)]
def smN (f : Nat → Nat) : Nat → Nat
  | 0 => 0
  | n + 1 => smN f n + f n
/-- ways whose answer is that one -/
def whoA (a : owK) (x y : Nat) (v : Int32) : Int32 := orI (fun w => decide (nI (ansA a w x y) = v)) (aN a)
/-- slips of a way -/
def slN (a : owK) (n : Nat) (X Q : Nat → Nat) (V : Nat → Int32) (w : Nat) : Nat := cntB (fun s => decide (V s ≠ -1 ∧ V s ≠ nI (ansA a w (X s) (Q s)))) n
theorem slN_le {a : owK} {n : Nat} {X Q : Nat → Nat} {V : Nat → Int32} {w : Nat} (h : n ≤ 12) : slN a n X Q V w ≤ 12 := Nat.le_trans (cntB_le _ n) h
def fitA (a : owK) (n : Nat) (X Q : Nat → Nat) (V : Nat → Int32) (m : Nat) : Int32 := orI (fun w => decide (slN a n X Q V w ≤ m)) (aN a)
def likS (sl wt : Nat → Nat) : Nat → Option Nat
  | 0 => none
  | k + 1 => match likS sl wt k with
    | none => some k
    | some b => if sl k < sl b ∨ sl k = sl b ∧ wt b < wt k then some k else some b
def optI : Option Nat → Int32
  | none => -4
  | some b => nI b
theorem likS_none {sl wt : Nat → Nat} : ∀ {k}, likS sl wt k = none → k = 0
  | 0, _ => rfl
  | k + 1, h => by
    simp only [likS] at h
    split at h
    · cases h
    · split at h <;> cases h
theorem likS_lt {sl wt : Nat → Nat} : ∀ {k b}, likS sl wt k = some b → b < k
  | 0, _, h => by cases h
  | k + 1, b, h => by
    simp only [likS] at h
    split at h
    · cases h; omega
    · next c hc =>
      have := likS_lt hc
      split at h <;> cases h <;> omega
def likA (a : owK) (n : Nat) (X Q : Nat → Nat) (V : Nat → Int32) : Option Nat := likS (slN a n X Q V) (aG a) (aN a)
/-- unlike answers among told ways -/
def parN (a : owK) (x y : Nat) (ws : Int32) : Nat := cntB (fun w => amongB ws (nI w) && allB (fun v => !(amongB ws (nI v) && decide (nI (ansA a v x y) = nI (ansA a w x y)))) w) (aN a)
set_option maxRecDepth 100000 in
set_option maxHeartbeats 4000000 in
theorem k_answerTo (l : Launch) (G : owG) {A S Z B T V : owF} {J : Nat → Nat → Int64} {Y : Nat → Nat → Nat → Option Nat} {P : Nat → Option owW} (a_ : owK) (ho_ : aOk a_) (hR : RX A Y P 0 a_) (w_ : Nat) (hw_ : w_ < aN a_) (x_ y_ : Nat) (hx_ : x_ ≤ 9999) (hy_ : y_ ≤ x_) : Ct l G yX11_answerTo cX11_answerTo 4 ((some .int)) 5 0 0 [.ref (gK G 0 0), .int (nI (w_)), .int (nI (x_)), .int (nI (y_))] (A, S, Z, B, T, V, J, Y, P) (qI (fun r_ σ => r_ = nI (ansA a_ w_ x_ y_) ∧ ∃ Z2 : owF, σ = (A, S, Z2, B, T, V, J, Y, P) ∧ worked Z2 (aK a_ w_) (aF a_ w_) x_ y_)) := by
  refine ct_of (by decide +kernel) (Nat.le_of_ble_eq_true rfl) ?_
  have h10 := ho_.1
  have h8_ := ho_.2.1
  show Wm l G cX11_answerTo 4 RX11 ((some .int)) (rmk 5 0 0) (fun _ => True) (QfM G (qI (fun r_ σ => r_ = nI (ansA a_ w_ x_ y_) ∧ ∃ Z2 : owF, σ = (A, S, Z2, B, T, V, J, Y, P) ∧ worked Z2 (aK a_ w_) (aF a_ w_) x_ y_)) 0 0) 0 [(0, .ref (gK G 0 0)), (1, .int (nI (w_))), (2, .int (nI (x_))), (3, .int (nI (y_)))] [] (A, S, Z, B, T, V, J, Y, P) 0 0
  refine m_aload_n 0 rfl rfl dX11_answerTo_0 ?_
  refine gf_X11_31 dX11_answerTo_1 ?_
  refine m_aload_n 0 rfl rfl dX11_answerTo_4 ?_
  refine gf_X11_10 dX11_answerTo_5 ?_
  refine m_iload_n 1 rfl rfl dX11_answerTo_8 ?_
  refine m_callVr cv_X11_75 [.int (nI w_)] [.ref (gK G 2 0)] (k_wayAt_s l G 0 (by decide) a_ ho_ hR w_ hw_) (by decide) (ce_1 G _ _ _ _ _ _ _ _ _ _) rfl rfl rfl ⟨Nat.le_of_ble_eq_true rfl, Nat.le_of_ble_eq_true rfl⟩ (Nat.le_of_ble_eq_true rfl) ⟨Nat.zero_le _, Nat.zero_le _⟩ dX11_answerTo_9 (fun xx σ2 hq => ?_)
  obtain ⟨rfl, rfl⟩ := hq
  obtain ⟨ad1, hYad1, hPad1⟩ := hR.2.2.1 w_ hw_
  have hkad1 := aK_lt ho_ hw_
  have hfad1 := aF_le ho_ hw_
  refine m_topr hYad1 ?_
  refine m_iload_n 2 rfl rfl dX11_answerTo_12 ?_
  refine m_iload_n 3 rfl rfl dX11_answerTo_13 ?_
  refine m_callVi cv_X11_327 [.ref ad1, .int (nI (x_)), .int (nI (y_))] [] (k_workedBy l G ad1 (aK a_ w_) (aF a_ w_) _ _ hPad1 hkad1 hfad1 x_ y_ hx_ hy_) (by decide) (ce_2 G _ _ _ _ _ _ _ _ _ _) rfl rfl rfl ⟨Nat.le_of_ble_eq_true rfl, Nat.le_of_ble_eq_true rfl⟩ (Nat.le_of_ble_eq_true rfl) ⟨Nat.zero_le _, Nat.zero_le _⟩ dX11_answerTo_14 (fun xx σ2 hq => ?_)
  obtain ⟨rfl, Z2, rfl, hwZ2⟩ := hq
  exact m_iret dX11_answerTo_17 (Nat.le_refl _) (Nat.le_refl _) (⟨rfl, Z2, rfl, hwZ2⟩)
set_option maxRecDepth 100000 in
set_option maxHeartbeats 4000000 in
theorem k_answerToR (l : Launch) (G : owG) {A S Z B T V : owF} {J : Nat → Nat → Int64} {Y : Nat → Nat → Nat → Option Nat} {P : Nat → Option owW} (a_ : owK) (ho_ : aOk a_) (hR : RX A Y P 0 a_) (v_ : Int32) (x_ y_ : Nat) (hx_ : x_ ≤ 9999) (hy_ : y_ ≤ x_) : Ct l G yX11_answerTo cX11_answerTo 4 ((some .int)) 5 0 0 [.ref (gK G 0 0), .int v_, .int (nI (x_)), .int (nI (y_))] (A, S, Z, B, T, V, J, Y, P) (qI (fun r_ σ => r_ = (if isW a_ v_ then nI (ansA a_ v_.toNatClampNeg x_ y_) else -1) ∧ ∃ Z2 : owF, σ = (A, S, Z2, B, T, V, J, Y, P))) := by
  refine ct_of (by decide +kernel) (Nat.le_of_ble_eq_true rfl) ?_
  have h10 := ho_.1
  have h8_ := ho_.2.1
  show Wm l G cX11_answerTo 4 RX11 ((some .int)) (rmk 5 0 0) (fun _ => True) (QfM G (qI (fun r_ σ => r_ = (if isW a_ v_ then nI (ansA a_ v_.toNatClampNeg x_ y_) else -1) ∧ ∃ Z2 : owF, σ = (A, S, Z2, B, T, V, J, Y, P))) 0 0) 0 [(0, .ref (gK G 0 0)), (1, .int v_), (2, .int (nI (x_))), (3, .int (nI (y_)))] [] (A, S, Z, B, T, V, J, Y, P) 0 0
  refine m_aload_n 0 rfl rfl dX11_answerTo_0 ?_
  refine gf_X11_31 dX11_answerTo_1 ?_
  refine m_aload_n 0 rfl rfl dX11_answerTo_4 ?_
  refine gf_X11_10 dX11_answerTo_5 ?_
  refine m_iload_n 1 rfl rfl dX11_answerTo_8 ?_
  cases hw0 : isW a_ v_ with
  | false =>
    refine m_callVr cv_X11_75 [.int v_] [.ref (gK G 2 0)] (k_wayAt_n l G 0 (by decide) a_ ho_ hR v_ hw0) (by decide) (ce_1 G _ _ _ _ _ _ _ _ _ _) rfl rfl rfl ⟨Nat.le_of_ble_eq_true rfl, Nat.le_of_ble_eq_true rfl⟩ (Nat.le_of_ble_eq_true rfl) ⟨Nat.zero_le _, Nat.zero_le _⟩ dX11_answerTo_9 (fun xx σ2 hq => ?_)
    obtain ⟨rfl, rfl⟩ := hq
    refine m_iload_n 2 rfl rfl dX11_answerTo_12 ?_
    refine m_iload_n 3 rfl rfl dX11_answerTo_13 ?_
    refine m_callVi cv_X11_327 [.null, .int (nI (x_)), .int (nI (y_))] [] (k_workedByN l G (nI (x_)) (nI (y_))) (by decide) (ce_2 G _ _ _ _ _ _ _ _ _ _) rfl rfl rfl ⟨Nat.le_of_ble_eq_true rfl, Nat.le_of_ble_eq_true rfl⟩ (Nat.le_of_ble_eq_true rfl) ⟨Nat.zero_le _, Nat.zero_le _⟩ dX11_answerTo_14 (fun xx σ2 hq => ?_)
    obtain ⟨rfl, rfl⟩ := hq
    exact m_iret dX11_answerTo_17 (Nat.le_refl _) (Nat.le_refl _) (⟨rfl, _, rfl⟩)
  | true =>
    obtain ⟨w_, hw_, rfl⟩ := isW_nat ho_ hw0
    refine m_callVr cv_X11_75 [.int (nI w_)] [.ref (gK G 2 0)] (k_wayAt_s l G 0 (by decide) a_ ho_ hR w_ hw_) (by decide) (ce_1 G _ _ _ _ _ _ _ _ _ _) rfl rfl rfl ⟨Nat.le_of_ble_eq_true rfl, Nat.le_of_ble_eq_true rfl⟩ (Nat.le_of_ble_eq_true rfl) ⟨Nat.zero_le _, Nat.zero_le _⟩ dX11_answerTo_9 (fun xx σ2 hq => ?_)
    obtain ⟨rfl, rfl⟩ := hq
    obtain ⟨ad2, hYad2, hPad2⟩ := hR.2.2.1 w_ hw_
    have hkad2 := aK_lt ho_ hw_
    have hfad2 := aF_le ho_ hw_
    refine m_topr hYad2 ?_
    refine m_iload_n 2 rfl rfl dX11_answerTo_12 ?_
    refine m_iload_n 3 rfl rfl dX11_answerTo_13 ?_
    refine m_callVi cv_X11_327 [.ref ad2, .int (nI (x_)), .int (nI (y_))] [] (k_workedBy l G ad2 (aK a_ w_) (aF a_ w_) _ _ hPad2 hkad2 hfad2 x_ y_ hx_ hy_) (by decide) (ce_2 G _ _ _ _ _ _ _ _ _ _) rfl rfl rfl ⟨Nat.le_of_ble_eq_true rfl, Nat.le_of_ble_eq_true rfl⟩ (Nat.le_of_ble_eq_true rfl) ⟨Nat.zero_le _, Nat.zero_le _⟩ dX11_answerTo_14 (fun xx σ2 hq => ?_)
    obtain ⟨rfl, Z3, rfl, hwZ3⟩ := hq
    exact m_iret dX11_answerTo_17 (Nat.le_refl _) (Nat.le_refl _) (⟨by rw [if_pos rfl, nI_clamp (by omega)]; rfl, _, rfl⟩)
set_option maxRecDepth 100000 in
set_option maxHeartbeats 4000000 in
theorem k_answerToSum (l : Launch) (G : owG) {A S Z B T V : owF} {J : Nat → Nat → Int64} {Y : Nat → Nat → Nat → Option Nat} {P : Nat → Option owW} (a_ : owK) (ho_ : aOk a_) (hR : RX A Y P 0 a_) (n_ : Nat) (X Q : Nat → Nat) (hs_ : shS S n_ X Q) (w_ : Nat) (hw_ : w_ < aN a_) (s_ : Nat) (hsn : s_ < n_) : Ct l G yX11_answerToSum cX11_answerToSum 3 ((some .int)) 5 0 0 [.ref (gK G 0 0), .int (nI (w_)), .int (nI (s_))] (A, S, Z, B, T, V, J, Y, P) (qI (fun r_ σ => r_ = nI (ansA a_ w_ (X s_) (Q s_)) ∧ ∃ Z2 : owF, σ = (A, S, Z2, B, T, V, J, Y, P) ∧ worked Z2 (aK a_ w_) (aF a_ w_) (X s_) (Q s_))) := by
  refine ct_of (by decide +kernel) (Nat.le_of_ble_eq_true rfl) ?_
  have h10 := ho_.1
  have h8_ := ho_.2.1
  have hn12 := hs_.2.1
  have hy_ := (hs_.2.2 s_ hsn).2.2.1
  have hx_ := (hs_.2.2 s_ hsn).2.2.2
  show Wm l G cX11_answerToSum 3 RX11 ((some .int)) (rmk 5 0 0) (fun _ => True) (QfM G (qI (fun r_ σ => r_ = nI (ansA a_ w_ (X s_) (Q s_)) ∧ ∃ Z2 : owF, σ = (A, S, Z2, B, T, V, J, Y, P) ∧ worked Z2 (aK a_ w_) (aF a_ w_) (X s_) (Q s_))) 0 0) 0 [(0, .ref (gK G 0 0)), (1, .int (nI (w_))), (2, .int (nI (s_)))] [] (A, S, Z, B, T, V, J, Y, P) 0 0
  refine m_aload_n 0 rfl rfl dX11_answerToSum_0 ?_
  refine gf_X11_31 dX11_answerToSum_1 ?_
  refine m_aload_n 0 rfl rfl dX11_answerToSum_4 ?_
  refine gf_X11_10 dX11_answerToSum_5 ?_
  refine m_iload_n 1 rfl rfl dX11_answerToSum_8 ?_
  refine m_callVr cv_X11_75 [.int (nI w_)] [.ref (gK G 2 0)] (k_wayAt_s l G 0 (by decide) a_ ho_ hR w_ hw_) (by decide) (ce_1 G _ _ _ _ _ _ _ _ _ _) rfl rfl rfl ⟨Nat.le_of_ble_eq_true rfl, Nat.le_of_ble_eq_true rfl⟩ (Nat.le_of_ble_eq_true rfl) ⟨Nat.zero_le _, Nat.zero_le _⟩ dX11_answerToSum_9 (fun xx σ2 hq => ?_)
  obtain ⟨rfl, rfl⟩ := hq
  obtain ⟨ad1, hYad1, hPad1⟩ := hR.2.2.1 w_ hw_
  have hkad1 := aK_lt ho_ hw_
  have hfad1 := aF_le ho_ hw_
  refine m_topr hYad1 ?_
  refine m_aload_n 0 rfl rfl dX11_answerToSum_12 ?_
  refine gf_X11_35 dX11_answerToSum_13 ?_
  refine m_iload_n 2 rfl rfl dX11_answerToSum_16 ?_
  refine m_callSi cs_X11_102 [.ref (gK G 30 0), .int (nI (s_))] [.ref ad1, .ref (gK G 2 0)] (k_at (t := 30) (n := 12) l G (by decide) (ce_30 G _ _ _ _ _ _ _ _ _ 0) (by decide) (nI (s_))) rfl rfl ⟨Nat.le_of_ble_eq_true rfl, Nat.le_of_ble_eq_true rfl⟩ (Nat.le_of_ble_eq_true rfl) ⟨Nat.zero_le _, Nat.zero_le _⟩ dX11_answerToSum_17 (fun xx σ2 hq => ?_)
  obtain rfl : xx = S 30 0 s_ := hq.1.trans (atV_in (by omega) (by decide))
  obtain rfl := hq.2
  refine m_topi (hs_.2.2 s_ hsn).1 ?_
  refine m_aload_n 0 rfl rfl dX11_answerToSum_20 ?_
  refine gf_X11_39 dX11_answerToSum_21 ?_
  refine m_iload_n 2 rfl rfl dX11_answerToSum_24 ?_
  refine m_callSi cs_X11_102 [.ref (gK G 31 0), .int (nI (s_))] [.int (nI (X s_)), .ref ad1, .ref (gK G 2 0)] (k_at (t := 31) (n := 12) l G (by decide) (ce_31 G _ _ _ _ _ _ _ _ _ 0) (by decide) (nI (s_))) rfl rfl ⟨Nat.le_of_ble_eq_true rfl, Nat.le_of_ble_eq_true rfl⟩ (Nat.le_of_ble_eq_true rfl) ⟨Nat.zero_le _, Nat.zero_le _⟩ dX11_answerToSum_25 (fun xx σ2 hq => ?_)
  obtain rfl : xx = S 31 0 s_ := hq.1.trans (atV_in (by omega) (by decide))
  obtain rfl := hq.2
  refine m_topi (hs_.2.2 s_ hsn).2.1 ?_
  refine m_callVi cv_X11_327 [.ref ad1, .int (nI (X s_)), .int (nI (Q s_))] [] (k_workedBy l G ad1 (aK a_ w_) (aF a_ w_) _ _ hPad1 hkad1 hfad1 (X s_) (Q s_) hx_ hy_) (by decide) (ce_2 G _ _ _ _ _ _ _ _ _ _) rfl rfl rfl ⟨Nat.le_of_ble_eq_true rfl, Nat.le_of_ble_eq_true rfl⟩ (Nat.le_of_ble_eq_true rfl) ⟨Nat.zero_le _, Nat.zero_le _⟩ dX11_answerToSum_28 (fun xx σ2 hq => ?_)
  obtain ⟨rfl, Z4, rfl, hwZ4⟩ := hq
  exact m_iret dX11_answerToSum_31 (Nat.le_refl _) (Nat.le_refl _) (⟨rfl, Z4, rfl, hwZ4⟩)
set_option maxRecDepth 100000 in
set_option maxHeartbeats 4000000 in
theorem k_answerToSumN (l : Launch) (G : owG) {A S Z B T V : owF} {J : Nat → Nat → Int64} {Y : Nat → Nat → Nat → Option Nat} {P : Nat → Option owW} (a_ : owK) (ho_ : aOk a_) (hR : RX A Y P 0 a_) (n_ : Nat) (X Q : Nat → Nat) (hs_ : shS S n_ X Q) (v_ : Int32) (hv_ : isW a_ v_ = false) (s_ : Nat) (hsn : s_ < n_) : Ct l G yX11_answerToSum cX11_answerToSum 3 ((some .int)) 5 0 0 [.ref (gK G 0 0), .int v_, .int (nI (s_))] (A, S, Z, B, T, V, J, Y, P) (qI (fun r_ σ => r_ = -1 ∧ σ = (A, S, Z, B, T, V, J, Y, P))) := by
  refine ct_of (by decide +kernel) (Nat.le_of_ble_eq_true rfl) ?_
  have h10 := ho_.1
  have h8_ := ho_.2.1
  have hn12 := hs_.2.1
  show Wm l G cX11_answerToSum 3 RX11 ((some .int)) (rmk 5 0 0) (fun _ => True) (QfM G (qI (fun r_ σ => r_ = -1 ∧ σ = (A, S, Z, B, T, V, J, Y, P))) 0 0) 0 [(0, .ref (gK G 0 0)), (1, .int v_), (2, .int (nI (s_)))] [] (A, S, Z, B, T, V, J, Y, P) 0 0
  refine m_aload_n 0 rfl rfl dX11_answerToSum_0 ?_
  refine gf_X11_31 dX11_answerToSum_1 ?_
  refine m_aload_n 0 rfl rfl dX11_answerToSum_4 ?_
  refine gf_X11_10 dX11_answerToSum_5 ?_
  refine m_iload_n 1 rfl rfl dX11_answerToSum_8 ?_
  cases hw0 : isW a_ v_ with
  | false =>
    refine m_callVr cv_X11_75 [.int v_] [.ref (gK G 2 0)] (k_wayAt_n l G 0 (by decide) a_ ho_ hR v_ hw0) (by decide) (ce_1 G _ _ _ _ _ _ _ _ _ _) rfl rfl rfl ⟨Nat.le_of_ble_eq_true rfl, Nat.le_of_ble_eq_true rfl⟩ (Nat.le_of_ble_eq_true rfl) ⟨Nat.zero_le _, Nat.zero_le _⟩ dX11_answerToSum_9 (fun xx σ2 hq => ?_)
    obtain ⟨rfl, rfl⟩ := hq
    refine m_aload_n 0 rfl rfl dX11_answerToSum_12 ?_
    refine gf_X11_35 dX11_answerToSum_13 ?_
    refine m_iload_n 2 rfl rfl dX11_answerToSum_16 ?_
    refine m_callSi cs_X11_102 [.ref (gK G 30 0), .int (nI (s_))] [.null, .ref (gK G 2 0)] (k_at (t := 30) (n := 12) l G (by decide) (ce_30 G _ _ _ _ _ _ _ _ _ 0) (by decide) (nI (s_))) rfl rfl ⟨Nat.le_of_ble_eq_true rfl, Nat.le_of_ble_eq_true rfl⟩ (Nat.le_of_ble_eq_true rfl) ⟨Nat.zero_le _, Nat.zero_le _⟩ dX11_answerToSum_17 (fun xx σ2 hq => ?_)
    obtain rfl : xx = S 30 0 s_ := hq.1.trans (atV_in (by omega) (by decide))
    obtain rfl := hq.2
    refine m_topi (hs_.2.2 s_ hsn).1 ?_
    refine m_aload_n 0 rfl rfl dX11_answerToSum_20 ?_
    refine gf_X11_39 dX11_answerToSum_21 ?_
    refine m_iload_n 2 rfl rfl dX11_answerToSum_24 ?_
    refine m_callSi cs_X11_102 [.ref (gK G 31 0), .int (nI (s_))] [.int (nI (X s_)), .null, .ref (gK G 2 0)] (k_at (t := 31) (n := 12) l G (by decide) (ce_31 G _ _ _ _ _ _ _ _ _ 0) (by decide) (nI (s_))) rfl rfl ⟨Nat.le_of_ble_eq_true rfl, Nat.le_of_ble_eq_true rfl⟩ (Nat.le_of_ble_eq_true rfl) ⟨Nat.zero_le _, Nat.zero_le _⟩ dX11_answerToSum_25 (fun xx σ2 hq => ?_)
    obtain rfl : xx = S 31 0 s_ := hq.1.trans (atV_in (by omega) (by decide))
    obtain rfl := hq.2
    refine m_topi (hs_.2.2 s_ hsn).2.1 ?_
    refine m_callVi cv_X11_327 [.null, .int (nI (X s_)), .int (nI (Q s_))] [] (k_workedByN l G (nI (X s_)) (nI (Q s_))) (by decide) (ce_2 G _ _ _ _ _ _ _ _ _ _) rfl rfl rfl ⟨Nat.le_of_ble_eq_true rfl, Nat.le_of_ble_eq_true rfl⟩ (Nat.le_of_ble_eq_true rfl) ⟨Nat.zero_le _, Nat.zero_le _⟩ dX11_answerToSum_28 (fun xx σ2 hq => ?_)
    obtain ⟨rfl, rfl⟩ := hq
    exact m_iret dX11_answerToSum_31 (Nat.le_refl _) (Nat.le_refl _) (⟨rfl, rfl⟩)
  | true => exact absurd hv_ (by rw [hw0]; decide)
set_option maxRecDepth 100000 in
set_option maxHeartbeats 4000000 in
theorem k_waysAnswering (l : Launch) (G : owG) {A S Z B T V : owF} {J : Nat → Nat → Int64} {Y : Nat → Nat → Nat → Option Nat} {P : Nat → Option owW} (a_ : owK) (ho_ : aOk a_) (hR : RX A Y P 0 a_) (x_ y_ : Nat) (hx_ : x_ ≤ 9999) (hy_ : y_ ≤ x_) (v_ : Int32) : Ct l G yX11_waysAnswering cX11_waysAnswering 6 ((some .int)) 6 0 0 [.ref (gK G 0 0), .int (nI (x_)), .int (nI (y_)), .int v_] (A, S, Z, B, T, V, J, Y, P) (qI (fun r_ σ => r_ = whoA a_ x_ y_ v_ ∧ ∃ Z2 : owF, σ = (A, S, Z2, B, T, V, J, Y, P))) := by
  refine ct_of (by decide +kernel) (Nat.le_of_ble_eq_true rfl) ?_
  have h10 := ho_.1
  have h8_ := ho_.2.1
  show Wm l G cX11_waysAnswering 6 RX11 ((some .int)) (rmk 6 0 0) (fun _ => True) (QfM G (qI (fun r_ σ => r_ = whoA a_ x_ y_ v_ ∧ ∃ Z2 : owF, σ = (A, S, Z2, B, T, V, J, Y, P))) 0 0) 0 [(0, .ref (gK G 0 0)), (1, .int (nI (x_))), (2, .int (nI (y_))), (3, .int v_)] [] (A, S, Z, B, T, V, J, Y, P) 0 0
  refine m_iconst 0 dX11_waysAnswering_0 rfl ?_
  refine m_istore [(4, .int 0), (0, .ref (gK G 0 0)), (1, .int (nI (x_))), (2, .int (nI (y_))), (3, .int v_)] (by decide) rfl dX11_waysAnswering_1 ?_
  refine m_iconst 0 dX11_waysAnswering_3 rfl ?_
  refine m_istore [(5, .int 0), (4, .int 0), (0, .ref (gK G 0 0)), (1, .int (nI (x_))), (2, .int (nI (y_))), (3, .int v_)] (by decide) rfl dX11_waysAnswering_4 ?_
  have lp6 : ∀ (dd : Nat) (k_ : Nat) (Z9 : owF), k_ ≤ aN a_ → aN a_ - k_ < dd → Wm l G cX11_waysAnswering 6 RX11 ((some .int)) (rmk 6 0 0) (fun _ => True) (QfM G (qI (fun r_ σ => r_ = whoA a_ x_ y_ v_ ∧ ∃ Z2 : owF, σ = (A, S, Z2, B, T, V, J, Y, P))) 0 0) 6 [(0, .ref (gK G 0 0)), (1, .int (nI (x_))), (2, .int (nI (y_))), (3, .int v_), (4, .int (orI (fun w_ => decide (nI (ansA a_ w_ x_ y_) = v_)) k_)), (5, .int (nI (k_)))] [] (A, S, Z9, B, T, V, J, Y, P) 0 0 := by
    intro dd
    induction dd with
    | zero => intro k_ Z9 hk_ hdd; exact absurd hdd (Nat.not_lt_zero _)
    | succ dd ih6 =>
      intro k_ Z9 hk_ hdd6
      refine m_iload 5 rfl dX11_waysAnswering_6 ?_
      refine m_aload_n 0 rfl rfl dX11_waysAnswering_8 ?_
      refine gf_X11_10 dX11_waysAnswering_9 ?_
      refine gf_X11_164 (by decide) dX11_waysAnswering_12 ?_
      refine m_topi hR.1 ?_
      refine m_icmpn_ge k_ (aN a_) 45 (by omega) (by omega) dX11_waysAnswering_15 (by decide) (fun c1_ => ?_) (fun c1_ => ?_)
      ·
        refine m_iload 4 rfl dX11_waysAnswering_45 ?_
        exact m_iret dX11_waysAnswering_47 (Nat.le_refl _) (Nat.le_refl _) ((by obtain rfl : k_ = aN a_ := (by omega); exact ⟨rfl, _, rfl⟩))
      ·
        refine m_aload_n 0 rfl rfl dX11_waysAnswering_18 ?_
        refine m_iload 5 rfl dX11_waysAnswering_19 ?_
        refine m_iload_n 1 rfl rfl dX11_waysAnswering_21 ?_
        refine m_iload_n 2 rfl rfl dX11_waysAnswering_22 ?_
        refine m_callVi cv_X11_124 [.int (nI (k_)), .int (nI (x_)), .int (nI (y_))] [] (k_answerTo l G a_ ho_ hR k_ (by omega) x_ y_ hx_ hy_) (by decide) (ce_0 G _ _ _ _ _ _ _ _ _ _) rfl rfl rfl ⟨Nat.le_of_ble_eq_true rfl, Nat.le_of_ble_eq_true rfl⟩ (Nat.le_of_ble_eq_true rfl) ⟨Nat.zero_le _, Nat.zero_le _⟩ dX11_waysAnswering_23 (fun xx σ2 hq => ?_)
        obtain ⟨rfl, Z2, rfl, hwZ2⟩ := hq
        refine m_iload_n 3 rfl rfl dX11_waysAnswering_26 ?_
        refine m_icmp_ne 39 dX11_waysAnswering_27 (by decide) (fun c3_ => ?_) (fun c3_ => ?_)
        ·
          refine m_iinc (nI (k_ + 1)) 5 [(5, .int (nI (k_ + 1))), (0, .ref (gK G 0 0)), (1, .int (nI (x_))), (2, .int (nI (y_))), (3, .int v_), (4, .int (orI (fun w_ => decide (nI (ansA a_ w_ x_ y_) = v_)) k_))] rfl (nI_1 _) (by decide) rfl dX11_waysAnswering_39 ?_
          refine m_goto 6 dX11_waysAnswering_42 (by decide) ?_
          refine m_lv [(0, .ref (gK G 0 0)), (1, .int (nI (x_))), (2, .int (nI (y_))), (3, .int v_), (4, .int (orI (fun w_ => decide (nI (ansA a_ w_ x_ y_) = v_)) k_)), (5, .int (nI (k_ + 1)))] [1, 2, 3, 4, 5, 0] rfl ?_
          rw [show orI (fun w_ => decide (nI (ansA a_ w_ x_ y_) = v_)) k_ = orI (fun w_ => decide (nI (ansA a_ w_ x_ y_) = v_)) (k_ + 1) from orI_f (p := (fun w_ => decide (nI (ansA a_ w_ x_ y_) = v_))) (by grind)]
          exact ih6 (k_ + 1) Z2 (by omega) (by omega)
        ·
          refine m_iload 4 rfl dX11_waysAnswering_30 ?_
          refine m_iconst 1 dX11_waysAnswering_32 rfl ?_
          refine m_iload 5 rfl dX11_waysAnswering_33 ?_
          refine m_ishl dX11_waysAnswering_35 ?_
          refine m_ior dX11_waysAnswering_36 ?_
          refine m_istore [(4, .int ((orI (fun w_ => decide (nI (ansA a_ w_ x_ y_) = v_)) k_) ||| (1 <<< ((nI (k_)) &&& 31)))), (0, .ref (gK G 0 0)), (1, .int (nI (x_))), (2, .int (nI (y_))), (3, .int v_), (5, .int (nI (k_)))] (by decide) rfl dX11_waysAnswering_37 ?_
          refine m_iinc (nI (k_ + 1)) 5 [(5, .int (nI (k_ + 1))), (4, .int ((orI (fun w_ => decide (nI (ansA a_ w_ x_ y_) = v_)) k_) ||| (1 <<< ((nI (k_)) &&& 31)))), (0, .ref (gK G 0 0)), (1, .int (nI (x_))), (2, .int (nI (y_))), (3, .int v_)] rfl (nI_1 _) (by decide) rfl dX11_waysAnswering_39 ?_
          refine m_goto 6 dX11_waysAnswering_42 (by decide) ?_
          refine m_lv [(0, .ref (gK G 0 0)), (1, .int (nI (x_))), (2, .int (nI (y_))), (3, .int v_), (4, .int ((orI (fun w_ => decide (nI (ansA a_ w_ x_ y_) = v_)) k_) ||| (1 <<< ((nI (k_)) &&& 31)))), (5, .int (nI (k_ + 1)))] [2, 3, 4, 5, 1, 0] rfl ?_
          rw [show orI (fun w_ => decide (nI (ansA a_ w_ x_ y_) = v_)) k_ ||| ((1 : Int32) <<< (nI k_ &&& 31)) = orI (fun w_ => decide (nI (ansA a_ w_ x_ y_) = v_)) (k_ + 1) from orI_t (p := (fun w_ => decide (nI (ansA a_ w_ x_ y_) = v_))) (by grind)]
          exact ih6 (k_ + 1) Z2 (by omega) (by omega)
  refine m_lv [(0, .ref (gK G 0 0)), (1, .int (nI (x_))), (2, .int (nI (y_))), (3, .int v_), (4, .int 0), (5, .int 0)] [2, 3, 4, 5, 1, 0] rfl ?_
  exact lp6 ((aN a_ - 0) + 1) 0 Z (Nat.zero_le _) (Nat.lt_succ_self _)
set_option maxRecDepth 100000 in
set_option maxHeartbeats 4000000 in
theorem k_slipsBy (l : Launch) (G : owG) {A S Z B T V : owF} {J : Nat → Nat → Int64} {Y : Nat → Nat → Nat → Option Nat} {P : Nat → Option owW} (a_ : owK) (ho_ : aOk a_) (hR : RX A Y P 0 a_) (n_ : Nat) (X Q : Nat → Nat) (hs_ : shS S n_ X Q) (V0 : Nat → Int32) (hv_ : anS S 32 n_ V0) (w_ : Nat) (hw_ : w_ < aN a_) : Ct l G yX11_slipsBy cX11_slipsBy 5 ((some .int)) 6 0 0 [.ref (gK G 0 0), .int (nI (w_))] (A, S, Z, B, T, V, J, Y, P) (qI (fun r_ σ => r_ = nI (slN a_ n_ X Q V0 w_) ∧ ∃ Z2 : owF, σ = (A, S, Z2, B, T, V, J, Y, P))) := by
  refine ct_of (by decide +kernel) (Nat.le_of_ble_eq_true rfl) ?_
  have h10 := ho_.1
  have h8_ := ho_.2.1
  have hn12 := hs_.2.1
  show Wm l G cX11_slipsBy 5 RX11 ((some .int)) (rmk 6 0 0) (fun _ => True) (QfM G (qI (fun r_ σ => r_ = nI (slN a_ n_ X Q V0 w_) ∧ ∃ Z2 : owF, σ = (A, S, Z2, B, T, V, J, Y, P))) 0 0) 0 [(0, .ref (gK G 0 0)), (1, .int (nI (w_)))] [] (A, S, Z, B, T, V, J, Y, P) 0 0
  refine m_iconst 0 dX11_slipsBy_0 rfl ?_
  refine m_istore_n [(2, .int 0), (0, .ref (gK G 0 0)), (1, .int (nI (w_)))] rfl (by decide) rfl dX11_slipsBy_1 ?_
  refine m_iconst 0 dX11_slipsBy_2 rfl ?_
  refine m_istore_n [(3, .int 0), (2, .int 0), (0, .ref (gK G 0 0)), (1, .int (nI (w_)))] rfl (by decide) rfl dX11_slipsBy_3 ?_
  have lp4 : ∀ (dd : Nat) (k_ : Nat) (Z9 : owF), k_ ≤ n_ → n_ - k_ < dd → Wm l G cX11_slipsBy 5 RX11 ((some .int)) (rmk 6 0 0) (fun _ => True) (QfM G (qI (fun r_ σ => r_ = nI (slN a_ n_ X Q V0 w_) ∧ ∃ Z2 : owF, σ = (A, S, Z2, B, T, V, J, Y, P))) 0 0) 4 [(0, .ref (gK G 0 0)), (1, .int (nI (w_))), (2, .int (nI (cntB (fun s_ => decide (V0 s_ ≠ -1 ∧ V0 s_ ≠ nI (ansA a_ w_ (X s_) (Q s_)))) k_))), (3, .int (nI (k_)))] [] (A, S, Z9, B, T, V, J, Y, P) 0 0 := by
    intro dd
    induction dd with
    | zero => intro k_ Z9 hk_ hdd; exact absurd hdd (Nat.not_lt_zero _)
    | succ dd ih4 =>
      intro k_ Z9 hk_ hdd4
      have hc_ := cntB_le (fun s_ => decide (V0 s_ ≠ -1 ∧ V0 s_ ≠ nI (ansA a_ w_ (X s_) (Q s_)))) k_
      refine m_iload_n 3 rfl rfl dX11_slipsBy_4 ?_
      refine m_aload_n 0 rfl rfl dX11_slipsBy_5 ?_
      refine gf_X11_179 dX11_slipsBy_6 ?_
      refine m_topi hs_.1 ?_
      refine m_icmpn_ge k_ n_ 48 (by omega) (by omega) dX11_slipsBy_9 (by decide) (fun c1_ => ?_) (fun c1_ => ?_)
      ·
        refine m_iload_n 2 rfl rfl dX11_slipsBy_48 ?_
        exact m_iret dX11_slipsBy_49 (Nat.le_refl _) (Nat.le_refl _) ((by obtain rfl : k_ = n_ := (by omega); exact ⟨rfl, _, rfl⟩))
      ·
        refine m_aload_n 0 rfl rfl dX11_slipsBy_12 ?_
        refine gf_X11_42 dX11_slipsBy_13 ?_
        refine m_iload_n 3 rfl rfl dX11_slipsBy_16 ?_
        refine m_callSi cs_X11_102 [.ref (gK G 32 0), .int (nI (k_))] [] (k_at (t := 32) (n := 12) l G (by decide) (ce_32 G _ _ _ _ _ _ _ _ _ 0) (by decide) (nI (k_))) rfl rfl ⟨Nat.le_of_ble_eq_true rfl, Nat.le_of_ble_eq_true rfl⟩ (Nat.le_of_ble_eq_true rfl) ⟨Nat.zero_le _, Nat.zero_le _⟩ dX11_slipsBy_17 (fun xx σ2 hq => ?_)
        obtain rfl : xx = S 32 0 k_ := hq.1.trans (atV_in (by omega) (by decide))
        obtain rfl := hq.2
        refine m_topi (hv_ k_ (by omega)) ?_
        refine m_istore [(4, .int (V0 k_)), (0, .ref (gK G 0 0)), (1, .int (nI (w_))), (2, .int (nI (cntB (fun s_ => decide (V0 s_ ≠ -1 ∧ V0 s_ ≠ nI (ansA a_ w_ (X s_) (Q s_)))) k_))), (3, .int (nI (k_)))] (by decide) rfl dX11_slipsBy_20 ?_
        refine m_iload 0 rfl dX11_slipsBy_22 ?_
        refine m_iconst (-1) dX11_slipsBy_24 rfl ?_
        refine m_icmp_eq 42 dX11_slipsBy_25 (by decide) (fun c3_ => ?_) (fun c3_ => ?_)
        ·
          refine m_iinc (nI (k_ + 1)) 4 [(3, .int (nI (k_ + 1))), (4, .int (V0 k_)), (0, .ref (gK G 0 0)), (1, .int (nI (w_))), (2, .int (nI (cntB (fun s_ => decide (V0 s_ ≠ -1 ∧ V0 s_ ≠ nI (ansA a_ w_ (X s_) (Q s_)))) k_)))] rfl (nI_1 _) (by decide) rfl dX11_slipsBy_42 ?_
          refine m_goto 4 dX11_slipsBy_45 (by decide) ?_
          refine m_lv [(0, .ref (gK G 0 0)), (1, .int (nI (w_))), (2, .int (nI (cntB (fun s_ => decide (V0 s_ ≠ -1 ∧ V0 s_ ≠ nI (ansA a_ w_ (X s_) (Q s_)))) k_))), (3, .int (nI (k_ + 1)))] [2, 3, 4, 0] rfl ?_
          rw [show cntB (fun s_ => decide (V0 s_ ≠ -1 ∧ V0 s_ ≠ nI (ansA a_ w_ (X s_) (Q s_)))) k_ = cntB (fun s_ => decide (V0 s_ ≠ -1 ∧ V0 s_ ≠ nI (ansA a_ w_ (X s_) (Q s_)))) (k_ + 1) from cntB_f (p := (fun s_ => decide (V0 s_ ≠ -1 ∧ V0 s_ ≠ nI (ansA a_ w_ (X s_) (Q s_))))) (by grind)]
          exact ih4 (k_ + 1) Z9 (by omega) (by omega)
        ·
          refine m_iload 0 rfl dX11_slipsBy_28 ?_
          refine m_aload_n 1 rfl rfl dX11_slipsBy_30 ?_
          refine m_iload_n 2 rfl rfl dX11_slipsBy_31 ?_
          refine m_iload_n 4 rfl rfl dX11_slipsBy_32 ?_
          refine m_callVi cv_X11_210 [.int (nI (w_)), .int (nI (k_))] [.int (V0 k_)] (k_answerToSum l G a_ ho_ hR n_ X Q hs_ w_ (by omega) k_ (by omega)) (by decide) (ce_0 G _ _ _ _ _ _ _ _ _ _) rfl rfl rfl ⟨Nat.le_of_ble_eq_true rfl, Nat.le_of_ble_eq_true rfl⟩ (Nat.le_of_ble_eq_true rfl) ⟨Nat.zero_le _, Nat.zero_le _⟩ dX11_slipsBy_33 (fun xx σ2 hq => ?_)
          obtain ⟨rfl, Z4, rfl, hwZ4⟩ := hq
          refine m_icmp_eq 42 dX11_slipsBy_36 (by decide) (fun c5_ => ?_) (fun c5_ => ?_)
          ·
            refine m_iinc (nI (k_ + 1)) 4 [(3, .int (nI (k_ + 1))), (4, .int (V0 k_)), (0, .ref (gK G 0 0)), (1, .int (nI (w_))), (2, .int (nI (cntB (fun s_ => decide (V0 s_ ≠ -1 ∧ V0 s_ ≠ nI (ansA a_ w_ (X s_) (Q s_)))) k_)))] rfl (nI_1 _) (by decide) rfl dX11_slipsBy_42 ?_
            refine m_goto 4 dX11_slipsBy_45 (by decide) ?_
            refine m_lv [(0, .ref (gK G 0 0)), (1, .int (nI (w_))), (2, .int (nI (cntB (fun s_ => decide (V0 s_ ≠ -1 ∧ V0 s_ ≠ nI (ansA a_ w_ (X s_) (Q s_)))) k_))), (3, .int (nI (k_ + 1)))] [2, 3, 4, 0] rfl ?_
            rw [show cntB (fun s_ => decide (V0 s_ ≠ -1 ∧ V0 s_ ≠ nI (ansA a_ w_ (X s_) (Q s_)))) k_ = cntB (fun s_ => decide (V0 s_ ≠ -1 ∧ V0 s_ ≠ nI (ansA a_ w_ (X s_) (Q s_)))) (k_ + 1) from cntB_f (p := (fun s_ => decide (V0 s_ ≠ -1 ∧ V0 s_ ≠ nI (ansA a_ w_ (X s_) (Q s_))))) (by grind)]
            exact ih4 (k_ + 1) Z4 (by omega) (by omega)
          ·
            refine m_iinc (nI (cntB (fun s_ => decide (V0 s_ ≠ -1 ∧ V0 s_ ≠ nI (ansA a_ w_ (X s_) (Q s_)))) k_ + 1)) 3 [(2, .int (nI (cntB (fun s_ => decide (V0 s_ ≠ -1 ∧ V0 s_ ≠ nI (ansA a_ w_ (X s_) (Q s_)))) k_ + 1))), (4, .int (V0 k_)), (0, .ref (gK G 0 0)), (1, .int (nI (w_))), (3, .int (nI (k_)))] rfl (nI_1 _) (by decide) rfl dX11_slipsBy_39 ?_
            refine m_iinc (nI (k_ + 1)) 4 [(3, .int (nI (k_ + 1))), (2, .int (nI (cntB (fun s_ => decide (V0 s_ ≠ -1 ∧ V0 s_ ≠ nI (ansA a_ w_ (X s_) (Q s_)))) k_ + 1))), (4, .int (V0 k_)), (0, .ref (gK G 0 0)), (1, .int (nI (w_)))] rfl (nI_1 _) (by decide) rfl dX11_slipsBy_42 ?_
            refine m_goto 4 dX11_slipsBy_45 (by decide) ?_
            refine m_lv [(0, .ref (gK G 0 0)), (1, .int (nI (w_))), (2, .int (nI (cntB (fun s_ => decide (V0 s_ ≠ -1 ∧ V0 s_ ≠ nI (ansA a_ w_ (X s_) (Q s_)))) k_ + 1))), (3, .int (nI (k_ + 1)))] [3, 4, 1, 0] rfl ?_
            rw [show (cntB (fun s_ => decide (V0 s_ ≠ -1 ∧ V0 s_ ≠ nI (ansA a_ w_ (X s_) (Q s_)))) k_) + 1 = cntB (fun s_ => decide (V0 s_ ≠ -1 ∧ V0 s_ ≠ nI (ansA a_ w_ (X s_) (Q s_)))) (k_ + 1) from cntB_t (p := (fun s_ => decide (V0 s_ ≠ -1 ∧ V0 s_ ≠ nI (ansA a_ w_ (X s_) (Q s_))))) (by grind)]
            exact ih4 (k_ + 1) Z4 (by omega) (by omega)
  refine m_lv [(0, .ref (gK G 0 0)), (1, .int (nI (w_))), (2, .int 0), (3, .int 0)] [2, 3, 1, 0] rfl ?_
  exact lp4 ((n_ - 0) + 1) 0 Z (Nat.zero_le _) (Nat.lt_succ_self _)
set_option maxRecDepth 100000 in
set_option maxHeartbeats 4000000 in
theorem k_waysFitting (l : Launch) (G : owG) {A S Z B T V : owF} {J : Nat → Nat → Int64} {Y : Nat → Nat → Nat → Option Nat} {P : Nat → Option owW} (a_ : owK) (ho_ : aOk a_) (hR : RX A Y P 0 a_) (n_ : Nat) (X Q : Nat → Nat) (hs_ : shS S n_ X Q) (V0 : Nat → Int32) (hv_ : anS S 32 n_ V0) (m_ : Nat) (hm_ : m_ ≤ 12) : Ct l G yX11_waysFitting cX11_waysFitting 4 ((some .int)) 7 0 0 [.ref (gK G 0 0), .int (nI (m_))] (A, S, Z, B, T, V, J, Y, P) (qI (fun r_ σ => r_ = fitA a_ n_ X Q V0 m_ ∧ ∃ Z2 : owF, σ = (A, S, Z2, B, T, V, J, Y, P))) := by
  refine ct_of (by decide +kernel) (Nat.le_of_ble_eq_true rfl) ?_
  have h10 := ho_.1
  have h8_ := ho_.2.1
  show Wm l G cX11_waysFitting 4 RX11 ((some .int)) (rmk 7 0 0) (fun _ => True) (QfM G (qI (fun r_ σ => r_ = fitA a_ n_ X Q V0 m_ ∧ ∃ Z2 : owF, σ = (A, S, Z2, B, T, V, J, Y, P))) 0 0) 0 [(0, .ref (gK G 0 0)), (1, .int (nI (m_)))] [] (A, S, Z, B, T, V, J, Y, P) 0 0
  refine m_iconst 0 dX11_waysFitting_0 rfl ?_
  refine m_istore_n [(2, .int 0), (0, .ref (gK G 0 0)), (1, .int (nI (m_)))] rfl (by decide) rfl dX11_waysFitting_1 ?_
  refine m_iconst 0 dX11_waysFitting_2 rfl ?_
  refine m_istore_n [(3, .int 0), (2, .int 0), (0, .ref (gK G 0 0)), (1, .int (nI (m_)))] rfl (by decide) rfl dX11_waysFitting_3 ?_
  have lp4 : ∀ (dd : Nat) (k_ : Nat) (Z9 : owF), k_ ≤ aN a_ → aN a_ - k_ < dd → Wm l G cX11_waysFitting 4 RX11 ((some .int)) (rmk 7 0 0) (fun _ => True) (QfM G (qI (fun r_ σ => r_ = fitA a_ n_ X Q V0 m_ ∧ ∃ Z2 : owF, σ = (A, S, Z2, B, T, V, J, Y, P))) 0 0) 4 [(0, .ref (gK G 0 0)), (1, .int (nI (m_))), (2, .int (orI (fun w_ => decide (slN a_ n_ X Q V0 w_ ≤ m_)) k_)), (3, .int (nI (k_)))] [] (A, S, Z9, B, T, V, J, Y, P) 0 0 := by
    intro dd
    induction dd with
    | zero => intro k_ Z9 hk_ hdd; exact absurd hdd (Nat.not_lt_zero _)
    | succ dd ih4 =>
      intro k_ Z9 hk_ hdd4
      refine m_iload_n 3 rfl rfl dX11_waysFitting_4 ?_
      refine m_aload_n 0 rfl rfl dX11_waysFitting_5 ?_
      refine gf_X11_10 dX11_waysFitting_6 ?_
      refine gf_X11_164 (by decide) dX11_waysFitting_9 ?_
      refine m_topi hR.1 ?_
      refine m_icmpn_ge k_ (aN a_) 36 (by omega) (by omega) dX11_waysFitting_12 (by decide) (fun c1_ => ?_) (fun c1_ => ?_)
      ·
        refine m_iload_n 2 rfl rfl dX11_waysFitting_36 ?_
        exact m_iret dX11_waysFitting_37 (Nat.le_refl _) (Nat.le_refl _) ((by obtain rfl : k_ = aN a_ := (by omega); exact ⟨rfl, _, rfl⟩))
      ·
        refine m_aload_n 0 rfl rfl dX11_waysFitting_15 ?_
        refine m_iload_n 3 rfl rfl dX11_waysFitting_16 ?_
        refine m_callVi cv_X11_155 [.int (nI (k_))] [] (k_slipsBy l G a_ ho_ hR n_ X Q hs_ V0 hv_ k_ (by omega)) (by decide) (ce_0 G _ _ _ _ _ _ _ _ _ _) rfl rfl rfl ⟨Nat.le_of_ble_eq_true rfl, Nat.le_of_ble_eq_true rfl⟩ (Nat.le_of_ble_eq_true rfl) ⟨Nat.zero_le _, Nat.zero_le _⟩ dX11_waysFitting_17 (fun xx σ2 hq => ?_)
        obtain ⟨rfl, Z2, rfl⟩ := hq
        have hsl := slN_le (a := a_) (X := X) (Q := Q) (V := V0) (w := k_) hs_.2.1
        refine m_iload_n 1 rfl rfl dX11_waysFitting_20 ?_
        refine m_icmpn_gt (slN a_ n_ X Q V0 k_) m_ 30 (by omega) (by omega) dX11_waysFitting_21 (by decide) (fun c3_ => ?_) (fun c3_ => ?_)
        ·
          refine m_iinc (nI (k_ + 1)) 3 [(3, .int (nI (k_ + 1))), (0, .ref (gK G 0 0)), (1, .int (nI (m_))), (2, .int (orI (fun w_ => decide (slN a_ n_ X Q V0 w_ ≤ m_)) k_))] rfl (nI_1 _) (by decide) rfl dX11_waysFitting_30 ?_
          refine m_goto 4 dX11_waysFitting_33 (by decide) ?_
          refine m_lv [(0, .ref (gK G 0 0)), (1, .int (nI (m_))), (2, .int (orI (fun w_ => decide (slN a_ n_ X Q V0 w_ ≤ m_)) k_)), (3, .int (nI (k_ + 1)))] [1, 2, 3, 0] rfl ?_
          rw [show orI (fun w_ => decide (slN a_ n_ X Q V0 w_ ≤ m_)) k_ = orI (fun w_ => decide (slN a_ n_ X Q V0 w_ ≤ m_)) (k_ + 1) from orI_f (p := (fun w_ => decide (slN a_ n_ X Q V0 w_ ≤ m_))) (by grind)]
          exact ih4 (k_ + 1) Z2 (by omega) (by omega)
        ·
          refine m_iload_n 2 rfl rfl dX11_waysFitting_24 ?_
          refine m_iconst 1 dX11_waysFitting_25 rfl ?_
          refine m_iload_n 3 rfl rfl dX11_waysFitting_26 ?_
          refine m_ishl dX11_waysFitting_27 ?_
          refine m_ior dX11_waysFitting_28 ?_
          refine m_istore_n [(2, .int ((orI (fun w_ => decide (slN a_ n_ X Q V0 w_ ≤ m_)) k_) ||| (1 <<< ((nI (k_)) &&& 31)))), (0, .ref (gK G 0 0)), (1, .int (nI (m_))), (3, .int (nI (k_)))] rfl (by decide) rfl dX11_waysFitting_29 ?_
          refine m_iinc (nI (k_ + 1)) 3 [(3, .int (nI (k_ + 1))), (2, .int ((orI (fun w_ => decide (slN a_ n_ X Q V0 w_ ≤ m_)) k_) ||| (1 <<< ((nI (k_)) &&& 31)))), (0, .ref (gK G 0 0)), (1, .int (nI (m_)))] rfl (nI_1 _) (by decide) rfl dX11_waysFitting_30 ?_
          refine m_goto 4 dX11_waysFitting_33 (by decide) ?_
          refine m_lv [(0, .ref (gK G 0 0)), (1, .int (nI (m_))), (2, .int ((orI (fun w_ => decide (slN a_ n_ X Q V0 w_ ≤ m_)) k_) ||| (1 <<< ((nI (k_)) &&& 31)))), (3, .int (nI (k_ + 1)))] [2, 3, 1, 0] rfl ?_
          rw [show orI (fun w_ => decide (slN a_ n_ X Q V0 w_ ≤ m_)) k_ ||| ((1 : Int32) <<< (nI k_ &&& 31)) = orI (fun w_ => decide (slN a_ n_ X Q V0 w_ ≤ m_)) (k_ + 1) from orI_t (p := (fun w_ => decide (slN a_ n_ X Q V0 w_ ≤ m_))) (by grind)]
          exact ih4 (k_ + 1) Z2 (by omega) (by omega)
  refine m_lv [(0, .ref (gK G 0 0)), (1, .int (nI (m_))), (2, .int 0), (3, .int 0)] [2, 3, 1, 0] rfl ?_
  exact lp4 ((aN a_ - 0) + 1) 0 Z (Nat.zero_le _) (Nat.lt_succ_self _)
set_option maxRecDepth 100000 in
set_option maxHeartbeats 4000000 in
theorem k_sheet (l : Launch) (G : owG) {A S Z B T V : owF} {J : Nat → Nat → Int64} {Y : Nat → Nat → Nat → Option Nat} {P : Nat → Option owW} (h_ : owH) (hRS : allRS A Y P h_) (x_ : Int32) : Ct l G yX11_refusalOfSheet cX11_refusalOfSheet 5 ((some .int)) 3 0 0 [.ref (gK G 0 0), .int x_] (A, S, Z, B, T, V, J, Y, P) (qI (fun r_ σ => r_ = shRefI h_ x_ ∧ ∃ S2 : owF, σ = (A, S2, Z, B, T, V, J, Y, P) ∧ (r_ = 0 → ∃ d_, d_ < 8 ∧ x_ = nI d_ ∧ hK h_ d_ = 2 ∧ shS S2 (shN h_ d_) (shX h_ d_) (shY h_ d_)))) := by
  refine ct_of (by decide +kernel) (Nat.le_of_ble_eq_true rfl) ?_
  show Wm l G cX11_refusalOfSheet 5 RX11 ((some .int)) (rmk 3 0 0) (fun _ => True) (QfM G (qI (fun r_ σ => r_ = shRefI h_ x_ ∧ ∃ S2 : owF, σ = (A, S2, Z, B, T, V, J, Y, P) ∧ (r_ = 0 → ∃ d_, d_ < 8 ∧ x_ = nI d_ ∧ hK h_ d_ = 2 ∧ shS S2 (shN h_ d_) (shX h_ d_) (shY h_ d_)))) 0 0) 0 [(0, .ref (gK G 0 0)), (1, .int x_)] [] (A, S, Z, B, T, V, J, Y, P) 0 0
  refine m_aload_n 0 rfl rfl dX11_refusalOfSheet_0 ?_
  refine m_iload_n 1 rfl rfl dX11_refusalOfSheet_1 ?_
  cases hDx : isD x_ with
  | false =>
    refine m_callVr cv_X11_59 [.int x_] [] (k_shelfAt_n l G x_ hDx) (by decide) (ce_0 G _ _ _ _ _ _ _ _ _ _) rfl rfl rfl ⟨Nat.le_of_ble_eq_true rfl, Nat.le_of_ble_eq_true rfl⟩ (Nat.le_of_ble_eq_true rfl) ⟨Nat.zero_le _, Nat.zero_le _⟩ dX11_refusalOfSheet_2 (fun xx σ2 hq => ?_)
    obtain ⟨rfl, rfl⟩ := hq
    refine m_astore_nN [(2, .null), (0, .ref (gK G 0 0)), (1, .int x_)] rfl (by decide) rfl dX11_refusalOfSheet_5 ?_
    refine m_aload_nN 0 rfl rfl dX11_refusalOfSheet_6 ?_
    refine m_ifnonnullN dX11_refusalOfSheet_7 ?_
    refine m_iconst (-1) dX11_refusalOfSheet_10 rfl ?_
    exact m_iret dX11_refusalOfSheet_11 (Nat.le_refl _) (Nat.le_refl _) (⟨(shRefI_n hDx).symm, S, rfl, fun q_ => absurd q_ (by decide)⟩)
  | true =>
    obtain ⟨nx, hnx, rfl⟩ := isD_nat hDx
    refine m_callVr cv_X11_59 [.int (nI nx)] [] (k_shelfAt_s l G nx hnx) (by decide) (ce_0 G _ _ _ _ _ _ _ _ _ _) rfl rfl rfl ⟨Nat.le_of_ble_eq_true rfl, Nat.le_of_ble_eq_true rfl⟩ (Nat.le_of_ble_eq_true rfl) ⟨Nat.zero_le _, Nat.zero_le _⟩ dX11_refusalOfSheet_2 (fun xx σ2 hq => ?_)
    obtain ⟨rfl, rfl⟩ := hq
    have hi_nx : nx < owN 3 := hnx
    have hRS_nx := hRS nx hnx
    refine m_astore_n [(2, .ref (gK G 3 nx)), (0, .ref (gK G 0 0)), (1, .int (nI (nx)))] rfl (by decide) rfl dX11_refusalOfSheet_5 ?_
    refine m_aload_n 0 rfl rfl dX11_refusalOfSheet_6 ?_
    refine m_ifnonnull 12 dX11_refusalOfSheet_7 (by decide) ?_
    refine m_aload_n 0 rfl rfl dX11_refusalOfSheet_12 ?_
    refine m_iconst 2 dX11_refusalOfSheet_13 rfl ?_
    refine m_callVi cv_X11_63 [.int 2] [] (k_sortRefusal l G nx hi_nx h_ hRS_nx 2 (by decide)) hi_nx (ce_3 G _ _ _ _ _ _ _ _ _ _) rfl rfl rfl ⟨Nat.le_of_ble_eq_true rfl, Nat.le_of_ble_eq_true rfl⟩ (Nat.le_of_ble_eq_true rfl) ⟨Nat.zero_le _, Nat.zero_le _⟩ dX11_refusalOfSheet_14 (fun xx σ2 hq => ?_)
    obtain ⟨rfl, rfl⟩ := hq
    refine m_istore_n [(3, .int (sortRef h_ nx 2)), (2, .ref (gK G 3 nx)), (0, .ref (gK G 0 0)), (1, .int (nI (nx)))] rfl (by decide) rfl dX11_refusalOfSheet_17 ?_
    refine m_iload_n 0 rfl rfl dX11_refusalOfSheet_18 ?_
    refine m_if_eq 24 dX11_refusalOfSheet_19 (by decide) (fun c1_ => ?_) (fun c1_ => ?_)
    ·
      have c0_ : sortRef h_ nx 2 = 0 := c1_
      have hq2 : hK h_ nx = 2 ∧ hSo h_ nx = 2 := by unfold sortRef at c0_; grind
      have hrow := hRS_nx.row hq2.1
      have hn100 := hrow.2.2.2.2.2.1
      refine m_aload_n 1 rfl rfl dX11_refusalOfSheet_24 ?_
      refine gf_X11_250 hi_nx dX11_refusalOfSheet_25 ?_
      refine m_topi hrow.2.2.2.2.1 ?_
      refine m_iconst 2 dX11_refusalOfSheet_28 rfl ?_
      refine m_irem (by decide) dX11_refusalOfSheet_29 ?_
      refine m_topi (show (nI (hN h_ nx)) - (nI (hN h_ nx)) / 2 * 2 = nI ((hN h_ nx) % 2) from pk_rem (by omega) (by decide) (by decide)) ?_
      refine m_ifn_ne ((hN h_ nx) % 2) 42 (by omega) dX11_refusalOfSheet_30 (by decide) (fun c2_ => ?_) (fun c2_ => ?_)
      ·
        refine m_bipush (-13) dX11_refusalOfSheet_42 rfl ?_
        exact m_iret dX11_refusalOfSheet_44 (Nat.le_refl _) (Nat.le_refl _) (⟨by rw [shRefI_nat hnx]; unfold shRef; rw [if_neg (by omega), if_pos hq2, if_neg (by omega)], S, rfl, fun q_ => absurd q_ (by decide)⟩)
      ·
        refine m_aload_n 1 rfl rfl dX11_refusalOfSheet_33 ?_
        refine gf_X11_250 hi_nx dX11_refusalOfSheet_34 ?_
        refine m_topi hrow.2.2.2.2.1 ?_
        refine m_bipush (24) dX11_refusalOfSheet_37 rfl ?_
        refine m_icmpn_le (hN h_ nx) 24 45 (by omega) (by decide) dX11_refusalOfSheet_39 (by decide) (fun c3_ => ?_) (fun c3_ => ?_)
        ·
          refine m_aload_n 2 rfl rfl dX11_refusalOfSheet_45 ?_
          refine m_aload_n 1 rfl rfl dX11_refusalOfSheet_46 ?_
          refine gf_X11_250 hi_nx dX11_refusalOfSheet_47 ?_
          refine m_topi hrow.2.2.2.2.1 ?_
          refine m_iconst 2 dX11_refusalOfSheet_50 rfl ?_
          refine m_idiv (by decide) dX11_refusalOfSheet_51 ?_
          refine m_topi ((show nI (hN h_ nx) / 2 = nI (shN h_ nx) from pk_div (d := 2) (by omega) (by decide) (by decide))) ?_
          refine pf_X11_179 dX11_refusalOfSheet_52 (fun S4 hS4 => ?_)
          refine m_iconst 0 dX11_refusalOfSheet_55 rfl ?_
          refine m_istore [(4, .int 0), (3, .int (sortRef h_ nx 2)), (2, .ref (gK G 3 nx)), (0, .ref (gK G 0 0)), (1, .int (nI (nx)))] (by decide) rfl dX11_refusalOfSheet_56 ?_
          have lp58 : ∀ (dd : Nat) (k_ : Nat) (S9 : owF), k_ ≤ shN h_ nx → S9 0 0 8 = nI (shN h_ nx) → (∀ s_, s_ < k_ → S9 30 0 s_ = hE h_ nx (2 * s_) ∧ S9 31 0 s_ = hE h_ nx (2 * s_ + 1) ∧ sumB h_ nx s_ = true) → shN h_ nx - k_ < dd → Wm l G cX11_refusalOfSheet 5 RX11 ((some .int)) (rmk 3 0 0) (fun _ => True) (QfM G (qI (fun r_ σ => r_ = shRefI h_ (nI nx) ∧ ∃ S2 : owF, σ = (A, S2, Z, B, T, V, J, Y, P) ∧ (r_ = 0 → ∃ d_, d_ < 8 ∧ (nI nx) = nI d_ ∧ hK h_ d_ = 2 ∧ shS S2 (shN h_ d_) (shX h_ d_) (shY h_ d_)))) 0 0) 58 [(0, .ref (gK G 0 0)), (1, .int (nI (nx))), (2, .ref (gK G 3 nx)), (3, .int (sortRef h_ nx 2)), (4, .int (nI (k_)))] [] (A, S9, Z, B, T, V, J, Y, P) 0 0 := by
            intro dd
            induction dd with
            | zero => intro k_ S9 hk_ hs8 hlay hdd; exact absurd hdd (Nat.not_lt_zero _)
            | succ dd ih58 =>
              intro k_ S9 hk_ hs8 hlay hdd58
              have hn24 : shN h_ nx ≤ 12 := by unfold shN; omega
              refine m_iload 4 rfl dX11_refusalOfSheet_58 ?_
              refine m_aload_n 0 rfl rfl dX11_refusalOfSheet_60 ?_
              refine gf_X11_179 dX11_refusalOfSheet_61 ?_
              refine m_topi hs8 ?_
              refine m_icmpn_ge k_ (shN h_ nx) 136 (by omega) (by omega) dX11_refusalOfSheet_64 (by decide) (fun c5_ => ?_) (fun c5_ => ?_)
              ·
                refine m_iconst 0 dX11_refusalOfSheet_136 rfl ?_
                exact m_iret dX11_refusalOfSheet_137 (Nat.le_refl _) (Nat.le_refl _) ((by obtain rfl : k_ = shN h_ nx := (by omega); exact ⟨by rw [shRefI_nat hnx]; unfold shRef; rw [if_neg (by omega), if_pos hq2, if_pos (by omega), if_pos (allB_iff.mpr fun j_ hj => (hlay j_ hj).2.2)], S9, rfl, fun _ => ⟨nx, hnx, rfl, hq2.1, hs8, by unfold shN; omega, fun s_ hs2 => by obtain ⟨g1_, g2_, g3_⟩ := hlay s_ hs2; obtain ⟨q1_, q2_, q3_, q4_⟩ := sumB_nat g3_; exact ⟨g1_.trans q1_, g2_.trans q2_, q3_, q4_⟩⟩⟩))
              ·
                have hkn : k_ < shN h_ nx := c5_
                have hkd : 2 * k_ + 1 < hN h_ nx := by unfold shN at hkn; omega
                refine m_aload_n 2 rfl rfl dX11_refusalOfSheet_67 ?_
                refine m_iconst 2 dX11_refusalOfSheet_68 rfl ?_
                refine m_iload 4 rfl dX11_refusalOfSheet_69 ?_
                refine m_imul dX11_refusalOfSheet_71 ?_
                refine m_topi (show 2 * (nI (k_)) = nI (2 * k_) from pk_mul _ _) ?_
                refine m_callVi cv_X11_253 [.int (nI (2 * k_))] [] (k_get l G nx hi_nx h_ hrow (nI (2 * k_))) hi_nx (ce_3 G _ _ _ _ _ _ _ _ _ _) rfl rfl rfl ⟨Nat.le_of_ble_eq_true rfl, Nat.le_of_ble_eq_true rfl⟩ (Nat.le_of_ble_eq_true rfl) ⟨Nat.zero_le _, Nat.zero_le _⟩ dX11_refusalOfSheet_72 (fun xx σ2 hq => ?_)
                obtain ⟨hgx, rfl⟩ := hq
                obtain rfl := hgx.trans (getI_in (k := (2 * k_)) hrow.2.2.2.2.2.1 (by omega))
                refine m_aload_n 2 rfl rfl dX11_refusalOfSheet_75 ?_
                refine m_iconst 2 dX11_refusalOfSheet_76 rfl ?_
                refine m_iload 4 rfl dX11_refusalOfSheet_77 ?_
                refine m_imul dX11_refusalOfSheet_79 ?_
                refine m_topi (show 2 * (nI (k_)) = nI (2 * k_) from pk_mul _ _) ?_
                refine m_iconst 1 dX11_refusalOfSheet_80 rfl ?_
                refine m_iadd dX11_refusalOfSheet_81 ?_
                refine m_topi (show (nI (2 * k_)) + 1 = nI ((2 * k_) + 1) from nI_add _ _) ?_
                refine m_callVi cv_X11_253 [.int (nI ((2 * k_) + 1))] [.int (hE h_ nx (2 * k_))] (k_get l G nx hi_nx h_ hrow (nI ((2 * k_) + 1))) hi_nx (ce_3 G _ _ _ _ _ _ _ _ _ _) rfl rfl rfl ⟨Nat.le_of_ble_eq_true rfl, Nat.le_of_ble_eq_true rfl⟩ (Nat.le_of_ble_eq_true rfl) ⟨Nat.zero_le _, Nat.zero_le _⟩ dX11_refusalOfSheet_82 (fun xx σ2 hq => ?_)
                obtain ⟨hgx, rfl⟩ := hq
                obtain rfl := hgx.trans (getI_in (k := ((2 * k_) + 1)) hrow.2.2.2.2.2.1 (by omega))
                refine m_callSi cs_X11_120 [.int (hE h_ nx (2 * k_)), .int (hE h_ nx ((2 * k_) + 1))] [] (k_isSum l G (hE h_ nx (2 * k_)) (hE h_ nx ((2 * k_) + 1))) rfl rfl ⟨Nat.le_of_ble_eq_true rfl, Nat.le_of_ble_eq_true rfl⟩ (Nat.le_of_ble_eq_true rfl) ⟨Nat.zero_le _, Nat.zero_le _⟩ dX11_refusalOfSheet_85 (fun xx σ2 hq => ?_)
                obtain ⟨rfl, rfl⟩ := hq
                refine m_ifne_b 94 dX11_refusalOfSheet_88 (by decide) (fun c6_ => ?_) (fun c6_ => ?_)
                ·
                  have hsum := c6_
                  refine m_aload_n 0 rfl rfl dX11_refusalOfSheet_94 ?_
                  refine gf_X11_35 dX11_refusalOfSheet_95 ?_
                  refine m_iload 4 rfl dX11_refusalOfSheet_98 ?_
                  refine m_aload_n 2 rfl rfl dX11_refusalOfSheet_100 ?_
                  refine m_iconst 2 dX11_refusalOfSheet_101 rfl ?_
                  refine m_iload 4 rfl dX11_refusalOfSheet_102 ?_
                  refine m_imul dX11_refusalOfSheet_104 ?_
                  refine m_topi (show 2 * (nI (k_)) = nI (2 * k_) from pk_mul _ _) ?_
                  refine m_callVi cv_X11_253 [.int (nI (2 * k_))] [.int (nI (k_)), .ref (gK G 30 0)] (k_get l G nx hi_nx h_ hrow (nI (2 * k_))) hi_nx (ce_3 G _ _ _ _ _ _ _ _ _ _) rfl rfl rfl ⟨Nat.le_of_ble_eq_true rfl, Nat.le_of_ble_eq_true rfl⟩ (Nat.le_of_ble_eq_true rfl) ⟨Nat.zero_le _, Nat.zero_le _⟩ dX11_refusalOfSheet_105 (fun xx σ2 hq => ?_)
                  obtain ⟨hgx, rfl⟩ := hq
                  obtain rfl := hgx.trans (getI_in (k := (2 * k_)) hrow.2.2.2.2.2.1 (by omega))
                  refine m_callSv cs_X11_116 [.ref (gK G 30 0), .int (nI (k_)), .int (hE h_ nx (2 * k_))] [] (k_set_30 l G k_ (by omega) (hE h_ nx (2 * k_))) rfl rfl ⟨Nat.le_of_ble_eq_true rfl, Nat.le_of_ble_eq_true rfl⟩ (Nat.le_of_ble_eq_true rfl) ⟨Nat.zero_le _, Nat.zero_le _⟩ dX11_refusalOfSheet_108 (fun σ2 hq => ?_)
                  obtain rfl := hq
                  obtain ⟨S7, hS7⟩ : ∃ q_ : owF, q_ = up3 S9 30 0 k_ (hE h_ nx (2 * k_)) := ⟨_, rfl⟩
                  rw [← hS7]
                  refine m_aload_n 0 rfl rfl dX11_refusalOfSheet_111 ?_
                  refine gf_X11_39 dX11_refusalOfSheet_112 ?_
                  refine m_iload 4 rfl dX11_refusalOfSheet_115 ?_
                  refine m_aload_n 2 rfl rfl dX11_refusalOfSheet_117 ?_
                  refine m_iconst 2 dX11_refusalOfSheet_118 rfl ?_
                  refine m_iload 4 rfl dX11_refusalOfSheet_119 ?_
                  refine m_imul dX11_refusalOfSheet_121 ?_
                  refine m_topi (show 2 * (nI (k_)) = nI (2 * k_) from pk_mul _ _) ?_
                  refine m_iconst 1 dX11_refusalOfSheet_122 rfl ?_
                  refine m_iadd dX11_refusalOfSheet_123 ?_
                  refine m_topi (show (nI (2 * k_)) + 1 = nI ((2 * k_) + 1) from nI_add _ _) ?_
                  refine m_callVi cv_X11_253 [.int (nI ((2 * k_) + 1))] [.int (nI (k_)), .ref (gK G 31 0)] (k_get l G nx hi_nx h_ hrow (nI ((2 * k_) + 1))) hi_nx (ce_3 G _ _ _ _ _ _ _ _ _ _) rfl rfl rfl ⟨Nat.le_of_ble_eq_true rfl, Nat.le_of_ble_eq_true rfl⟩ (Nat.le_of_ble_eq_true rfl) ⟨Nat.zero_le _, Nat.zero_le _⟩ dX11_refusalOfSheet_124 (fun xx σ2 hq => ?_)
                  obtain ⟨hgx, rfl⟩ := hq
                  obtain rfl := hgx.trans (getI_in (k := ((2 * k_) + 1)) hrow.2.2.2.2.2.1 (by omega))
                  refine m_callSv cs_X11_116 [.ref (gK G 31 0), .int (nI (k_)), .int (hE h_ nx ((2 * k_) + 1))] [] (k_set_31 l G k_ (by omega) (hE h_ nx ((2 * k_) + 1))) rfl rfl ⟨Nat.le_of_ble_eq_true rfl, Nat.le_of_ble_eq_true rfl⟩ (Nat.le_of_ble_eq_true rfl) ⟨Nat.zero_le _, Nat.zero_le _⟩ dX11_refusalOfSheet_127 (fun σ2 hq => ?_)
                  obtain rfl := hq
                  obtain ⟨S8, hS8⟩ : ∃ q_ : owF, q_ = up3 S7 31 0 k_ (hE h_ nx ((2 * k_) + 1)) := ⟨_, rfl⟩
                  rw [← hS8]
                  refine m_iinc (nI (k_ + 1)) 4 [(4, .int (nI (k_ + 1))), (0, .ref (gK G 0 0)), (1, .int (nI (nx))), (2, .ref (gK G 3 nx)), (3, .int (sortRef h_ nx 2))] rfl (nI_1 _) (by decide) rfl dX11_refusalOfSheet_130 ?_
                  refine m_goto 58 dX11_refusalOfSheet_133 (by decide) ?_
                  refine m_lv [(0, .ref (gK G 0 0)), (1, .int (nI (nx))), (2, .ref (gK G 3 nx)), (3, .int (sortRef h_ nx 2)), (4, .int (nI (k_ + 1)))] [1, 2, 3, 4, 0] rfl ?_
                  exact ih58 (k_ + 1) S8 (by unfold shN at *; omega) (up3_t hS8 (by decide) (up3_t hS7 (by decide) hs8)) (fun j_ hj => by rcases Nat.lt_or_ge j_ k_ with q_ | q_; exact ⟨up3_t hS8 (by decide) (up3_j hS7 (by omega) (hlay j_ q_).1), up3_j hS8 (by omega) (up3_t hS7 (by decide) (hlay j_ q_).2.1), (hlay j_ q_).2.2⟩; obtain rfl : k_ = j_ := (by omega); exact ⟨up3_t hS8 (by decide) (up3_e hS7), up3_e hS8, hsum⟩) (by unfold shN at *; omega)
                ·
                  have hsum := c6_
                  refine m_bipush (-13) dX11_refusalOfSheet_91 rfl ?_
                  exact m_iret dX11_refusalOfSheet_93 (Nat.le_refl _) (Nat.le_refl _) (⟨by rw [shRefI_nat hnx]; unfold shRef; rw [if_neg (by omega), if_pos hq2, if_pos (by omega), if_neg (fun q_ => absurd (allB_iff.mp q_ k_ (by omega)) (by unfold sumB; rw [hsum]; decide))], _, rfl, fun q_ => absurd q_ (by decide)⟩)
          refine m_lv [(0, .ref (gK G 0 0)), (1, .int (nI (nx))), (2, .ref (gK G 3 nx)), (3, .int (sortRef h_ nx 2)), (4, .int 0)] [3, 4, 2, 1, 0] rfl ?_
          exact lp58 ((shN h_ nx - 0) + 1) 0 S4 (Nat.zero_le _) (up3_e hS4) (fun s_ hs2 => absurd hs2 (Nat.not_lt_zero s_)) (Nat.lt_succ_self _)
        ·
          refine m_bipush (-13) dX11_refusalOfSheet_42 rfl ?_
          exact m_iret dX11_refusalOfSheet_44 (Nat.le_refl _) (Nat.le_refl _) (⟨by rw [shRefI_nat hnx]; unfold shRef; rw [if_neg (by omega), if_pos hq2, if_neg (by omega)], S, rfl, fun q_ => absurd q_ (by decide)⟩)
    ·
      have c0_ : ¬ sortRef h_ nx 2 = 0 := c1_
      refine m_iload_n 0 rfl rfl dX11_refusalOfSheet_22 ?_
      exact m_iret dX11_refusalOfSheet_23 (Nat.le_refl _) (Nat.le_refl _) (⟨by rw [shRefI_nat hnx]; unfold shRef; unfold sortRef at c0_ ⊢; grind, S, rfl, fun q_ => absurd q_ c0_⟩)
set_option maxRecDepth 100000 in
set_option maxHeartbeats 4000000 in
theorem k_answers_32 (l : Launch) (G : owG) {A S Z B T V : owF} {J : Nat → Nat → Int64} {Y : Nat → Nat → Nat → Option Nat} {P : Nat → Option owW} (h_ : owH) (hRS : allRS A Y P h_) (n_ : Nat) (hs0 : S 0 0 8 = nI n_) (hn12 : n_ ≤ 12) (z_ : Int32) : Ct l G yX11_refusalOfAnswers cX11_refusalOfAnswers 6 ((some .int)) 3 0 0 [.ref (gK G 0 0), .int z_, .ref (gK G 32 0)] (A, S, Z, B, T, V, J, Y, P) (qI (fun r_ σ => r_ = anRefI h_ z_ n_ ∧ ∃ S2 : owF, σ = (A, S2, Z, B, T, V, J, Y, P) ∧ sfrT 32 S S2 ∧ (r_ = 0 → ∃ e_, e_ < 8 ∧ z_ = nI e_ ∧ anS S2 32 n_ (hE h_ e_)))) := by
  refine ct_of (by decide +kernel) (Nat.le_of_ble_eq_true rfl) ?_
  show Wm l G cX11_refusalOfAnswers 6 RX11 ((some .int)) (rmk 3 0 0) (fun _ => True) (QfM G (qI (fun r_ σ => r_ = anRefI h_ z_ n_ ∧ ∃ S2 : owF, σ = (A, S2, Z, B, T, V, J, Y, P) ∧ sfrT 32 S S2 ∧ (r_ = 0 → ∃ e_, e_ < 8 ∧ z_ = nI e_ ∧ anS S2 32 n_ (hE h_ e_)))) 0 0) 0 [(0, .ref (gK G 0 0)), (1, .int z_), (2, .ref (gK G 32 0))] [] (A, S, Z, B, T, V, J, Y, P) 0 0
  refine m_aload_n 0 rfl rfl dX11_refusalOfAnswers_0 ?_
  refine m_iload_n 1 rfl rfl dX11_refusalOfAnswers_1 ?_
  cases hDz : isD z_ with
  | false =>
    refine m_callVr cv_X11_59 [.int z_] [] (k_shelfAt_n l G z_ hDz) (by decide) (ce_0 G _ _ _ _ _ _ _ _ _ _) rfl rfl rfl ⟨Nat.le_of_ble_eq_true rfl, Nat.le_of_ble_eq_true rfl⟩ (Nat.le_of_ble_eq_true rfl) ⟨Nat.zero_le _, Nat.zero_le _⟩ dX11_refusalOfAnswers_2 (fun xx σ2 hq => ?_)
    obtain ⟨rfl, rfl⟩ := hq
    refine m_astore_nN [(3, .null), (0, .ref (gK G 0 0)), (1, .int z_), (2, .ref (gK G 32 0))] rfl (by decide) rfl dX11_refusalOfAnswers_5 ?_
    refine m_aload_nN 0 rfl rfl dX11_refusalOfAnswers_6 ?_
    refine m_ifnonnullN dX11_refusalOfAnswers_7 ?_
    refine m_iconst (-1) dX11_refusalOfAnswers_10 rfl ?_
    exact m_iret dX11_refusalOfAnswers_11 (Nat.le_refl _) (Nat.le_refl _) (⟨(anRefI_n hDz).symm, S, rfl, sfrT_rf, fun q_ => absurd q_ (by decide)⟩)
  | true =>
    obtain ⟨nz, hnz, rfl⟩ := isD_nat hDz
    refine m_callVr cv_X11_59 [.int (nI nz)] [] (k_shelfAt_s l G nz hnz) (by decide) (ce_0 G _ _ _ _ _ _ _ _ _ _) rfl rfl rfl ⟨Nat.le_of_ble_eq_true rfl, Nat.le_of_ble_eq_true rfl⟩ (Nat.le_of_ble_eq_true rfl) ⟨Nat.zero_le _, Nat.zero_le _⟩ dX11_refusalOfAnswers_2 (fun xx σ2 hq => ?_)
    obtain ⟨rfl, rfl⟩ := hq
    have hi_nz : nz < owN 3 := hnz
    have hRS_nz := hRS nz hnz
    refine m_astore_n [(3, .ref (gK G 3 nz)), (0, .ref (gK G 0 0)), (1, .int (nI (nz))), (2, .ref (gK G 32 0))] rfl (by decide) rfl dX11_refusalOfAnswers_5 ?_
    refine m_aload_n 0 rfl rfl dX11_refusalOfAnswers_6 ?_
    refine m_ifnonnull 12 dX11_refusalOfAnswers_7 (by decide) ?_
    refine m_aload_n 0 rfl rfl dX11_refusalOfAnswers_12 ?_
    refine m_iconst 2 dX11_refusalOfAnswers_13 rfl ?_
    refine m_callVi cv_X11_63 [.int 2] [] (k_sortRefusal l G nz hi_nz h_ hRS_nz 2 (by decide)) hi_nz (ce_3 G _ _ _ _ _ _ _ _ _ _) rfl rfl rfl ⟨Nat.le_of_ble_eq_true rfl, Nat.le_of_ble_eq_true rfl⟩ (Nat.le_of_ble_eq_true rfl) ⟨Nat.zero_le _, Nat.zero_le _⟩ dX11_refusalOfAnswers_14 (fun xx σ2 hq => ?_)
    obtain ⟨rfl, rfl⟩ := hq
    refine m_istore [(4, .int (sortRef h_ nz 2)), (3, .ref (gK G 3 nz)), (0, .ref (gK G 0 0)), (1, .int (nI (nz))), (2, .ref (gK G 32 0))] (by decide) rfl dX11_refusalOfAnswers_17 ?_
    refine m_iload 0 rfl dX11_refusalOfAnswers_19 ?_
    refine m_if_eq 27 dX11_refusalOfAnswers_21 (by decide) (fun c1_ => ?_) (fun c1_ => ?_)
    ·
      have c0_ : sortRef h_ nz 2 = 0 := c1_
      have hq2 : hK h_ nz = 2 ∧ hSo h_ nz = 2 := by unfold sortRef at c0_; grind
      have hrow := hRS_nz.row hq2.1
      have hn100 := hrow.2.2.2.2.2.1
      refine m_aload_n 1 rfl rfl dX11_refusalOfAnswers_27 ?_
      refine gf_X11_250 hi_nz dX11_refusalOfAnswers_28 ?_
      refine m_topi hrow.2.2.2.2.1 ?_
      refine m_aload_n 2 rfl rfl dX11_refusalOfAnswers_31 ?_
      refine gf_X11_179 dX11_refusalOfAnswers_32 ?_
      refine m_topi hs0 ?_
      refine m_icmpn_eq (hN h_ nz) n_ 41 (by omega) (by omega) dX11_refusalOfAnswers_35 (by decide) (fun c2_ => ?_) (fun c2_ => ?_)
      ·
        refine m_iconst 0 dX11_refusalOfAnswers_41 rfl ?_
        refine m_istore [(5, .int 0), (4, .int (sortRef h_ nz 2)), (3, .ref (gK G 3 nz)), (0, .ref (gK G 0 0)), (1, .int (nI (nz))), (2, .ref (gK G 32 0))] (by decide) rfl dX11_refusalOfAnswers_42 ?_
        have lp44 : ∀ (dd : Nat) (k_ : Nat) (S9 : owF), k_ ≤ n_ → sfrT 32 S S9 → S9 0 0 8 = nI n_ → (∀ s_, s_ < k_ → S9 32 0 s_ = hE h_ nz s_) → n_ - k_ < dd → Wm l G cX11_refusalOfAnswers 6 RX11 ((some .int)) (rmk 3 0 0) (fun _ => True) (QfM G (qI (fun r_ σ => r_ = anRefI h_ (nI nz) n_ ∧ ∃ S2 : owF, σ = (A, S2, Z, B, T, V, J, Y, P) ∧ sfrT 32 S S2 ∧ (r_ = 0 → ∃ e_, e_ < 8 ∧ (nI nz) = nI e_ ∧ anS S2 32 n_ (hE h_ e_)))) 0 0) 44 [(0, .ref (gK G 0 0)), (1, .int (nI (nz))), (2, .ref (gK G 32 0)), (3, .ref (gK G 3 nz)), (4, .int (sortRef h_ nz 2)), (5, .int (nI (k_)))] [] (A, S9, Z, B, T, V, J, Y, P) 0 0 := by
          intro dd
          induction dd with
          | zero => intro k_ S9 hk_ hsf hs8 hlay hdd; exact absurd hdd (Nat.not_lt_zero _)
          | succ dd ih44 =>
            intro k_ S9 hk_ hsf hs8 hlay hdd44
            refine m_iload 5 rfl dX11_refusalOfAnswers_44 ?_
            refine m_aload_n 0 rfl rfl dX11_refusalOfAnswers_46 ?_
            refine gf_X11_179 dX11_refusalOfAnswers_47 ?_
            refine m_topi hs8 ?_
            refine m_icmpn_ge k_ n_ 71 (by omega) (by omega) dX11_refusalOfAnswers_50 (by decide) (fun c3_ => ?_) (fun c3_ => ?_)
            ·
              refine m_iconst 0 dX11_refusalOfAnswers_71 rfl ?_
              exact m_iret dX11_refusalOfAnswers_72 (Nat.le_refl _) (Nat.le_refl _) ((by obtain rfl : k_ = n_ := (by omega); exact ⟨by rw [anRefI_nat hnz]; unfold anRef; rw [if_neg (by omega), if_pos hq2, if_pos (by omega)], S9, rfl, hsf, fun _ => ⟨nz, hnz, rfl, hlay⟩⟩))
            ·
              have hkn : k_ < n_ := c3_
              refine m_aload_n 2 rfl rfl dX11_refusalOfAnswers_53 ?_
              refine m_iload 5 rfl dX11_refusalOfAnswers_54 ?_
              refine m_aload_n 3 rfl rfl dX11_refusalOfAnswers_56 ?_
              refine m_iload 5 rfl dX11_refusalOfAnswers_57 ?_
              refine m_callVi cv_X11_253 [.int (nI (k_))] [.int (nI (k_)), .ref (gK G 32 0)] (k_get l G nz hi_nz h_ hrow (nI k_)) hi_nz (ce_3 G _ _ _ _ _ _ _ _ _ _) rfl rfl rfl ⟨Nat.le_of_ble_eq_true rfl, Nat.le_of_ble_eq_true rfl⟩ (Nat.le_of_ble_eq_true rfl) ⟨Nat.zero_le _, Nat.zero_le _⟩ dX11_refusalOfAnswers_59 (fun xx σ2 hq => ?_)
              obtain ⟨hgx, rfl⟩ := hq
              obtain rfl := hgx.trans (getI_in (k := k_) hrow.2.2.2.2.2.1 (by omega))
              refine m_callSv cs_X11_116 [.ref (gK G 32 0), .int (nI (k_)), .int (hE h_ nz k_)] [] (k_set_32 l G k_ (by omega) (hE h_ nz k_)) rfl rfl ⟨Nat.le_of_ble_eq_true rfl, Nat.le_of_ble_eq_true rfl⟩ (Nat.le_of_ble_eq_true rfl) ⟨Nat.zero_le _, Nat.zero_le _⟩ dX11_refusalOfAnswers_62 (fun σ2 hq => ?_)
              obtain rfl := hq
              obtain ⟨S4, hS4⟩ : ∃ q_ : owF, q_ = up3 S9 32 0 k_ (hE h_ nz k_) := ⟨_, rfl⟩
              rw [← hS4]
              refine m_iinc (nI (k_ + 1)) 5 [(5, .int (nI (k_ + 1))), (0, .ref (gK G 0 0)), (1, .int (nI (nz))), (2, .ref (gK G 32 0)), (3, .ref (gK G 3 nz)), (4, .int (sortRef h_ nz 2))] rfl (nI_1 _) (by decide) rfl dX11_refusalOfAnswers_65 ?_
              refine m_goto 44 dX11_refusalOfAnswers_68 (by decide) ?_
              refine m_lv [(0, .ref (gK G 0 0)), (1, .int (nI (nz))), (2, .ref (gK G 32 0)), (3, .ref (gK G 3 nz)), (4, .int (sortRef h_ nz 2)), (5, .int (nI (k_ + 1)))] [1, 2, 3, 4, 5, 0] rfl ?_
              exact ih44 (k_ + 1) S4 (by omega) (sfrT_up hsf hS4) (up3_t hS4 (by decide) hs8) (fun j_ hj => by rcases Nat.lt_or_ge j_ k_ with q_ | q_; exact up3_j hS4 (by omega) (hlay j_ q_); obtain rfl : k_ = j_ := (by omega); exact up3_e hS4) (by omega)
        refine m_lv [(0, .ref (gK G 0 0)), (1, .int (nI (nz))), (2, .ref (gK G 32 0)), (3, .ref (gK G 3 nz)), (4, .int (sortRef h_ nz 2)), (5, .int 0)] [3, 4, 5, 2, 1, 0] rfl ?_
        exact lp44 ((n_ - 0) + 1) 0 S (Nat.zero_le _) sfrT_rf hs0 (fun s_ hs2 => absurd hs2 (Nat.not_lt_zero s_)) (Nat.lt_succ_self _)
      ·
        refine m_bipush (-13) dX11_refusalOfAnswers_38 rfl ?_
        exact m_iret dX11_refusalOfAnswers_40 (Nat.le_refl _) (Nat.le_refl _) (⟨by rw [anRefI_nat hnz]; unfold anRef; rw [if_neg (by omega), if_pos hq2, if_neg (by omega)], S, rfl, sfrT_rf, fun q_ => absurd q_ (by decide)⟩)
    ·
      have c0_ : ¬ sortRef h_ nz 2 = 0 := c1_
      refine m_iload 0 rfl dX11_refusalOfAnswers_24 ?_
      exact m_iret dX11_refusalOfAnswers_26 (Nat.le_refl _) (Nat.le_refl _) (⟨by rw [anRefI_nat hnz]; unfold anRef; unfold sortRef at c0_ ⊢; grind, S, rfl, sfrT_rf, fun q_ => absurd q_ c0_⟩)
set_option maxRecDepth 100000 in
set_option maxHeartbeats 4000000 in
theorem k_answers_33 (l : Launch) (G : owG) {A S Z B T V : owF} {J : Nat → Nat → Int64} {Y : Nat → Nat → Nat → Option Nat} {P : Nat → Option owW} (h_ : owH) (hRS : allRS A Y P h_) (n_ : Nat) (hs0 : S 0 0 8 = nI n_) (hn12 : n_ ≤ 12) (z_ : Int32) : Ct l G yX11_refusalOfAnswers cX11_refusalOfAnswers 6 ((some .int)) 3 0 0 [.ref (gK G 0 0), .int z_, .ref (gK G 33 0)] (A, S, Z, B, T, V, J, Y, P) (qI (fun r_ σ => r_ = anRefI h_ z_ n_ ∧ ∃ S2 : owF, σ = (A, S2, Z, B, T, V, J, Y, P) ∧ sfrT 33 S S2 ∧ (r_ = 0 → ∃ e_, e_ < 8 ∧ z_ = nI e_ ∧ anS S2 33 n_ (hE h_ e_)))) := by
  refine ct_of (by decide +kernel) (Nat.le_of_ble_eq_true rfl) ?_
  show Wm l G cX11_refusalOfAnswers 6 RX11 ((some .int)) (rmk 3 0 0) (fun _ => True) (QfM G (qI (fun r_ σ => r_ = anRefI h_ z_ n_ ∧ ∃ S2 : owF, σ = (A, S2, Z, B, T, V, J, Y, P) ∧ sfrT 33 S S2 ∧ (r_ = 0 → ∃ e_, e_ < 8 ∧ z_ = nI e_ ∧ anS S2 33 n_ (hE h_ e_)))) 0 0) 0 [(0, .ref (gK G 0 0)), (1, .int z_), (2, .ref (gK G 33 0))] [] (A, S, Z, B, T, V, J, Y, P) 0 0
  refine m_aload_n 0 rfl rfl dX11_refusalOfAnswers_0 ?_
  refine m_iload_n 1 rfl rfl dX11_refusalOfAnswers_1 ?_
  cases hDz : isD z_ with
  | false =>
    refine m_callVr cv_X11_59 [.int z_] [] (k_shelfAt_n l G z_ hDz) (by decide) (ce_0 G _ _ _ _ _ _ _ _ _ _) rfl rfl rfl ⟨Nat.le_of_ble_eq_true rfl, Nat.le_of_ble_eq_true rfl⟩ (Nat.le_of_ble_eq_true rfl) ⟨Nat.zero_le _, Nat.zero_le _⟩ dX11_refusalOfAnswers_2 (fun xx σ2 hq => ?_)
    obtain ⟨rfl, rfl⟩ := hq
    refine m_astore_nN [(3, .null), (0, .ref (gK G 0 0)), (1, .int z_), (2, .ref (gK G 33 0))] rfl (by decide) rfl dX11_refusalOfAnswers_5 ?_
    refine m_aload_nN 0 rfl rfl dX11_refusalOfAnswers_6 ?_
    refine m_ifnonnullN dX11_refusalOfAnswers_7 ?_
    refine m_iconst (-1) dX11_refusalOfAnswers_10 rfl ?_
    exact m_iret dX11_refusalOfAnswers_11 (Nat.le_refl _) (Nat.le_refl _) (⟨(anRefI_n hDz).symm, S, rfl, sfrT_rf, fun q_ => absurd q_ (by decide)⟩)
  | true =>
    obtain ⟨nz, hnz, rfl⟩ := isD_nat hDz
    refine m_callVr cv_X11_59 [.int (nI nz)] [] (k_shelfAt_s l G nz hnz) (by decide) (ce_0 G _ _ _ _ _ _ _ _ _ _) rfl rfl rfl ⟨Nat.le_of_ble_eq_true rfl, Nat.le_of_ble_eq_true rfl⟩ (Nat.le_of_ble_eq_true rfl) ⟨Nat.zero_le _, Nat.zero_le _⟩ dX11_refusalOfAnswers_2 (fun xx σ2 hq => ?_)
    obtain ⟨rfl, rfl⟩ := hq
    have hi_nz : nz < owN 3 := hnz
    have hRS_nz := hRS nz hnz
    refine m_astore_n [(3, .ref (gK G 3 nz)), (0, .ref (gK G 0 0)), (1, .int (nI (nz))), (2, .ref (gK G 33 0))] rfl (by decide) rfl dX11_refusalOfAnswers_5 ?_
    refine m_aload_n 0 rfl rfl dX11_refusalOfAnswers_6 ?_
    refine m_ifnonnull 12 dX11_refusalOfAnswers_7 (by decide) ?_
    refine m_aload_n 0 rfl rfl dX11_refusalOfAnswers_12 ?_
    refine m_iconst 2 dX11_refusalOfAnswers_13 rfl ?_
    refine m_callVi cv_X11_63 [.int 2] [] (k_sortRefusal l G nz hi_nz h_ hRS_nz 2 (by decide)) hi_nz (ce_3 G _ _ _ _ _ _ _ _ _ _) rfl rfl rfl ⟨Nat.le_of_ble_eq_true rfl, Nat.le_of_ble_eq_true rfl⟩ (Nat.le_of_ble_eq_true rfl) ⟨Nat.zero_le _, Nat.zero_le _⟩ dX11_refusalOfAnswers_14 (fun xx σ2 hq => ?_)
    obtain ⟨rfl, rfl⟩ := hq
    refine m_istore [(4, .int (sortRef h_ nz 2)), (3, .ref (gK G 3 nz)), (0, .ref (gK G 0 0)), (1, .int (nI (nz))), (2, .ref (gK G 33 0))] (by decide) rfl dX11_refusalOfAnswers_17 ?_
    refine m_iload 0 rfl dX11_refusalOfAnswers_19 ?_
    refine m_if_eq 27 dX11_refusalOfAnswers_21 (by decide) (fun c1_ => ?_) (fun c1_ => ?_)
    ·
      have c0_ : sortRef h_ nz 2 = 0 := c1_
      have hq2 : hK h_ nz = 2 ∧ hSo h_ nz = 2 := by unfold sortRef at c0_; grind
      have hrow := hRS_nz.row hq2.1
      have hn100 := hrow.2.2.2.2.2.1
      refine m_aload_n 1 rfl rfl dX11_refusalOfAnswers_27 ?_
      refine gf_X11_250 hi_nz dX11_refusalOfAnswers_28 ?_
      refine m_topi hrow.2.2.2.2.1 ?_
      refine m_aload_n 2 rfl rfl dX11_refusalOfAnswers_31 ?_
      refine gf_X11_179 dX11_refusalOfAnswers_32 ?_
      refine m_topi hs0 ?_
      refine m_icmpn_eq (hN h_ nz) n_ 41 (by omega) (by omega) dX11_refusalOfAnswers_35 (by decide) (fun c2_ => ?_) (fun c2_ => ?_)
      ·
        refine m_iconst 0 dX11_refusalOfAnswers_41 rfl ?_
        refine m_istore [(5, .int 0), (4, .int (sortRef h_ nz 2)), (3, .ref (gK G 3 nz)), (0, .ref (gK G 0 0)), (1, .int (nI (nz))), (2, .ref (gK G 33 0))] (by decide) rfl dX11_refusalOfAnswers_42 ?_
        have lp44 : ∀ (dd : Nat) (k_ : Nat) (S9 : owF), k_ ≤ n_ → sfrT 33 S S9 → S9 0 0 8 = nI n_ → (∀ s_, s_ < k_ → S9 33 0 s_ = hE h_ nz s_) → n_ - k_ < dd → Wm l G cX11_refusalOfAnswers 6 RX11 ((some .int)) (rmk 3 0 0) (fun _ => True) (QfM G (qI (fun r_ σ => r_ = anRefI h_ (nI nz) n_ ∧ ∃ S2 : owF, σ = (A, S2, Z, B, T, V, J, Y, P) ∧ sfrT 33 S S2 ∧ (r_ = 0 → ∃ e_, e_ < 8 ∧ (nI nz) = nI e_ ∧ anS S2 33 n_ (hE h_ e_)))) 0 0) 44 [(0, .ref (gK G 0 0)), (1, .int (nI (nz))), (2, .ref (gK G 33 0)), (3, .ref (gK G 3 nz)), (4, .int (sortRef h_ nz 2)), (5, .int (nI (k_)))] [] (A, S9, Z, B, T, V, J, Y, P) 0 0 := by
          intro dd
          induction dd with
          | zero => intro k_ S9 hk_ hsf hs8 hlay hdd; exact absurd hdd (Nat.not_lt_zero _)
          | succ dd ih44 =>
            intro k_ S9 hk_ hsf hs8 hlay hdd44
            refine m_iload 5 rfl dX11_refusalOfAnswers_44 ?_
            refine m_aload_n 0 rfl rfl dX11_refusalOfAnswers_46 ?_
            refine gf_X11_179 dX11_refusalOfAnswers_47 ?_
            refine m_topi hs8 ?_
            refine m_icmpn_ge k_ n_ 71 (by omega) (by omega) dX11_refusalOfAnswers_50 (by decide) (fun c3_ => ?_) (fun c3_ => ?_)
            ·
              refine m_iconst 0 dX11_refusalOfAnswers_71 rfl ?_
              exact m_iret dX11_refusalOfAnswers_72 (Nat.le_refl _) (Nat.le_refl _) ((by obtain rfl : k_ = n_ := (by omega); exact ⟨by rw [anRefI_nat hnz]; unfold anRef; rw [if_neg (by omega), if_pos hq2, if_pos (by omega)], S9, rfl, hsf, fun _ => ⟨nz, hnz, rfl, hlay⟩⟩))
            ·
              have hkn : k_ < n_ := c3_
              refine m_aload_n 2 rfl rfl dX11_refusalOfAnswers_53 ?_
              refine m_iload 5 rfl dX11_refusalOfAnswers_54 ?_
              refine m_aload_n 3 rfl rfl dX11_refusalOfAnswers_56 ?_
              refine m_iload 5 rfl dX11_refusalOfAnswers_57 ?_
              refine m_callVi cv_X11_253 [.int (nI (k_))] [.int (nI (k_)), .ref (gK G 33 0)] (k_get l G nz hi_nz h_ hrow (nI k_)) hi_nz (ce_3 G _ _ _ _ _ _ _ _ _ _) rfl rfl rfl ⟨Nat.le_of_ble_eq_true rfl, Nat.le_of_ble_eq_true rfl⟩ (Nat.le_of_ble_eq_true rfl) ⟨Nat.zero_le _, Nat.zero_le _⟩ dX11_refusalOfAnswers_59 (fun xx σ2 hq => ?_)
              obtain ⟨hgx, rfl⟩ := hq
              obtain rfl := hgx.trans (getI_in (k := k_) hrow.2.2.2.2.2.1 (by omega))
              refine m_callSv cs_X11_116 [.ref (gK G 33 0), .int (nI (k_)), .int (hE h_ nz k_)] [] (k_set_33 l G k_ (by omega) (hE h_ nz k_)) rfl rfl ⟨Nat.le_of_ble_eq_true rfl, Nat.le_of_ble_eq_true rfl⟩ (Nat.le_of_ble_eq_true rfl) ⟨Nat.zero_le _, Nat.zero_le _⟩ dX11_refusalOfAnswers_62 (fun σ2 hq => ?_)
              obtain rfl := hq
              obtain ⟨S4, hS4⟩ : ∃ q_ : owF, q_ = up3 S9 33 0 k_ (hE h_ nz k_) := ⟨_, rfl⟩
              rw [← hS4]
              refine m_iinc (nI (k_ + 1)) 5 [(5, .int (nI (k_ + 1))), (0, .ref (gK G 0 0)), (1, .int (nI (nz))), (2, .ref (gK G 33 0)), (3, .ref (gK G 3 nz)), (4, .int (sortRef h_ nz 2))] rfl (nI_1 _) (by decide) rfl dX11_refusalOfAnswers_65 ?_
              refine m_goto 44 dX11_refusalOfAnswers_68 (by decide) ?_
              refine m_lv [(0, .ref (gK G 0 0)), (1, .int (nI (nz))), (2, .ref (gK G 33 0)), (3, .ref (gK G 3 nz)), (4, .int (sortRef h_ nz 2)), (5, .int (nI (k_ + 1)))] [1, 2, 3, 4, 5, 0] rfl ?_
              exact ih44 (k_ + 1) S4 (by omega) (sfrT_up hsf hS4) (up3_t hS4 (by decide) hs8) (fun j_ hj => by rcases Nat.lt_or_ge j_ k_ with q_ | q_; exact up3_j hS4 (by omega) (hlay j_ q_); obtain rfl : k_ = j_ := (by omega); exact up3_e hS4) (by omega)
        refine m_lv [(0, .ref (gK G 0 0)), (1, .int (nI (nz))), (2, .ref (gK G 33 0)), (3, .ref (gK G 3 nz)), (4, .int (sortRef h_ nz 2)), (5, .int 0)] [3, 4, 5, 2, 1, 0] rfl ?_
        exact lp44 ((n_ - 0) + 1) 0 S (Nat.zero_le _) sfrT_rf hs0 (fun s_ hs2 => absurd hs2 (Nat.not_lt_zero s_)) (Nat.lt_succ_self _)
      ·
        refine m_bipush (-13) dX11_refusalOfAnswers_38 rfl ?_
        exact m_iret dX11_refusalOfAnswers_40 (Nat.le_refl _) (Nat.le_refl _) (⟨by rw [anRefI_nat hnz]; unfold anRef; rw [if_neg (by omega), if_pos hq2, if_neg (by omega)], S, rfl, sfrT_rf, fun q_ => absurd q_ (by decide)⟩)
    ·
      have c0_ : ¬ sortRef h_ nz 2 = 0 := c1_
      refine m_iload 0 rfl dX11_refusalOfAnswers_24 ?_
      exact m_iret dX11_refusalOfAnswers_26 (Nat.le_refl _) (Nat.le_refl _) (⟨by rw [anRefI_nat hnz]; unfold anRef; unfold sortRef at c0_ ⊢; grind, S, rfl, sfrT_rf, fun q_ => absurd q_ c0_⟩)
set_option maxRecDepth 100000 in
set_option maxHeartbeats 4000000 in
theorem k_both (l : Launch) (G : owG) {A S Z B T V : owF} {J : Nat → Nat → Int64} {Y : Nat → Nat → Nat → Option Nat} {P : Nat → Option owW} (h_ : owH) (hRS : allRS A Y P h_) (x_ z_ : Int32) : Ct l G yX11_refusalOfBoth cX11_refusalOfBoth 4 ((some .int)) 4 0 0 [.ref (gK G 0 0), .int x_, .int z_] (A, S, Z, B, T, V, J, Y, P) (qI (fun r_ σ => r_ = boRefI h_ x_ z_ ∧ ∃ S2 : owF, σ = (A, S2, Z, B, T, V, J, Y, P) ∧ (r_ = 0 → ∃ d_ e_, d_ < 8 ∧ e_ < 8 ∧ x_ = nI d_ ∧ z_ = nI e_ ∧ hK h_ d_ = 2 ∧ shS S2 (shN h_ d_) (shX h_ d_) (shY h_ d_) ∧ anS S2 32 (shN h_ d_) (hE h_ e_)))) := by
  refine ct_of (by decide +kernel) (Nat.le_of_ble_eq_true rfl) ?_
  show Wm l G cX11_refusalOfBoth 4 RX11 ((some .int)) (rmk 4 0 0) (fun _ => True) (QfM G (qI (fun r_ σ => r_ = boRefI h_ x_ z_ ∧ ∃ S2 : owF, σ = (A, S2, Z, B, T, V, J, Y, P) ∧ (r_ = 0 → ∃ d_ e_, d_ < 8 ∧ e_ < 8 ∧ x_ = nI d_ ∧ z_ = nI e_ ∧ hK h_ d_ = 2 ∧ shS S2 (shN h_ d_) (shX h_ d_) (shY h_ d_) ∧ anS S2 32 (shN h_ d_) (hE h_ e_)))) 0 0) 0 [(0, .ref (gK G 0 0)), (1, .int x_), (2, .int z_)] [] (A, S, Z, B, T, V, J, Y, P) 0 0
  refine m_aload_n 0 rfl rfl dX11_refusalOfBoth_0 ?_
  refine m_iload_n 1 rfl rfl dX11_refusalOfBoth_1 ?_
  refine m_callVi cv_X11_176 [.int x_] [] (k_sheet l G h_ hRS x_) (by decide) (ce_0 G _ _ _ _ _ _ _ _ _ _) rfl rfl rfl ⟨Nat.le_of_ble_eq_true rfl, Nat.le_of_ble_eq_true rfl⟩ (Nat.le_of_ble_eq_true rfl) ⟨Nat.zero_le _, Nat.zero_le _⟩ dX11_refusalOfBoth_2 (fun xx σ2 hq => ?_)
  obtain ⟨rfl, S1, rfl, hsh⟩ := hq
  refine m_istore_n [(3, .int (shRefI h_ x_)), (0, .ref (gK G 0 0)), (1, .int x_), (2, .int z_)] rfl (by decide) rfl dX11_refusalOfBoth_5 ?_
  refine m_iload_n 0 rfl rfl dX11_refusalOfBoth_6 ?_
  refine m_if_eq 14 dX11_refusalOfBoth_7 (by decide) (fun c2_ => ?_) (fun c2_ => ?_)
  ·
    have cs := c2_
    obtain ⟨nx, hnx, rfl, hk2, hsh2⟩ := hsh cs
    refine m_aload_n 1 rfl rfl dX11_refusalOfBoth_14 ?_
    refine m_iload_n 3 rfl rfl dX11_refusalOfBoth_15 ?_
    refine m_aload_n 1 rfl rfl dX11_refusalOfBoth_16 ?_
    refine gf_X11_42 dX11_refusalOfBoth_17 ?_
    refine m_callVi cv_X11_237 [.int z_, .ref (gK G 32 0)] [] (k_answers_32 l G h_ hRS (shN h_ nx) hsh2.1 hsh2.2.1 z_) (by decide) (ce_0 G _ _ _ _ _ _ _ _ _ _) rfl rfl rfl ⟨Nat.le_of_ble_eq_true rfl, Nat.le_of_ble_eq_true rfl⟩ (Nat.le_of_ble_eq_true rfl) ⟨Nat.zero_le _, Nat.zero_le _⟩ dX11_refusalOfBoth_20 (fun xx σ2 hq => ?_)
    obtain ⟨rfl, S3, rfl, hfS, han⟩ := hq
    exact m_iret dX11_refusalOfBoth_23 (Nat.le_refl _) (Nat.le_refl _) (⟨by unfold boRefI; rw [if_pos cs, isD_clamp hnx], _, rfl, fun q_ => by obtain ⟨e_, he_, rfl, hae⟩ := han q_; exact ⟨nx, e_, hnx, he_, rfl, rfl, hk2, hsh2.keep hfS (by decide), hae⟩⟩)
  ·
    have cs := c2_
    refine m_iload_n 0 rfl rfl dX11_refusalOfBoth_10 ?_
    refine m_goto 23 dX11_refusalOfBoth_11 (by decide) ?_
    exact m_iret dX11_refusalOfBoth_23 (Nat.le_refl _) (Nat.le_refl _) (⟨by unfold boRefI; rw [if_neg cs], _, rfl, fun q_ => absurd q_ cs⟩)
