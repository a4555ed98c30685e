/-! how many bits are set: by bytes -/
def pcB (b : Nat) : Nat := b % 2 + b / 2 % 2 + b / 4 % 2 + b / 8 % 2 + b / 16 % 2 + b / 32 % 2 + b / 64 % 2 + b / 128 % 2
def rpB (c : Nat) : Nat → Nat
  | 0 => 0
  | n + 1 => c + 256 * rpB c n
theorem and_sp {a b c d : Nat} (ha : a < 256) (hc : c < 256) : (a + 256 * b) &&& (c + 256 * d) = (a &&& c) + 256 * (b &&& d) := by
  have h0 := Nat.mod_add_div ((a + 256 * b) &&& (c + 256 * d)) (2 ^ 8)
  rw [Nat.and_mod_two_pow, Nat.and_div_two_pow] at h0
  rw [show (a + 256 * b) % 2 ^ 8 = a by omega, show (c + 256 * d) % 2 ^ 8 = c by omega, show (a + 256 * b) / 2 ^ 8 = b by omega, show (c + 256 * d) / 2 ^ 8 = d by omega] at h0
  exact h0.symm
def p1 (n x : Nat) : Nat := x - (x / 2 &&& rpB 85 n)
def p2 (n x : Nat) : Nat := (x &&& rpB 51 n) + (x / 4 &&& rpB 51 n)
def p3 (n x : Nat) : Nat := (x + x / 16) &&& rpB 15 n
def g1 (x : Nat) : Nat := x - (x / 2 &&& 85)
def g2 (x : Nat) : Nat := (x &&& 51) + (x / 4 &&& 51)
theorem b1 : ∀ x, x < 256 → ∀ c, c < 2 → x / 2 + 128 * c &&& 85 = x / 2 &&& 85 := by decide +kernel
theorem b2 : ∀ x, x < 256 → ∀ c, c < 4 → x / 4 + 64 * c &&& 51 = x / 4 &&& 51 := by decide +kernel
theorem b3 : ∀ x, x < 256 → ∀ c, c < 5 → g2 (g1 x) + g2 (g1 x) / 16 + 16 * c &&& 15 = pcB x := by decide +kernel
theorem b4 : ∀ x, x < 256 → g1 x < 256 ∧ x / 2 &&& 85 ≤ x ∧ g2 (g1 x) % 16 ≤ 4 ∧ g2 (g1 x) ≤ 68 ∧ pcB x ≤ 8 := by decide +kernel
theorem p1_s {n x y : Nat} (h : x < 256) : p1 (n + 1) (x + 256 * y) = g1 x + 256 * p1 n y := by
  unfold p1 g1
  show x + 256 * y - ((x + 256 * y) / 2 &&& (85 + 256 * rpB 85 n)) = _
  rw [show (x + 256 * y) / 2 = (x / 2 + 128 * (y % 2)) + 256 * (y / 2) by omega, and_sp (by omega) (by decide), b1 x h (y % 2) (by omega)]
  have h1 := (b4 x h).2.1
  have h2 : y / 2 &&& rpB 85 n ≤ y / 2 := Nat.and_le_left
  omega
theorem p2_s {n x y : Nat} (h : x < 256) : p2 (n + 1) (x + 256 * y) = g2 x + 256 * p2 n y := by
  unfold p2 g2
  show ((x + 256 * y) &&& (51 + 256 * rpB 51 n)) + ((x + 256 * y) / 4 &&& (51 + 256 * rpB 51 n)) = _
  rw [show (x + 256 * y) / 4 = (x / 4 + 64 * (y % 4)) + 256 * (y / 4) by omega, and_sp h (by decide), and_sp (a := x / 4 + 64 * (y % 4)) (by omega) (by decide), b2 x h (y % 4) (by omega)]
  omega
theorem p12_n : ∀ n x, p2 n (p1 n x) % 16 ≤ 4
  | 0, x => by
    unfold p2
    show ((_ &&& 0) + (_ &&& 0)) % 16 ≤ 4
    rw [Nat.and_zero, Nat.and_zero]
    decide
  | n + 1, x => by
    have hx : x % 256 < 256 := Nat.mod_lt _ (by decide)
    have h4 := b4 (x % 256) hx
    rw [show x = x % 256 + 256 * (x / 256) by omega, p1_s hx, p2_s h4.1]
    omega
def pcS : Nat → Nat → Nat
  | 0, _ => 0
  | n + 1, x => pcB (x % 256) + 256 * pcS n (x / 256)
theorem p123 : ∀ n x, p3 n (p2 n (p1 n x)) = pcS n x
  | 0, x => Nat.and_zero _
  | n + 1, x => by
    have hx : x % 256 < 256 := Nat.mod_lt _ (by decide)
    have h4 := b4 (x % 256) hx
    have hn := p12_n n (x / 256)
    have ih := p123 n (x / 256)
    have e : p2 (n + 1) (p1 (n + 1) x) = g2 (g1 (x % 256)) + 256 * p2 n (p1 n (x / 256)) := by
      rw [← p2_s h4.1, ← p1_s hx, show x % 256 + 256 * (x / 256) = x by omega]
    rw [e]
    unfold p3 at ih ⊢
    show (_ + _) &&& (15 + 256 * rpB 15 n) = pcB (x % 256) + 256 * pcS n (x / 256)
    rw [← ih, ← b3 (x % 256) hx (p2 n (p1 n (x / 256)) % 16) (by omega), ← and_sp (by omega) (by decide)]
    congr 1
    omega
def psm : Nat → Nat → Nat
  | 0, _ => 0
  | n + 1, x => pcB (x % 256) + psm n (x / 256)
theorem dvk {k q r : Nat} (h : q < k) : (q + k * r) / k = r := by
  rw [Nat.add_mul_div_left _ _ (by omega), Nat.div_eq_of_lt h, Nat.zero_add]
set_option maxHeartbeats 400000 in
theorem fold8r {q0 q1 q2 q3 q4 q5 q6 q7 r1 r2 r3 r4 r5 r6 : Nat} (h0 : q0 ≤ 8) (h1 : q1 ≤ 8) (h2 : q2 ≤ 8) (h3 : q3 ≤ 8) (h4 : q4 ≤ 8) (h5 : q5 ≤ 8) (h6 : q6 ≤ 8) (h7 : q7 ≤ 8)
    (e1 : r1 = q1 + 256 * r2) (e2 : r2 = q2 + 256 * r3) (e3 : r3 = q3 + 256 * r4) (e4 : r4 = q4 + 256 * r5) (e5 : r5 = q5 + 256 * r6) (e6 : r6 = q6 + 256 * q7) :
    (q0 + 256 * r1 + (q0 + 256 * r1) / 256 + (q0 + 256 * r1 + (q0 + 256 * r1) / 256) / 65536 + (q0 + 256 * r1 + (q0 + 256 * r1) / 256 + (q0 + 256 * r1 + (q0 + 256 * r1) / 256) / 65536) / 4294967296) % 128 = q0 + (q1 + (q2 + (q3 + (q4 + (q5 + (q6 + (q7 + 0))))))) := by
  rw [dvk (k := 256) (q := q0) (r := r1) (by omega)]
  have a1 : q0 + 256 * r1 + r1 = (q0 + q1 + 256 * (q1 + q2)) + 65536 * (r2 + r3) := by rw [e1, e2]; clear e1 e2 e3 e4 e5 e6; omega
  rw [a1, dvk (k := 65536) (q := q0 + q1 + 256 * (q1 + q2)) (r := r2 + r3) (by clear e1 e2 e3 e4 e5 e6 a1; omega)]
  have a3 : (q0 + q1 + 256 * (q1 + q2)) + 65536 * (r2 + r3) + (r2 + r3) = (q0 + q1 + q2 + q3 + 256 * (q1 + q2 + q3 + q4) + 65536 * (q2 + q3 + q4 + q5) + 16777216 * (q3 + q4 + q5 + q6)) + 4294967296 * (r4 + r5 + r6 + q7) := by clear a1 e1 h0 h1 h2 h3 h4 h5 h6 h7; rw [e2, e3, e4, e5, e6]; clear e2 e3 e4 e5 e6; omega
  rw [a3, dvk (k := 4294967296) (q := q0 + q1 + q2 + q3 + 256 * (q1 + q2 + q3 + q4) + 65536 * (q2 + q3 + q4 + q5) + 16777216 * (q3 + q4 + q5 + q6)) (r := r4 + r5 + r6 + q7) (by clear e1 e2 e3 e4 e5 e6 a1 a3; omega)]
  have a5 : (q0 + q1 + q2 + q3 + 256 * (q1 + q2 + q3 + q4) + 65536 * (q2 + q3 + q4 + q5) + 16777216 * (q3 + q4 + q5 + q6)) + 4294967296 * (r4 + r5 + r6 + q7) + (r4 + r5 + r6 + q7) = (q0 + (q1 + (q2 + (q3 + (q4 + (q5 + (q6 + (q7 + 0)))))))) + 128 * (2 * (q1 + q2 + q3 + q4) + 512 * (q2 + q3 + q4 + q5) + 131072 * (q3 + q4 + q5 + q6) + 33554432 * (r4 + r5 + r6 + q7) + 2 * (r5 + r6 + q7)) := by clear a1 a3 e1 e2 e3 h0 h1 h2 h3 h4 h5 h6 h7; generalize hR : r4 + r5 + r6 + q7 = R; have hR2 : R = q4 + q5 + q6 + q7 + 256 * (r5 + r6 + q7) := (by rw [← hR, e4]; omega); clear hR e4 e5 e6; omega
  rw [a5, Nat.add_mul_mod_self_left, Nat.mod_eq_of_lt (by clear a1 a3 a5 e1 e2 e3 e4 e5 e6; omega)]
theorem fold8q {q0 q1 q2 q3 q4 q5 q6 q7 : Nat} (h0 : q0 ≤ 8) (h1 : q1 ≤ 8) (h2 : q2 ≤ 8) (h3 : q3 ≤ 8) (h4 : q4 ≤ 8) (h5 : q5 ≤ 8) (h6 : q6 ≤ 8) (h7 : q7 ≤ 8) :
    (fun y : Nat => (y + y / 65536 + (y + y / 65536) / 4294967296) % 128) (q0 + 256 * (q1 + 256 * (q2 + 256 * (q3 + 256 * (q4 + 256 * (q5 + 256 * (q6 + 256 * (q7 + 256 * 0))))))) + (q0 + 256 * (q1 + 256 * (q2 + 256 * (q3 + 256 * (q4 + 256 * (q5 + 256 * (q6 + 256 * (q7 + 256 * 0)))))))) / 256) = q0 + (q1 + (q2 + (q3 + (q4 + (q5 + (q6 + (q7 + 0))))))) :=
  fold8r h0 h1 h2 h3 h4 h5 h6 h7 rfl rfl rfl rfl rfl rfl
theorem fold8 (x : Nat) : (fun y : Nat => (y + y / 65536 + (y + y / 65536) / 4294967296) % 128) (pcS 8 x + pcS 8 x / 256) = psm 8 x := by
  have h0 := (b4 (x % 256) (by omega)).2.2.2.2
  have h1 := (b4 (x / 256 % 256) (by omega)).2.2.2.2
  have h2 := (b4 (x / 256 / 256 % 256) (by omega)).2.2.2.2
  have h3 := (b4 (x / 256 / 256 / 256 % 256) (by omega)).2.2.2.2
  have h4 := (b4 (x / 256 / 256 / 256 / 256 % 256) (by omega)).2.2.2.2
  have h5 := (b4 (x / 256 / 256 / 256 / 256 / 256 % 256) (by omega)).2.2.2.2
  have h6 := (b4 (x / 256 / 256 / 256 / 256 / 256 / 256 % 256) (by omega)).2.2.2.2
  have h7 := (b4 (x / 256 / 256 / 256 / 256 / 256 / 256 / 256 % 256) (by omega)).2.2.2.2
  simp only [pcS, psm]
  generalize pcB (x % 256) = q0 at *
  generalize pcB (x / 256 % 256) = q1 at *
  generalize pcB (x / 256 / 256 % 256) = q2 at *
  generalize pcB (x / 256 / 256 / 256 % 256) = q3 at *
  generalize pcB (x / 256 / 256 / 256 / 256 % 256) = q4 at *
  generalize pcB (x / 256 / 256 / 256 / 256 / 256 % 256) = q5 at *
  generalize pcB (x / 256 / 256 / 256 / 256 / 256 / 256 % 256) = q6 at *
  generalize pcB (x / 256 / 256 / 256 / 256 / 256 / 256 / 256 % 256) = q7 at *
  exact fold8q h0 h1 h2 h3 h4 h5 h6 h7
theorem smN_add (f : Nat → Nat) (k : Nat) : ∀ m, smN f (k + m) = smN f k + smN (fun i => f (k + i)) m
  | 0 => rfl
  | m + 1 => by
    show smN f (k + m) + f (k + m) = smN f k + (smN (fun i => f (k + i)) m + f (k + m))
    rw [smN_add f k m, Nat.add_assoc]
theorem smN_ext {f g : Nat → Nat} : ∀ n, (∀ i, i < n → f i = g i) → smN f n = smN g n
  | 0, _ => rfl
  | n + 1, h => by
    show smN f n + f n = smN g n + g n
    rw [smN_ext n (fun i hi => h i (by omega)), h n (by omega)]
theorem psm_bits : ∀ n x, smN (fun i => x / 2 ^ i % 2) (8 * n) = psm n x
  | 0, _ => rfl
  | n + 1, x => by
    rw [show 8 * (n + 1) = 8 + 8 * n by omega, smN_add]
    show _ = pcB (x % 256) + psm n (x / 256)
    rw [← psm_bits n (x / 256)]
    have e1 : smN (fun i => x / 2 ^ i % 2) 8 = pcB (x % 256) := by
      show 0 + x / 2 ^ 0 % 2 + x / 2 ^ 1 % 2 + x / 2 ^ 2 % 2 + x / 2 ^ 3 % 2 + x / 2 ^ 4 % 2 + x / 2 ^ 5 % 2 + x / 2 ^ 6 % 2 + x / 2 ^ 7 % 2 = _
      unfold pcB
      omega
    have e2 : smN (fun i => x / 2 ^ (8 + i) % 2) (8 * n) = smN (fun i => x / 256 / 2 ^ i % 2) (8 * n) := smN_ext _ fun i _ => by
      rw [Nat.pow_add, ← Nat.div_div_eq_div_mul]
    rw [e1, e2]
theorem cntB_sm {p : Nat → Bool} {f : Nat → Nat} : ∀ n, (∀ i, i < n → f i = if p i then 1 else 0) → cntB p n = smN f n
  | 0, _ => rfl
  | n + 1, h => by
    show (if p n then cntB p n + 1 else cntB p n) = smN f n + f n
    rw [h n (by omega), cntB_sm n (fun i hi => h i (by omega))]
    split <;> rfl
