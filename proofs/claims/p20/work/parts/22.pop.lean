def pb1 (m n : Nat) : Nat := n - (n / 2 ^ 1 &&& m)
def pb2 (m n : Nat) : Nat := (n &&& m) + (n / 2 ^ 2 &&& m)
def pb3 (m n : Nat) : Nat := n + n / 2 ^ 4 &&& m
def pop : Nat → Nat → Nat
  | 0, _ => 0
  | k + 1, n => pop k n + n / 2 ^ k % 2
theorem pn_split {a b m m' : Nat} (ha : a < 256) (hm : m < 256) : (a + 256 * b) &&& (m + 256 * m') = (a &&& m) + 256 * (b &&& m') := by
  have h1 : ((a + 256 * b) &&& (m + 256 * m')) % 2 ^ 8 = a &&& m := by
    rw [Nat.and_mod_two_pow, show (a + 256 * b) % 2 ^ 8 = a by omega, show (m + 256 * m') % 2 ^ 8 = m by omega]
  have h2 : ((a + 256 * b) &&& (m + 256 * m')) / 2 ^ 8 = b &&& m' := by
    rw [Nat.and_div_two_pow, show (a + 256 * b) / 2 ^ 8 = b by omega, show (m + 256 * m') / 2 ^ 8 = m' by omega]
  have := Nat.div_add_mod ((a + 256 * b) &&& (m + 256 * m')) (2 ^ 8)
  rw [h1, h2] at this
  omega
theorem pn_d1 : ∀ a, a < 256 → ∀ t, t < 2 → (a / 2 + 128 * t) &&& 85 = (a / 2 &&& 85) := by decide +kernel
theorem pn_d2 : ∀ a, a < 256 → ∀ t, t < 4 → (a / 4 + 64 * t) &&& 51 = (a / 4 &&& 51) := by decide +kernel
theorem pn_d3 : ∀ a, a < 69 → ∀ t, t < 5 → (a + a / 16 + 16 * t) &&& 15 = (a + a / 16 &&& 15) := by decide +kernel
theorem pn_1 {a b m' : Nat} (ha : a < 256) : pb1 (85 + 256 * m') (a + 256 * b) = pb1 85 a + 256 * pb1 m' b := by
  unfold pb1
  rw [show (a + 256 * b) / 2 ^ 1 = (a / 2 + 128 * (b % 2)) + 256 * (b / 2) by omega, pn_split (by omega) (by omega), pn_d1 a ha _ (Nat.mod_lt _ (by decide)), Nat.pow_one]
  have h1 : (a / 2 &&& 85) ≤ a / 2 := Nat.and_le_left
  have h2 : (b / 2 &&& m') ≤ b / 2 := Nat.and_le_left
  omega
theorem pn_2 {a b m' : Nat} (ha : a < 256) : pb2 (51 + 256 * m') (a + 256 * b) = pb2 51 a + 256 * pb2 m' b := by
  unfold pb2
  rw [show (a + 256 * b) / 2 ^ 2 = (a / 4 + 64 * (b % 4)) + 256 * (b / 4) by omega, pn_split (a := a / 4 + 64 * (b % 4)) (by omega) (by omega), pn_d2 a ha _ (Nat.mod_lt _ (by decide)), pn_split ha (by omega)]
  show _ = (a &&& 51) + (a / 4 &&& 51) + 256 * ((b &&& m') + (b / 4 &&& m'))
  omega
theorem pn_3 {a b m' : Nat} (ha : a < 69) (hb : b % 16 < 5) : pb3 (15 + 256 * m') (a + 256 * b) = pb3 15 a + 256 * pb3 m' b := by
  unfold pb3
  rw [show (a + 256 * b) + (a + 256 * b) / 2 ^ 4 = (a + a / 16 + 16 * (b % 16)) + 256 * (b + b / 16) by omega, pn_split (by omega) (by omega), pn_d3 a ha _ hb]
theorem pn_b : ∀ a, a < 256 → pb1 85 a < 256 ∧ pb2 51 (pb1 85 a) < 69 ∧ pb2 51 (pb1 85 a) % 16 < 5 ∧ pb3 15 (pb2 51 (pb1 85 a)) = pop 8 a ∧ pop 8 a ≤ 8 := by decide +kernel
theorem pn_cI : ∀ c, c < 4 → pb2 13107 (pb1 21845 c) % 16 < 5 ∧ pb3 3855 (pb2 13107 (pb1 21845 c)) = pop 2 c ∧ pop 2 c ≤ 2 := by decide +kernel
theorem pn_cL : ∀ c, c < 4 → pb2 56294995342131 (pb1 93824992236885 c) % 16 < 5 ∧ pb3 16557351571215 (pb2 56294995342131 (pb1 93824992236885 c)) = pop 2 c ∧ pop 2 c ≤ 2 := by decide +kernel
theorem pn_pop8 (a y : Nat) (ha : a < 256) : ∀ k, pop (8 + k) (a + 256 * y) = pop 8 a + pop k y
  | 0 => by
    simp only [pop, Nat.add_zero, Nat.reducePow]
    omega
  | k + 1 => by
    show pop (8 + k) (a + 256 * y) + (a + 256 * y) / 2 ^ (8 + k) % 2 = pop 8 a + (pop k y + y / 2 ^ k % 2)
    rw [pn_pop8 a y ha k, Nat.pow_add, ← Nat.div_div_eq_div_mul, show (a + 256 * y) / 2 ^ 8 = y by omega]
    omega
theorem pn_pop (a b c : Nat) (ha : a < 256) (hb : b < 256) (_ : c < 4) : pop 18 (a + 256 * (b + 256 * c)) = pop 8 a + pop 8 b + pop 2 c := by
  have h1 := pn_pop8 a (b + 256 * c) ha 10
  have h2 := pn_pop8 b c hb 2
  rw [show 8 + 10 = 18 from rfl] at h1
  rw [show 8 + 2 = 10 from rfl] at h2
  omega
theorem pn_x (n M1 M2 M3 : Nat) (hn : n < 262144) (m1 m2 m3 : Nat) (e1 : M1 = 85 + 256 * (85 + 256 * m1)) (e2 : M2 = 51 + 256 * (51 + 256 * m2)) (e3 : M3 = 15 + 256 * (15 + 256 * m3)) (hc : ∀ c, c < 4 → pb2 m2 (pb1 m1 c) % 16 < 5 ∧ pb3 m3 (pb2 m2 (pb1 m1 c)) = pop 2 c ∧ pop 2 c ≤ 2) :
    ∃ A B C : Nat, A ≤ 8 ∧ B ≤ 8 ∧ C ≤ 2 ∧ pop 18 n = A + B + C ∧ pb3 M3 (pb2 M2 (pb1 M1 n)) = A + 256 * (B + 256 * C) := by
  obtain ⟨a, b, c, ha, hb, hcc, rfl⟩ : ∃ a b c : Nat, a < 256 ∧ b < 256 ∧ c < 4 ∧ n = a + 256 * (b + 256 * c) := ⟨n % 256, n / 256 % 256, n / 65536, by omega, by omega, by omega, by omega⟩
  obtain ⟨a1, a2, a3, a4, a5⟩ := pn_b a ha
  obtain ⟨b1, b2, b3, b4, b5⟩ := pn_b b hb
  obtain ⟨c3, c4, c5⟩ := hc c hcc
  refine ⟨pop 8 a, pop 8 b, pop 2 c, a5, b5, c5, pn_pop a b c ha hb hcc, ?_⟩
  subst e1 e2 e3
  rw [pn_1 ha, pn_1 hb, pn_2 a1, pn_2 b1, pn_3 a2 (by omega), pn_3 b2 (by omega), a4, b4, c4]
theorem pop_le (k n : Nat) : pop k n ≤ k := by
  induction k with
  | zero => exact Nat.le_refl _
  | succ k ih =>
    have : n / 2 ^ k % 2 < 2 := Nat.mod_lt _ (by decide)
    show pop k n + n / 2 ^ k % 2 ≤ k + 1
    omega
theorem pn_I (n : Nat) (hn : n < 262144) : ∃ x y : Nat, x = pb3 252645135 (pb2 858993459 (pb1 1431655765 n)) ∧ y = x + x / 2 ^ 8 ∧ x < 2 ^ 20 ∧ y < 2 ^ 20 ∧ (y + y / 2 ^ 16 &&& 63) = pop 18 n := by
  obtain ⟨A, B, C, hA, hB, hC, hp, hx⟩ := pn_x n 1431655765 858993459 252645135 hn 21845 13107 3855 rfl rfl rfl pn_cI
  refine ⟨_, _, rfl, rfl, by rw [hx]; omega, by rw [hx]; omega, ?_⟩
  have e1 : (A + 256 * (B + 256 * C)) / 2 ^ 8 = B + 256 * C := by omega
  have e2 : (A + 256 * (B + 256 * C) + (B + 256 * C)) / 2 ^ 16 = C := by omega
  rw [hx, hp, e1, e2, show (63 : Nat) = 2 ^ 6 - 1 from rfl, Nat.and_two_pow_sub_one_eq_mod]
  omega
theorem pn_L (n : Nat) (hn : n < 262144) : ∃ x y z : Nat, x = pb3 1085102592571150095 (pb2 3689348814741910323 (pb1 6148914691236517205 n)) ∧ y = x + x / 2 ^ 8 ∧ z = y + y / 2 ^ 16 ∧ x < 2 ^ 20 ∧ y < 2 ^ 20 ∧ z < 2 ^ 20 ∧ (z + z / 2 ^ 32 &&& 127) = pop 18 n := by
  obtain ⟨A, B, C, hA, hB, hC, hp, hx⟩ := pn_x n 6148914691236517205 3689348814741910323 1085102592571150095 hn 93824992236885 56294995342131 16557351571215 rfl rfl rfl pn_cL
  refine ⟨_, _, _, rfl, rfl, rfl, by rw [hx]; omega, by rw [hx]; omega, by rw [hx]; omega, ?_⟩
  have e1 : (A + 256 * (B + 256 * C)) / 2 ^ 8 = B + 256 * C := by omega
  have e2 : (A + 256 * (B + 256 * C) + (B + 256 * C)) / 2 ^ 16 = C := by omega
  have e3 : (A + 256 * (B + 256 * C) + (B + 256 * C) + C) / 2 ^ 32 = 0 := by omega
  rw [hx, hp, e1, e2, e3, show (127 : Nat) = 2 ^ 7 - 1 from rfl, Nat.and_two_pow_sub_one_eq_mod]
  omega
