theorem dd_1 : ∀ c, c < 41 → ∀ a, a < 50 → ∀ b, b < 10 → FP.ddiv (FP.i2d (nI (50 * c + a))) (FP.i2d (nI (b + 1))) &&& 0x7fffffffffffffff ≤ 0x7ff0000000000000 := by decide +kernel
theorem dd_n {a b : Nat} (ha : a ≤ 2000) (hb : 0 < b) (hb2 : b ≤ 10) : vf_n64 (FP.ddiv (FP.i2d (nI a)) (FP.i2d (nI b))) := by
  have h := dd_1 (a / 50) (by omega) (a % 50) (Nat.mod_lt _ (by decide)) (b - 1) (by omega)
  rw [Nat.div_add_mod, Nat.sub_add_cancel hb] at h
  exact h
def zMean (P : Poem) (nL : Nat) : UInt64 := if 0 < nL then FP.ddiv (FP.i2d (nI (zAll P nL))) (FP.i2d (nI nL)) else FP.dconst0
