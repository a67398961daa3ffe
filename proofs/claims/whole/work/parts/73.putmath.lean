/-! the bits that the reference puts behind one another -/
def gB (N q : Nat) : Nat := (N.testBit q).toNat
def gN (X B U o sz : Nat) : Nat := X ||| (B ||| U * 2 ^ o) * 2 ^ sz
theorem gN_tb (X B U o sz q : Nat) : (gN X B U o sz).testBit q = (X.testBit q || (decide (sz ≤ q) && (B.testBit (q - sz) || (decide (o ≤ q - sz) && U.testBit (q - sz - o))))) := by
  unfold gN
  rw [Nat.testBit_or, tb_mul, Nat.testBit_or, tb_mul]
theorem g_start (X B T o sz : Nat) : gN X B (T % 2 ^ 0) o sz = X ||| B * 2 ^ sz := by
  unfold gN
  rw [Nat.pow_zero, Nat.mod_one, Nat.zero_mul, Nat.or_zero]
theorem g_end (X B T o sz S : Nat) (h : T < 2 ^ S) : gN X B (T % 2 ^ S) o sz = X ||| (B ||| T * 2 ^ o) * 2 ^ sz := by
  unfold gN
  rw [Nat.mod_eq_of_lt h]
theorem gB_lt (N q : Nat) : gB N q ≤ 1 := Bool.toNat_le _
theorem g_melt0 {X B T o sz q : Nat} (h : q < sz + o) : gB (gN X B (T % 2 ^ 1) o sz) q = gB (X ||| B * 2 ^ sz) q := by
  unfold gB
  rw [gN_tb, Nat.testBit_or, tb_mul]
  by_cases h1 : sz ≤ q
  · rw [decide_eq_true h1, decide_eq_false (show ¬ o ≤ q - sz by omega)]
    simp
  · rw [decide_eq_false h1]
    simp
theorem g_melt1 (X B T o sz : Nat) : gB (gN X B (T % 2 ^ 1) o sz) (sz + o) = gB (X ||| B * 2 ^ sz) (sz + o) ||| T % 2 := by
  have e1 : T % 2 = (decide (T % 2 = 1)).toNat := by
    rcases Nat.mod_two_eq_zero_or_one T with h | h <;> rw [h] <;> rfl
  have e2 : (T % 2 ^ 1).testBit 0 = decide (T % 2 = 1) := by
    rw [Nat.testBit_zero]
    show decide (T % 2 % 2 = 1) = _
    rw [Nat.mod_mod]
  have e3 : ∀ a b : Bool, (a || b).toNat = a.toNat ||| b.toNat := by decide
  unfold gB
  rw [gN_tb, Nat.testBit_or, tb_mul, decide_eq_true (show sz ≤ sz + o by omega), show sz + o - sz = o by omega, decide_eq_true (Nat.le_refl o), Nat.sub_self, e2]
  refine Eq.trans ?_ (congrArg (fun z => (X.testBit (sz + o) || true && B.testBit o).toNat ||| z) e1.symm)
  rw [← e3]
  simp only [Bool.true_and]
  rw [Bool.or_assoc]
theorem g_step0 {X B T o sz k q : Nat} (h : q < sz + o + k) : gB (gN X B (T % 2 ^ (k + 1)) o sz) q = gB (gN X B (T % 2 ^ k) o sz) q := by
  unfold gB
  rw [gN_tb, gN_tb, tb_mod, tb_mod]
  by_cases h1 : sz ≤ q
  · by_cases h2 : o ≤ q - sz
    · rw [decide_eq_true (show q - sz - o < k + 1 by omega), decide_eq_true (show q - sz - o < k by omega)]
    · rw [decide_eq_false h2]
      simp
  · rw [decide_eq_false h1]
    simp
theorem g_step1 {X B T o sz k : Nat} (hX : X < 2 ^ sz) (hB : B < 2 ^ (o + k)) : gB (gN X B (T % 2 ^ (k + 1)) o sz) (sz + o + k) = T / 2 ^ k % 2 := by
  unfold gB
  rw [gN_tb, tb_mod, tb_ge hX (show sz ≤ sz + o + k by omega), decide_eq_true (show sz ≤ sz + o + k by omega), show sz + o + k - sz = o + k by omega, tb_ge hB (Nat.le_refl _), decide_eq_true (show o ≤ o + k by omega), show o + k - o = k by omega, decide_eq_true (Nat.lt_succ_self k)]
  simp only [Bool.false_or, Bool.true_and]
  exact Nat.toNat_testBit T k
