theorem tb_mod (x j i : Nat) : (x % 2 ^ j).testBit i = (decide (i < j) && x.testBit i) := by rw [Nat.testBit_mod_two_pow]
theorem tb_div (x j i : Nat) : (x / 2 ^ j).testBit i = x.testBit (i + j) := by rw [Nat.testBit_div_two_pow]
theorem tb_mul (x j i : Nat) : (x * 2 ^ j).testBit i = (decide (j ≤ i) && x.testBit (i - j)) := by rw [← Nat.shiftLeft_eq, Nat.testBit_shiftLeft]
/-- the flow's cell q -/
def fc (F q : Nat) : Nat := F / 2 ^ (64 * q) % 2 ^ 64
theorem fc_lt (F q : Nat) : fc F q < 2 ^ 64 := Nat.mod_lt _ (Nat.two_pow_pos _)
theorem fc_tb (F q i : Nat) : (fc F q).testBit i = (decide (i < 64) && F.testBit (i + 64 * q)) := by rw [fc, tb_mod, tb_div]
theorem fc_cut (F q cnt : Nat) : fc (F % 2 ^ cnt) q = (fc F q &&& (2 ^ min (cnt - 64 * q) 64 - 1)) := by
  rw [Nat.and_two_pow_sub_one_eq_mod]
  apply Nat.eq_of_testBit_eq
  intro i
  rw [fc_tb, tb_mod, tb_mod, fc_tb]
  by_cases h1 : i < 64
  · by_cases h2 : i + 64 * q < cnt
    · simp [h1, h2, show i < min (cnt - 64 * q) 64 by omega]
    · simp [h1, h2, show ¬ i < min (cnt - 64 * q) 64 by omega]
  · simp [h1]
theorem fc_or (F G q : Nat) : fc (F ||| G) q = (fc F q ||| fc G q) := by
  apply Nat.eq_of_testBit_eq
  intro i
  rw [fc_tb, Nat.testBit_or, Nat.testBit_or, fc_tb, fc_tb, Bool.and_or_distrib_left]
theorem tb_ge {x n i : Nat} (h : x < 2 ^ n) (hi : n ≤ i) : x.testBit i = false := Nat.testBit_lt_two_pow (Nat.lt_of_lt_of_le h (Nat.pow_le_pow_right (by decide) hi))
theorem fc_add {b en c s cnt q : Nat} (he : en = 64 * c + s) (hs : s < 64) (hb : b < 2 ^ cnt) (hc : cnt ≤ 64) : fc (b * 2 ^ en) q = if q = c then b * 2 ^ s % 2 ^ 64 else if q = c + 1 ∧ 64 < s + cnt then b / 2 ^ (64 - s) else 0 := by
  apply Nat.eq_of_testBit_eq
  intro i
  rw [fc_tb, tb_mul]
  by_cases h1 : q = c
  · subst h1
    rw [if_pos rfl, tb_mod, tb_mul]
    by_cases h2 : s ≤ i
    · simp [h2, show en ≤ i + 64 * q by omega, show i + 64 * q - en = i - s by omega]
    · simp [h2, show ¬ en ≤ i + 64 * q by omega]
  · rw [if_neg h1]
    by_cases h3 : q = c + 1 ∧ 64 < s + cnt
    · rw [if_pos h3, tb_div]
      obtain ⟨rfl, h4⟩ := h3
      by_cases h5 : i < 64
      · simp [h5, show en ≤ i + 64 * (c + 1) by omega, show i + 64 * (c + 1) - en = i + (64 - s) by omega]
      · rw [tb_ge hb (show cnt ≤ i + (64 - s) by omega)]
        simp [h5]
    · rw [if_neg h3, Nat.zero_testBit]
      by_cases h5 : i < 64
      · by_cases h6 : q < c
        · simp [show ¬ en ≤ i + 64 * q by omega]
        · rw [tb_ge hb (show cnt ≤ i + 64 * q - en by omega)]
          simp
      · simp [h5]
theorem fc_read {F start c s cnt : Nat} (he : start = 64 * c + s) (hs : s < 64) (hc : cnt ≤ 64) : F / 2 ^ start % 2 ^ cnt = ((if 64 < s + cnt then fc F c / 2 ^ s ||| (fc F (c + 1) * 2 ^ (64 - s)) % 2 ^ 64 else fc F c / 2 ^ s) &&& (2 ^ cnt - 1)) := by
  rw [Nat.and_two_pow_sub_one_eq_mod]
  apply Nat.eq_of_testBit_eq
  intro i
  rw [tb_mod, tb_mod, tb_div]
  by_cases h1 : i < cnt
  · by_cases h2 : 64 < s + cnt
    · rw [if_pos h2, Nat.testBit_or, tb_div, fc_tb, tb_mod, tb_mul, fc_tb]
      by_cases h3 : i + s < 64
      · simp [h1, h3, show ¬ (64 - s ≤ i) by omega, show i + start = i + s + 64 * c by omega]
      · simp [h1, h3, show (64 - s ≤ i) by omega, show i < 64 by omega, show i - (64 - s) < 64 by omega, show i + start = i - (64 - s) + 64 * (c + 1) by omega]
    · rw [if_neg h2, tb_div, fc_tb]
      simp [h1, show i + s < 64 by omega, show i + start = i + s + 64 * c by omega]
  · simp [h1]
theorem fc_big {F q : Nat} (hF : F < 2 ^ 320) (hq : 5 ≤ q) : fc F q = 0 := by
  unfold fc
  rw [Nat.div_eq_of_lt (Nat.lt_of_lt_of_le hF (Nat.pow_le_pow_right (by decide) (by omega)))]
