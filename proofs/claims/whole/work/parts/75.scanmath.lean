theorem pop_s (k n : Nat) : pop (k + 1) n = pop k n + gB n k := by
  show pop k n + n / 2 ^ k % 2 = pop k n + gB n k
  unfold gB
  rw [Nat.toNat_testBit]
theorem pop_cg {x y : Nat} : ∀ {k : Nat}, (∀ q, q < k → x.testBit q = y.testBit q) → pop k x = pop k y
  | 0, _ => rfl
  | k + 1, h => by
    rw [pop_s, pop_s, pop_cg (fun q hq => h q (by omega))]
    unfold gB
    rw [h k (Nat.lt_succ_self k)]
theorem pop_hi {x c : Nat} (hx : x < 2 ^ c) : ∀ d, pop (c + d) x = pop c x
  | 0 => rfl
  | d + 1 => by
    rw [← Nat.add_assoc, pop_s, pop_hi hx d]
    unfold gB
    rw [tb_ge hx (Nat.le_add_right c d)]
    rfl
def zOfs (m Y : Nat) : Nat → Nat
  | 0 => 0
  | k + 1 => zOfs m Y k + if gB Y k = mBeat m k then 0 else 1
theorem mBeat_ask : ∀ m, m < 4 → ∀ k, k < 6 * rFoot m → mBeat m k = gB (zAsk m) k := by decide +kernel
theorem zOfs_pop {m Y : Nat} (hm : m < 4) : ∀ k, k ≤ 6 * rFoot m → zOfs m Y k = pop k (Y ^^^ zAsk m)
  | 0, _ => rfl
  | k + 1, h => by
    rw [pop_s, ← zOfs_pop hm k (by omega)]
    show zOfs m Y k + (if gB Y k = mBeat m k then 0 else 1) = _
    rw [mBeat_ask m hm k (by omega)]
    congr 1
    unfold gB
    rw [Nat.testBit_xor]
    have hb : ∀ a b : Bool, (if a.toNat = b.toNat then 0 else 1) = (a ^^ b).toNat := by decide
    exact hb _ _
theorem zOfs_off {m Y c : Nat} (hm : m < 4) (hc : c ≤ 6 * rFoot m) : zOfs m Y c = zOffM m (Y % 2 ^ c) c := by
  have hf := rFoot_p m
  obtain ⟨d, hd⟩ : ∃ d, 18 = c + d := ⟨18 - c, by omega⟩
  unfold zOffM
  rw [zOfs_pop hm c hc, hd, pop_hi (Nat.mod_lt _ (Nat.two_pow_pos c)) d]
  refine pop_cg (fun q hq => ?_)
  rw [tb_mod, Nat.testBit_xor, Nat.testBit_xor, tb_mod, decide_eq_true hq]
  simp
theorem zOfs_le (m Y : Nat) : ∀ k, zOfs m Y k ≤ k
  | 0 => Nat.le_refl _
  | k + 1 => by
    have h := zOfs_le m Y k
    unfold zOfs
    split <;> omega
theorem gB_acc (Y k : Nat) : Y % 2 ^ k ||| gB Y k * 2 ^ k = Y % 2 ^ (k + 1) := by
  apply Nat.eq_of_testBit_eq
  intro q
  rw [Nat.testBit_or, tb_mul, tb_mod, tb_mod]
  by_cases h1 : q < k
  · rw [decide_eq_true h1, decide_eq_true (show q < k + 1 by omega), decide_eq_false (show ¬ k ≤ q by omega)]
    simp
  · by_cases h2 : q = k
    · subst h2
      rw [decide_eq_false h1, decide_eq_true (Nat.lt_succ_self q), decide_eq_true (Nat.le_refl q), Nat.sub_self]
      unfold gB
      cases Y.testBit q <;> rfl
    · rw [decide_eq_false h1, decide_eq_false (show ¬ q < k + 1 by omega), decide_eq_true (show k ≤ q by omega)]
      have h3 : gB Y k < 2 ^ 1 := by have := gB_lt Y k; omega
      rw [tb_ge h3 (show 1 ≤ q - k by omega)]
      rfl
theorem zX_eq (A b s c : Nat) : (A ||| b * 2 ^ (s + c)) / 2 ^ s = A / 2 ^ s ||| b * 2 ^ c := by
  apply Nat.eq_of_testBit_eq
  intro q
  rw [tb_div, Nat.testBit_or, Nat.testBit_or, tb_div, tb_mul, tb_mul]
  congr 1
  rw [show q + s - (s + c) = q - c by omega]
  congr 1
  exact decide_eq_decide.mpr ⟨fun h => by omega, fun h => by omega⟩
theorem zY_eq (P : Poem) (i : Nat) : zFl P i / 2 ^ zSt P i ||| zb P i * 2 ^ zCa P i = zFl P (i + 1) / 2 ^ zSt P i := by
  show _ = (zFl P i ||| zb P i * 2 ^ zBg P i) / 2 ^ zSt P i
  rw [zBg_eq, zX_eq]
theorem zX_lt {P : Poem} {nW nL i : Nat} (hP : zOk P nW nL) (hi : i ≤ nL) : zFl P i / 2 ^ zSt P i < 2 ^ zCa P i := by
  have h := zFl_lt hP i hi
  rw [zBg_eq, Nat.pow_add] at h
  exact Nat.div_lt_of_lt_mul h
theorem gB_div (N s q t : Nat) : gB (N / 2 ^ s) (t + q) = gB (N / 2 ^ (s + t)) q := by
  unfold gB
  rw [tb_div, tb_div, show t + q + s = q + (s + t) by omega]
theorem zStay_6 {P : Poem} {nW i : Nat} (hi : zLok P nW i) : zStay P i ≤ 6 * rFoot (zM P i) := by
  have h1 : zStay P i ≤ zRm P i := Nat.min_le_right _ _
  have h2 : zRm P i ≤ rFoot (zM P i) * 6 := Nat.mul_le_mul_left _ hi.2.2.1
  omega
theorem zCa_le {P : Poem} {nW nL i : Nat} (hP : zOk P nW nL) (hi : i ≤ nL) : zCa P i ≤ 32 * i := by
  have h1 := zBg_le hP i hi
  have h2 := zBg_eq P i
  omega
theorem rm_copy {p : Program} {l : Launch} {e : Env} {R : Room} {s : State} {mm : MethodId} {args : Array Value} {below : List Frame} {meth : Method} {c : Code} {cc : ByteArray} {nLo : Nat} {own : String} {D : va_G} {A : Nat → Prop} {Q : State → Prop} {M : rMem} {k n pc : Nat} {lv : List (Option Value)} {st : List Value} {m : Nat} {ad : Nat → Nat} {Fn : Nat → Nat → Int32} {t lo : Int32} {nW nL : Nat} (F : rF p l e R s mm args below meth c cc nLo own D A) (hA : mA D M m ad Fn t nW nL lo) {i q sp z : Nat} (hq : q < 17)
    (hw : Cond.methodLink own i arraycopyName ∈ wsL_law) (hw2 : Cond.native arraycopyName ∈ wsL_law) (hw3 : Cond.static arraycopyName ∈ wsL_law) (hw4 : Cond.initialized "java/lang/System" ∈ wsL_law) (h4 : sp + z ≤ mln q) (hfr : 1 ≤ R.frames) (hlo : (st.map fun v => v.category).sum + (nativeFrameWords "java/lang/System" "arraycopy" 5 + 11) ≤ R.locals) (hd : decode cc pc = .ok (.invokestatic i, 3))
    (kk : ∀ M2 : rMem, mA D M2 m ad (sf Fn q (va_cpy (Fn q) (Fn q) sp 0 z)) t nW nL lo → rG p l e R s mm args below meth c D A nLo Q M2 k n lv (pc + 3) st) : rG p l e R s mm args below meth c D A nLo Q M k n lv pc (.int (nI z) :: .int (nI 0) :: .ref (ad q) :: .int (nI sp) :: .ref (ad q) :: st) :=
  rg_copyI F (hA.2.1 q hq) hw hw2 hw3 hw4 h4 (by omega) (mln_lt q) hfr hlo hd (kk _ (hA.put hq _))
