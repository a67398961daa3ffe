/-! the reference's memory: m the object, ad k where its k-th row of numbers lies, F k what it holds -/
def mln : Nat → Nat
  | 0 => 30 | 1 => 30 | 2 => 30 | 3 => 30 | 4 => 30 | 5 => 10 | 6 => 10 | 7 => 10 | 8 => 10 | 9 => 80 | 10 => 10 | 11 => 10 | 12 => 10 | 13 => 10 | 14 => 10 | 15 => 10
  | _ => 320
abbrev mO (ad : Nat → Nat) (t : Int32) (nW nL : Nat) (lo : Int32) : List Value := [.int t, .int (nI nW), .ref (ad 0), .ref (ad 1), .ref (ad 2), .ref (ad 3), .ref (ad 4), .int (nI nL), .ref (ad 5), .ref (ad 6), .ref (ad 7), .ref (ad 8), .ref (ad 9), .ref (ad 10), .ref (ad 11), .ref (ad 12), .ref (ad 13), .ref (ad 14), .ref (ad 15), .ref (ad 16), .int lo]
def mA (D : va_G) (M : rMem) (m : Nat) (ad : Nat → Nat) (F : Nat → Nat → Int32) (t : Int32) (nW nL : Nat) (lo : Int32) : Prop :=
  M m = some (.inr (5, mO ad t nW nL lo)) ∧ (∀ k, k < 17 → M (ad k) = some (.inl (D.1 6, (mln k, .inl (F k))))) ∧ ∀ j k, j < 17 → k < 17 → j ≠ k → ad j ≠ ad k
def sf (F : Nat → Nat → Int32) (k : Nat) (g : Nat → Int32) : Nat → Nat → Int32 := fun q => match Nat.beq q k with
  | true => g
  | false => F q
theorem sf_eq (F : Nat → Nat → Int32) (k : Nat) (g : Nat → Int32) : sf F k g k = g := by
  unfold sf
  rw [show Nat.beq k k = true from Nat.beq_refl k]
theorem sf_ne (F : Nat → Nat → Int32) {k q : Nat} (g : Nat → Int32) (h : q ≠ k) : sf F k g q = F q := by
  unfold sf
  cases e : Nat.beq q k with
  | true => exact absurd (Nat.eq_of_beq_eq_true e) h
  | false => rfl
theorem mA.put {D : va_G} {M : rMem} {m : Nat} {ad : Nat → Nat} {F : Nat → Nat → Int32} {t : Int32} {nW nL : Nat} {lo : Int32} (h : mA D M m ad F t nW nL lo) {k : Nat} (hk : k < 17) (g : Nat → Int32) : mA D (mset M (ad k) (.inl (D.1 6, (mln k, .inl g)))) m ad (sf F k g) t nW nL lo := by
  refine ⟨mset_keep h.1 (mne_oa h.1 (h.2.1 k hk)), fun q hq => ?_, h.2.2⟩
  by_cases e : q = k
  · subst e
    rw [sf_eq]
    exact mset_eq
  · rw [sf_ne F g e]
    exact mset_keep (h.2.1 q hq) (h.2.2 q k hq hk e)
theorem mA.obj {D : va_G} {M : rMem} {m : Nat} {ad : Nat → Nat} {F : Nat → Nat → Int32} {t : Int32} {nW nL : Nat} {lo : Int32} (h : mA D M m ad F t nW nL lo) (t2 : Int32) (nW2 nL2 : Nat) (lo2 : Int32) : mA D (mset M m (.inr (5, mO ad t2 nW2 nL2 lo2))) m ad F t2 nW2 nL2 lo2 :=
  ⟨mset_eq, fun k hk => mset_keep (h.2.1 k hk) (mne_ao (h.2.1 k hk) h.1), h.2.2⟩
/-- the rows that a scan does not write are the same -/
def fe (F F' : Nat → Nat → Int32) : Prop := ∀ k, k < 10 → F' k = F k
theorem fe.rf (F : Nat → Nat → Int32) : fe F F := fun _ _ => rfl
theorem fe.tr {F F' F'' : Nat → Nat → Int32} (h : fe F F') (h2 : fe F' F'') : fe F F'' := fun k hk => (h2 k hk).trans (h k hk)
theorem fe.sf {F F' : Nat → Nat → Int32} (h : fe F F') {k : Nat} (hk : 10 ≤ k) (g : Nat → Int32) : fe F (sf F' k g) := fun q hq => (sf_ne F' g (by omega)).trans (h q hq)
/-- they are the poem -/
def mB (P : Poem) (nW nL : Nat) (F : Nat → Nat → Int32) : Prop :=
  (∀ w, w < nW → F 0 w = nI (zS P w) ∧ F 1 w = nI (zT P w) ∧ F 2 w = nI (zV P w) ∧ F 3 w = nI (zE P w) ∧ F 4 w = nI (zO P w)) ∧ (∀ i, i < nL → F 5 i = nI (zM P i) ∧ F 6 i = nI (zF P i) ∧ F 7 i = nI (zK P i)) ∧
  (∀ i, i < nL → F 8 i = nI (zC P i)) ∧ (∀ i, nL ≤ i → i < 10 → F 8 i = nI 0) ∧ ∀ i, i < nL → ∀ j, j < zC P i → F 9 (8 * i + j) = nI (zR P i j)
theorem mB.fe {P : Poem} {nW nL : Nat} {F F' : Nat → Nat → Int32} (h : mB P nW nL F) (e : fe F F') : mB P nW nL F' := by
  have e0 := e 0 (by decide)
  have e1 := e 1 (by decide)
  have e2 := e 2 (by decide)
  have e3 := e 3 (by decide)
  have e4 := e 4 (by decide)
  have e5 := e 5 (by decide)
  have e6 := e 6 (by decide)
  have e7 := e 7 (by decide)
  have e8 := e 8 (by decide)
  have e9 := e 9 (by decide)
  unfold mB at h ⊢
  rw [e0, e1, e2, e3, e4, e5, e6, e7, e8, e9]
  exact h
/-- the reference stands for the poem -/
def mV (D : va_G) (M : rMem) (m : Nat) (P : Poem) (nW nL : Nat) (ad : Nat → Nat) (F : Nat → Nat → Int32) (t lo : Int32) : Prop := zOk P nW nL ∧ mA D M m ad F t nW nL lo ∧ mB P nW nL F
/-- what a scan leaves in the other rows -/
def mS (P : Poem) (n : Nat) (F : Nat → Nat → Int32) : Prop := ∀ i, i < n → F 10 i = nI (zo P i) ∧ F 11 i = nI (zCa P i) ∧ F 12 i = nI (zStay P i) ∧ F 13 i = nI (zBits P i) ∧ F 14 i = nI (zOff P i) ∧ F 15 i = nI (zTax P i)
section RMOD
variable {p : Program} {l : Launch} {e : Env} {R : Room} {s : State} {mm : MethodId} {args : Array Value} {below : List Frame} {meth : Method} {c : Code} {cc : ByteArray} {nLo : Nat} {own : String} {D : va_G} {A : Nat → Prop} {Q : State → Prop} {M : rMem} {k n pc : Nat} {lv lv' : List (Option Value)} {st : List Value}
variable {m : Nat} {ad : Nat → Nat} {Fn : Nat → Nat → Int32} {t lo : Int32} {nW nL : Nat}
theorem mln_lt (k : Nat) : mln k < 2 ^ 31 := by
  unfold mln
  split <;> decide
theorem rm_ld (F : rF p l e R s mm args below meth c cc nLo own D A) (hA : mA D M m ad Fn t nW nL lo) {q j : Nat} {x : Int32} (hq : q < 17) (hj : j < mln q) (hx : Fn q j = x) (hd : decode cc pc = .ok (.iaload, 1)) (kk : rG p l e R s mm args below meth c D A nLo Q M k n lv (pc + 1) (.int x :: st)) : rG p l e R s mm args below meth c D A nLo Q M k n lv pc (.int (nI j) :: .ref (ad q) :: st) :=
  rg_iald F (hA.2.1 q hq) hj (mln_lt q) hx hd kk
theorem rm_st (F : rF p l e R s mm args below meth c cc nLo own D A) (hA : mA D M m ad Fn t nW nL lo) {q j : Nat} {x : Int32} (hq : q < 17) (hj : j < mln q) (hd : decode cc pc = .ok (.iastore, 1)) (kk : ∀ M2 : rMem, mA D M2 m ad (sf Fn q (upd (Fn q) j x)) t nW nL lo → rG p l e R s mm args below meth c D A nLo Q M2 k n lv (pc + 1) st) : rG p l e R s mm args below meth c D A nLo Q M k n lv pc (.int x :: .int (nI j) :: .ref (ad q) :: st) :=
  rg_iast F (hA.2.1 q hq) hj (mln_lt q) hd (kk _ (hA.put hq _))
theorem rm_mem {M2 : rMem} {t2 lo2 : Int32} {nW2 nL2 : Nat} (hA : mA D M m ad Fn t nW nL lo) (h : M2 = mset M m (.inr (5, mO ad t2 nW2 nL2 lo2))) (kk : ∀ M3 : rMem, mA D M3 m ad Fn t2 nW2 nL2 lo2 → rG p l e R s mm args below meth c D A nLo Q M3 k n lv pc st) : rG p l e R s mm args below meth c D A nLo Q M2 k n lv pc st := by
  subst h
  exact kk _ (hA.obj _ _ _ _)
end RMOD
