/-! a new row of numbers beside the reference -/
def mN (D : va_G) (M : rMem) (m : Nat) (ad : Nat → Nat) (F : Nat → Nat → Int32) (t : Int32) (nW nL : Nat) (lo : Int32) (a N : Nat) (g : Nat → Int32) : Prop :=
  mA D M m ad F t nW nL lo ∧ M a = some (.inl (D.1 6, (N, .inl g))) ∧ ∀ k, k < 17 → ad k ≠ a
theorem mA.fresh {D : va_G} {M : rMem} {m : Nat} {ad : Nat → Nat} {F : Nat → Nat → Int32} {t : Int32} {nW nL : Nat} {lo : Int32} (h : mA D M m ad F t nW nL lo) {a : Nat} (ha : M a = none) (N : Nat) (g : Nat → Int32) : mN D (mset M a (.inl (D.1 6, (N, .inl g)))) m ad F t nW nL lo a N g :=
  ⟨⟨mset_keep h.1 (mne_none h.1 ha), fun k hk => mset_keep (h.2.1 k hk) (mne_none (h.2.1 k hk) ha), h.2.2⟩, mset_eq, fun k hk => mne_none (h.2.1 k hk) ha⟩
theorem mN.put {D : va_G} {M : rMem} {m : Nat} {ad : Nat → Nat} {F : Nat → Nat → Int32} {t : Int32} {nW nL : Nat} {lo : Int32} {a N : Nat} {g : Nat → Int32} (h : mN D M m ad F t nW nL lo a N g) (g2 : Nat → Int32) : mN D (mset M a (.inl (D.1 6, (N, .inl g2)))) m ad F t nW nL lo a N g2 :=
  ⟨⟨mset_keep h.1.1 (mne_oa h.1.1 h.2.1), fun k hk => mset_keep (h.1.2.1 k hk) (h.2.2 k hk), h.1.2.2⟩, mset_eq, h.2.2⟩
section RMN
variable {p : Program} {l : Launch} {e : Env} {R : Room} {s : State} {mm : MethodId} {args : Array Value} {below : List Frame} {meth : Method} {c : Code} {cc : ByteArray} {nLo : Nat} {own : String} {D : va_G} {A : Nat → Prop} {Q : State → Prop} {M : rMem} {k n pc : Nat} {lv lv' : List (Option Value)} {st : List Value}
variable {m : Nat} {ad : Nat → Nat} {Fn : Nat → Nat → Int32} {t lo : Int32} {nW nL : Nat} {a N : Nat} {g : Nat → Int32}
theorem rm_newI (F : rF p l e R s mm args below meth c cc nLo own D A) (hA : mA D M m ad Fn t nW nL lo) (hN : N < 100000) (hcells : k + 1 ≤ R.cells) (hslots : n + N ≤ R.slots) (hw : Cond.arrayClass .int ∈ wsL_law) (hd : decode cc pc = .ok (.newarray .int, 2)) (kk : ∀ (a : Nat) (M2 : rMem), mN D M2 m ad Fn t nW nL lo a N (fun _ => 0) → rG p l e R s mm args below meth c D A nLo Q M2 (k + 1) (n + N) lv (pc + 2) (.ref a :: st)) : rG p l e R s mm args below meth c D A nLo Q M k n lv pc (.int (nI N) :: st) :=
  rg_newI F hN hcells hslots hw hd (fun a ha => kk a _ (hA.fresh ha N _))
theorem rm_stN (F : rF p l e R s mm args below meth c cc nLo own D A) (h : mN D M m ad Fn t nW nL lo a N g) {j : Nat} {x : Int32} (hj : j < N) (hN : N < 2 ^ 31) (hd : decode cc pc = .ok (.iastore, 1)) (kk : ∀ M2 : rMem, mN D M2 m ad Fn t nW nL lo a N (upd g j x) → rG p l e R s mm args below meth c D A nLo Q M2 k n lv (pc + 1) st) : rG p l e R s mm args below meth c D A nLo Q M k n lv pc (.int x :: .int (nI j) :: .ref a :: st) :=
  rg_iast F h.2.1 hj hN hd (kk _ (h.put _))
theorem rm_ldN (F : rF p l e R s mm args below meth c cc nLo own D A) (h : mN D M m ad Fn t nW nL lo a N g) {j : Nat} {x : Int32} (hj : j < N) (hN : N < 2 ^ 31) (hx : g j = x) (hd : decode cc pc = .ok (.iaload, 1)) (kk : rG p l e R s mm args below meth c D A nLo Q M k n lv (pc + 1) (.int x :: st)) : rG p l e R s mm args below meth c D A nLo Q M k n lv pc (.int (nI j) :: .ref a :: st) :=
  rg_iald F h.2.1 hj hN hx hd kk
end RMN
