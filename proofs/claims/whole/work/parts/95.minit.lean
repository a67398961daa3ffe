/-! the reference is made -/
def mJ (D : va_G) (M : rMem) (m : Nat) (fs : List Value) (al : List (Nat × Nat)) : Prop :=
  M m = some (.inr (5, fs)) ∧ (∀ q ∈ al, M q.1 = some (.inl (D.1 6, (q.2, .inl (fun _ => 0))))) ∧ al.Pairwise (fun a b => a.1 ≠ b.1)
theorem mJ.new {D : va_G} {M : rMem} {m : Nat} {fs : List Value} {al : List (Nat × Nat)} (h : mJ D M m fs al) {a : Nat} (ha : M a = none) (N : Nat) : mJ D (mset M a (.inl (D.1 6, (N, .inl (fun _ => 0))))) m fs ((a, N) :: al) :=
  ⟨mset_keep h.1 (mne_none h.1 ha), fun q hq => by
    rcases List.mem_cons.mp hq with rfl | hq
    · exact mset_eq
    · exact mset_keep (h.2.1 q hq) (mne_none (h.2.1 q hq) ha), List.pairwise_cons.mpr ⟨fun q hq => Ne.symm (mne_none (h.2.1 q hq) ha), h.2.2⟩⟩
theorem mJ.put {D : va_G} {M : rMem} {m : Nat} {fs : List Value} {al : List (Nat × Nat)} (h : mJ D M m fs al) (fs2 : List Value) : mJ D (mset M m (.inr (5, fs2))) m fs2 al :=
  ⟨mset_eq, fun q hq => mset_keep (h.2.1 q hq) (mne_ao (h.2.1 q hq) h.1), h.2.2⟩
theorem mJ_mA {D : va_G} {M : rMem} {m : Nat} {ad : Nat → Nat} {al : List (Nat × Nat)} {t lo : Int32} {nW nL : Nat} (h : mJ D M m (mO ad t nW nL lo) al) (hl : al.length = 17) (had : ∀ k, k < 17 → al[16 - k]? = some (ad k, mln k)) : mA D M m ad (fun _ _ => 0) t nW nL lo := by
  refine ⟨h.1, fun k hk => h.2.1 (ad k, mln k) (List.mem_of_getElem? (had k hk)), fun j k hj hk hne => ?_⟩
  have hp := List.pairwise_iff_getElem.mp h.2.2
  obtain ⟨gj, ej⟩ := List.getElem?_eq_some_iff.mp (had j hj)
  obtain ⟨gk, ek⟩ := List.getElem?_eq_some_iff.mp (had k hk)
  rcases Nat.lt_or_gt_of_ne (show 16 - j ≠ 16 - k by omega) with c | c
  · have h3 := hp (16 - j) (16 - k) gj gk c
    rw [ej, ek] at h3
    exact h3
  · have h3 := hp (16 - k) (16 - j) gk gj c
    rw [ej, ek] at h3
    exact Ne.symm h3
section RMJ
variable {p : Program} {l : Launch} {e : Env} {R : Room} {s : State} {mm : MethodId} {args : Array Value} {below : List Frame} {meth : Method} {c : Code} {cc : ByteArray} {nLo : Nat} {own : String} {D : va_G} {A : Nat → Prop} {Q : State → Prop} {M : rMem} {k n pc : Nat} {lv lv' : List (Option Value)} {st : List Value}
variable {m : Nat} {fs : List Value} {al : List (Nat × Nat)} {N : Nat}
theorem rm_jn (F : rF p l e R s mm args below meth c cc nLo own D A) (hJ : mJ D M m fs al) (hN : N < 100000) (hcells : k + 1 ≤ R.cells) (hslots : n + N ≤ R.slots) (hw : Cond.arrayClass .int ∈ wsL_law) (hd : decode cc pc = .ok (.newarray .int, 2)) (kk : ∀ (a : Nat) (M2 : rMem), mJ D M2 m fs ((a, N) :: al) → rG p l e R s mm args below meth c D A nLo Q M2 (k + 1) (n + N) lv (pc + 2) (.ref a :: st)) : rG p l e R s mm args below meth c D A nLo Q M k n lv pc (.int (nI N) :: st) :=
  rg_newI F hN hcells hslots hw hd (fun a ha => kk a _ (hJ.new ha N))
theorem rm_jm {M2 : rMem} {fs2 : List Value} (hJ : mJ D M m fs al) (h : M2 = mset M m (.inr (5, fs2))) (kk : ∀ M3 : rMem, mJ D M3 m fs2 al → rG p l e R s mm args below meth c D A nLo Q M3 k n lv pc st) : rG p l e R s mm args below meth c D A nLo Q M2 k n lv pc st := by
  subst h
  exact kk _ (hJ.put _)
end RMJ
abbrev zP0 : Poem := (fun _ _ => 0, fun _ _ => 0, fun _ _ => 0)
theorem zP0_ok : zOk zP0 0 0 := ⟨⟨Nat.zero_le _, fun w h => absurd h (Nat.not_lt_zero _)⟩, Nat.zero_le _, fun i h => absurd h (Nat.not_lt_zero _)⟩
theorem mB_0 : mB zP0 0 0 (fun _ _ => 0) := ⟨fun w h => absurd h (Nat.not_lt_zero _), fun w h => absurd h (Nat.not_lt_zero _), fun w h => absurd h (Nat.not_lt_zero _), fun i _ _ => rfl, fun w h => absurd h (Nat.not_lt_zero _)⟩
