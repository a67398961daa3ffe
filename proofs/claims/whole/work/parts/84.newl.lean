theorem mB_newL {P : Poem} {nW nL : Nat} {F : Nat → Nat → Int32} (m f k : Nat) (h : mB P nW nL F) (hn : nL < 10) : mB (zNewL P nL m f k) nW (nL + 1) (sf (sf (sf F 5 (upd (F 5) nL (nI m))) 6 (upd (F 6) nL (nI f))) 7 (upd (F 7) nL (nI k))) := by
  obtain ⟨h1, h2, h3, h4, h5⟩ := h
  obtain ⟨n1, n2, n3, n4⟩ := zNewL_n P nL m f k
  refine ⟨h1, fun q hq => ?_, fun q hq => ?_, fun q hq hq2 => h4 q (by omega) hq2, fun q hq j hj => ?_⟩
  · show upd (F 5) nL (nI m) q = _ ∧ upd (F 6) nL (nI f) q = _ ∧ upd (F 7) nL (nI k) q = _
    by_cases c : q = nL
    · subst c
      rw [n1, n2, n3]
      exact ⟨upd_eq _ _ _, upd_eq _ _ _, upd_eq _ _ _⟩
    · obtain ⟨a, b, d, -⟩ := (zNewL_sam P nL m f k c).ln
      rw [upd_ne c, upd_ne c, upd_ne c, ← a, ← b, ← d]
      exact h2 q (by omega)
  · show F 8 q = _
    by_cases c : q = nL
    · subst c
      rw [n4]
      exact h4 q (Nat.le_refl _) hn
    · rw [← (zNewL_sam P nL m f k c).ln.2.2.2.1]
      exact h3 q (by omega)
  · show F 9 (8 * q + j) = _
    by_cases c : q = nL
    · rw [c, n4] at hj
      exact absurd hj (Nat.not_lt_zero _)
    · rw [← (zNewL_sam P nL m f k c).ln.2.2.2.1] at hj
      exact h5 q (by omega) j hj
